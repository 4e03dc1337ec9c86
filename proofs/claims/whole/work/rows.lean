section
-- ===== PART A: goes FIRST, ahead of the names: the tables' words, and 'selects' of the private methods out of them =====
/-- a private method of a class that the tables say can be made, by its rows of tables_1 -/
def lw_okq (q : MethodName × Nat) : Prop := (q.1.cls ≠ "java/lang/invoke/MethodHandle" ∧ q.1.cls ≠ "java/lang/invoke/VarHandle") ∧ Cond.instantiable q.1.cls q.2 ∈ tables_1 ∧ Cond.privateMethod q.1 ∈ tables_1 ∧ Cond.instanceMethod q.1 ∈ tables_1
theorem lw_p0 : lw_okq (⟨"SpotRows", "refuse", "(I)Z"⟩, 8) := ⟨⟨by decide +kernel, by decide +kernel⟩, List.mem_of_getElem? (i := 14) (by decide +kernel), List.mem_of_getElem? (i := 218) (by decide +kernel), List.mem_of_getElem? (i := 219) (by decide +kernel)⟩
theorem lw_p1 : lw_okq (⟨"SpotRows", "agree", "()Z"⟩, 8) := ⟨⟨by decide +kernel, by decide +kernel⟩, List.mem_of_getElem? (i := 14) (by decide +kernel), List.mem_of_getElem? (i := 232) (by decide +kernel), List.mem_of_getElem? (i := 233) (by decide +kernel)⟩
theorem lw_p2 : lw_okq (⟨"SpotRows", "lack", "(I)I"⟩, 8) := ⟨⟨by decide +kernel, by decide +kernel⟩, List.mem_of_getElem? (i := 14) (by decide +kernel), List.mem_of_getElem? (i := 260) (by decide +kernel), List.mem_of_getElem? (i := 261) (by decide +kernel)⟩
theorem lw_p3 : lw_okq (⟨"SpotRows", "whyNoPour", "(IIIII)I"⟩, 8) := ⟨⟨by decide +kernel, by decide +kernel⟩, List.mem_of_getElem? (i := 14) (by decide +kernel), List.mem_of_getElem? (i := 272) (by decide +kernel), List.mem_of_getElem? (i := 273) (by decide +kernel)⟩
theorem lw_p4 : lw_okq (⟨"SpotRows", "answer", "(I)I"⟩, 8) := ⟨⟨by decide +kernel, by decide +kernel⟩, List.mem_of_getElem? (i := 14) (by decide +kernel), List.mem_of_getElem? (i := 300) (by decide +kernel), List.mem_of_getElem? (i := 301) (by decide +kernel)⟩
theorem lw_p5 : lw_okq (⟨"SpotRows", "isEye", "(I)Z"⟩, 8) := ⟨⟨by decide +kernel, by decide +kernel⟩, List.mem_of_getElem? (i := 14) (by decide +kernel), List.mem_of_getElem? (i := 308) (by decide +kernel), List.mem_of_getElem? (i := 309) (by decide +kernel)⟩
theorem lw_p6 : lw_okq (⟨"SpotRows$Tellings", "countIn", "(III)V"⟩, 5) := ⟨⟨by decide +kernel, by decide +kernel⟩, List.mem_of_getElem? (i := 43) (by decide +kernel), List.mem_of_getElem? (i := 323) (by decide +kernel), List.mem_of_getElem? (i := 324) (by decide +kernel)⟩
theorem lw_p7 : lw_okq (⟨"SpotRows", "whyNoBook", "(IIII)I"⟩, 8) := ⟨⟨by decide +kernel, by decide +kernel⟩, List.mem_of_getElem? (i := 14) (by decide +kernel), List.mem_of_getElem? (i := 352) (by decide +kernel), List.mem_of_getElem? (i := 353) (by decide +kernel)⟩
theorem lw_p8 : lw_okq (⟨"SpotRows", "arePair", "(II)Z"⟩, 8) := ⟨⟨by decide +kernel, by decide +kernel⟩, List.mem_of_getElem? (i := 14) (by decide +kernel), List.mem_of_getElem? (i := 385) (by decide +kernel), List.mem_of_getElem? (i := 386) (by decide +kernel)⟩
theorem lw_p9 : lw_okq (⟨"SpotRows", "answerOr", "(II)I"⟩, 8) := ⟨⟨by decide +kernel, by decide +kernel⟩, List.mem_of_getElem? (i := 14) (by decide +kernel), List.mem_of_getElem? (i := 402) (by decide +kernel), List.mem_of_getElem? (i := 403) (by decide +kernel)⟩
theorem lw_p10 : lw_okq (⟨"SpotRows$Ratios", "sink", "(II)V"⟩, 3) := ⟨⟨by decide +kernel, by decide +kernel⟩, List.mem_of_getElem? (i := 70) (by decide +kernel), List.mem_of_getElem? (i := 423) (by decide +kernel), List.mem_of_getElem? (i := 424) (by decide +kernel)⟩
theorem lw_p11 : lw_okq (⟨"SpotRows", "tellFraction", "(II)I"⟩, 8) := ⟨⟨by decide +kernel, by decide +kernel⟩, List.mem_of_getElem? (i := 14) (by decide +kernel), List.mem_of_getElem? (i := 427) (by decide +kernel), List.mem_of_getElem? (i := 428) (by decide +kernel)⟩
theorem lw_p12 : lw_okq (⟨"SpotRows$Steps", "joinFalling", "()V"⟩, 6) := ⟨⟨by decide +kernel, by decide +kernel⟩, List.mem_of_getElem? (i := 89) (by decide +kernel), List.mem_of_getElem? (i := 453) (by decide +kernel), List.mem_of_getElem? (i := 454) (by decide +kernel)⟩
theorem lw_p13 : lw_okq (⟨"SpotRows$Steps", "lastFalls", "()Z"⟩, 6) := ⟨⟨by decide +kernel, by decide +kernel⟩, List.mem_of_getElem? (i := 89) (by decide +kernel), List.mem_of_getElem? (i := 457) (by decide +kernel), List.mem_of_getElem? (i := 458) (by decide +kernel)⟩
theorem lw_p14 : lw_okq (⟨"SpotRows$Chains", "reach", "(LSpotRows$Tellings;II)V"⟩, 4) := ⟨⟨by decide +kernel, by decide +kernel⟩, List.mem_of_getElem? (i := 116) (by decide +kernel), List.mem_of_getElem? (i := 491) (by decide +kernel), List.mem_of_getElem? (i := 492) (by decide +kernel)⟩
theorem lw_p15 : lw_okq (⟨"SpotRows$Chains", "weigh", "(LSpotRows$Tellings;I)I"⟩, 4) := ⟨⟨by decide +kernel, by decide +kernel⟩, List.mem_of_getElem? (i := 116) (by decide +kernel), List.mem_of_getElem? (i := 503) (by decide +kernel), List.mem_of_getElem? (i := 504) (by decide +kernel)⟩
def lw_privs_1 : List (MethodName × Nat) := [(⟨"SpotRows", "refuse", "(I)Z"⟩, 8), (⟨"SpotRows", "agree", "()Z"⟩, 8), (⟨"SpotRows", "lack", "(I)I"⟩, 8), (⟨"SpotRows", "whyNoPour", "(IIIII)I"⟩, 8), (⟨"SpotRows", "answer", "(I)I"⟩, 8), (⟨"SpotRows", "isEye", "(I)Z"⟩, 8), (⟨"SpotRows$Tellings", "countIn", "(III)V"⟩, 5), (⟨"SpotRows", "whyNoBook", "(IIII)I"⟩, 8), (⟨"SpotRows", "arePair", "(II)Z"⟩, 8), (⟨"SpotRows", "answerOr", "(II)I"⟩, 8), (⟨"SpotRows$Ratios", "sink", "(II)V"⟩, 3), (⟨"SpotRows", "tellFraction", "(II)I"⟩, 8), (⟨"SpotRows$Steps", "joinFalling", "()V"⟩, 6), (⟨"SpotRows$Steps", "lastFalls", "()Z"⟩, 6), (⟨"SpotRows$Chains", "reach", "(LSpotRows$Tellings;II)V"⟩, 4), (⟨"SpotRows$Chains", "weigh", "(LSpotRows$Tellings;I)I"⟩, 4)]
theorem lw_r1 : ∀ q ∈ lw_privs_1, lw_okq q := List.forall_mem_cons.mpr ⟨lw_p0, List.forall_mem_cons.mpr ⟨lw_p1, List.forall_mem_cons.mpr ⟨lw_p2, List.forall_mem_cons.mpr ⟨lw_p3, List.forall_mem_cons.mpr ⟨lw_p4, List.forall_mem_cons.mpr ⟨lw_p5, List.forall_mem_cons.mpr ⟨lw_p6, List.forall_mem_cons.mpr ⟨lw_p7, List.forall_mem_cons.mpr ⟨lw_p8, List.forall_mem_cons.mpr ⟨lw_p9, List.forall_mem_cons.mpr ⟨lw_p10, List.forall_mem_cons.mpr ⟨lw_p11, List.forall_mem_cons.mpr ⟨lw_p12, List.forall_mem_cons.mpr ⟨lw_p13, List.forall_mem_cons.mpr ⟨lw_p14, List.forall_mem_cons.mpr ⟨lw_p15, fun _ h => absurd h List.not_mem_nil⟩⟩⟩⟩⟩⟩⟩⟩⟩⟩⟩⟩⟩⟩⟩⟩
theorem lw_p16 : lw_okq (⟨"SpotRows$Chains", "firstNext", "(LSpotRows$Tellings;II)I"⟩, 4) := ⟨⟨by decide +kernel, by decide +kernel⟩, List.mem_of_getElem? (i := 116) (by decide +kernel), List.mem_of_getElem? (i := 511) (by decide +kernel), List.mem_of_getElem? (i := 512) (by decide +kernel)⟩
theorem lw_p17 : lw_okq (⟨"SpotRows", "monthWithout", "(II)I"⟩, 8) := ⟨⟨by decide +kernel, by decide +kernel⟩, List.mem_of_getElem? (i := 14) (by decide +kernel), List.mem_of_getElem? (i := 548) (by decide +kernel), List.mem_of_getElem? (i := 549) (by decide +kernel)⟩
theorem lw_p18 : lw_okq (⟨"SpotRows$Row", "isTurn", "(IIZ)Z"⟩, 3) := ⟨⟨by decide +kernel, by decide +kernel⟩, List.mem_of_getElem? (i := 139) (by decide +kernel), List.mem_of_getElem? (i := 588) (by decide +kernel), List.mem_of_getElem? (i := 589) (by decide +kernel)⟩
theorem lw_p19 : lw_okq (⟨"SpotRows$Row", "outdoes", "(IIZ)Z"⟩, 3) := ⟨⟨by decide +kernel, by decide +kernel⟩, List.mem_of_getElem? (i := 139) (by decide +kernel), List.mem_of_getElem? (i := 592) (by decide +kernel), List.mem_of_getElem? (i := 593) (by decide +kernel)⟩
theorem lw_p20 : lw_okq (⟨"SpotRowsModel", "is", "(I)Z"⟩, 23) := ⟨⟨by decide +kernel, by decide +kernel⟩, List.mem_of_getElem? (i := 600) (by decide +kernel), List.mem_of_getElem? (i := 695) (by decide +kernel), List.mem_of_getElem? (i := 696) (by decide +kernel)⟩
theorem lw_p21 : lw_okq (⟨"SpotRowsModel", "wrongPlace", "(II)I"⟩, 23) := ⟨⟨by decide +kernel, by decide +kernel⟩, List.mem_of_getElem? (i := 600) (by decide +kernel), List.mem_of_getElem? (i := 703) (by decide +kernel), List.mem_of_getElem? (i := 704) (by decide +kernel)⟩
theorem lw_p22 : lw_okq (⟨"SpotRowsModel", "refuse", "(I)I"⟩, 23) := ⟨⟨by decide +kernel, by decide +kernel⟩, List.mem_of_getElem? (i := 600) (by decide +kernel), List.mem_of_getElem? (i := 723) (by decide +kernel), List.mem_of_getElem? (i := 724) (by decide +kernel)⟩
theorem lw_p23 : lw_okq (⟨"SpotRowsModel", "isEye", "(I)Z"⟩, 23) := ⟨⟨by decide +kernel, by decide +kernel⟩, List.mem_of_getElem? (i := 600) (by decide +kernel), List.mem_of_getElem? (i := 734) (by decide +kernel), List.mem_of_getElem? (i := 735) (by decide +kernel)⟩
theorem lw_p24 : lw_okq (⟨"SpotRowsModel", "number", "(II)I"⟩, 23) := ⟨⟨by decide +kernel, by decide +kernel⟩, List.mem_of_getElem? (i := 600) (by decide +kernel), List.mem_of_getElem? (i := 759) (by decide +kernel), List.mem_of_getElem? (i := 760) (by decide +kernel)⟩
theorem lw_p25 : lw_okq (⟨"SpotRowsModel", "areTwo", "(II)Z"⟩, 23) := ⟨⟨by decide +kernel, by decide +kernel⟩, List.mem_of_getElem? (i := 600) (by decide +kernel), List.mem_of_getElem? (i := 775) (by decide +kernel), List.mem_of_getElem? (i := 776) (by decide +kernel)⟩
theorem lw_p26 : lw_okq (⟨"SpotRowsModel", "bothOf", "(II)I"⟩, 23) := ⟨⟨by decide +kernel, by decide +kernel⟩, List.mem_of_getElem? (i := 600) (by decide +kernel), List.mem_of_getElem? (i := 779) (by decide +kernel), List.mem_of_getElem? (i := 780) (by decide +kernel)⟩
theorem lw_p27 : lw_okq (⟨"SpotRowsModel", "areBoth", "(III)Z"⟩, 23) := ⟨⟨by decide +kernel, by decide +kernel⟩, List.mem_of_getElem? (i := 600) (by decide +kernel), List.mem_of_getElem? (i := 783) (by decide +kernel), List.mem_of_getElem? (i := 784) (by decide +kernel)⟩
theorem lw_p28 : lw_okq (⟨"SpotRowsModel", "tells", "(II)Z"⟩, 23) := ⟨⟨by decide +kernel, by decide +kernel⟩, List.mem_of_getElem? (i := 600) (by decide +kernel), List.mem_of_getElem? (i := 787) (by decide +kernel), List.mem_of_getElem? (i := 788) (by decide +kernel)⟩
theorem lw_p29 : lw_okq (⟨"SpotRowsModel", "factorOf", "(II)I"⟩, 23) := ⟨⟨by decide +kernel, by decide +kernel⟩, List.mem_of_getElem? (i := 600) (by decide +kernel), List.mem_of_getElem? (i := 795) (by decide +kernel), List.mem_of_getElem? (i := 796) (by decide +kernel)⟩
theorem lw_p30 : lw_okq (⟨"SpotRowsModel", "fraction", "(JJ)I"⟩, 23) := ⟨⟨by decide +kernel, by decide +kernel⟩, List.mem_of_getElem? (i := 600) (by decide +kernel), List.mem_of_getElem? (i := 805) (by decide +kernel), List.mem_of_getElem? (i := 806) (by decide +kernel)⟩
theorem lw_p31 : lw_okq (⟨"SpotRowsModel", "lay", "(I)I"⟩, 23) := ⟨⟨by decide +kernel, by decide +kernel⟩, List.mem_of_getElem? (i := 600) (by decide +kernel), List.mem_of_getElem? (i := 825) (by decide +kernel), List.mem_of_getElem? (i := 826) (by decide +kernel)⟩
def lw_privs_2 : List (MethodName × Nat) := [(⟨"SpotRows$Chains", "firstNext", "(LSpotRows$Tellings;II)I"⟩, 4), (⟨"SpotRows", "monthWithout", "(II)I"⟩, 8), (⟨"SpotRows$Row", "isTurn", "(IIZ)Z"⟩, 3), (⟨"SpotRows$Row", "outdoes", "(IIZ)Z"⟩, 3), (⟨"SpotRowsModel", "is", "(I)Z"⟩, 23), (⟨"SpotRowsModel", "wrongPlace", "(II)I"⟩, 23), (⟨"SpotRowsModel", "refuse", "(I)I"⟩, 23), (⟨"SpotRowsModel", "isEye", "(I)Z"⟩, 23), (⟨"SpotRowsModel", "number", "(II)I"⟩, 23), (⟨"SpotRowsModel", "areTwo", "(II)Z"⟩, 23), (⟨"SpotRowsModel", "bothOf", "(II)I"⟩, 23), (⟨"SpotRowsModel", "areBoth", "(III)Z"⟩, 23), (⟨"SpotRowsModel", "tells", "(II)Z"⟩, 23), (⟨"SpotRowsModel", "factorOf", "(II)I"⟩, 23), (⟨"SpotRowsModel", "fraction", "(JJ)I"⟩, 23), (⟨"SpotRowsModel", "lay", "(I)I"⟩, 23)]
theorem lw_r2 : ∀ q ∈ lw_privs_2, lw_okq q := List.forall_mem_cons.mpr ⟨lw_p16, List.forall_mem_cons.mpr ⟨lw_p17, List.forall_mem_cons.mpr ⟨lw_p18, List.forall_mem_cons.mpr ⟨lw_p19, List.forall_mem_cons.mpr ⟨lw_p20, List.forall_mem_cons.mpr ⟨lw_p21, List.forall_mem_cons.mpr ⟨lw_p22, List.forall_mem_cons.mpr ⟨lw_p23, List.forall_mem_cons.mpr ⟨lw_p24, List.forall_mem_cons.mpr ⟨lw_p25, List.forall_mem_cons.mpr ⟨lw_p26, List.forall_mem_cons.mpr ⟨lw_p27, List.forall_mem_cons.mpr ⟨lw_p28, List.forall_mem_cons.mpr ⟨lw_p29, List.forall_mem_cons.mpr ⟨lw_p30, List.forall_mem_cons.mpr ⟨lw_p31, fun _ h => absurd h List.not_mem_nil⟩⟩⟩⟩⟩⟩⟩⟩⟩⟩⟩⟩⟩⟩⟩⟩
theorem lw_p32 : lw_okq (⟨"SpotRowsModel", "look", "()V"⟩, 23) := ⟨⟨by decide +kernel, by decide +kernel⟩, List.mem_of_getElem? (i := 600) (by decide +kernel), List.mem_of_getElem? (i := 829) (by decide +kernel), List.mem_of_getElem? (i := 830) (by decide +kernel)⟩
theorem lw_p33 : lw_okq (⟨"SpotRowsModel", "weightOf", "(I)I"⟩, 23) := ⟨⟨by decide +kernel, by decide +kernel⟩, List.mem_of_getElem? (i := 600) (by decide +kernel), List.mem_of_getElem? (i := 841) (by decide +kernel), List.mem_of_getElem? (i := 842) (by decide +kernel)⟩
theorem lw_p34 : lw_okq (⟨"SpotRowsModel", "weigh", "()V"⟩, 23) := ⟨⟨by decide +kernel, by decide +kernel⟩, List.mem_of_getElem? (i := 600) (by decide +kernel), List.mem_of_getElem? (i := 855) (by decide +kernel), List.mem_of_getElem? (i := 856) (by decide +kernel)⟩
theorem lw_p35 : lw_okq (⟨"SpotRowsModel", "valueOf", "(I)I"⟩, 23) := ⟨⟨by decide +kernel, by decide +kernel⟩, List.mem_of_getElem? (i := 600) (by decide +kernel), List.mem_of_getElem? (i := 859) (by decide +kernel), List.mem_of_getElem? (i := 860) (by decide +kernel)⟩
theorem lw_p36 : lw_okq (⟨"SpotRowsModel", "tellValue", "(I)I"⟩, 23) := ⟨⟨by decide +kernel, by decide +kernel⟩, List.mem_of_getElem? (i := 600) (by decide +kernel), List.mem_of_getElem? (i := 863) (by decide +kernel), List.mem_of_getElem? (i := 864) (by decide +kernel)⟩
theorem lw_p37 : lw_okq (⟨"SpotRowsModel", "monthOf", "(I)I"⟩, 23) := ⟨⟨by decide +kernel, by decide +kernel⟩, List.mem_of_getElem? (i := 600) (by decide +kernel), List.mem_of_getElem? (i := 874) (by decide +kernel), List.mem_of_getElem? (i := 875) (by decide +kernel)⟩
theorem lw_p38 : lw_okq (⟨"SpotRowsModel", "smoothAll", "(I)V"⟩, 23) := ⟨⟨by decide +kernel, by decide +kernel⟩, List.mem_of_getElem? (i := 600) (by decide +kernel), List.mem_of_getElem? (i := 885) (by decide +kernel), List.mem_of_getElem? (i := 886) (by decide +kernel)⟩
theorem lw_p39 : lw_okq (⟨"SpotRowsModel", "isTurn", "(IIZ)Z"⟩, 23) := ⟨⟨by decide +kernel, by decide +kernel⟩, List.mem_of_getElem? (i := 600) (by decide +kernel), List.mem_of_getElem? (i := 893) (by decide +kernel), List.mem_of_getElem? (i := 894) (by decide +kernel)⟩
def lw_privs_3 : List (MethodName × Nat) := [(⟨"SpotRowsModel", "look", "()V"⟩, 23), (⟨"SpotRowsModel", "weightOf", "(I)I"⟩, 23), (⟨"SpotRowsModel", "weigh", "()V"⟩, 23), (⟨"SpotRowsModel", "valueOf", "(I)I"⟩, 23), (⟨"SpotRowsModel", "tellValue", "(I)I"⟩, 23), (⟨"SpotRowsModel", "monthOf", "(I)I"⟩, 23), (⟨"SpotRowsModel", "smoothAll", "(I)V"⟩, 23), (⟨"SpotRowsModel", "isTurn", "(IIZ)Z"⟩, 23)]
theorem lw_r3 : ∀ q ∈ lw_privs_3, lw_okq q := List.forall_mem_cons.mpr ⟨lw_p32, List.forall_mem_cons.mpr ⟨lw_p33, List.forall_mem_cons.mpr ⟨lw_p34, List.forall_mem_cons.mpr ⟨lw_p35, List.forall_mem_cons.mpr ⟨lw_p36, List.forall_mem_cons.mpr ⟨lw_p37, List.forall_mem_cons.mpr ⟨lw_p38, List.forall_mem_cons.mpr ⟨lw_p39, fun _ h => absurd h List.not_mem_nil⟩⟩⟩⟩⟩⟩⟩⟩
def lw_privs : List (MethodName × Nat) := lw_privs_1 ++ (lw_privs_2 ++ (lw_privs_3))
def lw_tbl : List Cond := k2_sels lw_privs ++ tables_1
theorem lw_privs_ok : ∀ q ∈ lw_privs, lw_okq q := by
  show ∀ q ∈ lw_privs_1 ++ (lw_privs_2 ++ (lw_privs_3)), lw_okq q
  exact List.forall_mem_append.mpr ⟨lw_r1, List.forall_mem_append.mpr ⟨lw_r2, lw_r3⟩⟩
end
section
/-! ===== BEGIN words of one list among another's, by their places ===== -/
theorem goodIn_r {big : List Cond} (ws : List Cond) (ps : List Nat) (hp : ws = ps.filterMap (fun i => big[i]?)) (h : ws.all goodWord = true) : GoodIn big ws := by
  intro w hw
  have h1 := List.all_eq_true.mp h w hw
  rw [hp] at hw
  obtain ⟨i, -, hi⟩ := List.mem_filterMap.mp hw
  have hm : w ∈ big := by first | exact List.mem_of_getElem? hi | exact List.getElem?_mem hi
  exact ⟨hm, good_of_word h1⟩
theorem goodIn_app {big a b : List Cond} (ha : GoodIn big a) (hb : GoodIn big b) : GoodIn big (a ++ b) := fun w h => (List.mem_append.mp h).elim (ha w) (hb w)
theorem goodIn_ca {big a b : List Cond} {c : Cond} (ha : GoodIn big (c :: a)) (hb : GoodIn big b) : GoodIn big (c :: (a ++ b)) := fun w h => (List.mem_cons.mp h).elim (fun e => ha w (List.mem_cons.mpr (Or.inl e))) (fun h => (List.mem_append.mp h).elim (fun h => ha w (List.mem_cons.mpr (Or.inr h))) (hb w))
theorem goodIn_sub {big ws : List Cond} (hm : ∀ w ∈ ws, w ∈ big) (h : ws.all goodWord = true) : GoodIn big ws := fun w hw => ⟨hm w hw, good_of_word (List.all_eq_true.mp h w hw)⟩
/-! ===== END ===== -/

/-! ===== BEGIN printed: names, fields, word lists, decode rows ===== -/
def RX0 : String := "SpotRows$Chains"
def TX0 : u_T := fun k => match k with
  | 0 => ("SpotRows$Chains", "links", "[I", true)
  | 1 => ("SpotRows$Chains", "widths", "[I", true)
  | 2 => ("SpotRows$Chains", "weights", "[I", true)
  | _ => ("SpotRows$Chains", "way", "[I", true)
def tyX0 : Nat → FieldType := fun k => match k with
  | 0 => .array .int
  | 1 => .array .int
  | 2 => .array .int
  | _ => .array .int
abbrev wsX00 : List Cond := u_ws RX0 TX0 4
theorem nmX0 : ∀ a, a < 4 → ∀ b, b < 4 → a ≠ b → (TX0 a).2.1 ≠ (TX0 b).2.1 := by decide +kernel
theorem tyX0_ok : ∀ k, k < 4 → parseFieldDescriptor (TX0 k).2.2.1 = some (tyX0 k) := by decide +kernel
abbrev cX0_init : ByteArray := prog_2_method_1_code
def yX0_init : MethodName := ⟨RX0, "<init>", "()V"⟩
abbrev cX0_reckon : ByteArray := prog_2_method_2_code
def yX0_reckon : MethodName := ⟨RX0, "reckon", "(LSpotRows$Tellings;I)V"⟩
abbrev cX0_reach : ByteArray := prog_2_method_3_code
def yX0_reach : MethodName := ⟨RX0, "reach", "(LSpotRows$Tellings;II)V"⟩
abbrev cX0_walk : ByteArray := prog_2_method_4_code
def yX0_walk : MethodName := ⟨RX0, "walk", "(LSpotRows$Tellings;I)V"⟩
abbrev cX0_firstNext : ByteArray := prog_2_method_5_code
def yX0_firstNext : MethodName := ⟨RX0, "firstNext", "(LSpotRows$Tellings;II)I"⟩
abbrev cX0_weigh : ByteArray := prog_2_method_6_code
def yX0_weigh : MethodName := ⟨RX0, "weigh", "(LSpotRows$Tellings;I)I"⟩
def RX1 : String := "SpotRows$Fraction"
def TX1 : u_T := fun k => match k with
  | 0 => ("SpotRows$Fraction", "upper", "J", false)
  | _ => ("SpotRows$Fraction", "lower", "J", false)
def tyX1 : Nat → FieldType := fun k => match k with
  | 0 => .long
  | _ => .long
abbrev wsX10 : List Cond := u_ws RX1 TX1 2
theorem nmX1 : ∀ a, a < 2 → ∀ b, b < 2 → a ≠ b → (TX1 a).2.1 ≠ (TX1 b).2.1 := by decide +kernel
theorem tyX1_ok : ∀ k, k < 2 → parseFieldDescriptor (TX1 k).2.2.1 = some (tyX1 k) := by decide +kernel
abbrev cX1_init : ByteArray := prog_3_method_1_code
def yX1_init : MethodName := ⟨RX1, "<init>", "()V"⟩
abbrev cX1_put : ByteArray := prog_3_method_2_code
def yX1_put : MethodName := ⟨RX1, "put", "(II)V"⟩
abbrev cX1_commonDivisor : ByteArray := prog_3_method_3_code
def yX1_commonDivisor : MethodName := ⟨RX1, "commonDivisor", "(II)I"⟩
def RX2 : String := "SpotRows$Ratios"
def TX2 : u_T := fun k => match k with
  | 0 => ("SpotRows$Ratios", "uppers", "[I", true)
  | 1 => ("SpotRows$Ratios", "lowers", "[I", true)
  | _ => ("SpotRows$Ratios", "many", "I", false)
def tyX2 : Nat → FieldType := fun k => match k with
  | 0 => .array .int
  | 1 => .array .int
  | _ => .int
abbrev wsX20 : List Cond := u_ws RX2 TX2 3
theorem nmX2 : ∀ a, a < 3 → ∀ b, b < 3 → a ≠ b → (TX2 a).2.1 ≠ (TX2 b).2.1 := by decide +kernel
theorem tyX2_ok : ∀ k, k < 3 → parseFieldDescriptor (TX2 k).2.2.1 = some (tyX2 k) := by decide +kernel
abbrev cX2_init : ByteArray := prog_4_method_1_code
def yX2_init : MethodName := ⟨RX2, "<init>", "()V"⟩
abbrev cX2_gather : ByteArray := prog_4_method_2_code
def yX2_gather : MethodName := ⟨RX2, "gather", "(LSpotRows$Tellings;II)V"⟩
abbrev cX2_order : ByteArray := prog_4_method_3_code
def yX2_order : MethodName := ⟨RX2, "order", "()V"⟩
abbrev cX2_sink : ByteArray := prog_4_method_4_code
def yX2_sink : MethodName := ⟨RX2, "sink", "(II)V"⟩
def RX3 : String := "SpotRows$Row"
def TX3 : u_T := fun k => match k with
  | 0 => ("SpotRows$Row", "values", "[I", true)
  | 1 => ("SpotRows$Row", "smooths", "[I", true)
  | _ => ("SpotRows$Row", "enough", "I", false)
def tyX3 : Nat → FieldType := fun k => match k with
  | 0 => .array .int
  | 1 => .array .int
  | _ => .int
abbrev wsX30 : List Cond := u_ws RX3 TX3 3
theorem nmX3 : ∀ a, a < 3 → ∀ b, b < 3 → a ≠ b → (TX3 a).2.1 ≠ (TX3 b).2.1 := by decide +kernel
theorem tyX3_ok : ∀ k, k < 3 → parseFieldDescriptor (TX3 k).2.2.1 = some (tyX3 k) := by decide +kernel
abbrev cX3_init : ByteArray := prog_5_method_1_code
def yX3_init : MethodName := ⟨RX3, "<init>", "()V"⟩
abbrev cX3_isSmoothWidth : ByteArray := prog_5_method_2_code
def yX3_isSmoothWidth : MethodName := ⟨RX3, "isSmoothWidth", "(I)Z"⟩
abbrev cX3_valueOfDay : ByteArray := prog_5_method_3_code
def yX3_valueOfDay : MethodName := ⟨RX3, "valueOfDay", "(LSpotRows$Tellings;LSpotRows$Chains;I)I"⟩
abbrev cX3_valueOfMonth : ByteArray := prog_5_method_4_code
def yX3_valueOfMonth : MethodName := ⟨RX3, "valueOfMonth", "(LSpotRows$Tellings;LSpotRows$Chains;I)I"⟩
abbrev cX3_reckonMonths : ByteArray := prog_5_method_5_code
def yX3_reckonMonths : MethodName := ⟨RX3, "reckonMonths", "(LSpotRows$Tellings;LSpotRows$Chains;)V"⟩
abbrev cX3_smoothOf : ByteArray := prog_5_method_6_code
def yX3_smoothOf : MethodName := ⟨RX3, "smoothOf", "(II)I"⟩
abbrev cX3_reckonSmooths : ByteArray := prog_5_method_7_code
def yX3_reckonSmooths : MethodName := ⟨RX3, "reckonSmooths", "(I)V"⟩
abbrev cX3_findTurn : ByteArray := prog_5_method_8_code
def yX3_findTurn : MethodName := ⟨RX3, "findTurn", "(IIZ)I"⟩
abbrev cX3_isTurn : ByteArray := prog_5_method_9_code
def yX3_isTurn : MethodName := ⟨RX3, "isTurn", "(IIZ)Z"⟩
abbrev cX3_outdoes : ByteArray := prog_5_method_10_code
def yX3_outdoes : MethodName := ⟨RX3, "outdoes", "(IIZ)Z"⟩
def RX4 : String := "SpotRows$Steps"
def TX4 : u_T := fun k => match k with
  | 0 => ("SpotRows$Steps", "levelSums", "[I", true)
  | 1 => ("SpotRows$Steps", "levelDays", "[I", true)
  | 2 => ("SpotRows$Steps", "blockSums", "[I", true)
  | 3 => ("SpotRows$Steps", "blockDays", "[I", true)
  | 4 => ("SpotRows$Steps", "blockFirsts", "[I", true)
  | _ => ("SpotRows$Steps", "blocks", "I", false)
def tyX4 : Nat → FieldType := fun k => match k with
  | 0 => .array .int
  | 1 => .array .int
  | 2 => .array .int
  | 3 => .array .int
  | 4 => .array .int
  | _ => .int
abbrev wsX40 : List Cond := u_ws RX4 TX4 6
theorem nmX4 : ∀ a, a < 6 → ∀ b, b < 6 → a ≠ b → (TX4 a).2.1 ≠ (TX4 b).2.1 := by decide +kernel
theorem tyX4_ok : ∀ k, k < 6 → parseFieldDescriptor (TX4 k).2.2.1 = some (tyX4 k) := by decide +kernel
abbrev cX4_init : ByteArray := prog_6_method_1_code
def yX4_init : MethodName := ⟨RX4, "<init>", "()V"⟩
abbrev cX4_gather : ByteArray := prog_6_method_2_code
def yX4_gather : MethodName := ⟨RX4, "gather", "(LSpotRows$Tellings;II)V"⟩
abbrev cX4_pool : ByteArray := prog_6_method_3_code
def yX4_pool : MethodName := ⟨RX4, "pool", "()V"⟩
abbrev cX4_joinFalling : ByteArray := prog_6_method_4_code
def yX4_joinFalling : MethodName := ⟨RX4, "joinFalling", "()V"⟩
abbrev cX4_lastFalls : ByteArray := prog_6_method_5_code
def yX4_lastFalls : MethodName := ⟨RX4, "lastFalls", "()Z"⟩
abbrev cX4_blockFor : ByteArray := prog_6_method_6_code
def yX4_blockFor : MethodName := ⟨RX4, "blockFor", "(I)I"⟩
def RX5 : String := "SpotRows$Tellings"
def TX5 : u_T := fun k => match k with
  | 0 => ("SpotRows$Tellings", "codes", "[I", true)
  | 1 => ("SpotRows$Tellings", "bothDays", "[I", true)
  | 2 => ("SpotRows$Tellings", "bothSums", "[I", true)
  | 3 => ("SpotRows$Tellings", "eyes", "I", false)
  | _ => ("SpotRows$Tellings", "least", "I", false)
def tyX5 : Nat → FieldType := fun k => match k with
  | 0 => .array .int
  | 1 => .array .int
  | 2 => .array .int
  | 3 => .int
  | _ => .int
abbrev wsX50 : List Cond := u_ws RX5 TX5 5
theorem nmX5 : ∀ a, a < 5 → ∀ b, b < 5 → a ≠ b → (TX5 a).2.1 ≠ (TX5 b).2.1 := by decide +kernel
theorem tyX5_ok : ∀ k, k < 5 → parseFieldDescriptor (TX5 k).2.2.1 = some (tyX5 k) := by decide +kernel
abbrev cX5_init : ByteArray := prog_7_method_1_code
def yX5_init : MethodName := ⟨RX5, "<init>", "()V"⟩
abbrev cX5_canBeTold : ByteArray := prog_7_method_2_code
def yX5_canBeTold : MethodName := ⟨RX5, "canBeTold", "(II)Z"⟩
abbrev cX5_isCode : ByteArray := prog_7_method_3_code
def yX5_isCode : MethodName := ⟨RX5, "isCode", "(J)Z"⟩
abbrev cX5_addEye : ByteArray := prog_7_method_4_code
def yX5_addEye : MethodName := ⟨RX5, "addEye", "()I"⟩
abbrev cX5_has : ByteArray := prog_7_method_5_code
def yX5_has : MethodName := ⟨RX5, "has", "(II)Z"⟩
abbrev cX5_haveBoth : ByteArray := prog_7_method_6_code
def yX5_haveBoth : MethodName := ⟨RX5, "haveBoth", "(III)Z"⟩
abbrev cX5_groupsOf : ByteArray := prog_7_method_7_code
def yX5_groupsOf : MethodName := ⟨RX5, "groupsOf", "(II)I"⟩
abbrev cX5_spotsOf : ByteArray := prog_7_method_8_code
def yX5_spotsOf : MethodName := ⟨RX5, "spotsOf", "(II)I"⟩
abbrev cX5_numberOf : ByteArray := prog_7_method_9_code
def yX5_numberOf : MethodName := ⟨RX5, "numberOf", "(II)I"⟩
abbrev cX5_put : ByteArray := prog_7_method_10_code
def yX5_put : MethodName := ⟨RX5, "put", "(III)V"⟩
abbrev cX5_countIn : ByteArray := prog_7_method_11_code
def yX5_countIn : MethodName := ⟨RX5, "countIn", "(III)V"⟩
abbrev cX5_countDays : ByteArray := prog_7_method_12_code
def yX5_countDays : MethodName := ⟨RX5, "countDays", "(III)I"⟩
abbrev cX5_countActive : ByteArray := prog_7_method_13_code
def yX5_countActive : MethodName := ⟨RX5, "countActive", "(III)I"⟩
abbrev cX5_countBoth : ByteArray := prog_7_method_14_code
def yX5_countBoth : MethodName := ⟨RX5, "countBoth", "(II)I"⟩
abbrev cX5_countBothAbove : ByteArray := prog_7_method_15_code
def yX5_countBothAbove : MethodName := ⟨RX5, "countBothAbove", "(III)I"⟩
abbrev cX5_factorOf : ByteArray := prog_7_method_16_code
def yX5_factorOf : MethodName := ⟨RX5, "factorOf", "(II)I"⟩
def RX6 : String := "SpotRows$Trays"
def TX6 : u_T := fun k => match k with
  | 0 => ("SpotRows$Trays", "cells", "[J", true)
  | 1 => ("SpotRows$Trays", "sorts", "[I", true)
  | _ => ("SpotRows$Trays", "sizes", "[I", true)
def tyX6 : Nat → FieldType := fun k => match k with
  | 0 => .array .long
  | 1 => .array .int
  | _ => .array .int
abbrev wsX60 : List Cond := u_ws RX6 TX6 3
theorem nmX6 : ∀ a, a < 3 → ∀ b, b < 3 → a ≠ b → (TX6 a).2.1 ≠ (TX6 b).2.1 := by decide +kernel
theorem tyX6_ok : ∀ k, k < 3 → parseFieldDescriptor (TX6 k).2.2.1 = some (tyX6 k) := by decide +kernel
abbrev cX6_init : ByteArray := prog_8_method_1_code
def yX6_init : MethodName := ⟨RX6, "<init>", "()V"⟩
abbrev cX6_isSort : ByteArray := prog_8_method_2_code
def yX6_isSort : MethodName := ⟨RX6, "isSort", "(I)Z"⟩
abbrev cX6_isMissing : ByteArray := prog_8_method_3_code
def yX6_isMissing : MethodName := ⟨RX6, "isMissing", "(I)Z"⟩
abbrev cX6_areAlike : ByteArray := prog_8_method_4_code
def yX6_areAlike : MethodName := ⟨RX6, "areAlike", "(II)Z"⟩
abbrev cX6_holds : ByteArray := prog_8_method_5_code
def yX6_holds : MethodName := ⟨RX6, "holds", "(III)Z"⟩
abbrev cX6_whyNoPlace : ByteArray := prog_8_method_6_code
def yX6_whyNoPlace : MethodName := ⟨RX6, "whyNoPlace", "(II)I"⟩
abbrev cX6_lay : ByteArray := prog_8_method_7_code
def yX6_lay : MethodName := ⟨RX6, "lay", "(III)V"⟩
abbrev cX6_numberAt : ByteArray := prog_8_method_8_code
def yX6_numberAt : MethodName := ⟨RX6, "numberAt", "(II)J"⟩
abbrev cX6_put : ByteArray := prog_8_method_9_code
def yX6_put : MethodName := ⟨RX6, "put", "(IIJ)V"⟩
abbrev cX6_carry : ByteArray := prog_8_method_10_code
def yX6_carry : MethodName := ⟨RX6, "carry", "(IIIII)V"⟩
abbrev cX6_cut : ByteArray := prog_8_method_11_code
def yX6_cut : MethodName := ⟨RX6, "cut", "(IJ)J"⟩
def RX7 : String := "SpotRows"
def TX7 : u_T := fun k => match k with
  | 0 => ("SpotRows", "trays", "LSpotRows$Trays;", true)
  | 1 => ("SpotRows", "tellings", "LSpotRows$Tellings;", true)
  | 2 => ("SpotRows", "ratios", "LSpotRows$Ratios;", true)
  | 3 => ("SpotRows", "steps", "LSpotRows$Steps;", true)
  | 4 => ("SpotRows", "chains", "LSpotRows$Chains;", true)
  | 5 => ("SpotRows", "row", "LSpotRows$Row;", true)
  | 6 => ("SpotRows", "latest", "LSpotRows$Fraction;", true)
  | _ => ("SpotRows", "outcome", "I", false)
def tyX7 : Nat → FieldType := fun k => match k with
  | 0 => .object "SpotRows$Trays"
  | 1 => .object "SpotRows$Tellings"
  | 2 => .object "SpotRows$Ratios"
  | 3 => .object "SpotRows$Steps"
  | 4 => .object "SpotRows$Chains"
  | 5 => .object "SpotRows$Row"
  | 6 => .object "SpotRows$Fraction"
  | _ => .int
abbrev wsX70 : List Cond := u_ws RX7 TX7 8
theorem nmX7 : ∀ a, a < 8 → ∀ b, b < 8 → a ≠ b → (TX7 a).2.1 ≠ (TX7 b).2.1 := by decide +kernel
theorem tyX7_ok : ∀ k, k < 8 → parseFieldDescriptor (TX7 k).2.2.1 = some (tyX7 k) := by decide +kernel
abbrev cX7_init : ByteArray := prog_1_method_1_code
def yX7_init : MethodName := ⟨RX7, "<init>", "()V"⟩
abbrev cX7_status : ByteArray := prog_1_method_2_code
def yX7_status : MethodName := ⟨RX7, "status", "()I"⟩
abbrev cX7_top : ByteArray := prog_1_method_3_code
def yX7_top : MethodName := ⟨RX7, "top", "()J"⟩
abbrev cX7_bottom : ByteArray := prog_1_method_4_code
def yX7_bottom : MethodName := ⟨RX7, "bottom", "()J"⟩
abbrev cX7_tray : ByteArray := prog_1_method_5_code
def yX7_tray : MethodName := ⟨RX7, "tray", "(III)Z"⟩
abbrev cX7_write : ByteArray := prog_1_method_6_code
def yX7_write : MethodName := ⟨RX7, "write", "(IIJ)Z"⟩
abbrev cX7_read : ByteArray := prog_1_method_7_code
def yX7_read : MethodName := ⟨RX7, "read", "(II)J"⟩
abbrev cX7_pour : ByteArray := prog_1_method_8_code
def yX7_pour : MethodName := ⟨RX7, "pour", "(IIIII)Z"⟩
abbrev cX7_eye : ByteArray := prog_1_method_9_code
def yX7_eye : MethodName := ⟨RX7, "eye", "()I"⟩
abbrev cX7_tell : ByteArray := prog_1_method_10_code
def yX7_tell : MethodName := ⟨RX7, "tell", "(IIII)Z"⟩
abbrev cX7_unsay : ByteArray := prog_1_method_11_code
def yX7_unsay : MethodName := ⟨RX7, "unsay", "(II)Z"⟩
abbrev cX7_book : ByteArray := prog_1_method_12_code
def yX7_book : MethodName := ⟨RX7, "book", "(IIII)Z"⟩
abbrev cX7_told : ByteArray := prog_1_method_13_code
def yX7_told : MethodName := ⟨RX7, "told", "(III)I"⟩
abbrev cX7_days : ByteArray := prog_1_method_14_code
def yX7_days : MethodName := ⟨RX7, "days", "(I)I"⟩
abbrev cX7_rules : ByteArray := prog_1_method_15_code
def yX7_rules : MethodName := ⟨RX7, "rules", "(II)Z"⟩
abbrev cX7_both : ByteArray := prog_1_method_16_code
def yX7_both : MethodName := ⟨RX7, "both", "(II)I"⟩
abbrev cX7_factor : ByteArray := prog_1_method_17_code
def yX7_factor : MethodName := ⟨RX7, "factor", "(II)I"⟩
abbrev cX7_middle : ByteArray := prog_1_method_18_code
def yX7_middle : MethodName := ⟨RX7, "middle", "(II)I"⟩
abbrev cX7_step : ByteArray := prog_1_method_19_code
def yX7_step : MethodName := ⟨RX7, "step", "(III)I"⟩
abbrev cX7_blind : ByteArray := prog_1_method_20_code
def yX7_blind : MethodName := ⟨RX7, "blind", "(II)I"⟩
abbrev cX7_active : ByteArray := prog_1_method_21_code
def yX7_active : MethodName := ⟨RX7, "active", "(III)I"⟩
abbrev cX7_chain : ByteArray := prog_1_method_22_code
def yX7_chain : MethodName := ⟨RX7, "chain", "(II)I"⟩
abbrev cX7_weight : ByteArray := prog_1_method_23_code
def yX7_weight : MethodName := ⟨RX7, "weight", "(I)I"⟩
abbrev cX7_loop : ByteArray := prog_1_method_24_code
def yX7_loop : MethodName := ⟨RX7, "loop", "(III)I"⟩
abbrev cX7_day : ByteArray := prog_1_method_25_code
def yX7_day : MethodName := ⟨RX7, "day", "(I)I"⟩
abbrev cX7_month : ByteArray := prog_1_method_26_code
def yX7_month : MethodName := ⟨RX7, "month", "(I)I"⟩
abbrev cX7_smooth : ByteArray := prog_1_method_27_code
def yX7_smooth : MethodName := ⟨RX7, "smooth", "(II)I"⟩
abbrev cX7_turn : ByteArray := prog_1_method_28_code
def yX7_turn : MethodName := ⟨RX7, "turn", "(IIIZ)I"⟩
abbrev cX7_change : ByteArray := prog_1_method_29_code
def yX7_change : MethodName := ⟨RX7, "change", "(II)I"⟩
abbrev cX7_isWithin : ByteArray := prog_1_method_30_code
def yX7_isWithin : MethodName := ⟨RX7, "isWithin", "(II)Z"⟩
abbrev cX7_isDay : ByteArray := prog_1_method_31_code
def yX7_isDay : MethodName := ⟨RX7, "isDay", "(I)Z"⟩
abbrev cX7_isMonth : ByteArray := prog_1_method_32_code
def yX7_isMonth : MethodName := ⟨RX7, "isMonth", "(I)Z"⟩
abbrev cX7_isEye : ByteArray := prog_1_method_33_code
def yX7_isEye : MethodName := ⟨RX7, "isEye", "(I)Z"⟩
abbrev cX7_arePair : ByteArray := prog_1_method_34_code
def yX7_arePair : MethodName := ⟨RX7, "arePair", "(II)Z"⟩
abbrev cX7_agree : ByteArray := prog_1_method_35_code
def yX7_agree : MethodName := ⟨RX7, "agree", "()Z"⟩
abbrev cX7_refuse : ByteArray := prog_1_method_36_code
def yX7_refuse : MethodName := ⟨RX7, "refuse", "(I)Z"⟩
abbrev cX7_answer : ByteArray := prog_1_method_37_code
def yX7_answer : MethodName := ⟨RX7, "answer", "(I)I"⟩
abbrev cX7_lack : ByteArray := prog_1_method_38_code
def yX7_lack : MethodName := ⟨RX7, "lack", "(I)I"⟩
abbrev cX7_answerOr : ByteArray := prog_1_method_39_code
def yX7_answerOr : MethodName := ⟨RX7, "answerOr", "(II)I"⟩
abbrev cX7_tellFraction : ByteArray := prog_1_method_40_code
def yX7_tellFraction : MethodName := ⟨RX7, "tellFraction", "(II)I"⟩
abbrev cX7_whyNoPour : ByteArray := prog_1_method_41_code
def yX7_whyNoPour : MethodName := ⟨RX7, "whyNoPour", "(IIIII)I"⟩
abbrev cX7_whyNoBook : ByteArray := prog_1_method_42_code
def yX7_whyNoBook : MethodName := ⟨RX7, "whyNoBook", "(IIII)I"⟩
abbrev cX7_monthWithout : ByteArray := prog_1_method_43_code
def yX7_monthWithout : MethodName := ⟨RX7, "monthWithout", "(II)I"⟩
def RX8 : String := "SpotRowsModel"
def TX8 : u_T := fun k => match k with
  | 0 => ("SpotRowsModel", "status", "I", false)
  | 1 => ("SpotRowsModel", "top", "J", false)
  | 2 => ("SpotRowsModel", "bottom", "J", false)
  | 3 => ("SpotRowsModel", "sort", "[I", true)
  | 4 => ("SpotRowsModel", "many", "[I", true)
  | 5 => ("SpotRowsModel", "trays", "[J", true)
  | 6 => ("SpotRowsModel", "eyes", "I", false)
  | 7 => ("SpotRowsModel", "least", "I", false)
  | 8 => ("SpotRowsModel", "enough", "I", false)
  | 9 => ("SpotRowsModel", "groups", "[I", true)
  | 10 => ("SpotRowsModel", "spots", "[I", true)
  | 11 => ("SpotRowsModel", "without", "I", false)
  | 12 => ("SpotRowsModel", "count", "[I", true)
  | 13 => ("SpotRowsModel", "sum", "[I", true)
  | 14 => ("SpotRowsModel", "far", "[I", true)
  | 15 => ("SpotRowsModel", "strong", "[I", true)
  | 16 => ("SpotRowsModel", "next", "[I", true)
  | 17 => ("SpotRowsModel", "ties", "[I", true)
  | 18 => ("SpotRowsModel", "factors", "[I", true)
  | 19 => ("SpotRowsModel", "way", "[I", true)
  | 20 => ("SpotRowsModel", "weights", "[I", true)
  | 21 => ("SpotRowsModel", "rough", "[I", true)
  | _ => ("SpotRowsModel", "smoothed", "[I", true)
def tyX8 : Nat → FieldType := fun k => match k with
  | 0 => .int
  | 1 => .long
  | 2 => .long
  | 3 => .array .int
  | 4 => .array .int
  | 5 => .array .long
  | 6 => .int
  | 7 => .int
  | 8 => .int
  | 9 => .array .int
  | 10 => .array .int
  | 11 => .int
  | 12 => .array .int
  | 13 => .array .int
  | 14 => .array .int
  | 15 => .array .int
  | 16 => .array .int
  | 17 => .array .int
  | 18 => .array .int
  | 19 => .array .int
  | 20 => .array .int
  | 21 => .array .int
  | _ => .array .int
abbrev wsX80 : List Cond := u_ws RX8 TX8 23
theorem nmX8 : ∀ a, a < 23 → ∀ b, b < 23 → a ≠ b → (TX8 a).2.1 ≠ (TX8 b).2.1 := by decide +kernel
theorem tyX8_ok : ∀ k, k < 23 → parseFieldDescriptor (TX8 k).2.2.1 = some (tyX8 k) := by decide +kernel
abbrev cX8_init : ByteArray := prog_10_method_1_code
def yX8_init : MethodName := ⟨RX8, "<init>", "()V"⟩
abbrev cX8_status : ByteArray := prog_10_method_2_code
def yX8_status : MethodName := ⟨RX8, "status", "()I"⟩
abbrev cX8_top : ByteArray := prog_10_method_3_code
def yX8_top : MethodName := ⟨RX8, "top", "()J"⟩
abbrev cX8_bottom : ByteArray := prog_10_method_4_code
def yX8_bottom : MethodName := ⟨RX8, "bottom", "()J"⟩
abbrev cX8_is : ByteArray := prog_10_method_5_code
def yX8_is : MethodName := ⟨RX8, "is", "(I)Z"⟩
abbrev cX8_refuse : ByteArray := prog_10_method_6_code
def yX8_refuse : MethodName := ⟨RX8, "refuse", "(I)I"⟩
abbrev cX8_isTray : ByteArray := prog_10_method_7_code
def yX8_isTray : MethodName := ⟨RX8, "isTray", "(I)Z"⟩
abbrev cX8_cut : ByteArray := prog_10_method_8_code
def yX8_cut : MethodName := ⟨RX8, "cut", "(JI)J"⟩
abbrev cX8_tray : ByteArray := prog_10_method_9_code
def yX8_tray : MethodName := ⟨RX8, "tray", "(III)Z"⟩
abbrev cX8_wrongPlace : ByteArray := prog_10_method_10_code
def yX8_wrongPlace : MethodName := ⟨RX8, "wrongPlace", "(II)I"⟩
abbrev cX8_write : ByteArray := prog_10_method_11_code
def yX8_write : MethodName := ⟨RX8, "write", "(IIJ)Z"⟩
abbrev cX8_read : ByteArray := prog_10_method_12_code
def yX8_read : MethodName := ⟨RX8, "read", "(II)J"⟩
abbrev cX8_pour : ByteArray := prog_10_method_13_code
def yX8_pour : MethodName := ⟨RX8, "pour", "(IIIII)Z"⟩
abbrev cX8_isEye : ByteArray := prog_10_method_14_code
def yX8_isEye : MethodName := ⟨RX8, "isEye", "(I)Z"⟩
abbrev cX8_isDay : ByteArray := prog_10_method_15_code
def yX8_isDay : MethodName := ⟨RX8, "isDay", "(I)Z"⟩
abbrev cX8_isMonth : ByteArray := prog_10_method_16_code
def yX8_isMonth : MethodName := ⟨RX8, "isMonth", "(I)Z"⟩
abbrev cX8_at : ByteArray := prog_10_method_17_code
def yX8_at : MethodName := ⟨RX8, "at", "(II)I"⟩
abbrev cX8_eye : ByteArray := prog_10_method_18_code
def yX8_eye : MethodName := ⟨RX8, "eye", "()I"⟩
abbrev cX8_areTold : ByteArray := prog_10_method_19_code
def yX8_areTold : MethodName := ⟨RX8, "areTold", "(JJ)Z"⟩
abbrev cX8_tell : ByteArray := prog_10_method_20_code
def yX8_tell : MethodName := ⟨RX8, "tell", "(IIII)Z"⟩
abbrev cX8_unsay : ByteArray := prog_10_method_21_code
def yX8_unsay : MethodName := ⟨RX8, "unsay", "(II)Z"⟩
abbrev cX8_book : ByteArray := prog_10_method_22_code
def yX8_book : MethodName := ⟨RX8, "book", "(IIII)Z"⟩
abbrev cX8_number : ByteArray := prog_10_method_23_code
def yX8_number : MethodName := ⟨RX8, "number", "(II)I"⟩
abbrev cX8_told : ByteArray := prog_10_method_24_code
def yX8_told : MethodName := ⟨RX8, "told", "(III)I"⟩
abbrev cX8_days : ByteArray := prog_10_method_25_code
def yX8_days : MethodName := ⟨RX8, "days", "(I)I"⟩
abbrev cX8_rules : ByteArray := prog_10_method_26_code
def yX8_rules : MethodName := ⟨RX8, "rules", "(II)Z"⟩
abbrev cX8_tells : ByteArray := prog_10_method_27_code
def yX8_tells : MethodName := ⟨RX8, "tells", "(II)Z"⟩
abbrev cX8_areBoth : ByteArray := prog_10_method_28_code
def yX8_areBoth : MethodName := ⟨RX8, "areBoth", "(III)Z"⟩
abbrev cX8_bothOf : ByteArray := prog_10_method_29_code
def yX8_bothOf : MethodName := ⟨RX8, "bothOf", "(II)I"⟩
abbrev cX8_areTwo : ByteArray := prog_10_method_30_code
def yX8_areTwo : MethodName := ⟨RX8, "areTwo", "(II)Z"⟩
abbrev cX8_both : ByteArray := prog_10_method_31_code
def yX8_both : MethodName := ⟨RX8, "both", "(II)I"⟩
abbrev cX8_factorOf : ByteArray := prog_10_method_32_code
def yX8_factorOf : MethodName := ⟨RX8, "factorOf", "(II)I"⟩
abbrev cX8_factor : ByteArray := prog_10_method_33_code
def yX8_factor : MethodName := ⟨RX8, "factor", "(II)I"⟩
abbrev cX8_fraction : ByteArray := prog_10_method_34_code
def yX8_fraction : MethodName := ⟨RX8, "fraction", "(JJ)I"⟩
abbrev cX8_middle : ByteArray := prog_10_method_35_code
def yX8_middle : MethodName := ⟨RX8, "middle", "(II)I"⟩
abbrev cX8_step : ByteArray := prog_10_method_36_code
def yX8_step : MethodName := ⟨RX8, "step", "(III)I"⟩
abbrev cX8_blind : ByteArray := prog_10_method_37_code
def yX8_blind : MethodName := ⟨RX8, "blind", "(II)I"⟩
abbrev cX8_active : ByteArray := prog_10_method_38_code
def yX8_active : MethodName := ⟨RX8, "active", "(III)I"⟩
abbrev cX8_pair : ByteArray := prog_10_method_39_code
def yX8_pair : MethodName := ⟨RX8, "pair", "(II)I"⟩
abbrev cX8_look : ByteArray := prog_10_method_40_code
def yX8_look : MethodName := ⟨RX8, "look", "()V"⟩
abbrev cX8_lay : ByteArray := prog_10_method_41_code
def yX8_lay : MethodName := ⟨RX8, "lay", "(I)I"⟩
abbrev cX8_chain : ByteArray := prog_10_method_42_code
def yX8_chain : MethodName := ⟨RX8, "chain", "(II)I"⟩
abbrev cX8_weightOf : ByteArray := prog_10_method_43_code
def yX8_weightOf : MethodName := ⟨RX8, "weightOf", "(I)I"⟩
abbrev cX8_weight : ByteArray := prog_10_method_44_code
def yX8_weight : MethodName := ⟨RX8, "weight", "(I)I"⟩
abbrev cX8_loop : ByteArray := prog_10_method_45_code
def yX8_loop : MethodName := ⟨RX8, "loop", "(III)I"⟩
abbrev cX8_weigh : ByteArray := prog_10_method_46_code
def yX8_weigh : MethodName := ⟨RX8, "weigh", "()V"⟩
abbrev cX8_valueOf : ByteArray := prog_10_method_47_code
def yX8_valueOf : MethodName := ⟨RX8, "valueOf", "(I)I"⟩
abbrev cX8_monthOf : ByteArray := prog_10_method_48_code
def yX8_monthOf : MethodName := ⟨RX8, "monthOf", "(I)I"⟩
abbrev cX8_tellValue : ByteArray := prog_10_method_49_code
def yX8_tellValue : MethodName := ⟨RX8, "tellValue", "(I)I"⟩
abbrev cX8_day : ByteArray := prog_10_method_50_code
def yX8_day : MethodName := ⟨RX8, "day", "(I)I"⟩
abbrev cX8_month : ByteArray := prog_10_method_51_code
def yX8_month : MethodName := ⟨RX8, "month", "(I)I"⟩
abbrev cX8_isWide : ByteArray := prog_10_method_52_code
def yX8_isWide : MethodName := ⟨RX8, "isWide", "(I)Z"⟩
abbrev cX8_smoothAll : ByteArray := prog_10_method_53_code
def yX8_smoothAll : MethodName := ⟨RX8, "smoothAll", "(I)V"⟩
abbrev cX8_smooth : ByteArray := prog_10_method_54_code
def yX8_smooth : MethodName := ⟨RX8, "smooth", "(II)I"⟩
abbrev cX8_isTurn : ByteArray := prog_10_method_55_code
def yX8_isTurn : MethodName := ⟨RX8, "isTurn", "(IIZ)Z"⟩
abbrev cX8_turn : ByteArray := prog_10_method_56_code
def yX8_turn : MethodName := ⟨RX8, "turn", "(IIIZ)I"⟩
abbrev cX8_change : ByteArray := prog_10_method_57_code
def yX8_change : MethodName := ⟨RX8, "change", "(II)I"⟩
def RJ9 : String := "java/lang/Math"
def TJ9 : u_T := fun k => match k with
  | _ => ("", "", "", false)
def tyJ9 : Nat → FieldType := fun k => match k with
  | _ => .int
abbrev wsJ90 : List Cond := u_ws RJ9 TJ9 0
theorem nmJ9 : ∀ a, a < 0 → ∀ b, b < 0 → a ≠ b → (TJ9 a).2.1 ≠ (TJ9 b).2.1 := by decide +kernel
theorem tyJ9_ok : ∀ k, k < 0 → parseFieldDescriptor (TJ9 k).2.2.1 = some (tyJ9 k) := by decide +kernel
abbrev cJ9_max_7cf53 : ByteArray := prog_11_method_65_code
def yJ9_max_7cf53 : MethodName := ⟨RJ9, "max", "(II)I"⟩
abbrev cJ9_min_7cf53 : ByteArray := prog_11_method_69_code
def yJ9_min_7cf53 : MethodName := ⟨RJ9, "min", "(II)I"⟩
abbrev cJ9_min_f86c9 : ByteArray := prog_11_method_70_code
def yJ9_min_f86c9 : MethodName := ⟨RJ9, "min", "(JJ)J"⟩
def RJ10 : String := "java/lang/System"
def TJ10 : u_T := fun k => match k with
  | _ => ("", "", "", false)
def tyJ10 : Nat → FieldType := fun k => match k with
  | _ => .int
abbrev wsJ100 : List Cond := u_ws RJ10 TJ10 0
theorem nmJ10 : ∀ a, a < 0 → ∀ b, b < 0 → a ≠ b → (TJ10 a).2.1 ≠ (TJ10 b).2.1 := by decide +kernel
theorem tyJ10_ok : ∀ k, k < 0 → parseFieldDescriptor (TJ10 k).2.2.1 = some (tyJ10 k) := by decide +kernel
def RJ7 : String := "java/util/Arrays"
def TJ7 : u_T := fun k => match k with
  | _ => ("", "", "", false)
def tyJ7 : Nat → FieldType := fun k => match k with
  | _ => .int
abbrev wsJ70 : List Cond := u_ws RJ7 TJ7 0
theorem nmJ7 : ∀ a, a < 0 → ∀ b, b < 0 → a ≠ b → (TJ7 a).2.1 ≠ (TJ7 b).2.1 := by decide +kernel
theorem tyJ7_ok : ∀ k, k < 0 → parseFieldDescriptor (TJ7 k).2.2.1 = some (tyJ7 k) := by decide +kernel
abbrev cJ7_rangeCheck_23922 : ByteArray := prog_13_method_30_code
def yJ7_rangeCheck_23922 : MethodName := ⟨RJ7, "rangeCheck", "(III)V"⟩
abbrev cJ7_fill_bad5a : ByteArray := prog_13_method_102_code
def yJ7_fill_bad5a : MethodName := ⟨RJ7, "fill", "([JIIJ)V"⟩
abbrev cJ7_fill_53178 : ByteArray := prog_13_method_103_code
def yJ7_fill_53178 : MethodName := ⟨RJ7, "fill", "([II)V"⟩
def RL : String := "SpotRowsLaw"
abbrev cL_law : ByteArray := code
def yL_law : MethodName := ⟨RL, "law", "([I)Z"⟩
def wsX0_init : List Cond := .code yX0_init cX0_init 1 none :: ([.methodLink RX0 3 objectInit, .instanceMethod objectInit, .code objectInit ⟨#[0xb1]⟩ 1 none, .arrayClass .int, .fieldLink RX0 9 "SpotRows$Chains" "links" "[I", .fieldLink RX0 15 "SpotRows$Chains" "widths" "[I", .fieldLink RX0 18 "SpotRows$Chains" "weights" "[I", .fieldLink RX0 21 "SpotRows$Chains" "way" "[I"] ++ wsX00)
def wsJ7_fill_53178 : List Cond := .code yJ7_fill_53178 cJ7_fill_53178 4 none :: ([])
def wsX5_factorOf : List Cond := .code yX5_factorOf cX5_factorOf 6 (some .int) :: ([.fieldLink RX5 18 "SpotRows$Tellings" "bothSums" "[I", .fieldLink RX5 15 "SpotRows$Tellings" "bothDays" "[I", .fieldLink RX5 31 "SpotRows$Tellings" "least" "I", .constant RX5 66 (100000)] ++ wsX50)
def wsX5_countBoth : List Cond := .code yX5_countBoth cX5_countBoth 3 (some .int) :: ([.fieldLink RX5 15 "SpotRows$Tellings" "bothDays" "[I"] ++ wsX50)
def wsX0_reach : List Cond := .code yX0_reach cX0_reach 6 none :: ([.fieldLink RX0 9 "SpotRows$Chains" "links" "[I", .fieldLink RX0 15 "SpotRows$Chains" "widths" "[I", .methodLink RX0 51 Lib.Math.min.name, .static Lib.Math.min.name, .initialized "java/lang/Math", .code Lib.Math.min.name Lib.Math.min.code 2 (some .int), .methodLink RX0 56 Lib.Math.max.name, .static Lib.Math.max.name, .code Lib.Math.max.name Lib.Math.max.code 2 (some .int), .methodLink RX0 44 yX5_factorOf, .instanceMethod yX5_factorOf, .selects RX5 yX5_factorOf yX5_factorOf, .initialized RX5, .code yX5_factorOf cX5_factorOf 6 (some .int), .fieldLink RX5 18 "SpotRows$Tellings" "bothSums" "[I", .fieldLink RX5 15 "SpotRows$Tellings" "bothDays" "[I", .fieldLink RX5 31 "SpotRows$Tellings" "least" "I", .constant RX5 66 (100000), .methodLink RX0 48 yX5_countBoth, .instanceMethod yX5_countBoth, .selects RX5 yX5_countBoth yX5_countBoth, .code yX5_countBoth cX5_countBoth 3 (some .int)] ++ wsX50 ++ wsX00)
def wsX0_firstNext : List Cond := .code yX0_firstNext cX0_firstNext 5 (some .int) :: ([.fieldLink RX0 9 "SpotRows$Chains" "links" "[I", .fieldLink RX0 15 "SpotRows$Chains" "widths" "[I", .methodLink RX0 48 yX5_countBoth, .instanceMethod yX5_countBoth, .selects RX5 yX5_countBoth yX5_countBoth, .initialized RX5, .code yX5_countBoth cX5_countBoth 3 (some .int), .fieldLink RX5 15 "SpotRows$Tellings" "bothDays" "[I", .methodLink RX0 44 yX5_factorOf, .instanceMethod yX5_factorOf, .selects RX5 yX5_factorOf yX5_factorOf, .code yX5_factorOf cX5_factorOf 6 (some .int), .fieldLink RX5 18 "SpotRows$Tellings" "bothSums" "[I", .fieldLink RX5 31 "SpotRows$Tellings" "least" "I", .constant RX5 66 (100000)] ++ wsX50 ++ wsX00)
def wsX0_walk : List Cond := .code yX0_walk cX0_walk 4 none :: ([.fieldLink RX0 21 "SpotRows$Chains" "way" "[I", .fieldLink RX0 9 "SpotRows$Chains" "links" "[I", .fieldLink RX0 15 "SpotRows$Chains" "widths" "[I", .methodLink RX0 59 yX0_firstNext, .instanceMethod yX0_firstNext, .selects RX0 yX0_firstNext yX0_firstNext, .initialized RX0, .code yX0_firstNext cX0_firstNext 5 (some .int), .methodLink RX0 48 yX5_countBoth, .instanceMethod yX5_countBoth, .selects RX5 yX5_countBoth yX5_countBoth, .initialized RX5, .code yX5_countBoth cX5_countBoth 3 (some .int), .fieldLink RX5 15 "SpotRows$Tellings" "bothDays" "[I", .methodLink RX0 44 yX5_factorOf, .instanceMethod yX5_factorOf, .selects RX5 yX5_factorOf yX5_factorOf, .code yX5_factorOf cX5_factorOf 6 (some .int), .fieldLink RX5 18 "SpotRows$Tellings" "bothSums" "[I", .fieldLink RX5 31 "SpotRows$Tellings" "least" "I", .constant RX5 66 (100000)] ++ wsX00 ++ wsX50)
def wsX0_weigh_r1 : List Cond := [Cond.fieldLink RX0 9 "SpotRows$Chains" "links" "[I", Cond.constantLong RX0 67 (1000), Cond.fieldLink RX0 21 "SpotRows$Chains" "way" "[I", Cond.constantLong RX0 69 (1000000), Cond.methodLink RX0 71 Lib.MathLoose.min_long.x, Cond.static Lib.MathLoose.min_long.x, Cond.initialized "java/lang/Math", Cond.code Lib.MathLoose.min_long.x Lib.MathLoose.min_long.code 4 (some .long), Cond.methodLink RX0 63 yX0_walk, Cond.instanceMethod yX0_walk, Cond.selects RX0 yX0_walk yX0_walk, Cond.initialized RX0, Cond.code yX0_walk cX0_walk 4 none, Cond.fieldLink RX0 15 "SpotRows$Chains" "widths" "[I", Cond.methodLink RX0 59 yX0_firstNext, Cond.instanceMethod yX0_firstNext, Cond.selects RX0 yX0_firstNext yX0_firstNext, Cond.code yX0_firstNext cX0_firstNext 5 (some .int), Cond.methodLink RX0 48 yX5_countBoth, Cond.instanceMethod yX5_countBoth, Cond.selects RX5 yX5_countBoth yX5_countBoth, Cond.initialized RX5, Cond.code yX5_countBoth cX5_countBoth 3 (some .int), Cond.fieldLink RX5 15 "SpotRows$Tellings" "bothDays" "[I"]
def wsX0_weigh_r2 : List Cond := [Cond.methodLink RX0 44 yX5_factorOf, Cond.instanceMethod yX5_factorOf, Cond.selects RX5 yX5_factorOf yX5_factorOf, Cond.code yX5_factorOf cX5_factorOf 6 (some .int), Cond.fieldLink RX5 18 "SpotRows$Tellings" "bothSums" "[I", Cond.fieldLink RX5 31 "SpotRows$Tellings" "least" "I", Cond.constant RX5 66 (100000)]
def wsX0_weigh : List Cond := .code yX0_weigh cX0_weigh 6 (some .int) :: ((wsX0_weigh_r1 ++ wsX0_weigh_r2) ++ wsX00 ++ wsX50)
def wsX0_reckon_r1 : List Cond := [Cond.fieldLink RX0 9 "SpotRows$Chains" "links" "[I", Cond.fieldLink RX0 15 "SpotRows$Chains" "widths" "[I", Cond.fieldLink RX0 18 "SpotRows$Chains" "weights" "[I", Cond.methodLink RX0 24 yJ7_fill_53178, Cond.static yJ7_fill_53178, Cond.initialized RJ7, Cond.code yJ7_fill_53178 cJ7_fill_53178 4 none, Cond.methodLink RX0 36 yX0_reach, Cond.instanceMethod yX0_reach, Cond.selects RX0 yX0_reach yX0_reach, Cond.initialized RX0, Cond.code yX0_reach cX0_reach 6 none, Cond.methodLink RX0 51 Lib.Math.min.name, Cond.static Lib.Math.min.name, Cond.initialized "java/lang/Math", Cond.code Lib.Math.min.name Lib.Math.min.code 2 (some .int), Cond.methodLink RX0 56 Lib.Math.max.name, Cond.static Lib.Math.max.name, Cond.code Lib.Math.max.name Lib.Math.max.code 2 (some .int), Cond.methodLink RX0 44 yX5_factorOf, Cond.instanceMethod yX5_factorOf, Cond.selects RX5 yX5_factorOf yX5_factorOf, Cond.initialized RX5, Cond.code yX5_factorOf cX5_factorOf 6 (some .int)]
def wsX0_reckon_r2 : List Cond := [Cond.fieldLink RX5 18 "SpotRows$Tellings" "bothSums" "[I", Cond.fieldLink RX5 15 "SpotRows$Tellings" "bothDays" "[I", Cond.fieldLink RX5 31 "SpotRows$Tellings" "least" "I", Cond.constant RX5 66 (100000), Cond.methodLink RX0 48 yX5_countBoth, Cond.instanceMethod yX5_countBoth, Cond.selects RX5 yX5_countBoth yX5_countBoth, Cond.code yX5_countBoth cX5_countBoth 3 (some .int), Cond.methodLink RX0 40 yX0_weigh, Cond.instanceMethod yX0_weigh, Cond.selects RX0 yX0_weigh yX0_weigh, Cond.code yX0_weigh cX0_weigh 6 (some .int), Cond.constantLong RX0 67 (1000), Cond.fieldLink RX0 21 "SpotRows$Chains" "way" "[I", Cond.constantLong RX0 69 (1000000), Cond.methodLink RX0 71 Lib.MathLoose.min_long.x, Cond.static Lib.MathLoose.min_long.x, Cond.code Lib.MathLoose.min_long.x Lib.MathLoose.min_long.code 4 (some .long), Cond.methodLink RX0 63 yX0_walk, Cond.instanceMethod yX0_walk, Cond.selects RX0 yX0_walk yX0_walk, Cond.code yX0_walk cX0_walk 4 none, Cond.methodLink RX0 59 yX0_firstNext, Cond.instanceMethod yX0_firstNext]
def wsX0_reckon_r3 : List Cond := [Cond.selects RX0 yX0_firstNext yX0_firstNext, Cond.code yX0_firstNext cX0_firstNext 5 (some .int)]
def wsX0_reckon : List Cond := .code yX0_reckon cX0_reckon 5 none :: ((wsX0_reckon_r1 ++ (wsX0_reckon_r2 ++ wsX0_reckon_r3)) ++ wsX00 ++ wsX50)
def wsX1_init : List Cond := .code yX1_init cX1_init 1 none :: ([.methodLink RX1 1 objectInit, .instanceMethod objectInit, .code objectInit ⟨#[0xb1]⟩ 1 none, .fieldLink RX1 7 "SpotRows$Fraction" "upper" "J", .fieldLink RX1 13 "SpotRows$Fraction" "lower" "J"] ++ wsX10)
def wsX1_commonDivisor : List Cond := .code yX1_commonDivisor cX1_commonDivisor 6 (some .int) :: ([])
def wsX1_put : List Cond := .code yX1_put cX1_put 4 none :: ([.fieldLink RX1 7 "SpotRows$Fraction" "upper" "J", .fieldLink RX1 13 "SpotRows$Fraction" "lower" "J", .methodLink RX1 16 yX1_commonDivisor, .static yX1_commonDivisor, .initialized RX1, .code yX1_commonDivisor cX1_commonDivisor 6 (some .int)] ++ wsX10)
def wsX2_init : List Cond := .code yX2_init cX2_init 1 none :: ([.methodLink RX2 3 objectInit, .instanceMethod objectInit, .code objectInit ⟨#[0xb1]⟩ 1 none, .arrayClass .int, .fieldLink RX2 9 "SpotRows$Ratios" "uppers" "[I", .fieldLink RX2 15 "SpotRows$Ratios" "lowers" "[I", .fieldLink RX2 18 "SpotRows$Ratios" "many" "I"] ++ wsX20)
def wsX5_has : List Cond := .code yX5_has cX5_has 3 (some .boolean) :: ([.fieldLink RX5 9 "SpotRows$Tellings" "codes" "[I"] ++ wsX50)
def wsX5_haveBoth : List Cond := .code yX5_haveBoth cX5_haveBoth 4 (some .boolean) :: ([.methodLink RX5 45 yX5_has, .instanceMethod yX5_has, .selects RX5 yX5_has yX5_has, .initialized RX5, .code yX5_has cX5_has 3 (some .boolean), .fieldLink RX5 9 "SpotRows$Tellings" "codes" "[I"] ++ wsX50)
def wsX5_groupsOf : List Cond := .code yX5_groupsOf cX5_groupsOf 3 (some .int) :: ([.fieldLink RX5 9 "SpotRows$Tellings" "codes" "[I"] ++ wsX50)
def wsX5_spotsOf : List Cond := .code yX5_spotsOf cX5_spotsOf 3 (some .int) :: ([.fieldLink RX5 9 "SpotRows$Tellings" "codes" "[I"] ++ wsX50)
def wsX5_numberOf : List Cond := .code yX5_numberOf cX5_numberOf 3 (some .int) :: ([.methodLink RX5 48 yX5_groupsOf, .instanceMethod yX5_groupsOf, .selects RX5 yX5_groupsOf yX5_groupsOf, .initialized RX5, .code yX5_groupsOf cX5_groupsOf 3 (some .int), .fieldLink RX5 9 "SpotRows$Tellings" "codes" "[I", .methodLink RX5 52 yX5_spotsOf, .instanceMethod yX5_spotsOf, .selects RX5 yX5_spotsOf yX5_spotsOf, .code yX5_spotsOf cX5_spotsOf 3 (some .int)] ++ wsX50)
def wsX2_gather_r1 : List Cond := [Cond.fieldLink RX2 18 "SpotRows$Ratios" "many" "I", Cond.fieldLink RX2 9 "SpotRows$Ratios" "uppers" "[I", Cond.fieldLink RX2 15 "SpotRows$Ratios" "lowers" "[I", Cond.methodLink RX2 22 yX5_haveBoth, Cond.instanceMethod yX5_haveBoth, Cond.selects RX5 yX5_haveBoth yX5_haveBoth, Cond.initialized RX5, Cond.code yX5_haveBoth cX5_haveBoth 4 (some .boolean), Cond.methodLink RX5 45 yX5_has, Cond.instanceMethod yX5_has, Cond.selects RX5 yX5_has yX5_has, Cond.code yX5_has cX5_has 3 (some .boolean), Cond.fieldLink RX5 9 "SpotRows$Tellings" "codes" "[I", Cond.methodLink RX2 28 yX5_numberOf, Cond.instanceMethod yX5_numberOf, Cond.selects RX5 yX5_numberOf yX5_numberOf, Cond.code yX5_numberOf cX5_numberOf 3 (some .int), Cond.methodLink RX5 48 yX5_groupsOf, Cond.instanceMethod yX5_groupsOf, Cond.selects RX5 yX5_groupsOf yX5_groupsOf, Cond.code yX5_groupsOf cX5_groupsOf 3 (some .int), Cond.methodLink RX5 52 yX5_spotsOf, Cond.instanceMethod yX5_spotsOf, Cond.selects RX5 yX5_spotsOf yX5_spotsOf]
def wsX2_gather_r2 : List Cond := [Cond.code yX5_spotsOf cX5_spotsOf 3 (some .int)]
def wsX2_gather : List Cond := .code yX2_gather cX2_gather 5 none :: ((wsX2_gather_r1 ++ wsX2_gather_r2) ++ wsX20 ++ wsX50)
def wsX2_sink : List Cond := .code yX2_sink cX2_sink 6 none :: ([.fieldLink RX2 9 "SpotRows$Ratios" "uppers" "[I", .fieldLink RX2 15 "SpotRows$Ratios" "lowers" "[I"] ++ wsX20)
def wsX2_order : List Cond := .code yX2_order cX2_order 3 none :: ([.fieldLink RX2 18 "SpotRows$Ratios" "many" "I", .methodLink RX2 32 yX2_sink, .instanceMethod yX2_sink, .selects RX2 yX2_sink yX2_sink, .initialized RX2, .code yX2_sink cX2_sink 6 none, .fieldLink RX2 9 "SpotRows$Ratios" "uppers" "[I", .fieldLink RX2 15 "SpotRows$Ratios" "lowers" "[I"] ++ wsX20)
def wsX3_init : List Cond := .code yX3_init cX3_init 1 none :: ([.methodLink RX3 3 objectInit, .instanceMethod objectInit, .code objectInit ⟨#[0xb1]⟩ 1 none, .arrayClass .int, .fieldLink RX3 9 "SpotRows$Row" "values" "[I", .fieldLink RX3 15 "SpotRows$Row" "smooths" "[I", .fieldLink RX3 18 "SpotRows$Row" "enough" "I"] ++ wsX30)
def wsX3_isSmoothWidth : List Cond := .code yX3_isSmoothWidth cX3_isSmoothWidth 1 (some .boolean) :: ([])
def wsX3_valueOfDay : List Cond := .code yX3_valueOfDay cX3_valueOfDay 8 (some .int) :: ([.methodLink RX3 32 yX5_has, .instanceMethod yX5_has, .selects RX5 yX5_has yX5_has, .initialized RX5, .code yX5_has cX5_has 3 (some .boolean), .fieldLink RX5 9 "SpotRows$Tellings" "codes" "[I", .methodLink RX3 36 yX5_numberOf, .instanceMethod yX5_numberOf, .selects RX5 yX5_numberOf yX5_numberOf, .code yX5_numberOf cX5_numberOf 3 (some .int), .methodLink RX5 48 yX5_groupsOf, .instanceMethod yX5_groupsOf, .selects RX5 yX5_groupsOf yX5_groupsOf, .code yX5_groupsOf cX5_groupsOf 3 (some .int), .methodLink RX5 52 yX5_spotsOf, .instanceMethod yX5_spotsOf, .selects RX5 yX5_spotsOf yX5_spotsOf, .code yX5_spotsOf cX5_spotsOf 3 (some .int)] ++ wsX50 ++ wsX00)
def wsX3_valueOfMonth : List Cond := .code yX3_valueOfMonth cX3_valueOfMonth 9 (some .int) :: ([.fieldLink RX3 18 "SpotRows$Row" "enough" "I", .methodLink RX3 40 yX3_valueOfDay, .instanceMethod yX3_valueOfDay, .selects RX3 yX3_valueOfDay yX3_valueOfDay, .initialized RX3, .code yX3_valueOfDay cX3_valueOfDay 8 (some .int), .methodLink RX3 32 yX5_has, .instanceMethod yX5_has, .selects RX5 yX5_has yX5_has, .initialized RX5, .code yX5_has cX5_has 3 (some .boolean), .fieldLink RX5 9 "SpotRows$Tellings" "codes" "[I", .methodLink RX3 36 yX5_numberOf, .instanceMethod yX5_numberOf, .selects RX5 yX5_numberOf yX5_numberOf, .code yX5_numberOf cX5_numberOf 3 (some .int), .methodLink RX5 48 yX5_groupsOf, .instanceMethod yX5_groupsOf, .selects RX5 yX5_groupsOf yX5_groupsOf, .code yX5_groupsOf cX5_groupsOf 3 (some .int), .methodLink RX5 52 yX5_spotsOf, .instanceMethod yX5_spotsOf, .selects RX5 yX5_spotsOf yX5_spotsOf, .code yX5_spotsOf cX5_spotsOf 3 (some .int)] ++ wsX30 ++ wsX50 ++ wsX00)
def wsX3_reckonMonths_r1 : List Cond := [Cond.fieldLink RX3 9 "SpotRows$Row" "values" "[I", Cond.methodLink RX3 44 yX3_valueOfMonth, Cond.instanceMethod yX3_valueOfMonth, Cond.selects RX3 yX3_valueOfMonth yX3_valueOfMonth, Cond.initialized RX3, Cond.code yX3_valueOfMonth cX3_valueOfMonth 9 (some .int), Cond.fieldLink RX3 18 "SpotRows$Row" "enough" "I", Cond.methodLink RX3 40 yX3_valueOfDay, Cond.instanceMethod yX3_valueOfDay, Cond.selects RX3 yX3_valueOfDay yX3_valueOfDay, Cond.code yX3_valueOfDay cX3_valueOfDay 8 (some .int), Cond.methodLink RX3 32 yX5_has, Cond.instanceMethod yX5_has, Cond.selects RX5 yX5_has yX5_has, Cond.initialized RX5, Cond.code yX5_has cX5_has 3 (some .boolean), Cond.fieldLink RX5 9 "SpotRows$Tellings" "codes" "[I", Cond.methodLink RX3 36 yX5_numberOf, Cond.instanceMethod yX5_numberOf, Cond.selects RX5 yX5_numberOf yX5_numberOf, Cond.code yX5_numberOf cX5_numberOf 3 (some .int), Cond.methodLink RX5 48 yX5_groupsOf, Cond.instanceMethod yX5_groupsOf, Cond.selects RX5 yX5_groupsOf yX5_groupsOf]
def wsX3_reckonMonths_r2 : List Cond := [Cond.code yX5_groupsOf cX5_groupsOf 3 (some .int), Cond.methodLink RX5 52 yX5_spotsOf, Cond.instanceMethod yX5_spotsOf, Cond.selects RX5 yX5_spotsOf yX5_spotsOf, Cond.code yX5_spotsOf cX5_spotsOf 3 (some .int)]
def wsX3_reckonMonths : List Cond := .code yX3_reckonMonths cX3_reckonMonths 4 none :: ((wsX3_reckonMonths_r1 ++ wsX3_reckonMonths_r2) ++ wsX30 ++ wsX50 ++ wsX00)
def wsX3_smoothOf : List Cond := .code yX3_smoothOf cX3_smoothOf 9 (some .int) :: ([.fieldLink RX3 9 "SpotRows$Row" "values" "[I", .methodLink RX3 47 Lib.Math.min.name, .static Lib.Math.min.name, .initialized "java/lang/Math", .code Lib.Math.min.name Lib.Math.min.code 2 (some .int), .methodLink RX3 52 Lib.Math.max.name, .static Lib.Math.max.name, .code Lib.Math.max.name Lib.Math.max.code 2 (some .int)] ++ wsX30)
def wsX3_reckonSmooths : List Cond := .code yX3_reckonSmooths cX3_reckonSmooths 3 none :: ([.fieldLink RX3 15 "SpotRows$Row" "smooths" "[I", .methodLink RX3 55 yX3_smoothOf, .instanceMethod yX3_smoothOf, .selects RX3 yX3_smoothOf yX3_smoothOf, .initialized RX3, .code yX3_smoothOf cX3_smoothOf 9 (some .int), .fieldLink RX3 9 "SpotRows$Row" "values" "[I", .methodLink RX3 47 Lib.Math.min.name, .static Lib.Math.min.name, .initialized "java/lang/Math", .code Lib.Math.min.name Lib.Math.min.code 2 (some .int), .methodLink RX3 52 Lib.Math.max.name, .static Lib.Math.max.name, .code Lib.Math.max.name Lib.Math.max.code 2 (some .int)] ++ wsX30)
def wsX3_outdoes : List Cond := .code yX3_outdoes cX3_outdoes 5 (some .boolean) :: ([.fieldLink RX3 15 "SpotRows$Row" "smooths" "[I"] ++ wsX30)
def wsX3_isTurn : List Cond := .code yX3_isTurn cX3_isTurn 6 (some .boolean) :: ([.fieldLink RX3 15 "SpotRows$Row" "smooths" "[I", .methodLink RX3 47 Lib.Math.min.name, .static Lib.Math.min.name, .initialized "java/lang/Math", .code Lib.Math.min.name Lib.Math.min.code 2 (some .int), .methodLink RX3 52 Lib.Math.max.name, .static Lib.Math.max.name, .code Lib.Math.max.name Lib.Math.max.code 2 (some .int), .methodLink RX3 62 yX3_outdoes, .instanceMethod yX3_outdoes, .selects RX3 yX3_outdoes yX3_outdoes, .initialized RX3, .code yX3_outdoes cX3_outdoes 5 (some .boolean)] ++ wsX30)
end
section
def wsX3_findTurn : List Cond := .code yX3_findTurn cX3_findTurn 6 (some .int) :: ([.methodLink RX3 58 yX3_isTurn, .instanceMethod yX3_isTurn, .selects RX3 yX3_isTurn yX3_isTurn, .initialized RX3, .code yX3_isTurn cX3_isTurn 6 (some .boolean), .fieldLink RX3 15 "SpotRows$Row" "smooths" "[I", .methodLink RX3 47 Lib.Math.min.name, .static Lib.Math.min.name, .initialized "java/lang/Math", .code Lib.Math.min.name Lib.Math.min.code 2 (some .int), .methodLink RX3 52 Lib.Math.max.name, .static Lib.Math.max.name, .code Lib.Math.max.name Lib.Math.max.code 2 (some .int), .methodLink RX3 62 yX3_outdoes, .instanceMethod yX3_outdoes, .selects RX3 yX3_outdoes yX3_outdoes, .code yX3_outdoes cX3_outdoes 5 (some .boolean)] ++ wsX30)
def wsX4_init : List Cond := .code yX4_init cX4_init 1 none :: ([.methodLink RX4 3 objectInit, .instanceMethod objectInit, .code objectInit ⟨#[0xb1]⟩ 1 none, .arrayClass .int, .fieldLink RX4 9 "SpotRows$Steps" "levelSums" "[I", .fieldLink RX4 15 "SpotRows$Steps" "levelDays" "[I", .fieldLink RX4 18 "SpotRows$Steps" "blockSums" "[I", .fieldLink RX4 21 "SpotRows$Steps" "blockDays" "[I", .fieldLink RX4 24 "SpotRows$Steps" "blockFirsts" "[I", .fieldLink RX4 27 "SpotRows$Steps" "blocks" "I"] ++ wsX40)
def wsX4_gather : List Cond := .code yX4_gather cX4_gather 6 none :: ([.fieldLink RX4 9 "SpotRows$Steps" "levelSums" "[I", .fieldLink RX4 15 "SpotRows$Steps" "levelDays" "[I", .methodLink RX4 31 yJ7_fill_53178, .static yJ7_fill_53178, .initialized RJ7, .code yJ7_fill_53178 cJ7_fill_53178 4 none, .methodLink RX4 37 yX5_haveBoth, .instanceMethod yX5_haveBoth, .selects RX5 yX5_haveBoth yX5_haveBoth, .initialized RX5, .code yX5_haveBoth cX5_haveBoth 4 (some .boolean), .methodLink RX5 45 yX5_has, .instanceMethod yX5_has, .selects RX5 yX5_has yX5_has, .code yX5_has cX5_has 3 (some .boolean), .fieldLink RX5 9 "SpotRows$Tellings" "codes" "[I", .methodLink RX4 43 yX5_groupsOf, .instanceMethod yX5_groupsOf, .selects RX5 yX5_groupsOf yX5_groupsOf, .code yX5_groupsOf cX5_groupsOf 3 (some .int)] ++ wsX40 ++ wsX50)
def wsX4_lastFalls : List Cond := .code yX4_lastFalls cX4_lastFalls 2 (some .boolean) :: ([.fieldLink RX4 27 "SpotRows$Steps" "blocks" "I", .fieldLink RX4 18 "SpotRows$Steps" "blockSums" "[I", .fieldLink RX4 21 "SpotRows$Steps" "blockDays" "[I"] ++ wsX40)
def wsX4_joinFalling : List Cond := .code yX4_joinFalling cX4_joinFalling 1 none :: ([.fieldLink RX4 27 "SpotRows$Steps" "blocks" "I", .fieldLink RX4 18 "SpotRows$Steps" "blockSums" "[I", .fieldLink RX4 21 "SpotRows$Steps" "blockDays" "[I", .methodLink RX4 50 yX4_lastFalls, .instanceMethod yX4_lastFalls, .selects RX4 yX4_lastFalls yX4_lastFalls, .initialized RX4, .code yX4_lastFalls cX4_lastFalls 2 (some .boolean)] ++ wsX40)
def wsX4_pool : List Cond := .code yX4_pool cX4_pool 2 none :: ([.fieldLink RX4 27 "SpotRows$Steps" "blocks" "I", .fieldLink RX4 15 "SpotRows$Steps" "levelDays" "[I", .fieldLink RX4 18 "SpotRows$Steps" "blockSums" "[I", .fieldLink RX4 9 "SpotRows$Steps" "levelSums" "[I", .fieldLink RX4 21 "SpotRows$Steps" "blockDays" "[I", .fieldLink RX4 24 "SpotRows$Steps" "blockFirsts" "[I", .methodLink RX4 47 yX4_joinFalling, .instanceMethod yX4_joinFalling, .selects RX4 yX4_joinFalling yX4_joinFalling, .initialized RX4, .code yX4_joinFalling cX4_joinFalling 1 none, .methodLink RX4 50 yX4_lastFalls, .instanceMethod yX4_lastFalls, .selects RX4 yX4_lastFalls yX4_lastFalls, .code yX4_lastFalls cX4_lastFalls 2 (some .boolean)] ++ wsX40)
def wsX4_blockFor : List Cond := .code yX4_blockFor cX4_blockFor 4 (some .int) :: ([.fieldLink RX4 27 "SpotRows$Steps" "blocks" "I", .fieldLink RX4 24 "SpotRows$Steps" "blockFirsts" "[I"] ++ wsX40)
def wsX5_init : List Cond := .code yX5_init cX5_init 1 none :: ([.methodLink RX5 3 objectInit, .instanceMethod objectInit, .code objectInit ⟨#[0xb1]⟩ 1 none, .arrayClass .int, .fieldLink RX5 9 "SpotRows$Tellings" "codes" "[I", .fieldLink RX5 15 "SpotRows$Tellings" "bothDays" "[I", .fieldLink RX5 18 "SpotRows$Tellings" "bothSums" "[I", .fieldLink RX5 27 "SpotRows$Tellings" "eyes" "I", .fieldLink RX5 31 "SpotRows$Tellings" "least" "I", .methodLink RX5 21 yJ7_fill_53178, .static yJ7_fill_53178, .initialized RJ7, .code yJ7_fill_53178 cJ7_fill_53178 4 none] ++ wsX50)
def wsX7_isWithin : List Cond := .code yX7_isWithin cX7_isWithin 2 (some .boolean) :: ([])
def wsX5_canBeTold : List Cond := .code yX5_canBeTold cX5_canBeTold 2 (some .boolean) :: ([.static yX7_isWithin, .initialized RX7, .code yX7_isWithin cX7_isWithin 2 (some .boolean)])
def wsX5_isCode : List Cond := .code yX5_isCode cX5_isCode 3 (some .boolean) :: ([.constantLong RX5 38 (-1), .constantLong RX5 40 (20200), .methodLink RX5 42 yX5_canBeTold, .static yX5_canBeTold, .initialized RX5, .code yX5_canBeTold cX5_canBeTold 2 (some .boolean), .static yX7_isWithin, .initialized RX7, .code yX7_isWithin cX7_isWithin 2 (some .boolean)])
def wsX5_addEye : List Cond := .code yX5_addEye cX5_addEye 1 (some .int) :: ([.fieldLink RX5 27 "SpotRows$Tellings" "eyes" "I"] ++ wsX50)
def wsX5_countIn : List Cond := .code yX5_countIn cX5_countIn 7 none :: ([.fieldLink RX5 27 "SpotRows$Tellings" "eyes" "I", .fieldLink RX5 15 "SpotRows$Tellings" "bothDays" "[I", .fieldLink RX5 18 "SpotRows$Tellings" "bothSums" "[I", .methodLink RX5 45 yX5_has, .instanceMethod yX5_has, .selects RX5 yX5_has yX5_has, .initialized RX5, .code yX5_has cX5_has 3 (some .boolean), .fieldLink RX5 9 "SpotRows$Tellings" "codes" "[I", .methodLink RX5 59 yX5_numberOf, .instanceMethod yX5_numberOf, .selects RX5 yX5_numberOf yX5_numberOf, .code yX5_numberOf cX5_numberOf 3 (some .int), .methodLink RX5 48 yX5_groupsOf, .instanceMethod yX5_groupsOf, .selects RX5 yX5_groupsOf yX5_groupsOf, .code yX5_groupsOf cX5_groupsOf 3 (some .int), .methodLink RX5 52 yX5_spotsOf, .instanceMethod yX5_spotsOf, .selects RX5 yX5_spotsOf yX5_spotsOf, .code yX5_spotsOf cX5_spotsOf 3 (some .int)] ++ wsX50)
def wsX5_put_r1 : List Cond := [Cond.fieldLink RX5 9 "SpotRows$Tellings" "codes" "[I", Cond.methodLink RX5 55 yX5_countIn, Cond.instanceMethod yX5_countIn, Cond.selects RX5 yX5_countIn yX5_countIn, Cond.initialized RX5, Cond.code yX5_countIn cX5_countIn 7 none, Cond.fieldLink RX5 27 "SpotRows$Tellings" "eyes" "I", Cond.fieldLink RX5 15 "SpotRows$Tellings" "bothDays" "[I", Cond.fieldLink RX5 18 "SpotRows$Tellings" "bothSums" "[I", Cond.methodLink RX5 45 yX5_has, Cond.instanceMethod yX5_has, Cond.selects RX5 yX5_has yX5_has, Cond.code yX5_has cX5_has 3 (some .boolean), Cond.methodLink RX5 59 yX5_numberOf, Cond.instanceMethod yX5_numberOf, Cond.selects RX5 yX5_numberOf yX5_numberOf, Cond.code yX5_numberOf cX5_numberOf 3 (some .int), Cond.methodLink RX5 48 yX5_groupsOf, Cond.instanceMethod yX5_groupsOf, Cond.selects RX5 yX5_groupsOf yX5_groupsOf, Cond.code yX5_groupsOf cX5_groupsOf 3 (some .int), Cond.methodLink RX5 52 yX5_spotsOf, Cond.instanceMethod yX5_spotsOf, Cond.selects RX5 yX5_spotsOf yX5_spotsOf]
def wsX5_put_r2 : List Cond := [Cond.code yX5_spotsOf cX5_spotsOf 3 (some .int)]
def wsX5_put : List Cond := .code yX5_put cX5_put 4 none :: ((wsX5_put_r1 ++ wsX5_put_r2) ++ wsX50)
def wsX5_countDays : List Cond := .code yX5_countDays cX5_countDays 6 (some .int) :: ([.methodLink RX5 45 yX5_has, .instanceMethod yX5_has, .selects RX5 yX5_has yX5_has, .initialized RX5, .code yX5_has cX5_has 3 (some .boolean), .fieldLink RX5 9 "SpotRows$Tellings" "codes" "[I"] ++ wsX50)
def wsX5_countActive : List Cond := .code yX5_countActive cX5_countActive 6 (some .int) :: ([.methodLink RX5 45 yX5_has, .instanceMethod yX5_has, .selects RX5 yX5_has yX5_has, .initialized RX5, .code yX5_has cX5_has 3 (some .boolean), .fieldLink RX5 9 "SpotRows$Tellings" "codes" "[I", .methodLink RX5 48 yX5_groupsOf, .instanceMethod yX5_groupsOf, .selects RX5 yX5_groupsOf yX5_groupsOf, .code yX5_groupsOf cX5_groupsOf 3 (some .int)] ++ wsX50)
def wsX5_countBothAbove : List Cond := .code yX5_countBothAbove cX5_countBothAbove 6 (some .int) :: ([.methodLink RX5 62 yX5_haveBoth, .instanceMethod yX5_haveBoth, .selects RX5 yX5_haveBoth yX5_haveBoth, .initialized RX5, .code yX5_haveBoth cX5_haveBoth 4 (some .boolean), .methodLink RX5 45 yX5_has, .instanceMethod yX5_has, .selects RX5 yX5_has yX5_has, .code yX5_has cX5_has 3 (some .boolean), .fieldLink RX5 9 "SpotRows$Tellings" "codes" "[I", .methodLink RX5 48 yX5_groupsOf, .instanceMethod yX5_groupsOf, .selects RX5 yX5_groupsOf yX5_groupsOf, .code yX5_groupsOf cX5_groupsOf 3 (some .int)] ++ wsX50)
def wsX6_init : List Cond := .code yX6_init cX6_init 1 none :: ([.methodLink RX6 3 objectInit, .instanceMethod objectInit, .code objectInit ⟨#[0xb1]⟩ 1 none, .arrayClass .long, .fieldLink RX6 9 "SpotRows$Trays" "cells" "[J", .arrayClass .int, .fieldLink RX6 15 "SpotRows$Trays" "sorts" "[I", .fieldLink RX6 19 "SpotRows$Trays" "sizes" "[I", .methodLink RX6 22 yJ7_fill_53178, .static yJ7_fill_53178, .initialized RJ7, .code yJ7_fill_53178 cJ7_fill_53178 4 none] ++ wsX60)
def wsX6_isSort : List Cond := .code yX6_isSort cX6_isSort 1 (some .boolean) :: ([])
def wsX6_isMissing : List Cond := .code yX6_isMissing cX6_isMissing 2 (some .boolean) :: ([.fieldLink RX6 15 "SpotRows$Trays" "sorts" "[I"] ++ wsX60)
def wsX6_areAlike : List Cond := .code yX6_areAlike cX6_areAlike 3 (some .boolean) :: ([.fieldLink RX6 15 "SpotRows$Trays" "sorts" "[I"] ++ wsX60)
def wsX6_holds : List Cond := .code yX6_holds cX6_holds 4 (some .boolean) :: ([.fieldLink RX6 19 "SpotRows$Trays" "sizes" "[I"] ++ wsX60)
def wsX6_whyNoPlace : List Cond := .code yX6_whyNoPlace cX6_whyNoPlace 3 (some .int) :: ([.fieldLink RX6 19 "SpotRows$Trays" "sizes" "[I", .static yX7_isWithin, .initialized RX7, .code yX7_isWithin cX7_isWithin 2 (some .boolean), .methodLink RX6 32 yX6_isMissing, .instanceMethod yX6_isMissing, .selects RX6 yX6_isMissing yX6_isMissing, .initialized RX6, .code yX6_isMissing cX6_isMissing 2 (some .boolean), .fieldLink RX6 15 "SpotRows$Trays" "sorts" "[I"] ++ wsX60)
def wsJ7_rangeCheck_23922 : List Cond := .code yJ7_rangeCheck_23922 cJ7_rangeCheck_23922 3 none :: ([])
def wsJ7_fill_bad5a : List Cond := .code yJ7_fill_bad5a cJ7_fill_bad5a 6 none :: ([.methodLink RJ7 13 yJ7_rangeCheck_23922, .static yJ7_rangeCheck_23922, .initialized RJ7, .code yJ7_rangeCheck_23922 cJ7_rangeCheck_23922 3 none])
def wsX6_lay : List Cond := .code yX6_lay cX6_lay 4 none :: ([.fieldLink RX6 15 "SpotRows$Trays" "sorts" "[I", .fieldLink RX6 19 "SpotRows$Trays" "sizes" "[I", .fieldLink RX6 9 "SpotRows$Trays" "cells" "[J", .methodLink RX6 36 yJ7_fill_bad5a, .static yJ7_fill_bad5a, .initialized RJ7, .code yJ7_fill_bad5a cJ7_fill_bad5a 6 none, .methodLink RJ7 13 yJ7_rangeCheck_23922, .static yJ7_rangeCheck_23922, .code yJ7_rangeCheck_23922 cJ7_rangeCheck_23922 3 none] ++ wsX60)
def wsX6_numberAt : List Cond := .code yX6_numberAt cX6_numberAt 3 (some .long) :: ([.fieldLink RX6 9 "SpotRows$Trays" "cells" "[J"] ++ wsX60)
def wsX6_cut : List Cond := .code yX6_cut cX6_cut 3 (some .long) :: ([])
def wsX6_put : List Cond := .code yX6_put cX6_put 5 none :: ([.fieldLink RX6 9 "SpotRows$Trays" "cells" "[J", .fieldLink RX6 15 "SpotRows$Trays" "sorts" "[I", .methodLink RX6 39 yX6_cut, .static yX6_cut, .initialized RX6, .code yX6_cut cX6_cut 3 (some .long)] ++ wsX60)
def wsX6_carry : List Cond := .code yX6_carry cX6_carry 6 none :: ([.fieldLink RX6 9 "SpotRows$Trays" "cells" "[J", .methodLink RX6 43 arraycopyName, .native arraycopyName, .static arraycopyName, .initialized "java/lang/System"] ++ wsX60)
def wsX7_init_r1 : List Cond := [Cond.methodLink RX7 1 objectInit, Cond.instanceMethod objectInit, Cond.code objectInit ⟨#[0xb1]⟩ 1 none, Cond.classLink RX7 7 RX6, Cond.instantiable RX6 3, Cond.initialized RX6, Cond.fieldLink RX7 10 "SpotRows" "trays" "LSpotRows$Trays;", Cond.classLink RX7 16 RX5, Cond.instantiable RX5 5, Cond.initialized RX5, Cond.fieldLink RX7 19 "SpotRows" "tellings" "LSpotRows$Tellings;", Cond.classLink RX7 23 RX2, Cond.instantiable RX2 3, Cond.initialized RX2, Cond.fieldLink RX7 26 "SpotRows" "ratios" "LSpotRows$Ratios;", Cond.classLink RX7 30 RX4, Cond.instantiable RX4 6, Cond.initialized RX4, Cond.fieldLink RX7 33 "SpotRows" "steps" "LSpotRows$Steps;", Cond.classLink RX7 37 RX0, Cond.instantiable RX0 4, Cond.initialized RX0, Cond.fieldLink RX7 40 "SpotRows" "chains" "LSpotRows$Chains;", Cond.classLink RX7 44 RX3]
def wsX7_init_r2 : List Cond := [Cond.instantiable RX3 3, Cond.initialized RX3, Cond.fieldLink RX7 47 "SpotRows" "row" "LSpotRows$Row;", Cond.classLink RX7 51 RX1, Cond.instantiable RX1 2, Cond.initialized RX1, Cond.fieldLink RX7 54 "SpotRows" "latest" "LSpotRows$Fraction;", Cond.fieldLink RX7 58 "SpotRows" "outcome" "I", Cond.methodLink RX7 9 yX6_init, Cond.instanceMethod yX6_init, Cond.code yX6_init cX6_init 1 none, Cond.methodLink RX6 3 objectInit, Cond.arrayClass .long, Cond.fieldLink RX6 9 "SpotRows$Trays" "cells" "[J", Cond.arrayClass .int, Cond.fieldLink RX6 15 "SpotRows$Trays" "sorts" "[I", Cond.fieldLink RX6 19 "SpotRows$Trays" "sizes" "[I", Cond.methodLink RX6 22 yJ7_fill_53178, Cond.static yJ7_fill_53178, Cond.initialized RJ7, Cond.code yJ7_fill_53178 cJ7_fill_53178 4 none, Cond.methodLink RX7 18 yX5_init, Cond.instanceMethod yX5_init, Cond.code yX5_init cX5_init 1 none]
def wsX7_init_r3 : List Cond := [Cond.methodLink RX5 3 objectInit, Cond.fieldLink RX5 9 "SpotRows$Tellings" "codes" "[I", Cond.fieldLink RX5 15 "SpotRows$Tellings" "bothDays" "[I", Cond.fieldLink RX5 18 "SpotRows$Tellings" "bothSums" "[I", Cond.fieldLink RX5 27 "SpotRows$Tellings" "eyes" "I", Cond.fieldLink RX5 31 "SpotRows$Tellings" "least" "I", Cond.methodLink RX5 21 yJ7_fill_53178, Cond.methodLink RX7 25 yX2_init, Cond.instanceMethod yX2_init, Cond.code yX2_init cX2_init 1 none, Cond.methodLink RX2 3 objectInit, Cond.fieldLink RX2 9 "SpotRows$Ratios" "uppers" "[I", Cond.fieldLink RX2 15 "SpotRows$Ratios" "lowers" "[I", Cond.fieldLink RX2 18 "SpotRows$Ratios" "many" "I", Cond.methodLink RX7 32 yX4_init, Cond.instanceMethod yX4_init, Cond.code yX4_init cX4_init 1 none, Cond.methodLink RX4 3 objectInit, Cond.fieldLink RX4 9 "SpotRows$Steps" "levelSums" "[I", Cond.fieldLink RX4 15 "SpotRows$Steps" "levelDays" "[I", Cond.fieldLink RX4 18 "SpotRows$Steps" "blockSums" "[I", Cond.fieldLink RX4 21 "SpotRows$Steps" "blockDays" "[I", Cond.fieldLink RX4 24 "SpotRows$Steps" "blockFirsts" "[I", Cond.fieldLink RX4 27 "SpotRows$Steps" "blocks" "I"]
def wsX7_init_r4 : List Cond := [Cond.methodLink RX7 39 yX0_init, Cond.instanceMethod yX0_init, Cond.code yX0_init cX0_init 1 none, Cond.methodLink RX0 3 objectInit, Cond.fieldLink RX0 9 "SpotRows$Chains" "links" "[I", Cond.fieldLink RX0 15 "SpotRows$Chains" "widths" "[I", Cond.fieldLink RX0 18 "SpotRows$Chains" "weights" "[I", Cond.fieldLink RX0 21 "SpotRows$Chains" "way" "[I", Cond.methodLink RX7 46 yX3_init, Cond.instanceMethod yX3_init, Cond.code yX3_init cX3_init 1 none, Cond.methodLink RX3 3 objectInit, Cond.fieldLink RX3 9 "SpotRows$Row" "values" "[I", Cond.fieldLink RX3 15 "SpotRows$Row" "smooths" "[I", Cond.fieldLink RX3 18 "SpotRows$Row" "enough" "I", Cond.methodLink RX7 53 yX1_init, Cond.instanceMethod yX1_init, Cond.code yX1_init cX1_init 1 none, Cond.methodLink RX1 1 objectInit, Cond.fieldLink RX1 7 "SpotRows$Fraction" "upper" "J", Cond.fieldLink RX1 13 "SpotRows$Fraction" "lower" "J"]
def wsX7_init : List Cond := .code yX7_init cX7_init 1 none :: ((wsX7_init_r1 ++ (wsX7_init_r2 ++ (wsX7_init_r3 ++ wsX7_init_r4))) ++ wsX60 ++ wsX70 ++ wsX50 ++ wsX20 ++ wsX40 ++ wsX00 ++ wsX30 ++ wsX10)
def wsX7_status : List Cond := .code yX7_status cX7_status 1 (some .int) :: ([.fieldLink RX7 58 "SpotRows" "outcome" "I"] ++ wsX70)
def wsX7_top : List Cond := .code yX7_top cX7_top 1 (some .long) :: ([.fieldLink RX7 54 "SpotRows" "latest" "LSpotRows$Fraction;"] ++ wsX70 ++ wsX10)
def wsX7_bottom : List Cond := .code yX7_bottom cX7_bottom 1 (some .long) :: ([.fieldLink RX7 54 "SpotRows" "latest" "LSpotRows$Fraction;"] ++ wsX70 ++ wsX10)
def wsX7_refuse : List Cond := .code yX7_refuse cX7_refuse 2 (some .boolean) :: ([.fieldLink RX7 58 "SpotRows" "outcome" "I"] ++ wsX70)
def wsX7_agree : List Cond := .code yX7_agree cX7_agree 1 (some .boolean) :: ([.fieldLink RX7 58 "SpotRows" "outcome" "I"] ++ wsX70)
def wsX7_tray_r1 : List Cond := [Cond.fieldLink RX7 10 "SpotRows" "trays" "LSpotRows$Trays;", Cond.methodLink RX7 69 yX7_isWithin, Cond.static yX7_isWithin, Cond.initialized RX7, Cond.code yX7_isWithin cX7_isWithin 2 (some .boolean), Cond.methodLink RX7 73 yX6_isSort, Cond.static yX6_isSort, Cond.initialized RX6, Cond.code yX6_isSort cX6_isSort 1 (some .boolean), Cond.methodLink RX7 77 yX7_refuse, Cond.instanceMethod yX7_refuse, Cond.selects RX7 yX7_refuse yX7_refuse, Cond.code yX7_refuse cX7_refuse 2 (some .boolean), Cond.fieldLink RX7 58 "SpotRows" "outcome" "I", Cond.methodLink RX7 80 yX6_lay, Cond.instanceMethod yX6_lay, Cond.selects RX6 yX6_lay yX6_lay, Cond.code yX6_lay cX6_lay 4 none, Cond.fieldLink RX6 15 "SpotRows$Trays" "sorts" "[I", Cond.fieldLink RX6 19 "SpotRows$Trays" "sizes" "[I", Cond.fieldLink RX6 9 "SpotRows$Trays" "cells" "[J", Cond.methodLink RX6 36 yJ7_fill_bad5a, Cond.static yJ7_fill_bad5a, Cond.initialized RJ7]
def wsX7_tray_r2 : List Cond := [Cond.code yJ7_fill_bad5a cJ7_fill_bad5a 6 none, Cond.methodLink RJ7 13 yJ7_rangeCheck_23922, Cond.static yJ7_rangeCheck_23922, Cond.code yJ7_rangeCheck_23922 cJ7_rangeCheck_23922 3 none, Cond.methodLink RX7 84 yX7_agree, Cond.instanceMethod yX7_agree, Cond.selects RX7 yX7_agree yX7_agree, Cond.code yX7_agree cX7_agree 1 (some .boolean)]
def wsX7_tray : List Cond := .code yX7_tray cX7_tray 4 (some .boolean) :: ((wsX7_tray_r1 ++ wsX7_tray_r2) ++ wsX70 ++ wsX60)
def wsX7_write_r1 : List Cond := [Cond.fieldLink RX7 10 "SpotRows" "trays" "LSpotRows$Trays;", Cond.methodLink RX7 88 yX6_whyNoPlace, Cond.instanceMethod yX6_whyNoPlace, Cond.selects RX6 yX6_whyNoPlace yX6_whyNoPlace, Cond.initialized RX6, Cond.code yX6_whyNoPlace cX6_whyNoPlace 3 (some .int), Cond.fieldLink RX6 19 "SpotRows$Trays" "sizes" "[I", Cond.static yX7_isWithin, Cond.initialized RX7, Cond.code yX7_isWithin cX7_isWithin 2 (some .boolean), Cond.methodLink RX6 32 yX6_isMissing, Cond.instanceMethod yX6_isMissing, Cond.selects RX6 yX6_isMissing yX6_isMissing, Cond.code yX6_isMissing cX6_isMissing 2 (some .boolean), Cond.fieldLink RX6 15 "SpotRows$Trays" "sorts" "[I", Cond.methodLink RX7 77 yX7_refuse, Cond.instanceMethod yX7_refuse, Cond.selects RX7 yX7_refuse yX7_refuse, Cond.code yX7_refuse cX7_refuse 2 (some .boolean), Cond.fieldLink RX7 58 "SpotRows" "outcome" "I", Cond.methodLink RX7 92 yX6_put, Cond.instanceMethod yX6_put, Cond.selects RX6 yX6_put yX6_put, Cond.code yX6_put cX6_put 5 none]
def wsX7_write_r2 : List Cond := [Cond.fieldLink RX6 9 "SpotRows$Trays" "cells" "[J", Cond.methodLink RX6 39 yX6_cut, Cond.static yX6_cut, Cond.code yX6_cut cX6_cut 3 (some .long), Cond.methodLink RX7 84 yX7_agree, Cond.instanceMethod yX7_agree, Cond.selects RX7 yX7_agree yX7_agree, Cond.code yX7_agree cX7_agree 1 (some .boolean)]
def wsX7_write : List Cond := .code yX7_write cX7_write 6 (some .boolean) :: ((wsX7_write_r1 ++ wsX7_write_r2) ++ wsX70 ++ wsX60)
def wsX7_lack : List Cond := .code yX7_lack cX7_lack 2 (some .int) :: ([.fieldLink RX7 58 "SpotRows" "outcome" "I"] ++ wsX70)
def wsX7_read_r1 : List Cond := [Cond.fieldLink RX7 10 "SpotRows" "trays" "LSpotRows$Trays;", Cond.fieldLink RX7 58 "SpotRows" "outcome" "I", Cond.methodLink RX7 88 yX6_whyNoPlace, Cond.instanceMethod yX6_whyNoPlace, Cond.selects RX6 yX6_whyNoPlace yX6_whyNoPlace, Cond.initialized RX6, Cond.code yX6_whyNoPlace cX6_whyNoPlace 3 (some .int), Cond.fieldLink RX6 19 "SpotRows$Trays" "sizes" "[I", Cond.static yX7_isWithin, Cond.initialized RX7, Cond.code yX7_isWithin cX7_isWithin 2 (some .boolean), Cond.methodLink RX6 32 yX6_isMissing, Cond.instanceMethod yX6_isMissing, Cond.selects RX6 yX6_isMissing yX6_isMissing, Cond.code yX6_isMissing cX6_isMissing 2 (some .boolean), Cond.fieldLink RX6 15 "SpotRows$Trays" "sorts" "[I", Cond.methodLink RX7 96 yX7_lack, Cond.instanceMethod yX7_lack, Cond.selects RX7 yX7_lack yX7_lack, Cond.code yX7_lack cX7_lack 2 (some .int), Cond.methodLink RX7 100 yX6_numberAt, Cond.instanceMethod yX6_numberAt, Cond.selects RX6 yX6_numberAt yX6_numberAt, Cond.code yX6_numberAt cX6_numberAt 3 (some .long)]
def wsX7_read_r2 : List Cond := [Cond.fieldLink RX6 9 "SpotRows$Trays" "cells" "[J"]
def wsX7_read : List Cond := .code yX7_read cX7_read 4 (some .long) :: ((wsX7_read_r1 ++ wsX7_read_r2) ++ wsX70 ++ wsX60)
def wsX7_whyNoPour : List Cond := .code yX7_whyNoPour cX7_whyNoPour 6 (some .int) :: ([.fieldLink RX7 10 "SpotRows" "trays" "LSpotRows$Trays;", .methodLink RX7 69 yX7_isWithin, .static yX7_isWithin, .initialized RX7, .code yX7_isWithin cX7_isWithin 2 (some .boolean), .methodLink RX7 261 yX6_isMissing, .instanceMethod yX6_isMissing, .selects RX6 yX6_isMissing yX6_isMissing, .initialized RX6, .code yX6_isMissing cX6_isMissing 2 (some .boolean), .fieldLink RX6 15 "SpotRows$Trays" "sorts" "[I", .methodLink RX7 264 yX6_areAlike, .instanceMethod yX6_areAlike, .selects RX6 yX6_areAlike yX6_areAlike, .code yX6_areAlike cX6_areAlike 3 (some .boolean), .methodLink RX7 267 yX6_holds, .instanceMethod yX6_holds, .selects RX6 yX6_holds yX6_holds, .code yX6_holds cX6_holds 4 (some .boolean), .fieldLink RX6 19 "SpotRows$Trays" "sizes" "[I"] ++ wsX70 ++ wsX60)
def wsX7_pour_r1 : List Cond := [Cond.fieldLink RX7 10 "SpotRows" "trays" "LSpotRows$Trays;", Cond.methodLink RX7 104 yX7_whyNoPour, Cond.instanceMethod yX7_whyNoPour, Cond.selects RX7 yX7_whyNoPour yX7_whyNoPour, Cond.initialized RX7, Cond.code yX7_whyNoPour cX7_whyNoPour 6 (some .int), Cond.methodLink RX7 69 yX7_isWithin, Cond.static yX7_isWithin, Cond.code yX7_isWithin cX7_isWithin 2 (some .boolean), Cond.methodLink RX7 261 yX6_isMissing, Cond.instanceMethod yX6_isMissing, Cond.selects RX6 yX6_isMissing yX6_isMissing, Cond.initialized RX6, Cond.code yX6_isMissing cX6_isMissing 2 (some .boolean), Cond.fieldLink RX6 15 "SpotRows$Trays" "sorts" "[I", Cond.methodLink RX7 264 yX6_areAlike, Cond.instanceMethod yX6_areAlike, Cond.selects RX6 yX6_areAlike yX6_areAlike, Cond.code yX6_areAlike cX6_areAlike 3 (some .boolean), Cond.methodLink RX7 267 yX6_holds, Cond.instanceMethod yX6_holds, Cond.selects RX6 yX6_holds yX6_holds, Cond.code yX6_holds cX6_holds 4 (some .boolean), Cond.fieldLink RX6 19 "SpotRows$Trays" "sizes" "[I"]
def wsX7_pour_r2 : List Cond := [Cond.methodLink RX7 77 yX7_refuse, Cond.instanceMethod yX7_refuse, Cond.selects RX7 yX7_refuse yX7_refuse, Cond.code yX7_refuse cX7_refuse 2 (some .boolean), Cond.fieldLink RX7 58 "SpotRows" "outcome" "I", Cond.methodLink RX7 108 yX6_carry, Cond.instanceMethod yX6_carry, Cond.selects RX6 yX6_carry yX6_carry, Cond.code yX6_carry cX6_carry 6 none, Cond.fieldLink RX6 9 "SpotRows$Trays" "cells" "[J", Cond.methodLink RX6 43 arraycopyName, Cond.native arraycopyName, Cond.static arraycopyName, Cond.initialized "java/lang/System", Cond.methodLink RX7 84 yX7_agree, Cond.instanceMethod yX7_agree, Cond.selects RX7 yX7_agree yX7_agree, Cond.code yX7_agree cX7_agree 1 (some .boolean)]
def wsX7_pour : List Cond := .code yX7_pour cX7_pour 7 (some .boolean) :: ((wsX7_pour_r1 ++ wsX7_pour_r2) ++ wsX70 ++ wsX60)
def wsX7_answer : List Cond := .code yX7_answer cX7_answer 2 (some .int) :: ([.fieldLink RX7 58 "SpotRows" "outcome" "I"] ++ wsX70)
def wsX7_eye : List Cond := .code yX7_eye cX7_eye 1 (some .int) :: ([.fieldLink RX7 19 "SpotRows" "tellings" "LSpotRows$Tellings;", .methodLink RX7 96 yX7_lack, .instanceMethod yX7_lack, .selects RX7 yX7_lack yX7_lack, .initialized RX7, .code yX7_lack cX7_lack 2 (some .int), .fieldLink RX7 58 "SpotRows" "outcome" "I", .methodLink RX7 115 yX5_addEye, .instanceMethod yX5_addEye, .selects RX5 yX5_addEye yX5_addEye, .initialized RX5, .code yX5_addEye cX5_addEye 1 (some .int), .fieldLink RX5 27 "SpotRows$Tellings" "eyes" "I", .methodLink RX7 119 yX7_answer, .instanceMethod yX7_answer, .selects RX7 yX7_answer yX7_answer, .code yX7_answer cX7_answer 2 (some .int)] ++ wsX70 ++ wsX50)
def wsX7_isEye : List Cond := .code yX7_isEye cX7_isEye 2 (some .boolean) :: ([.fieldLink RX7 19 "SpotRows" "tellings" "LSpotRows$Tellings;"] ++ wsX70 ++ wsX50)
def wsX7_isDay : List Cond := .code yX7_isDay cX7_isDay 1 (some .boolean) :: ([.methodLink RX7 69 yX7_isWithin, .static yX7_isWithin, .initialized RX7, .code yX7_isWithin cX7_isWithin 2 (some .boolean)])
def wsX7_tell_r1 : List Cond := [Cond.fieldLink RX7 19 "SpotRows" "tellings" "LSpotRows$Tellings;", Cond.methodLink RX7 122 yX7_isEye, Cond.instanceMethod yX7_isEye, Cond.selects RX7 yX7_isEye yX7_isEye, Cond.initialized RX7, Cond.code yX7_isEye cX7_isEye 2 (some .boolean), Cond.methodLink RX7 125 yX7_isDay, Cond.static yX7_isDay, Cond.code yX7_isDay cX7_isDay 1 (some .boolean), Cond.methodLink RX7 69 yX7_isWithin, Cond.static yX7_isWithin, Cond.code yX7_isWithin cX7_isWithin 2 (some .boolean), Cond.methodLink RX7 128 yX5_canBeTold, Cond.static yX5_canBeTold, Cond.initialized RX5, Cond.code yX5_canBeTold cX5_canBeTold 2 (some .boolean), Cond.methodLink RX7 77 yX7_refuse, Cond.instanceMethod yX7_refuse, Cond.selects RX7 yX7_refuse yX7_refuse, Cond.code yX7_refuse cX7_refuse 2 (some .boolean), Cond.fieldLink RX7 58 "SpotRows" "outcome" "I", Cond.methodLink RX7 131 yX5_put, Cond.instanceMethod yX5_put, Cond.selects RX5 yX5_put yX5_put]
def wsX7_tell_r2 : List Cond := [Cond.code yX5_put cX5_put 4 none, Cond.fieldLink RX5 9 "SpotRows$Tellings" "codes" "[I", Cond.methodLink RX5 55 yX5_countIn, Cond.instanceMethod yX5_countIn, Cond.selects RX5 yX5_countIn yX5_countIn, Cond.code yX5_countIn cX5_countIn 7 none, Cond.fieldLink RX5 27 "SpotRows$Tellings" "eyes" "I", Cond.fieldLink RX5 15 "SpotRows$Tellings" "bothDays" "[I", Cond.fieldLink RX5 18 "SpotRows$Tellings" "bothSums" "[I", Cond.methodLink RX5 45 yX5_has, Cond.instanceMethod yX5_has, Cond.selects RX5 yX5_has yX5_has, Cond.code yX5_has cX5_has 3 (some .boolean), Cond.methodLink RX5 59 yX5_numberOf, Cond.instanceMethod yX5_numberOf, Cond.selects RX5 yX5_numberOf yX5_numberOf, Cond.code yX5_numberOf cX5_numberOf 3 (some .int), Cond.methodLink RX5 48 yX5_groupsOf, Cond.instanceMethod yX5_groupsOf, Cond.selects RX5 yX5_groupsOf yX5_groupsOf, Cond.code yX5_groupsOf cX5_groupsOf 3 (some .int), Cond.methodLink RX5 52 yX5_spotsOf, Cond.instanceMethod yX5_spotsOf, Cond.selects RX5 yX5_spotsOf yX5_spotsOf]
def wsX7_tell_r3 : List Cond := [Cond.code yX5_spotsOf cX5_spotsOf 3 (some .int), Cond.methodLink RX7 84 yX7_agree, Cond.instanceMethod yX7_agree, Cond.selects RX7 yX7_agree yX7_agree, Cond.code yX7_agree cX7_agree 1 (some .boolean)]
def wsX7_tell : List Cond := .code yX7_tell cX7_tell 5 (some .boolean) :: ((wsX7_tell_r1 ++ (wsX7_tell_r2 ++ wsX7_tell_r3)) ++ wsX70 ++ wsX50)
def wsX7_unsay_r1 : List Cond := [Cond.fieldLink RX7 19 "SpotRows" "tellings" "LSpotRows$Tellings;", Cond.methodLink RX7 122 yX7_isEye, Cond.instanceMethod yX7_isEye, Cond.selects RX7 yX7_isEye yX7_isEye, Cond.initialized RX7, Cond.code yX7_isEye cX7_isEye 2 (some .boolean), Cond.methodLink RX7 125 yX7_isDay, Cond.static yX7_isDay, Cond.code yX7_isDay cX7_isDay 1 (some .boolean), Cond.methodLink RX7 69 yX7_isWithin, Cond.static yX7_isWithin, Cond.code yX7_isWithin cX7_isWithin 2 (some .boolean), Cond.methodLink RX7 77 yX7_refuse, Cond.instanceMethod yX7_refuse, Cond.selects RX7 yX7_refuse yX7_refuse, Cond.code yX7_refuse cX7_refuse 2 (some .boolean), Cond.fieldLink RX7 58 "SpotRows" "outcome" "I", Cond.methodLink RX7 133 yX5_has, Cond.instanceMethod yX5_has, Cond.selects RX5 yX5_has yX5_has, Cond.initialized RX5, Cond.code yX5_has cX5_has 3 (some .boolean), Cond.fieldLink RX5 9 "SpotRows$Tellings" "codes" "[I", Cond.methodLink RX7 131 yX5_put]
def wsX7_unsay_r2 : List Cond := [Cond.instanceMethod yX5_put, Cond.selects RX5 yX5_put yX5_put, Cond.code yX5_put cX5_put 4 none, Cond.methodLink RX5 55 yX5_countIn, Cond.instanceMethod yX5_countIn, Cond.selects RX5 yX5_countIn yX5_countIn, Cond.code yX5_countIn cX5_countIn 7 none, Cond.fieldLink RX5 27 "SpotRows$Tellings" "eyes" "I", Cond.fieldLink RX5 15 "SpotRows$Tellings" "bothDays" "[I", Cond.fieldLink RX5 18 "SpotRows$Tellings" "bothSums" "[I", Cond.methodLink RX5 45 yX5_has, Cond.methodLink RX5 59 yX5_numberOf, Cond.instanceMethod yX5_numberOf, Cond.selects RX5 yX5_numberOf yX5_numberOf, Cond.code yX5_numberOf cX5_numberOf 3 (some .int), Cond.methodLink RX5 48 yX5_groupsOf, Cond.instanceMethod yX5_groupsOf, Cond.selects RX5 yX5_groupsOf yX5_groupsOf, Cond.code yX5_groupsOf cX5_groupsOf 3 (some .int), Cond.methodLink RX5 52 yX5_spotsOf, Cond.instanceMethod yX5_spotsOf, Cond.selects RX5 yX5_spotsOf yX5_spotsOf, Cond.code yX5_spotsOf cX5_spotsOf 3 (some .int), Cond.methodLink RX7 84 yX7_agree]
def wsX7_unsay_r3 : List Cond := [Cond.instanceMethod yX7_agree, Cond.selects RX7 yX7_agree yX7_agree, Cond.code yX7_agree cX7_agree 1 (some .boolean)]
def wsX7_unsay : List Cond := .code yX7_unsay cX7_unsay 3 (some .boolean) :: ((wsX7_unsay_r1 ++ (wsX7_unsay_r2 ++ wsX7_unsay_r3)) ++ wsX70 ++ wsX50)
def wsX7_whyNoBook_r1 : List Cond := [Cond.fieldLink RX7 10 "SpotRows" "trays" "LSpotRows$Trays;", Cond.methodLink RX7 122 yX7_isEye, Cond.instanceMethod yX7_isEye, Cond.selects RX7 yX7_isEye yX7_isEye, Cond.initialized RX7, Cond.code yX7_isEye cX7_isEye 2 (some .boolean), Cond.fieldLink RX7 19 "SpotRows" "tellings" "LSpotRows$Tellings;", Cond.methodLink RX7 125 yX7_isDay, Cond.static yX7_isDay, Cond.code yX7_isDay cX7_isDay 1 (some .boolean), Cond.methodLink RX7 69 yX7_isWithin, Cond.static yX7_isWithin, Cond.code yX7_isWithin cX7_isWithin 2 (some .boolean), Cond.methodLink RX7 261 yX6_isMissing, Cond.instanceMethod yX6_isMissing, Cond.selects RX6 yX6_isMissing yX6_isMissing, Cond.initialized RX6, Cond.code yX6_isMissing cX6_isMissing 2 (some .boolean), Cond.fieldLink RX6 15 "SpotRows$Trays" "sorts" "[I", Cond.methodLink RX7 267 yX6_holds, Cond.instanceMethod yX6_holds, Cond.selects RX6 yX6_holds yX6_holds, Cond.code yX6_holds cX6_holds 4 (some .boolean), Cond.fieldLink RX6 19 "SpotRows$Trays" "sizes" "[I"]
def wsX7_whyNoBook_r2 : List Cond := [Cond.methodLink RX7 100 yX6_numberAt, Cond.instanceMethod yX6_numberAt, Cond.selects RX6 yX6_numberAt yX6_numberAt, Cond.code yX6_numberAt cX6_numberAt 3 (some .long), Cond.fieldLink RX6 9 "SpotRows$Trays" "cells" "[J", Cond.methodLink RX7 271 yX5_isCode, Cond.static yX5_isCode, Cond.initialized RX5, Cond.code yX5_isCode cX5_isCode 3 (some .boolean), Cond.constantLong RX5 38 (-1), Cond.constantLong RX5 40 (20200), Cond.methodLink RX5 42 yX5_canBeTold, Cond.static yX5_canBeTold, Cond.code yX5_canBeTold cX5_canBeTold 2 (some .boolean)]
def wsX7_whyNoBook : List Cond := .code yX7_whyNoBook cX7_whyNoBook 6 (some .int) :: ((wsX7_whyNoBook_r1 ++ wsX7_whyNoBook_r2) ++ wsX70 ++ wsX50 ++ wsX60)
def wsX7_book_r1 : List Cond := [Cond.fieldLink RX7 19 "SpotRows" "tellings" "LSpotRows$Tellings;", Cond.fieldLink RX7 10 "SpotRows" "trays" "LSpotRows$Trays;", Cond.methodLink RX7 136 yX7_whyNoBook, Cond.instanceMethod yX7_whyNoBook, Cond.selects RX7 yX7_whyNoBook yX7_whyNoBook, Cond.initialized RX7, Cond.code yX7_whyNoBook cX7_whyNoBook 6 (some .int), Cond.methodLink RX7 122 yX7_isEye, Cond.instanceMethod yX7_isEye, Cond.selects RX7 yX7_isEye yX7_isEye, Cond.code yX7_isEye cX7_isEye 2 (some .boolean), Cond.methodLink RX7 125 yX7_isDay, Cond.static yX7_isDay, Cond.code yX7_isDay cX7_isDay 1 (some .boolean), Cond.methodLink RX7 69 yX7_isWithin, Cond.static yX7_isWithin, Cond.code yX7_isWithin cX7_isWithin 2 (some .boolean), Cond.methodLink RX7 261 yX6_isMissing, Cond.instanceMethod yX6_isMissing, Cond.selects RX6 yX6_isMissing yX6_isMissing, Cond.initialized RX6, Cond.code yX6_isMissing cX6_isMissing 2 (some .boolean), Cond.fieldLink RX6 15 "SpotRows$Trays" "sorts" "[I", Cond.methodLink RX7 267 yX6_holds]
def wsX7_book_r2 : List Cond := [Cond.instanceMethod yX6_holds, Cond.selects RX6 yX6_holds yX6_holds, Cond.code yX6_holds cX6_holds 4 (some .boolean), Cond.fieldLink RX6 19 "SpotRows$Trays" "sizes" "[I", Cond.methodLink RX7 100 yX6_numberAt, Cond.instanceMethod yX6_numberAt, Cond.selects RX6 yX6_numberAt yX6_numberAt, Cond.code yX6_numberAt cX6_numberAt 3 (some .long), Cond.fieldLink RX6 9 "SpotRows$Trays" "cells" "[J", Cond.methodLink RX7 271 yX5_isCode, Cond.static yX5_isCode, Cond.initialized RX5, Cond.code yX5_isCode cX5_isCode 3 (some .boolean), Cond.constantLong RX5 38 (-1), Cond.constantLong RX5 40 (20200), Cond.methodLink RX5 42 yX5_canBeTold, Cond.static yX5_canBeTold, Cond.code yX5_canBeTold cX5_canBeTold 2 (some .boolean), Cond.methodLink RX7 77 yX7_refuse, Cond.instanceMethod yX7_refuse, Cond.selects RX7 yX7_refuse yX7_refuse, Cond.code yX7_refuse cX7_refuse 2 (some .boolean), Cond.fieldLink RX7 58 "SpotRows" "outcome" "I", Cond.methodLink RX7 131 yX5_put]
def wsX7_book_r3 : List Cond := [Cond.instanceMethod yX5_put, Cond.selects RX5 yX5_put yX5_put, Cond.code yX5_put cX5_put 4 none, Cond.fieldLink RX5 9 "SpotRows$Tellings" "codes" "[I", Cond.methodLink RX5 55 yX5_countIn, Cond.instanceMethod yX5_countIn, Cond.selects RX5 yX5_countIn yX5_countIn, Cond.code yX5_countIn cX5_countIn 7 none, Cond.fieldLink RX5 27 "SpotRows$Tellings" "eyes" "I", Cond.fieldLink RX5 15 "SpotRows$Tellings" "bothDays" "[I", Cond.fieldLink RX5 18 "SpotRows$Tellings" "bothSums" "[I", Cond.methodLink RX5 45 yX5_has, Cond.instanceMethod yX5_has, Cond.selects RX5 yX5_has yX5_has, Cond.code yX5_has cX5_has 3 (some .boolean), Cond.methodLink RX5 59 yX5_numberOf, Cond.instanceMethod yX5_numberOf, Cond.selects RX5 yX5_numberOf yX5_numberOf, Cond.code yX5_numberOf cX5_numberOf 3 (some .int), Cond.methodLink RX5 48 yX5_groupsOf, Cond.instanceMethod yX5_groupsOf, Cond.selects RX5 yX5_groupsOf yX5_groupsOf, Cond.code yX5_groupsOf cX5_groupsOf 3 (some .int), Cond.methodLink RX5 52 yX5_spotsOf]
def wsX7_book_r4 : List Cond := [Cond.instanceMethod yX5_spotsOf, Cond.selects RX5 yX5_spotsOf yX5_spotsOf, Cond.code yX5_spotsOf cX5_spotsOf 3 (some .int), Cond.methodLink RX7 84 yX7_agree, Cond.instanceMethod yX7_agree, Cond.selects RX7 yX7_agree yX7_agree, Cond.code yX7_agree cX7_agree 1 (some .boolean)]
def wsX7_book : List Cond := .code yX7_book cX7_book 7 (some .boolean) :: ((wsX7_book_r1 ++ (wsX7_book_r2 ++ (wsX7_book_r3 ++ wsX7_book_r4))) ++ wsX70 ++ wsX50 ++ wsX60)
def wsX7_told_r1 : List Cond := [Cond.fieldLink RX7 19 "SpotRows" "tellings" "LSpotRows$Tellings;", Cond.methodLink RX7 122 yX7_isEye, Cond.instanceMethod yX7_isEye, Cond.selects RX7 yX7_isEye yX7_isEye, Cond.initialized RX7, Cond.code yX7_isEye cX7_isEye 2 (some .boolean), Cond.methodLink RX7 125 yX7_isDay, Cond.static yX7_isDay, Cond.code yX7_isDay cX7_isDay 1 (some .boolean), Cond.methodLink RX7 69 yX7_isWithin, Cond.static yX7_isWithin, Cond.code yX7_isWithin cX7_isWithin 2 (some .boolean), Cond.methodLink RX7 96 yX7_lack, Cond.instanceMethod yX7_lack, Cond.selects RX7 yX7_lack yX7_lack, Cond.code yX7_lack cX7_lack 2 (some .int), Cond.fieldLink RX7 58 "SpotRows" "outcome" "I", Cond.methodLink RX7 133 yX5_has, Cond.instanceMethod yX5_has, Cond.selects RX5 yX5_has yX5_has, Cond.initialized RX5, Cond.code yX5_has cX5_has 3 (some .boolean), Cond.fieldLink RX5 9 "SpotRows$Tellings" "codes" "[I", Cond.methodLink RX7 140 yX5_groupsOf]
def wsX7_told_r2 : List Cond := [Cond.instanceMethod yX5_groupsOf, Cond.selects RX5 yX5_groupsOf yX5_groupsOf, Cond.code yX5_groupsOf cX5_groupsOf 3 (some .int), Cond.methodLink RX7 119 yX7_answer, Cond.instanceMethod yX7_answer, Cond.selects RX7 yX7_answer yX7_answer, Cond.code yX7_answer cX7_answer 2 (some .int), Cond.methodLink RX7 143 yX5_spotsOf, Cond.instanceMethod yX5_spotsOf, Cond.selects RX5 yX5_spotsOf yX5_spotsOf, Cond.code yX5_spotsOf cX5_spotsOf 3 (some .int), Cond.methodLink RX7 146 yX5_numberOf, Cond.instanceMethod yX5_numberOf, Cond.selects RX5 yX5_numberOf yX5_numberOf, Cond.code yX5_numberOf cX5_numberOf 3 (some .int), Cond.methodLink RX5 48 yX5_groupsOf, Cond.methodLink RX5 52 yX5_spotsOf]
def wsX7_told : List Cond := .code yX7_told cX7_told 4 (some .int) :: ((wsX7_told_r1 ++ wsX7_told_r2) ++ wsX70 ++ wsX50)
def wsX7_days_r1 : List Cond := [Cond.fieldLink RX7 19 "SpotRows" "tellings" "LSpotRows$Tellings;", Cond.methodLink RX7 122 yX7_isEye, Cond.instanceMethod yX7_isEye, Cond.selects RX7 yX7_isEye yX7_isEye, Cond.initialized RX7, Cond.code yX7_isEye cX7_isEye 2 (some .boolean), Cond.methodLink RX7 96 yX7_lack, Cond.instanceMethod yX7_lack, Cond.selects RX7 yX7_lack yX7_lack, Cond.code yX7_lack cX7_lack 2 (some .int), Cond.fieldLink RX7 58 "SpotRows" "outcome" "I", Cond.methodLink RX7 149 yX5_countDays, Cond.instanceMethod yX5_countDays, Cond.selects RX5 yX5_countDays yX5_countDays, Cond.initialized RX5, Cond.code yX5_countDays cX5_countDays 6 (some .int), Cond.methodLink RX5 45 yX5_has, Cond.instanceMethod yX5_has, Cond.selects RX5 yX5_has yX5_has, Cond.code yX5_has cX5_has 3 (some .boolean), Cond.fieldLink RX5 9 "SpotRows$Tellings" "codes" "[I", Cond.methodLink RX7 119 yX7_answer, Cond.instanceMethod yX7_answer, Cond.selects RX7 yX7_answer yX7_answer]
def wsX7_days_r2 : List Cond := [Cond.code yX7_answer cX7_answer 2 (some .int)]
def wsX7_days : List Cond := .code yX7_days cX7_days 2 (some .int) :: ((wsX7_days_r1 ++ wsX7_days_r2) ++ wsX70 ++ wsX50)
def wsX7_rules : List Cond := .code yX7_rules cX7_rules 3 (some .boolean) :: ([.fieldLink RX7 19 "SpotRows" "tellings" "LSpotRows$Tellings;", .fieldLink RX7 47 "SpotRows" "row" "LSpotRows$Row;", .methodLink RX7 77 yX7_refuse, .instanceMethod yX7_refuse, .selects RX7 yX7_refuse yX7_refuse, .initialized RX7, .code yX7_refuse cX7_refuse 2 (some .boolean), .fieldLink RX7 58 "SpotRows" "outcome" "I", .methodLink RX7 84 yX7_agree, .instanceMethod yX7_agree, .selects RX7 yX7_agree yX7_agree, .code yX7_agree cX7_agree 1 (some .boolean)] ++ wsX70 ++ wsX50 ++ wsX30)
def wsX7_arePair : List Cond := .code yX7_arePair cX7_arePair 3 (some .boolean) :: ([.methodLink RX7 122 yX7_isEye, .instanceMethod yX7_isEye, .selects RX7 yX7_isEye yX7_isEye, .initialized RX7, .code yX7_isEye cX7_isEye 2 (some .boolean), .fieldLink RX7 19 "SpotRows" "tellings" "LSpotRows$Tellings;"] ++ wsX70 ++ wsX50)
def wsX7_both_r1 : List Cond := [Cond.fieldLink RX7 19 "SpotRows" "tellings" "LSpotRows$Tellings;", Cond.methodLink RX7 159 yX7_arePair, Cond.instanceMethod yX7_arePair, Cond.selects RX7 yX7_arePair yX7_arePair, Cond.initialized RX7, Cond.code yX7_arePair cX7_arePair 3 (some .boolean), Cond.methodLink RX7 122 yX7_isEye, Cond.instanceMethod yX7_isEye, Cond.selects RX7 yX7_isEye yX7_isEye, Cond.code yX7_isEye cX7_isEye 2 (some .boolean), Cond.methodLink RX7 96 yX7_lack, Cond.instanceMethod yX7_lack, Cond.selects RX7 yX7_lack yX7_lack, Cond.code yX7_lack cX7_lack 2 (some .int), Cond.fieldLink RX7 58 "SpotRows" "outcome" "I", Cond.methodLink RX7 162 yX5_countBoth, Cond.instanceMethod yX5_countBoth, Cond.selects RX5 yX5_countBoth yX5_countBoth, Cond.initialized RX5, Cond.code yX5_countBoth cX5_countBoth 3 (some .int), Cond.fieldLink RX5 15 "SpotRows$Tellings" "bothDays" "[I", Cond.methodLink RX7 119 yX7_answer, Cond.instanceMethod yX7_answer, Cond.selects RX7 yX7_answer yX7_answer]
def wsX7_both_r2 : List Cond := [Cond.code yX7_answer cX7_answer 2 (some .int)]
def wsX7_both : List Cond := .code yX7_both cX7_both 3 (some .int) :: ((wsX7_both_r1 ++ wsX7_both_r2) ++ wsX70 ++ wsX50)
def wsX7_answerOr : List Cond := .code yX7_answerOr cX7_answerOr 3 (some .int) :: ([.methodLink RX7 96 yX7_lack, .instanceMethod yX7_lack, .selects RX7 yX7_lack yX7_lack, .initialized RX7, .code yX7_lack cX7_lack 2 (some .int), .fieldLink RX7 58 "SpotRows" "outcome" "I", .methodLink RX7 119 yX7_answer, .instanceMethod yX7_answer, .selects RX7 yX7_answer yX7_answer, .code yX7_answer cX7_answer 2 (some .int)] ++ wsX70)
def wsX7_factor_r1 : List Cond := [Cond.fieldLink RX7 19 "SpotRows" "tellings" "LSpotRows$Tellings;", Cond.methodLink RX7 159 yX7_arePair, Cond.instanceMethod yX7_arePair, Cond.selects RX7 yX7_arePair yX7_arePair, Cond.initialized RX7, Cond.code yX7_arePair cX7_arePair 3 (some .boolean), Cond.methodLink RX7 122 yX7_isEye, Cond.instanceMethod yX7_isEye, Cond.selects RX7 yX7_isEye yX7_isEye, Cond.code yX7_isEye cX7_isEye 2 (some .boolean), Cond.methodLink RX7 96 yX7_lack, Cond.instanceMethod yX7_lack, Cond.selects RX7 yX7_lack yX7_lack, Cond.code yX7_lack cX7_lack 2 (some .int), Cond.fieldLink RX7 58 "SpotRows" "outcome" "I", Cond.methodLink RX7 165 yX5_factorOf, Cond.instanceMethod yX5_factorOf, Cond.selects RX5 yX5_factorOf yX5_factorOf, Cond.initialized RX5, Cond.code yX5_factorOf cX5_factorOf 6 (some .int), Cond.fieldLink RX5 18 "SpotRows$Tellings" "bothSums" "[I", Cond.fieldLink RX5 15 "SpotRows$Tellings" "bothDays" "[I", Cond.fieldLink RX5 31 "SpotRows$Tellings" "least" "I", Cond.constant RX5 66 (100000)]
def wsX7_factor_r2 : List Cond := [Cond.methodLink RX7 168 yX7_answerOr, Cond.instanceMethod yX7_answerOr, Cond.selects RX7 yX7_answerOr yX7_answerOr, Cond.code yX7_answerOr cX7_answerOr 3 (some .int), Cond.methodLink RX7 119 yX7_answer, Cond.instanceMethod yX7_answer, Cond.selects RX7 yX7_answer yX7_answer, Cond.code yX7_answer cX7_answer 2 (some .int)]
def wsX7_factor : List Cond := .code yX7_factor cX7_factor 3 (some .int) :: ((wsX7_factor_r1 ++ wsX7_factor_r2) ++ wsX70 ++ wsX50)
def wsX7_tellFraction : List Cond := .code yX7_tellFraction cX7_tellFraction 3 (some .int) :: ([.fieldLink RX7 54 "SpotRows" "latest" "LSpotRows$Fraction;", .methodLink RX7 258 yX1_put, .instanceMethod yX1_put, .selects RX1 yX1_put yX1_put, .initialized RX1, .code yX1_put cX1_put 4 none, .fieldLink RX1 7 "SpotRows$Fraction" "upper" "J", .fieldLink RX1 13 "SpotRows$Fraction" "lower" "J", .methodLink RX1 16 yX1_commonDivisor, .static yX1_commonDivisor, .code yX1_commonDivisor cX1_commonDivisor 6 (some .int), .methodLink RX7 119 yX7_answer, .instanceMethod yX7_answer, .selects RX7 yX7_answer yX7_answer, .initialized RX7, .code yX7_answer cX7_answer 2 (some .int), .fieldLink RX7 58 "SpotRows" "outcome" "I"] ++ wsX70 ++ wsX10)
def wsX7_middle_r1 : List Cond := [Cond.fieldLink RX7 26 "SpotRows" "ratios" "LSpotRows$Ratios;", Cond.fieldLink RX7 19 "SpotRows" "tellings" "LSpotRows$Tellings;", Cond.methodLink RX7 159 yX7_arePair, Cond.instanceMethod yX7_arePair, Cond.selects RX7 yX7_arePair yX7_arePair, Cond.initialized RX7, Cond.code yX7_arePair cX7_arePair 3 (some .boolean), Cond.methodLink RX7 122 yX7_isEye, Cond.instanceMethod yX7_isEye, Cond.selects RX7 yX7_isEye yX7_isEye, Cond.code yX7_isEye cX7_isEye 2 (some .boolean), Cond.methodLink RX7 96 yX7_lack, Cond.instanceMethod yX7_lack, Cond.selects RX7 yX7_lack yX7_lack, Cond.code yX7_lack cX7_lack 2 (some .int), Cond.fieldLink RX7 58 "SpotRows" "outcome" "I", Cond.methodLink RX7 171 yX2_gather, Cond.instanceMethod yX2_gather, Cond.selects RX2 yX2_gather yX2_gather, Cond.initialized RX2, Cond.code yX2_gather cX2_gather 5 none, Cond.fieldLink RX2 18 "SpotRows$Ratios" "many" "I", Cond.fieldLink RX2 9 "SpotRows$Ratios" "uppers" "[I", Cond.fieldLink RX2 15 "SpotRows$Ratios" "lowers" "[I"]
def wsX7_middle_r2 : List Cond := [Cond.methodLink RX2 22 yX5_haveBoth, Cond.instanceMethod yX5_haveBoth, Cond.selects RX5 yX5_haveBoth yX5_haveBoth, Cond.initialized RX5, Cond.code yX5_haveBoth cX5_haveBoth 4 (some .boolean), Cond.methodLink RX5 45 yX5_has, Cond.instanceMethod yX5_has, Cond.selects RX5 yX5_has yX5_has, Cond.code yX5_has cX5_has 3 (some .boolean), Cond.fieldLink RX5 9 "SpotRows$Tellings" "codes" "[I", Cond.methodLink RX2 28 yX5_numberOf, Cond.instanceMethod yX5_numberOf, Cond.selects RX5 yX5_numberOf yX5_numberOf, Cond.code yX5_numberOf cX5_numberOf 3 (some .int), Cond.methodLink RX5 48 yX5_groupsOf, Cond.instanceMethod yX5_groupsOf, Cond.selects RX5 yX5_groupsOf yX5_groupsOf, Cond.code yX5_groupsOf cX5_groupsOf 3 (some .int), Cond.methodLink RX5 52 yX5_spotsOf, Cond.instanceMethod yX5_spotsOf, Cond.selects RX5 yX5_spotsOf yX5_spotsOf, Cond.code yX5_spotsOf cX5_spotsOf 3 (some .int), Cond.methodLink RX7 178 yX2_order, Cond.instanceMethod yX2_order]
def wsX7_middle_r3 : List Cond := [Cond.selects RX2 yX2_order yX2_order, Cond.code yX2_order cX2_order 3 none, Cond.methodLink RX2 32 yX2_sink, Cond.instanceMethod yX2_sink, Cond.selects RX2 yX2_sink yX2_sink, Cond.code yX2_sink cX2_sink 6 none, Cond.methodLink RX7 188 yX7_tellFraction, Cond.instanceMethod yX7_tellFraction, Cond.selects RX7 yX7_tellFraction yX7_tellFraction, Cond.code yX7_tellFraction cX7_tellFraction 3 (some .int), Cond.fieldLink RX7 54 "SpotRows" "latest" "LSpotRows$Fraction;", Cond.methodLink RX7 258 yX1_put, Cond.instanceMethod yX1_put, Cond.selects RX1 yX1_put yX1_put, Cond.initialized RX1, Cond.code yX1_put cX1_put 4 none, Cond.fieldLink RX1 7 "SpotRows$Fraction" "upper" "J", Cond.fieldLink RX1 13 "SpotRows$Fraction" "lower" "J", Cond.methodLink RX1 16 yX1_commonDivisor, Cond.static yX1_commonDivisor, Cond.code yX1_commonDivisor cX1_commonDivisor 6 (some .int), Cond.methodLink RX7 119 yX7_answer, Cond.instanceMethod yX7_answer, Cond.selects RX7 yX7_answer yX7_answer]
def wsX7_middle_r4 : List Cond := [Cond.code yX7_answer cX7_answer 2 (some .int)]
def wsX7_middle : List Cond := .code yX7_middle cX7_middle 4 (some .int) :: ((wsX7_middle_r1 ++ (wsX7_middle_r2 ++ (wsX7_middle_r3 ++ wsX7_middle_r4))) ++ wsX70 ++ wsX20 ++ wsX50 ++ wsX10)
def wsX7_step_r1 : List Cond := [Cond.fieldLink RX7 33 "SpotRows" "steps" "LSpotRows$Steps;", Cond.fieldLink RX7 19 "SpotRows" "tellings" "LSpotRows$Tellings;", Cond.methodLink RX7 159 yX7_arePair, Cond.instanceMethod yX7_arePair, Cond.selects RX7 yX7_arePair yX7_arePair, Cond.initialized RX7, Cond.code yX7_arePair cX7_arePair 3 (some .boolean), Cond.methodLink RX7 122 yX7_isEye, Cond.instanceMethod yX7_isEye, Cond.selects RX7 yX7_isEye yX7_isEye, Cond.code yX7_isEye cX7_isEye 2 (some .boolean), Cond.methodLink RX7 69 yX7_isWithin, Cond.static yX7_isWithin, Cond.code yX7_isWithin cX7_isWithin 2 (some .boolean), Cond.methodLink RX7 96 yX7_lack, Cond.instanceMethod yX7_lack, Cond.selects RX7 yX7_lack yX7_lack, Cond.code yX7_lack cX7_lack 2 (some .int), Cond.fieldLink RX7 58 "SpotRows" "outcome" "I", Cond.methodLink RX7 191 yX4_gather, Cond.instanceMethod yX4_gather, Cond.selects RX4 yX4_gather yX4_gather, Cond.initialized RX4, Cond.code yX4_gather cX4_gather 6 none]
def wsX7_step_r2 : List Cond := [Cond.fieldLink RX4 9 "SpotRows$Steps" "levelSums" "[I", Cond.fieldLink RX4 15 "SpotRows$Steps" "levelDays" "[I", Cond.methodLink RX4 31 yJ7_fill_53178, Cond.static yJ7_fill_53178, Cond.initialized RJ7, Cond.code yJ7_fill_53178 cJ7_fill_53178 4 none, Cond.methodLink RX4 37 yX5_haveBoth, Cond.instanceMethod yX5_haveBoth, Cond.selects RX5 yX5_haveBoth yX5_haveBoth, Cond.initialized RX5, Cond.code yX5_haveBoth cX5_haveBoth 4 (some .boolean), Cond.methodLink RX5 45 yX5_has, Cond.instanceMethod yX5_has, Cond.selects RX5 yX5_has yX5_has, Cond.code yX5_has cX5_has 3 (some .boolean), Cond.fieldLink RX5 9 "SpotRows$Tellings" "codes" "[I", Cond.methodLink RX4 43 yX5_groupsOf, Cond.instanceMethod yX5_groupsOf, Cond.selects RX5 yX5_groupsOf yX5_groupsOf, Cond.code yX5_groupsOf cX5_groupsOf 3 (some .int), Cond.methodLink RX7 192 yX4_pool, Cond.instanceMethod yX4_pool, Cond.selects RX4 yX4_pool yX4_pool, Cond.code yX4_pool cX4_pool 2 none]
def wsX7_step_r3 : List Cond := [Cond.fieldLink RX4 27 "SpotRows$Steps" "blocks" "I", Cond.fieldLink RX4 18 "SpotRows$Steps" "blockSums" "[I", Cond.fieldLink RX4 21 "SpotRows$Steps" "blockDays" "[I", Cond.fieldLink RX4 24 "SpotRows$Steps" "blockFirsts" "[I", Cond.methodLink RX4 47 yX4_joinFalling, Cond.instanceMethod yX4_joinFalling, Cond.selects RX4 yX4_joinFalling yX4_joinFalling, Cond.code yX4_joinFalling cX4_joinFalling 1 none, Cond.methodLink RX4 50 yX4_lastFalls, Cond.instanceMethod yX4_lastFalls, Cond.selects RX4 yX4_lastFalls yX4_lastFalls, Cond.code yX4_lastFalls cX4_lastFalls 2 (some .boolean), Cond.methodLink RX7 195 yX4_blockFor, Cond.instanceMethod yX4_blockFor, Cond.selects RX4 yX4_blockFor yX4_blockFor, Cond.code yX4_blockFor cX4_blockFor 4 (some .int), Cond.methodLink RX7 188 yX7_tellFraction, Cond.instanceMethod yX7_tellFraction, Cond.selects RX7 yX7_tellFraction yX7_tellFraction, Cond.code yX7_tellFraction cX7_tellFraction 3 (some .int), Cond.fieldLink RX7 54 "SpotRows" "latest" "LSpotRows$Fraction;", Cond.methodLink RX7 258 yX1_put, Cond.instanceMethod yX1_put, Cond.selects RX1 yX1_put yX1_put]
def wsX7_step_r4 : List Cond := [Cond.initialized RX1, Cond.code yX1_put cX1_put 4 none, Cond.fieldLink RX1 7 "SpotRows$Fraction" "upper" "J", Cond.fieldLink RX1 13 "SpotRows$Fraction" "lower" "J", Cond.methodLink RX1 16 yX1_commonDivisor, Cond.static yX1_commonDivisor, Cond.code yX1_commonDivisor cX1_commonDivisor 6 (some .int), Cond.methodLink RX7 119 yX7_answer, Cond.instanceMethod yX7_answer, Cond.selects RX7 yX7_answer yX7_answer, Cond.code yX7_answer cX7_answer 2 (some .int)]
def wsX7_step : List Cond := .code yX7_step cX7_step 5 (some .int) :: ((wsX7_step_r1 ++ (wsX7_step_r2 ++ (wsX7_step_r3 ++ wsX7_step_r4))) ++ wsX70 ++ wsX40 ++ wsX50 ++ wsX10)
def wsX7_blind_r1 : List Cond := [Cond.fieldLink RX7 19 "SpotRows" "tellings" "LSpotRows$Tellings;", Cond.methodLink RX7 159 yX7_arePair, Cond.instanceMethod yX7_arePair, Cond.selects RX7 yX7_arePair yX7_arePair, Cond.initialized RX7, Cond.code yX7_arePair cX7_arePair 3 (some .boolean), Cond.methodLink RX7 122 yX7_isEye, Cond.instanceMethod yX7_isEye, Cond.selects RX7 yX7_isEye yX7_isEye, Cond.code yX7_isEye cX7_isEye 2 (some .boolean), Cond.methodLink RX7 96 yX7_lack, Cond.instanceMethod yX7_lack, Cond.selects RX7 yX7_lack yX7_lack, Cond.code yX7_lack cX7_lack 2 (some .int), Cond.fieldLink RX7 58 "SpotRows" "outcome" "I", Cond.methodLink RX7 162 yX5_countBoth, Cond.instanceMethod yX5_countBoth, Cond.selects RX5 yX5_countBoth yX5_countBoth, Cond.initialized RX5, Cond.code yX5_countBoth cX5_countBoth 3 (some .int), Cond.fieldLink RX5 15 "SpotRows$Tellings" "bothDays" "[I", Cond.methodLink RX7 204 yX5_countBothAbove, Cond.instanceMethod yX5_countBothAbove, Cond.selects RX5 yX5_countBothAbove yX5_countBothAbove]
def wsX7_blind_r2 : List Cond := [Cond.code yX5_countBothAbove cX5_countBothAbove 6 (some .int), Cond.methodLink RX5 62 yX5_haveBoth, Cond.instanceMethod yX5_haveBoth, Cond.selects RX5 yX5_haveBoth yX5_haveBoth, Cond.code yX5_haveBoth cX5_haveBoth 4 (some .boolean), Cond.methodLink RX5 45 yX5_has, Cond.instanceMethod yX5_has, Cond.selects RX5 yX5_has yX5_has, Cond.code yX5_has cX5_has 3 (some .boolean), Cond.fieldLink RX5 9 "SpotRows$Tellings" "codes" "[I", Cond.methodLink RX5 48 yX5_groupsOf, Cond.instanceMethod yX5_groupsOf, Cond.selects RX5 yX5_groupsOf yX5_groupsOf, Cond.code yX5_groupsOf cX5_groupsOf 3 (some .int), Cond.methodLink RX7 119 yX7_answer, Cond.instanceMethod yX7_answer, Cond.selects RX7 yX7_answer yX7_answer, Cond.code yX7_answer cX7_answer 2 (some .int)]
def wsX7_blind : List Cond := .code yX7_blind cX7_blind 5 (some .int) :: ((wsX7_blind_r1 ++ wsX7_blind_r2) ++ wsX70 ++ wsX50)
def wsX7_active_r1 : List Cond := [Cond.fieldLink RX7 19 "SpotRows" "tellings" "LSpotRows$Tellings;", Cond.methodLink RX7 122 yX7_isEye, Cond.instanceMethod yX7_isEye, Cond.selects RX7 yX7_isEye yX7_isEye, Cond.initialized RX7, Cond.code yX7_isEye cX7_isEye 2 (some .boolean), Cond.methodLink RX7 125 yX7_isDay, Cond.static yX7_isDay, Cond.code yX7_isDay cX7_isDay 1 (some .boolean), Cond.methodLink RX7 69 yX7_isWithin, Cond.static yX7_isWithin, Cond.code yX7_isWithin cX7_isWithin 2 (some .boolean), Cond.methodLink RX7 96 yX7_lack, Cond.instanceMethod yX7_lack, Cond.selects RX7 yX7_lack yX7_lack, Cond.code yX7_lack cX7_lack 2 (some .int), Cond.fieldLink RX7 58 "SpotRows" "outcome" "I", Cond.methodLink RX7 149 yX5_countDays, Cond.instanceMethod yX5_countDays, Cond.selects RX5 yX5_countDays yX5_countDays, Cond.initialized RX5, Cond.code yX5_countDays cX5_countDays 6 (some .int), Cond.methodLink RX5 45 yX5_has, Cond.instanceMethod yX5_has]
def wsX7_active_r2 : List Cond := [Cond.selects RX5 yX5_has yX5_has, Cond.code yX5_has cX5_has 3 (some .boolean), Cond.fieldLink RX5 9 "SpotRows$Tellings" "codes" "[I", Cond.methodLink RX7 207 yX5_countActive, Cond.instanceMethod yX5_countActive, Cond.selects RX5 yX5_countActive yX5_countActive, Cond.code yX5_countActive cX5_countActive 6 (some .int), Cond.methodLink RX5 48 yX5_groupsOf, Cond.instanceMethod yX5_groupsOf, Cond.selects RX5 yX5_groupsOf yX5_groupsOf, Cond.code yX5_groupsOf cX5_groupsOf 3 (some .int), Cond.methodLink RX7 188 yX7_tellFraction, Cond.instanceMethod yX7_tellFraction, Cond.selects RX7 yX7_tellFraction yX7_tellFraction, Cond.code yX7_tellFraction cX7_tellFraction 3 (some .int), Cond.fieldLink RX7 54 "SpotRows" "latest" "LSpotRows$Fraction;", Cond.methodLink RX7 258 yX1_put, Cond.instanceMethod yX1_put, Cond.selects RX1 yX1_put yX1_put, Cond.initialized RX1, Cond.code yX1_put cX1_put 4 none, Cond.fieldLink RX1 7 "SpotRows$Fraction" "upper" "J", Cond.fieldLink RX1 13 "SpotRows$Fraction" "lower" "J", Cond.methodLink RX1 16 yX1_commonDivisor]
def wsX7_active_r3 : List Cond := [Cond.static yX1_commonDivisor, Cond.code yX1_commonDivisor cX1_commonDivisor 6 (some .int), Cond.methodLink RX7 119 yX7_answer, Cond.instanceMethod yX7_answer, Cond.selects RX7 yX7_answer yX7_answer, Cond.code yX7_answer cX7_answer 2 (some .int)]
def wsX7_active : List Cond := .code yX7_active cX7_active 5 (some .int) :: ((wsX7_active_r1 ++ (wsX7_active_r2 ++ wsX7_active_r3)) ++ wsX70 ++ wsX50 ++ wsX10)
def wsX7_chain_r1 : List Cond := [Cond.fieldLink RX7 40 "SpotRows" "chains" "LSpotRows$Chains;", Cond.fieldLink RX7 19 "SpotRows" "tellings" "LSpotRows$Tellings;", Cond.methodLink RX7 122 yX7_isEye, Cond.instanceMethod yX7_isEye, Cond.selects RX7 yX7_isEye yX7_isEye, Cond.initialized RX7, Cond.code yX7_isEye cX7_isEye 2 (some .boolean), Cond.methodLink RX7 96 yX7_lack, Cond.instanceMethod yX7_lack, Cond.selects RX7 yX7_lack yX7_lack, Cond.code yX7_lack cX7_lack 2 (some .int), Cond.fieldLink RX7 58 "SpotRows" "outcome" "I", Cond.methodLink RX7 210 yX0_reckon, Cond.instanceMethod yX0_reckon, Cond.selects RX0 yX0_reckon yX0_reckon, Cond.initialized RX0, Cond.code yX0_reckon cX0_reckon 5 none, Cond.fieldLink RX0 9 "SpotRows$Chains" "links" "[I", Cond.fieldLink RX0 15 "SpotRows$Chains" "widths" "[I", Cond.fieldLink RX0 18 "SpotRows$Chains" "weights" "[I", Cond.methodLink RX0 24 yJ7_fill_53178, Cond.static yJ7_fill_53178, Cond.initialized RJ7, Cond.code yJ7_fill_53178 cJ7_fill_53178 4 none]
def wsX7_chain_r2 : List Cond := [Cond.methodLink RX0 36 yX0_reach, Cond.instanceMethod yX0_reach, Cond.selects RX0 yX0_reach yX0_reach, Cond.code yX0_reach cX0_reach 6 none, Cond.methodLink RX0 51 Lib.Math.min.name, Cond.static Lib.Math.min.name, Cond.initialized "java/lang/Math", Cond.code Lib.Math.min.name Lib.Math.min.code 2 (some .int), Cond.methodLink RX0 56 Lib.Math.max.name, Cond.static Lib.Math.max.name, Cond.code Lib.Math.max.name Lib.Math.max.code 2 (some .int), Cond.methodLink RX0 44 yX5_factorOf, Cond.instanceMethod yX5_factorOf, Cond.selects RX5 yX5_factorOf yX5_factorOf, Cond.initialized RX5, Cond.code yX5_factorOf cX5_factorOf 6 (some .int), Cond.fieldLink RX5 18 "SpotRows$Tellings" "bothSums" "[I", Cond.fieldLink RX5 15 "SpotRows$Tellings" "bothDays" "[I", Cond.fieldLink RX5 31 "SpotRows$Tellings" "least" "I", Cond.constant RX5 66 (100000), Cond.methodLink RX0 48 yX5_countBoth, Cond.instanceMethod yX5_countBoth, Cond.selects RX5 yX5_countBoth yX5_countBoth, Cond.code yX5_countBoth cX5_countBoth 3 (some .int)]
def wsX7_chain_r3 : List Cond := [Cond.methodLink RX0 40 yX0_weigh, Cond.instanceMethod yX0_weigh, Cond.selects RX0 yX0_weigh yX0_weigh, Cond.code yX0_weigh cX0_weigh 6 (some .int), Cond.constantLong RX0 67 (1000), Cond.fieldLink RX0 21 "SpotRows$Chains" "way" "[I", Cond.constantLong RX0 69 (1000000), Cond.methodLink RX0 71 Lib.MathLoose.min_long.x, Cond.static Lib.MathLoose.min_long.x, Cond.code Lib.MathLoose.min_long.x Lib.MathLoose.min_long.code 4 (some .long), Cond.methodLink RX0 63 yX0_walk, Cond.instanceMethod yX0_walk, Cond.selects RX0 yX0_walk yX0_walk, Cond.code yX0_walk cX0_walk 4 none, Cond.methodLink RX0 59 yX0_firstNext, Cond.instanceMethod yX0_firstNext, Cond.selects RX0 yX0_firstNext yX0_firstNext, Cond.code yX0_firstNext cX0_firstNext 5 (some .int), Cond.methodLink RX7 217 yX0_walk, Cond.methodLink RX7 119 yX7_answer, Cond.instanceMethod yX7_answer, Cond.selects RX7 yX7_answer yX7_answer, Cond.code yX7_answer cX7_answer 2 (some .int)]
def wsX7_chain : List Cond := .code yX7_chain cX7_chain 3 (some .int) :: ((wsX7_chain_r1 ++ (wsX7_chain_r2 ++ wsX7_chain_r3)) ++ wsX70 ++ wsX00 ++ wsX50)
def wsX7_weight_r1 : List Cond := [Cond.fieldLink RX7 40 "SpotRows" "chains" "LSpotRows$Chains;", Cond.fieldLink RX7 19 "SpotRows" "tellings" "LSpotRows$Tellings;", Cond.methodLink RX7 122 yX7_isEye, Cond.instanceMethod yX7_isEye, Cond.selects RX7 yX7_isEye yX7_isEye, Cond.initialized RX7, Cond.code yX7_isEye cX7_isEye 2 (some .boolean), Cond.methodLink RX7 96 yX7_lack, Cond.instanceMethod yX7_lack, Cond.selects RX7 yX7_lack yX7_lack, Cond.code yX7_lack cX7_lack 2 (some .int), Cond.fieldLink RX7 58 "SpotRows" "outcome" "I", Cond.methodLink RX7 210 yX0_reckon, Cond.instanceMethod yX0_reckon, Cond.selects RX0 yX0_reckon yX0_reckon, Cond.initialized RX0, Cond.code yX0_reckon cX0_reckon 5 none, Cond.fieldLink RX0 9 "SpotRows$Chains" "links" "[I", Cond.fieldLink RX0 15 "SpotRows$Chains" "widths" "[I", Cond.fieldLink RX0 18 "SpotRows$Chains" "weights" "[I", Cond.methodLink RX0 24 yJ7_fill_53178, Cond.static yJ7_fill_53178, Cond.initialized RJ7, Cond.code yJ7_fill_53178 cJ7_fill_53178 4 none]
def wsX7_weight_r2 : List Cond := [Cond.methodLink RX0 36 yX0_reach, Cond.instanceMethod yX0_reach, Cond.selects RX0 yX0_reach yX0_reach, Cond.code yX0_reach cX0_reach 6 none, Cond.methodLink RX0 51 Lib.Math.min.name, Cond.static Lib.Math.min.name, Cond.initialized "java/lang/Math", Cond.code Lib.Math.min.name Lib.Math.min.code 2 (some .int), Cond.methodLink RX0 56 Lib.Math.max.name, Cond.static Lib.Math.max.name, Cond.code Lib.Math.max.name Lib.Math.max.code 2 (some .int), Cond.methodLink RX0 44 yX5_factorOf, Cond.instanceMethod yX5_factorOf, Cond.selects RX5 yX5_factorOf yX5_factorOf, Cond.initialized RX5, Cond.code yX5_factorOf cX5_factorOf 6 (some .int), Cond.fieldLink RX5 18 "SpotRows$Tellings" "bothSums" "[I", Cond.fieldLink RX5 15 "SpotRows$Tellings" "bothDays" "[I", Cond.fieldLink RX5 31 "SpotRows$Tellings" "least" "I", Cond.constant RX5 66 (100000), Cond.methodLink RX0 48 yX5_countBoth, Cond.instanceMethod yX5_countBoth, Cond.selects RX5 yX5_countBoth yX5_countBoth, Cond.code yX5_countBoth cX5_countBoth 3 (some .int)]
def wsX7_weight_r3 : List Cond := [Cond.methodLink RX0 40 yX0_weigh, Cond.instanceMethod yX0_weigh, Cond.selects RX0 yX0_weigh yX0_weigh, Cond.code yX0_weigh cX0_weigh 6 (some .int), Cond.constantLong RX0 67 (1000), Cond.fieldLink RX0 21 "SpotRows$Chains" "way" "[I", Cond.constantLong RX0 69 (1000000), Cond.methodLink RX0 71 Lib.MathLoose.min_long.x, Cond.static Lib.MathLoose.min_long.x, Cond.code Lib.MathLoose.min_long.x Lib.MathLoose.min_long.code 4 (some .long), Cond.methodLink RX0 63 yX0_walk, Cond.instanceMethod yX0_walk, Cond.selects RX0 yX0_walk yX0_walk, Cond.code yX0_walk cX0_walk 4 none, Cond.methodLink RX0 59 yX0_firstNext, Cond.instanceMethod yX0_firstNext, Cond.selects RX0 yX0_firstNext yX0_firstNext, Cond.code yX0_firstNext cX0_firstNext 5 (some .int), Cond.methodLink RX7 168 yX7_answerOr, Cond.instanceMethod yX7_answerOr, Cond.selects RX7 yX7_answerOr yX7_answerOr, Cond.code yX7_answerOr cX7_answerOr 3 (some .int), Cond.methodLink RX7 119 yX7_answer, Cond.instanceMethod yX7_answer]
def wsX7_weight_r4 : List Cond := [Cond.selects RX7 yX7_answer yX7_answer, Cond.code yX7_answer cX7_answer 2 (some .int)]
def wsX7_weight : List Cond := .code yX7_weight cX7_weight 2 (some .int) :: ((wsX7_weight_r1 ++ (wsX7_weight_r2 ++ (wsX7_weight_r3 ++ wsX7_weight_r4))) ++ wsX70 ++ wsX00 ++ wsX50)
def wsX7_loop_r1 : List Cond := [Cond.fieldLink RX7 19 "SpotRows" "tellings" "LSpotRows$Tellings;", Cond.constantLong RX7 226 (-1), Cond.constantLong RX7 228 (1000000), Cond.methodLink RX7 159 yX7_arePair, Cond.instanceMethod yX7_arePair, Cond.selects RX7 yX7_arePair yX7_arePair, Cond.initialized RX7, Cond.code yX7_arePair cX7_arePair 3 (some .boolean), Cond.methodLink RX7 122 yX7_isEye, Cond.instanceMethod yX7_isEye, Cond.selects RX7 yX7_isEye yX7_isEye, Cond.code yX7_isEye cX7_isEye 2 (some .boolean), Cond.methodLink RX7 96 yX7_lack, Cond.instanceMethod yX7_lack, Cond.selects RX7 yX7_lack yX7_lack, Cond.code yX7_lack cX7_lack 2 (some .int), Cond.fieldLink RX7 58 "SpotRows" "outcome" "I", Cond.methodLink RX7 165 yX5_factorOf, Cond.instanceMethod yX5_factorOf, Cond.selects RX5 yX5_factorOf yX5_factorOf, Cond.initialized RX5, Cond.code yX5_factorOf cX5_factorOf 6 (some .int), Cond.fieldLink RX5 18 "SpotRows$Tellings" "bothSums" "[I", Cond.fieldLink RX5 15 "SpotRows$Tellings" "bothDays" "[I"]
def wsX7_loop_r2 : List Cond := [Cond.fieldLink RX5 31 "SpotRows$Tellings" "least" "I", Cond.constant RX5 66 (100000), Cond.methodLink RX7 119 yX7_answer, Cond.instanceMethod yX7_answer, Cond.selects RX7 yX7_answer yX7_answer, Cond.code yX7_answer cX7_answer 2 (some .int)]
def wsX7_loop : List Cond := .code yX7_loop cX7_loop 10 (some .int) :: ((wsX7_loop_r1 ++ wsX7_loop_r2) ++ wsX70 ++ wsX50)
def wsX7_day_r1 : List Cond := [Cond.fieldLink RX7 40 "SpotRows" "chains" "LSpotRows$Chains;", Cond.fieldLink RX7 19 "SpotRows" "tellings" "LSpotRows$Tellings;", Cond.fieldLink RX7 47 "SpotRows" "row" "LSpotRows$Row;", Cond.methodLink RX7 125 yX7_isDay, Cond.static yX7_isDay, Cond.initialized RX7, Cond.code yX7_isDay cX7_isDay 1 (some .boolean), Cond.methodLink RX7 69 yX7_isWithin, Cond.static yX7_isWithin, Cond.code yX7_isWithin cX7_isWithin 2 (some .boolean), Cond.methodLink RX7 96 yX7_lack, Cond.instanceMethod yX7_lack, Cond.selects RX7 yX7_lack yX7_lack, Cond.code yX7_lack cX7_lack 2 (some .int), Cond.fieldLink RX7 58 "SpotRows" "outcome" "I", Cond.methodLink RX7 210 yX0_reckon, Cond.instanceMethod yX0_reckon, Cond.selects RX0 yX0_reckon yX0_reckon, Cond.initialized RX0, Cond.code yX0_reckon cX0_reckon 5 none, Cond.fieldLink RX0 9 "SpotRows$Chains" "links" "[I", Cond.fieldLink RX0 15 "SpotRows$Chains" "widths" "[I", Cond.fieldLink RX0 18 "SpotRows$Chains" "weights" "[I", Cond.methodLink RX0 24 yJ7_fill_53178]
def wsX7_day_r2 : List Cond := [Cond.static yJ7_fill_53178, Cond.initialized RJ7, Cond.code yJ7_fill_53178 cJ7_fill_53178 4 none, Cond.methodLink RX0 36 yX0_reach, Cond.instanceMethod yX0_reach, Cond.selects RX0 yX0_reach yX0_reach, Cond.code yX0_reach cX0_reach 6 none, Cond.methodLink RX0 51 Lib.Math.min.name, Cond.static Lib.Math.min.name, Cond.initialized "java/lang/Math", Cond.code Lib.Math.min.name Lib.Math.min.code 2 (some .int), Cond.methodLink RX0 56 Lib.Math.max.name, Cond.static Lib.Math.max.name, Cond.code Lib.Math.max.name Lib.Math.max.code 2 (some .int), Cond.methodLink RX0 44 yX5_factorOf, Cond.instanceMethod yX5_factorOf, Cond.selects RX5 yX5_factorOf yX5_factorOf, Cond.initialized RX5, Cond.code yX5_factorOf cX5_factorOf 6 (some .int), Cond.fieldLink RX5 18 "SpotRows$Tellings" "bothSums" "[I", Cond.fieldLink RX5 15 "SpotRows$Tellings" "bothDays" "[I", Cond.fieldLink RX5 31 "SpotRows$Tellings" "least" "I", Cond.constant RX5 66 (100000), Cond.methodLink RX0 48 yX5_countBoth]
def wsX7_day_r3 : List Cond := [Cond.instanceMethod yX5_countBoth, Cond.selects RX5 yX5_countBoth yX5_countBoth, Cond.code yX5_countBoth cX5_countBoth 3 (some .int), Cond.methodLink RX0 40 yX0_weigh, Cond.instanceMethod yX0_weigh, Cond.selects RX0 yX0_weigh yX0_weigh, Cond.code yX0_weigh cX0_weigh 6 (some .int), Cond.constantLong RX0 67 (1000), Cond.fieldLink RX0 21 "SpotRows$Chains" "way" "[I", Cond.constantLong RX0 69 (1000000), Cond.methodLink RX0 71 Lib.MathLoose.min_long.x, Cond.static Lib.MathLoose.min_long.x, Cond.code Lib.MathLoose.min_long.x Lib.MathLoose.min_long.code 4 (some .long), Cond.methodLink RX0 63 yX0_walk, Cond.instanceMethod yX0_walk, Cond.selects RX0 yX0_walk yX0_walk, Cond.code yX0_walk cX0_walk 4 none, Cond.methodLink RX0 59 yX0_firstNext, Cond.instanceMethod yX0_firstNext, Cond.selects RX0 yX0_firstNext yX0_firstNext, Cond.code yX0_firstNext cX0_firstNext 5 (some .int), Cond.methodLink RX7 230 yX3_valueOfDay, Cond.instanceMethod yX3_valueOfDay, Cond.selects RX3 yX3_valueOfDay yX3_valueOfDay]
def wsX7_day_r4 : List Cond := [Cond.initialized RX3, Cond.code yX3_valueOfDay cX3_valueOfDay 8 (some .int), Cond.methodLink RX3 32 yX5_has, Cond.instanceMethod yX5_has, Cond.selects RX5 yX5_has yX5_has, Cond.code yX5_has cX5_has 3 (some .boolean), Cond.fieldLink RX5 9 "SpotRows$Tellings" "codes" "[I", Cond.methodLink RX3 36 yX5_numberOf, Cond.instanceMethod yX5_numberOf, Cond.selects RX5 yX5_numberOf yX5_numberOf, Cond.code yX5_numberOf cX5_numberOf 3 (some .int), Cond.methodLink RX5 48 yX5_groupsOf, Cond.instanceMethod yX5_groupsOf, Cond.selects RX5 yX5_groupsOf yX5_groupsOf, Cond.code yX5_groupsOf cX5_groupsOf 3 (some .int), Cond.methodLink RX5 52 yX5_spotsOf, Cond.instanceMethod yX5_spotsOf, Cond.selects RX5 yX5_spotsOf yX5_spotsOf, Cond.code yX5_spotsOf cX5_spotsOf 3 (some .int), Cond.methodLink RX7 168 yX7_answerOr, Cond.instanceMethod yX7_answerOr, Cond.selects RX7 yX7_answerOr yX7_answerOr, Cond.code yX7_answerOr cX7_answerOr 3 (some .int), Cond.methodLink RX7 119 yX7_answer]
def wsX7_day_r5 : List Cond := [Cond.instanceMethod yX7_answer, Cond.selects RX7 yX7_answer yX7_answer, Cond.code yX7_answer cX7_answer 2 (some .int)]
def wsX7_day : List Cond := .code yX7_day cX7_day 2 (some .int) :: ((wsX7_day_r1 ++ (wsX7_day_r2 ++ (wsX7_day_r3 ++ (wsX7_day_r4 ++ wsX7_day_r5)))) ++ wsX70 ++ wsX00 ++ wsX50)
def wsX7_isMonth : List Cond := .code yX7_isMonth cX7_isMonth 1 (some .boolean) :: ([.methodLink RX7 69 yX7_isWithin, .static yX7_isWithin, .initialized RX7, .code yX7_isWithin cX7_isWithin 2 (some .boolean)])
def wsX7_monthWithout_r1 : List Cond := [Cond.fieldLink RX7 40 "SpotRows" "chains" "LSpotRows$Chains;", Cond.fieldLink RX7 19 "SpotRows" "tellings" "LSpotRows$Tellings;", Cond.fieldLink RX7 47 "SpotRows" "row" "LSpotRows$Row;", Cond.methodLink RX7 210 yX0_reckon, Cond.instanceMethod yX0_reckon, Cond.selects RX0 yX0_reckon yX0_reckon, Cond.initialized RX0, Cond.code yX0_reckon cX0_reckon 5 none, Cond.fieldLink RX0 9 "SpotRows$Chains" "links" "[I", Cond.fieldLink RX0 15 "SpotRows$Chains" "widths" "[I", Cond.fieldLink RX0 18 "SpotRows$Chains" "weights" "[I", Cond.methodLink RX0 24 yJ7_fill_53178, Cond.static yJ7_fill_53178, Cond.initialized RJ7, Cond.code yJ7_fill_53178 cJ7_fill_53178 4 none, Cond.methodLink RX0 36 yX0_reach, Cond.instanceMethod yX0_reach, Cond.selects RX0 yX0_reach yX0_reach, Cond.code yX0_reach cX0_reach 6 none, Cond.methodLink RX0 51 Lib.Math.min.name, Cond.static Lib.Math.min.name, Cond.initialized "java/lang/Math", Cond.code Lib.Math.min.name Lib.Math.min.code 2 (some .int), Cond.methodLink RX0 56 Lib.Math.max.name]
def wsX7_monthWithout_r2 : List Cond := [Cond.static Lib.Math.max.name, Cond.code Lib.Math.max.name Lib.Math.max.code 2 (some .int), Cond.methodLink RX0 44 yX5_factorOf, Cond.instanceMethod yX5_factorOf, Cond.selects RX5 yX5_factorOf yX5_factorOf, Cond.initialized RX5, Cond.code yX5_factorOf cX5_factorOf 6 (some .int), Cond.fieldLink RX5 18 "SpotRows$Tellings" "bothSums" "[I", Cond.fieldLink RX5 15 "SpotRows$Tellings" "bothDays" "[I", Cond.fieldLink RX5 31 "SpotRows$Tellings" "least" "I", Cond.constant RX5 66 (100000), Cond.methodLink RX0 48 yX5_countBoth, Cond.instanceMethod yX5_countBoth, Cond.selects RX5 yX5_countBoth yX5_countBoth, Cond.code yX5_countBoth cX5_countBoth 3 (some .int), Cond.methodLink RX0 40 yX0_weigh, Cond.instanceMethod yX0_weigh, Cond.selects RX0 yX0_weigh yX0_weigh, Cond.code yX0_weigh cX0_weigh 6 (some .int), Cond.constantLong RX0 67 (1000), Cond.fieldLink RX0 21 "SpotRows$Chains" "way" "[I", Cond.constantLong RX0 69 (1000000), Cond.methodLink RX0 71 Lib.MathLoose.min_long.x, Cond.static Lib.MathLoose.min_long.x]
def wsX7_monthWithout_r3 : List Cond := [Cond.code Lib.MathLoose.min_long.x Lib.MathLoose.min_long.code 4 (some .long), Cond.methodLink RX0 63 yX0_walk, Cond.instanceMethod yX0_walk, Cond.selects RX0 yX0_walk yX0_walk, Cond.code yX0_walk cX0_walk 4 none, Cond.methodLink RX0 59 yX0_firstNext, Cond.instanceMethod yX0_firstNext, Cond.selects RX0 yX0_firstNext yX0_firstNext, Cond.code yX0_firstNext cX0_firstNext 5 (some .int), Cond.methodLink RX7 275 yX3_valueOfMonth, Cond.instanceMethod yX3_valueOfMonth, Cond.selects RX3 yX3_valueOfMonth yX3_valueOfMonth, Cond.initialized RX3, Cond.code yX3_valueOfMonth cX3_valueOfMonth 9 (some .int), Cond.fieldLink RX3 18 "SpotRows$Row" "enough" "I", Cond.methodLink RX3 40 yX3_valueOfDay, Cond.instanceMethod yX3_valueOfDay, Cond.selects RX3 yX3_valueOfDay yX3_valueOfDay, Cond.code yX3_valueOfDay cX3_valueOfDay 8 (some .int), Cond.methodLink RX3 32 yX5_has, Cond.instanceMethod yX5_has, Cond.selects RX5 yX5_has yX5_has, Cond.code yX5_has cX5_has 3 (some .boolean), Cond.fieldLink RX5 9 "SpotRows$Tellings" "codes" "[I"]
def wsX7_monthWithout_r4 : List Cond := [Cond.methodLink RX3 36 yX5_numberOf, Cond.instanceMethod yX5_numberOf, Cond.selects RX5 yX5_numberOf yX5_numberOf, Cond.code yX5_numberOf cX5_numberOf 3 (some .int), Cond.methodLink RX5 48 yX5_groupsOf, Cond.instanceMethod yX5_groupsOf, Cond.selects RX5 yX5_groupsOf yX5_groupsOf, Cond.code yX5_groupsOf cX5_groupsOf 3 (some .int), Cond.methodLink RX5 52 yX5_spotsOf, Cond.instanceMethod yX5_spotsOf, Cond.selects RX5 yX5_spotsOf yX5_spotsOf, Cond.code yX5_spotsOf cX5_spotsOf 3 (some .int)]
def wsX7_monthWithout : List Cond := .code yX7_monthWithout cX7_monthWithout 3 (some .int) :: ((wsX7_monthWithout_r1 ++ (wsX7_monthWithout_r2 ++ (wsX7_monthWithout_r3 ++ wsX7_monthWithout_r4))) ++ wsX70 ++ wsX00 ++ wsX50 ++ wsX30)
def wsX7_month_r1 : List Cond := [Cond.methodLink RX7 234 yX7_isMonth, Cond.static yX7_isMonth, Cond.initialized RX7, Cond.code yX7_isMonth cX7_isMonth 1 (some .boolean), Cond.methodLink RX7 69 yX7_isWithin, Cond.static yX7_isWithin, Cond.code yX7_isWithin cX7_isWithin 2 (some .boolean), Cond.methodLink RX7 96 yX7_lack, Cond.instanceMethod yX7_lack, Cond.selects RX7 yX7_lack yX7_lack, Cond.code yX7_lack cX7_lack 2 (some .int), Cond.fieldLink RX7 58 "SpotRows" "outcome" "I", Cond.methodLink RX7 237 yX7_monthWithout, Cond.instanceMethod yX7_monthWithout, Cond.selects RX7 yX7_monthWithout yX7_monthWithout, Cond.code yX7_monthWithout cX7_monthWithout 3 (some .int), Cond.fieldLink RX7 40 "SpotRows" "chains" "LSpotRows$Chains;", Cond.fieldLink RX7 19 "SpotRows" "tellings" "LSpotRows$Tellings;", Cond.fieldLink RX7 47 "SpotRows" "row" "LSpotRows$Row;", Cond.methodLink RX7 210 yX0_reckon, Cond.instanceMethod yX0_reckon, Cond.selects RX0 yX0_reckon yX0_reckon, Cond.initialized RX0, Cond.code yX0_reckon cX0_reckon 5 none]
def wsX7_month_r2 : List Cond := [Cond.fieldLink RX0 9 "SpotRows$Chains" "links" "[I", Cond.fieldLink RX0 15 "SpotRows$Chains" "widths" "[I", Cond.fieldLink RX0 18 "SpotRows$Chains" "weights" "[I", Cond.methodLink RX0 24 yJ7_fill_53178, Cond.static yJ7_fill_53178, Cond.initialized RJ7, Cond.code yJ7_fill_53178 cJ7_fill_53178 4 none, Cond.methodLink RX0 36 yX0_reach, Cond.instanceMethod yX0_reach, Cond.selects RX0 yX0_reach yX0_reach, Cond.code yX0_reach cX0_reach 6 none, Cond.methodLink RX0 51 Lib.Math.min.name, Cond.static Lib.Math.min.name, Cond.initialized "java/lang/Math", Cond.code Lib.Math.min.name Lib.Math.min.code 2 (some .int), Cond.methodLink RX0 56 Lib.Math.max.name, Cond.static Lib.Math.max.name, Cond.code Lib.Math.max.name Lib.Math.max.code 2 (some .int), Cond.methodLink RX0 44 yX5_factorOf, Cond.instanceMethod yX5_factorOf, Cond.selects RX5 yX5_factorOf yX5_factorOf, Cond.initialized RX5, Cond.code yX5_factorOf cX5_factorOf 6 (some .int), Cond.fieldLink RX5 18 "SpotRows$Tellings" "bothSums" "[I"]
def wsX7_month_r3 : List Cond := [Cond.fieldLink RX5 15 "SpotRows$Tellings" "bothDays" "[I", Cond.fieldLink RX5 31 "SpotRows$Tellings" "least" "I", Cond.constant RX5 66 (100000), Cond.methodLink RX0 48 yX5_countBoth, Cond.instanceMethod yX5_countBoth, Cond.selects RX5 yX5_countBoth yX5_countBoth, Cond.code yX5_countBoth cX5_countBoth 3 (some .int), Cond.methodLink RX0 40 yX0_weigh, Cond.instanceMethod yX0_weigh, Cond.selects RX0 yX0_weigh yX0_weigh, Cond.code yX0_weigh cX0_weigh 6 (some .int), Cond.constantLong RX0 67 (1000), Cond.fieldLink RX0 21 "SpotRows$Chains" "way" "[I", Cond.constantLong RX0 69 (1000000), Cond.methodLink RX0 71 Lib.MathLoose.min_long.x, Cond.static Lib.MathLoose.min_long.x, Cond.code Lib.MathLoose.min_long.x Lib.MathLoose.min_long.code 4 (some .long), Cond.methodLink RX0 63 yX0_walk, Cond.instanceMethod yX0_walk, Cond.selects RX0 yX0_walk yX0_walk, Cond.code yX0_walk cX0_walk 4 none, Cond.methodLink RX0 59 yX0_firstNext, Cond.instanceMethod yX0_firstNext, Cond.selects RX0 yX0_firstNext yX0_firstNext]
def wsX7_month_r4 : List Cond := [Cond.code yX0_firstNext cX0_firstNext 5 (some .int), Cond.methodLink RX7 275 yX3_valueOfMonth, Cond.instanceMethod yX3_valueOfMonth, Cond.selects RX3 yX3_valueOfMonth yX3_valueOfMonth, Cond.initialized RX3, Cond.code yX3_valueOfMonth cX3_valueOfMonth 9 (some .int), Cond.fieldLink RX3 18 "SpotRows$Row" "enough" "I", Cond.methodLink RX3 40 yX3_valueOfDay, Cond.instanceMethod yX3_valueOfDay, Cond.selects RX3 yX3_valueOfDay yX3_valueOfDay, Cond.code yX3_valueOfDay cX3_valueOfDay 8 (some .int), Cond.methodLink RX3 32 yX5_has, Cond.instanceMethod yX5_has, Cond.selects RX5 yX5_has yX5_has, Cond.code yX5_has cX5_has 3 (some .boolean), Cond.fieldLink RX5 9 "SpotRows$Tellings" "codes" "[I", Cond.methodLink RX3 36 yX5_numberOf, Cond.instanceMethod yX5_numberOf, Cond.selects RX5 yX5_numberOf yX5_numberOf, Cond.code yX5_numberOf cX5_numberOf 3 (some .int), Cond.methodLink RX5 48 yX5_groupsOf, Cond.instanceMethod yX5_groupsOf, Cond.selects RX5 yX5_groupsOf yX5_groupsOf, Cond.code yX5_groupsOf cX5_groupsOf 3 (some .int)]
def wsX7_month_r5 : List Cond := [Cond.methodLink RX5 52 yX5_spotsOf, Cond.instanceMethod yX5_spotsOf, Cond.selects RX5 yX5_spotsOf yX5_spotsOf, Cond.code yX5_spotsOf cX5_spotsOf 3 (some .int), Cond.methodLink RX7 168 yX7_answerOr, Cond.instanceMethod yX7_answerOr, Cond.selects RX7 yX7_answerOr yX7_answerOr, Cond.code yX7_answerOr cX7_answerOr 3 (some .int), Cond.methodLink RX7 119 yX7_answer, Cond.instanceMethod yX7_answer, Cond.selects RX7 yX7_answer yX7_answer, Cond.code yX7_answer cX7_answer 2 (some .int)]
def wsX7_month : List Cond := .code yX7_month cX7_month 2 (some .int) :: ((wsX7_month_r1 ++ (wsX7_month_r2 ++ (wsX7_month_r3 ++ (wsX7_month_r4 ++ wsX7_month_r5)))) ++ wsX70 ++ wsX00 ++ wsX50 ++ wsX30)
def wsX7_smooth_r1 : List Cond := [Cond.fieldLink RX7 40 "SpotRows" "chains" "LSpotRows$Chains;", Cond.fieldLink RX7 19 "SpotRows" "tellings" "LSpotRows$Tellings;", Cond.fieldLink RX7 47 "SpotRows" "row" "LSpotRows$Row;", Cond.methodLink RX7 234 yX7_isMonth, Cond.static yX7_isMonth, Cond.initialized RX7, Cond.code yX7_isMonth cX7_isMonth 1 (some .boolean), Cond.methodLink RX7 69 yX7_isWithin, Cond.static yX7_isWithin, Cond.code yX7_isWithin cX7_isWithin 2 (some .boolean), Cond.methodLink RX7 240 yX3_isSmoothWidth, Cond.static yX3_isSmoothWidth, Cond.initialized RX3, Cond.code yX3_isSmoothWidth cX3_isSmoothWidth 1 (some .boolean), Cond.methodLink RX7 96 yX7_lack, Cond.instanceMethod yX7_lack, Cond.selects RX7 yX7_lack yX7_lack, Cond.code yX7_lack cX7_lack 2 (some .int), Cond.fieldLink RX7 58 "SpotRows" "outcome" "I", Cond.methodLink RX7 210 yX0_reckon, Cond.instanceMethod yX0_reckon, Cond.selects RX0 yX0_reckon yX0_reckon, Cond.initialized RX0, Cond.code yX0_reckon cX0_reckon 5 none]
def wsX7_smooth_r2 : List Cond := [Cond.fieldLink RX0 9 "SpotRows$Chains" "links" "[I", Cond.fieldLink RX0 15 "SpotRows$Chains" "widths" "[I", Cond.fieldLink RX0 18 "SpotRows$Chains" "weights" "[I", Cond.methodLink RX0 24 yJ7_fill_53178, Cond.static yJ7_fill_53178, Cond.initialized RJ7, Cond.code yJ7_fill_53178 cJ7_fill_53178 4 none, Cond.methodLink RX0 36 yX0_reach, Cond.instanceMethod yX0_reach, Cond.selects RX0 yX0_reach yX0_reach, Cond.code yX0_reach cX0_reach 6 none, Cond.methodLink RX0 51 Lib.Math.min.name, Cond.static Lib.Math.min.name, Cond.initialized "java/lang/Math", Cond.code Lib.Math.min.name Lib.Math.min.code 2 (some .int), Cond.methodLink RX0 56 Lib.Math.max.name, Cond.static Lib.Math.max.name, Cond.code Lib.Math.max.name Lib.Math.max.code 2 (some .int), Cond.methodLink RX0 44 yX5_factorOf, Cond.instanceMethod yX5_factorOf, Cond.selects RX5 yX5_factorOf yX5_factorOf, Cond.initialized RX5, Cond.code yX5_factorOf cX5_factorOf 6 (some .int), Cond.fieldLink RX5 18 "SpotRows$Tellings" "bothSums" "[I"]
def wsX7_smooth_r3 : List Cond := [Cond.fieldLink RX5 15 "SpotRows$Tellings" "bothDays" "[I", Cond.fieldLink RX5 31 "SpotRows$Tellings" "least" "I", Cond.constant RX5 66 (100000), Cond.methodLink RX0 48 yX5_countBoth, Cond.instanceMethod yX5_countBoth, Cond.selects RX5 yX5_countBoth yX5_countBoth, Cond.code yX5_countBoth cX5_countBoth 3 (some .int), Cond.methodLink RX0 40 yX0_weigh, Cond.instanceMethod yX0_weigh, Cond.selects RX0 yX0_weigh yX0_weigh, Cond.code yX0_weigh cX0_weigh 6 (some .int), Cond.constantLong RX0 67 (1000), Cond.fieldLink RX0 21 "SpotRows$Chains" "way" "[I", Cond.constantLong RX0 69 (1000000), Cond.methodLink RX0 71 Lib.MathLoose.min_long.x, Cond.static Lib.MathLoose.min_long.x, Cond.code Lib.MathLoose.min_long.x Lib.MathLoose.min_long.code 4 (some .long), Cond.methodLink RX0 63 yX0_walk, Cond.instanceMethod yX0_walk, Cond.selects RX0 yX0_walk yX0_walk, Cond.code yX0_walk cX0_walk 4 none, Cond.methodLink RX0 59 yX0_firstNext, Cond.instanceMethod yX0_firstNext, Cond.selects RX0 yX0_firstNext yX0_firstNext]
def wsX7_smooth_r4 : List Cond := [Cond.code yX0_firstNext cX0_firstNext 5 (some .int), Cond.methodLink RX7 243 yX3_reckonMonths, Cond.instanceMethod yX3_reckonMonths, Cond.selects RX3 yX3_reckonMonths yX3_reckonMonths, Cond.code yX3_reckonMonths cX3_reckonMonths 4 none, Cond.fieldLink RX3 9 "SpotRows$Row" "values" "[I", Cond.methodLink RX3 44 yX3_valueOfMonth, Cond.instanceMethod yX3_valueOfMonth, Cond.selects RX3 yX3_valueOfMonth yX3_valueOfMonth, Cond.code yX3_valueOfMonth cX3_valueOfMonth 9 (some .int), Cond.fieldLink RX3 18 "SpotRows$Row" "enough" "I", Cond.methodLink RX3 40 yX3_valueOfDay, Cond.instanceMethod yX3_valueOfDay, Cond.selects RX3 yX3_valueOfDay yX3_valueOfDay, Cond.code yX3_valueOfDay cX3_valueOfDay 8 (some .int), Cond.methodLink RX3 32 yX5_has, Cond.instanceMethod yX5_has, Cond.selects RX5 yX5_has yX5_has, Cond.code yX5_has cX5_has 3 (some .boolean), Cond.fieldLink RX5 9 "SpotRows$Tellings" "codes" "[I", Cond.methodLink RX3 36 yX5_numberOf, Cond.instanceMethod yX5_numberOf, Cond.selects RX5 yX5_numberOf yX5_numberOf, Cond.code yX5_numberOf cX5_numberOf 3 (some .int)]
def wsX7_smooth_r5 : List Cond := [Cond.methodLink RX5 48 yX5_groupsOf, Cond.instanceMethod yX5_groupsOf, Cond.selects RX5 yX5_groupsOf yX5_groupsOf, Cond.code yX5_groupsOf cX5_groupsOf 3 (some .int), Cond.methodLink RX5 52 yX5_spotsOf, Cond.instanceMethod yX5_spotsOf, Cond.selects RX5 yX5_spotsOf yX5_spotsOf, Cond.code yX5_spotsOf cX5_spotsOf 3 (some .int), Cond.methodLink RX7 247 yX3_smoothOf, Cond.instanceMethod yX3_smoothOf, Cond.selects RX3 yX3_smoothOf yX3_smoothOf, Cond.code yX3_smoothOf cX3_smoothOf 9 (some .int), Cond.methodLink RX3 47 Lib.Math.min.name, Cond.methodLink RX3 52 Lib.Math.max.name, Cond.methodLink RX7 168 yX7_answerOr, Cond.instanceMethod yX7_answerOr, Cond.selects RX7 yX7_answerOr yX7_answerOr, Cond.code yX7_answerOr cX7_answerOr 3 (some .int), Cond.methodLink RX7 119 yX7_answer, Cond.instanceMethod yX7_answer, Cond.selects RX7 yX7_answer yX7_answer, Cond.code yX7_answer cX7_answer 2 (some .int)]
def wsX7_smooth : List Cond := .code yX7_smooth cX7_smooth 3 (some .int) :: ((wsX7_smooth_r1 ++ (wsX7_smooth_r2 ++ (wsX7_smooth_r3 ++ (wsX7_smooth_r4 ++ wsX7_smooth_r5)))) ++ wsX70 ++ wsX00 ++ wsX50 ++ wsX30)
def wsX7_turn_r1 : List Cond := [Cond.fieldLink RX7 40 "SpotRows" "chains" "LSpotRows$Chains;", Cond.fieldLink RX7 19 "SpotRows" "tellings" "LSpotRows$Tellings;", Cond.fieldLink RX7 47 "SpotRows" "row" "LSpotRows$Row;", Cond.methodLink RX7 240 yX3_isSmoothWidth, Cond.static yX3_isSmoothWidth, Cond.initialized RX3, Cond.code yX3_isSmoothWidth cX3_isSmoothWidth 1 (some .boolean), Cond.methodLink RX7 96 yX7_lack, Cond.instanceMethod yX7_lack, Cond.selects RX7 yX7_lack yX7_lack, Cond.initialized RX7, Cond.code yX7_lack cX7_lack 2 (some .int), Cond.fieldLink RX7 58 "SpotRows" "outcome" "I", Cond.methodLink RX7 210 yX0_reckon, Cond.instanceMethod yX0_reckon, Cond.selects RX0 yX0_reckon yX0_reckon, Cond.initialized RX0, Cond.code yX0_reckon cX0_reckon 5 none, Cond.fieldLink RX0 9 "SpotRows$Chains" "links" "[I", Cond.fieldLink RX0 15 "SpotRows$Chains" "widths" "[I", Cond.fieldLink RX0 18 "SpotRows$Chains" "weights" "[I", Cond.methodLink RX0 24 yJ7_fill_53178, Cond.static yJ7_fill_53178, Cond.initialized RJ7]
def wsX7_turn_r2 : List Cond := [Cond.code yJ7_fill_53178 cJ7_fill_53178 4 none, Cond.methodLink RX0 36 yX0_reach, Cond.instanceMethod yX0_reach, Cond.selects RX0 yX0_reach yX0_reach, Cond.code yX0_reach cX0_reach 6 none, Cond.methodLink RX0 51 Lib.Math.min.name, Cond.static Lib.Math.min.name, Cond.initialized "java/lang/Math", Cond.code Lib.Math.min.name Lib.Math.min.code 2 (some .int), Cond.methodLink RX0 56 Lib.Math.max.name, Cond.static Lib.Math.max.name, Cond.code Lib.Math.max.name Lib.Math.max.code 2 (some .int), Cond.methodLink RX0 44 yX5_factorOf, Cond.instanceMethod yX5_factorOf, Cond.selects RX5 yX5_factorOf yX5_factorOf, Cond.initialized RX5, Cond.code yX5_factorOf cX5_factorOf 6 (some .int), Cond.fieldLink RX5 18 "SpotRows$Tellings" "bothSums" "[I", Cond.fieldLink RX5 15 "SpotRows$Tellings" "bothDays" "[I", Cond.fieldLink RX5 31 "SpotRows$Tellings" "least" "I", Cond.constant RX5 66 (100000), Cond.methodLink RX0 48 yX5_countBoth, Cond.instanceMethod yX5_countBoth, Cond.selects RX5 yX5_countBoth yX5_countBoth]
def wsX7_turn_r3 : List Cond := [Cond.code yX5_countBoth cX5_countBoth 3 (some .int), Cond.methodLink RX0 40 yX0_weigh, Cond.instanceMethod yX0_weigh, Cond.selects RX0 yX0_weigh yX0_weigh, Cond.code yX0_weigh cX0_weigh 6 (some .int), Cond.constantLong RX0 67 (1000), Cond.fieldLink RX0 21 "SpotRows$Chains" "way" "[I", Cond.constantLong RX0 69 (1000000), Cond.methodLink RX0 71 Lib.MathLoose.min_long.x, Cond.static Lib.MathLoose.min_long.x, Cond.code Lib.MathLoose.min_long.x Lib.MathLoose.min_long.code 4 (some .long), Cond.methodLink RX0 63 yX0_walk, Cond.instanceMethod yX0_walk, Cond.selects RX0 yX0_walk yX0_walk, Cond.code yX0_walk cX0_walk 4 none, Cond.methodLink RX0 59 yX0_firstNext, Cond.instanceMethod yX0_firstNext, Cond.selects RX0 yX0_firstNext yX0_firstNext, Cond.code yX0_firstNext cX0_firstNext 5 (some .int), Cond.methodLink RX7 243 yX3_reckonMonths, Cond.instanceMethod yX3_reckonMonths, Cond.selects RX3 yX3_reckonMonths yX3_reckonMonths, Cond.code yX3_reckonMonths cX3_reckonMonths 4 none, Cond.fieldLink RX3 9 "SpotRows$Row" "values" "[I"]
def wsX7_turn_r4 : List Cond := [Cond.methodLink RX3 44 yX3_valueOfMonth, Cond.instanceMethod yX3_valueOfMonth, Cond.selects RX3 yX3_valueOfMonth yX3_valueOfMonth, Cond.code yX3_valueOfMonth cX3_valueOfMonth 9 (some .int), Cond.fieldLink RX3 18 "SpotRows$Row" "enough" "I", Cond.methodLink RX3 40 yX3_valueOfDay, Cond.instanceMethod yX3_valueOfDay, Cond.selects RX3 yX3_valueOfDay yX3_valueOfDay, Cond.code yX3_valueOfDay cX3_valueOfDay 8 (some .int), Cond.methodLink RX3 32 yX5_has, Cond.instanceMethod yX5_has, Cond.selects RX5 yX5_has yX5_has, Cond.code yX5_has cX5_has 3 (some .boolean), Cond.fieldLink RX5 9 "SpotRows$Tellings" "codes" "[I", Cond.methodLink RX3 36 yX5_numberOf, Cond.instanceMethod yX5_numberOf, Cond.selects RX5 yX5_numberOf yX5_numberOf, Cond.code yX5_numberOf cX5_numberOf 3 (some .int), Cond.methodLink RX5 48 yX5_groupsOf, Cond.instanceMethod yX5_groupsOf, Cond.selects RX5 yX5_groupsOf yX5_groupsOf, Cond.code yX5_groupsOf cX5_groupsOf 3 (some .int), Cond.methodLink RX5 52 yX5_spotsOf, Cond.instanceMethod yX5_spotsOf]
def wsX7_turn_r5 : List Cond := [Cond.selects RX5 yX5_spotsOf yX5_spotsOf, Cond.code yX5_spotsOf cX5_spotsOf 3 (some .int), Cond.methodLink RX7 250 yX3_reckonSmooths, Cond.instanceMethod yX3_reckonSmooths, Cond.selects RX3 yX3_reckonSmooths yX3_reckonSmooths, Cond.code yX3_reckonSmooths cX3_reckonSmooths 3 none, Cond.fieldLink RX3 15 "SpotRows$Row" "smooths" "[I", Cond.methodLink RX3 55 yX3_smoothOf, Cond.instanceMethod yX3_smoothOf, Cond.selects RX3 yX3_smoothOf yX3_smoothOf, Cond.code yX3_smoothOf cX3_smoothOf 9 (some .int), Cond.methodLink RX3 47 Lib.Math.min.name, Cond.methodLink RX3 52 Lib.Math.max.name, Cond.methodLink RX7 254 yX3_findTurn, Cond.instanceMethod yX3_findTurn, Cond.selects RX3 yX3_findTurn yX3_findTurn, Cond.code yX3_findTurn cX3_findTurn 6 (some .int), Cond.methodLink RX3 58 yX3_isTurn, Cond.instanceMethod yX3_isTurn, Cond.selects RX3 yX3_isTurn yX3_isTurn, Cond.code yX3_isTurn cX3_isTurn 6 (some .boolean), Cond.methodLink RX3 62 yX3_outdoes, Cond.instanceMethod yX3_outdoes, Cond.selects RX3 yX3_outdoes yX3_outdoes]
def wsX7_turn_r6 : List Cond := [Cond.code yX3_outdoes cX3_outdoes 5 (some .boolean), Cond.methodLink RX7 168 yX7_answerOr, Cond.instanceMethod yX7_answerOr, Cond.selects RX7 yX7_answerOr yX7_answerOr, Cond.code yX7_answerOr cX7_answerOr 3 (some .int), Cond.methodLink RX7 119 yX7_answer, Cond.instanceMethod yX7_answer, Cond.selects RX7 yX7_answer yX7_answer, Cond.code yX7_answer cX7_answer 2 (some .int)]
def wsX7_turn : List Cond := .code yX7_turn cX7_turn 5 (some .int) :: ((wsX7_turn_r1 ++ (wsX7_turn_r2 ++ (wsX7_turn_r3 ++ (wsX7_turn_r4 ++ (wsX7_turn_r5 ++ wsX7_turn_r6))))) ++ wsX70 ++ wsX00 ++ wsX50 ++ wsX30)
def wsX7_change_r1 : List Cond := [Cond.methodLink RX7 234 yX7_isMonth, Cond.static yX7_isMonth, Cond.initialized RX7, Cond.code yX7_isMonth cX7_isMonth 1 (some .boolean), Cond.methodLink RX7 69 yX7_isWithin, Cond.static yX7_isWithin, Cond.code yX7_isWithin cX7_isWithin 2 (some .boolean), Cond.methodLink RX7 122 yX7_isEye, Cond.instanceMethod yX7_isEye, Cond.selects RX7 yX7_isEye yX7_isEye, Cond.code yX7_isEye cX7_isEye 2 (some .boolean), Cond.fieldLink RX7 19 "SpotRows" "tellings" "LSpotRows$Tellings;", Cond.methodLink RX7 96 yX7_lack, Cond.instanceMethod yX7_lack, Cond.selects RX7 yX7_lack yX7_lack, Cond.code yX7_lack cX7_lack 2 (some .int), Cond.fieldLink RX7 58 "SpotRows" "outcome" "I", Cond.methodLink RX7 237 yX7_monthWithout, Cond.instanceMethod yX7_monthWithout, Cond.selects RX7 yX7_monthWithout yX7_monthWithout, Cond.code yX7_monthWithout cX7_monthWithout 3 (some .int), Cond.fieldLink RX7 40 "SpotRows" "chains" "LSpotRows$Chains;", Cond.fieldLink RX7 47 "SpotRows" "row" "LSpotRows$Row;", Cond.methodLink RX7 210 yX0_reckon]
def wsX7_change_r2 : List Cond := [Cond.instanceMethod yX0_reckon, Cond.selects RX0 yX0_reckon yX0_reckon, Cond.initialized RX0, Cond.code yX0_reckon cX0_reckon 5 none, Cond.fieldLink RX0 9 "SpotRows$Chains" "links" "[I", Cond.fieldLink RX0 15 "SpotRows$Chains" "widths" "[I", Cond.fieldLink RX0 18 "SpotRows$Chains" "weights" "[I", Cond.methodLink RX0 24 yJ7_fill_53178, Cond.static yJ7_fill_53178, Cond.initialized RJ7, Cond.code yJ7_fill_53178 cJ7_fill_53178 4 none, Cond.methodLink RX0 36 yX0_reach, Cond.instanceMethod yX0_reach, Cond.selects RX0 yX0_reach yX0_reach, Cond.code yX0_reach cX0_reach 6 none, Cond.methodLink RX0 51 Lib.Math.min.name, Cond.static Lib.Math.min.name, Cond.initialized "java/lang/Math", Cond.code Lib.Math.min.name Lib.Math.min.code 2 (some .int), Cond.methodLink RX0 56 Lib.Math.max.name, Cond.static Lib.Math.max.name, Cond.code Lib.Math.max.name Lib.Math.max.code 2 (some .int), Cond.methodLink RX0 44 yX5_factorOf, Cond.instanceMethod yX5_factorOf]
def wsX7_change_r3 : List Cond := [Cond.selects RX5 yX5_factorOf yX5_factorOf, Cond.initialized RX5, Cond.code yX5_factorOf cX5_factorOf 6 (some .int), Cond.fieldLink RX5 18 "SpotRows$Tellings" "bothSums" "[I", Cond.fieldLink RX5 15 "SpotRows$Tellings" "bothDays" "[I", Cond.fieldLink RX5 31 "SpotRows$Tellings" "least" "I", Cond.constant RX5 66 (100000), Cond.methodLink RX0 48 yX5_countBoth, Cond.instanceMethod yX5_countBoth, Cond.selects RX5 yX5_countBoth yX5_countBoth, Cond.code yX5_countBoth cX5_countBoth 3 (some .int), Cond.methodLink RX0 40 yX0_weigh, Cond.instanceMethod yX0_weigh, Cond.selects RX0 yX0_weigh yX0_weigh, Cond.code yX0_weigh cX0_weigh 6 (some .int), Cond.constantLong RX0 67 (1000), Cond.fieldLink RX0 21 "SpotRows$Chains" "way" "[I", Cond.constantLong RX0 69 (1000000), Cond.methodLink RX0 71 Lib.MathLoose.min_long.x, Cond.static Lib.MathLoose.min_long.x, Cond.code Lib.MathLoose.min_long.x Lib.MathLoose.min_long.code 4 (some .long), Cond.methodLink RX0 63 yX0_walk, Cond.instanceMethod yX0_walk, Cond.selects RX0 yX0_walk yX0_walk]
def wsX7_change_r4 : List Cond := [Cond.code yX0_walk cX0_walk 4 none, Cond.methodLink RX0 59 yX0_firstNext, Cond.instanceMethod yX0_firstNext, Cond.selects RX0 yX0_firstNext yX0_firstNext, Cond.code yX0_firstNext cX0_firstNext 5 (some .int), Cond.methodLink RX7 275 yX3_valueOfMonth, Cond.instanceMethod yX3_valueOfMonth, Cond.selects RX3 yX3_valueOfMonth yX3_valueOfMonth, Cond.initialized RX3, Cond.code yX3_valueOfMonth cX3_valueOfMonth 9 (some .int), Cond.fieldLink RX3 18 "SpotRows$Row" "enough" "I", Cond.methodLink RX3 40 yX3_valueOfDay, Cond.instanceMethod yX3_valueOfDay, Cond.selects RX3 yX3_valueOfDay yX3_valueOfDay, Cond.code yX3_valueOfDay cX3_valueOfDay 8 (some .int), Cond.methodLink RX3 32 yX5_has, Cond.instanceMethod yX5_has, Cond.selects RX5 yX5_has yX5_has, Cond.code yX5_has cX5_has 3 (some .boolean), Cond.fieldLink RX5 9 "SpotRows$Tellings" "codes" "[I", Cond.methodLink RX3 36 yX5_numberOf, Cond.instanceMethod yX5_numberOf, Cond.selects RX5 yX5_numberOf yX5_numberOf, Cond.code yX5_numberOf cX5_numberOf 3 (some .int)]
def wsX7_change_r5 : List Cond := [Cond.methodLink RX5 48 yX5_groupsOf, Cond.instanceMethod yX5_groupsOf, Cond.selects RX5 yX5_groupsOf yX5_groupsOf, Cond.code yX5_groupsOf cX5_groupsOf 3 (some .int), Cond.methodLink RX5 52 yX5_spotsOf, Cond.instanceMethod yX5_spotsOf, Cond.selects RX5 yX5_spotsOf yX5_spotsOf, Cond.code yX5_spotsOf cX5_spotsOf 3 (some .int), Cond.methodLink RX7 119 yX7_answer, Cond.instanceMethod yX7_answer, Cond.selects RX7 yX7_answer yX7_answer, Cond.code yX7_answer cX7_answer 2 (some .int)]
def wsX7_change : List Cond := .code yX7_change cX7_change 5 (some .int) :: ((wsX7_change_r1 ++ (wsX7_change_r2 ++ (wsX7_change_r3 ++ (wsX7_change_r4 ++ wsX7_change_r5)))) ++ wsX70 ++ wsX50 ++ wsX00 ++ wsX30)
def wsX8_init_r1 : List Cond := [Cond.methodLink RX8 1 objectInit, Cond.instanceMethod objectInit, Cond.code objectInit ⟨#[0xb1]⟩ 1 none, Cond.fieldLink RX8 7 "SpotRowsModel" "bottom" "J", Cond.arrayClass .int, Cond.fieldLink RX8 13 "SpotRowsModel" "sort" "[I", Cond.fieldLink RX8 17 "SpotRowsModel" "many" "[I", Cond.arrayClass .long, Cond.fieldLink RX8 20 "SpotRowsModel" "trays" "[J", Cond.fieldLink RX8 24 "SpotRowsModel" "least" "I", Cond.fieldLink RX8 28 "SpotRowsModel" "enough" "I", Cond.fieldLink RX8 31 "SpotRowsModel" "groups" "[I", Cond.fieldLink RX8 34 "SpotRowsModel" "spots" "[I", Cond.fieldLink RX8 37 "SpotRowsModel" "without" "I", Cond.fieldLink RX8 40 "SpotRowsModel" "count" "[I", Cond.fieldLink RX8 43 "SpotRowsModel" "sum" "[I", Cond.fieldLink RX8 46 "SpotRowsModel" "far" "[I", Cond.fieldLink RX8 49 "SpotRowsModel" "strong" "[I", Cond.fieldLink RX8 52 "SpotRowsModel" "next" "[I", Cond.fieldLink RX8 55 "SpotRowsModel" "ties" "[I", Cond.fieldLink RX8 58 "SpotRowsModel" "factors" "[I", Cond.fieldLink RX8 61 "SpotRowsModel" "way" "[I", Cond.fieldLink RX8 64 "SpotRowsModel" "weights" "[I", Cond.fieldLink RX8 67 "SpotRowsModel" "rough" "[I"]
def wsX8_init_r2 : List Cond := [Cond.fieldLink RX8 70 "SpotRowsModel" "smoothed" "[I"]
def wsX8_init : List Cond := .code yX8_init cX8_init 1 none :: ((wsX8_init_r1 ++ wsX8_init_r2) ++ wsX80)
def wsX8_status : List Cond := .code yX8_status cX8_status 1 (some .int) :: ([.fieldLink RX8 73 "SpotRowsModel" "status" "I"] ++ wsX80)
def wsX8_top : List Cond := .code yX8_top cX8_top 1 (some .long) :: ([.fieldLink RX8 76 "SpotRowsModel" "top" "J"] ++ wsX80)
def wsX8_bottom : List Cond := .code yX8_bottom cX8_bottom 1 (some .long) :: ([.fieldLink RX8 7 "SpotRowsModel" "bottom" "J"] ++ wsX80)
def wsX8_is : List Cond := .code yX8_is cX8_is 2 (some .boolean) :: ([.fieldLink RX8 73 "SpotRowsModel" "status" "I"] ++ wsX80)
def wsX8_refuse : List Cond := .code yX8_refuse cX8_refuse 2 (some .int) :: ([.fieldLink RX8 73 "SpotRowsModel" "status" "I"] ++ wsX80)
def wsX8_isTray : List Cond := .code yX8_isTray cX8_isTray 1 (some .boolean) :: ([])
def wsX8_cut : List Cond := .code yX8_cut cX8_cut 3 (some .long) :: ([])
def wsX8_tray : List Cond := .code yX8_tray cX8_tray 5 (some .boolean) :: ([.fieldLink RX8 13 "SpotRowsModel" "sort" "[I", .fieldLink RX8 17 "SpotRowsModel" "many" "[I", .fieldLink RX8 20 "SpotRowsModel" "trays" "[J", .methodLink RX8 79 yX8_isTray, .static yX8_isTray, .initialized RX8, .code yX8_isTray cX8_isTray 1 (some .boolean), .methodLink RX8 83 yX8_is, .instanceMethod yX8_is, .selects RX8 yX8_is yX8_is, .code yX8_is cX8_is 2 (some .boolean), .fieldLink RX8 73 "SpotRowsModel" "status" "I"] ++ wsX80)
def wsX8_wrongPlace : List Cond := .code yX8_wrongPlace cX8_wrongPlace 3 (some .int) :: ([.fieldLink RX8 17 "SpotRowsModel" "many" "[I", .methodLink RX8 79 yX8_isTray, .static yX8_isTray, .initialized RX8, .code yX8_isTray cX8_isTray 1 (some .boolean)] ++ wsX80)
def wsX8_write : List Cond := .code yX8_write cX8_write 6 (some .boolean) :: ([.fieldLink RX8 20 "SpotRowsModel" "trays" "[J", .fieldLink RX8 13 "SpotRowsModel" "sort" "[I", .methodLink RX8 86 yX8_wrongPlace, .instanceMethod yX8_wrongPlace, .selects RX8 yX8_wrongPlace yX8_wrongPlace, .initialized RX8, .code yX8_wrongPlace cX8_wrongPlace 3 (some .int), .fieldLink RX8 17 "SpotRowsModel" "many" "[I", .methodLink RX8 79 yX8_isTray, .static yX8_isTray, .code yX8_isTray cX8_isTray 1 (some .boolean), .methodLink RX8 90 yX8_cut, .static yX8_cut, .code yX8_cut cX8_cut 3 (some .long), .methodLink RX8 83 yX8_is, .instanceMethod yX8_is, .selects RX8 yX8_is yX8_is, .code yX8_is cX8_is 2 (some .boolean), .fieldLink RX8 73 "SpotRowsModel" "status" "I"] ++ wsX80)
def wsX8_read : List Cond := .code yX8_read cX8_read 3 (some .long) :: ([.fieldLink RX8 73 "SpotRowsModel" "status" "I", .constantLong RX8 94 (-1), .fieldLink RX8 20 "SpotRowsModel" "trays" "[J", .methodLink RX8 86 yX8_wrongPlace, .instanceMethod yX8_wrongPlace, .selects RX8 yX8_wrongPlace yX8_wrongPlace, .initialized RX8, .code yX8_wrongPlace cX8_wrongPlace 3 (some .int), .fieldLink RX8 17 "SpotRowsModel" "many" "[I", .methodLink RX8 79 yX8_isTray, .static yX8_isTray, .code yX8_isTray cX8_isTray 1 (some .boolean)] ++ wsX80)
def wsX8_pour : List Cond := .code yX8_pour cX8_pour 8 (some .boolean) :: ([.fieldLink RX8 17 "SpotRowsModel" "many" "[I", .fieldLink RX8 13 "SpotRowsModel" "sort" "[I", .fieldLink RX8 20 "SpotRowsModel" "trays" "[J", .methodLink RX8 79 yX8_isTray, .static yX8_isTray, .initialized RX8, .code yX8_isTray cX8_isTray 1 (some .boolean), .methodLink RX8 83 yX8_is, .instanceMethod yX8_is, .selects RX8 yX8_is yX8_is, .code yX8_is cX8_is 2 (some .boolean), .fieldLink RX8 73 "SpotRowsModel" "status" "I"] ++ wsX80)
def wsX8_isEye : List Cond := .code yX8_isEye cX8_isEye 2 (some .boolean) :: ([.fieldLink RX8 96 "SpotRowsModel" "eyes" "I"] ++ wsX80)
def wsX8_isDay : List Cond := .code yX8_isDay cX8_isDay 1 (some .boolean) :: ([])
def wsX8_isMonth : List Cond := .code yX8_isMonth cX8_isMonth 1 (some .boolean) :: ([])
def wsX8_at : List Cond := .code yX8_at cX8_at 2 (some .int) :: ([])
def wsX8_eye : List Cond := .code yX8_eye cX8_eye 2 (some .int) :: ([.fieldLink RX8 96 "SpotRowsModel" "eyes" "I", .fieldLink RX8 31 "SpotRowsModel" "groups" "[I", .fieldLink RX8 73 "SpotRowsModel" "status" "I", .methodLink RX8 99 yX8_refuse, .instanceMethod yX8_refuse, .selects RX8 yX8_refuse yX8_refuse, .initialized RX8, .code yX8_refuse cX8_refuse 2 (some .int), .methodLink RX8 103 yX8_at, .static yX8_at, .code yX8_at cX8_at 2 (some .int)] ++ wsX80)
def wsX8_areTold : List Cond := .code yX8_areTold cX8_areTold 4 (some .boolean) :: ([.constantLong RX8 106 (20), .constantLong RX8 108 (200)])
def wsX8_tell : List Cond := .code yX8_tell cX8_tell 5 (some .boolean) :: ([.fieldLink RX8 31 "SpotRowsModel" "groups" "[I", .fieldLink RX8 34 "SpotRowsModel" "spots" "[I", .methodLink RX8 110 yX8_isEye, .instanceMethod yX8_isEye, .selects RX8 yX8_isEye yX8_isEye, .initialized RX8, .code yX8_isEye cX8_isEye 2 (some .boolean), .fieldLink RX8 96 "SpotRowsModel" "eyes" "I", .methodLink RX8 113 yX8_isDay, .static yX8_isDay, .code yX8_isDay cX8_isDay 1 (some .boolean), .methodLink RX8 116 yX8_areTold, .static yX8_areTold, .code yX8_areTold cX8_areTold 4 (some .boolean), .constantLong RX8 106 (20), .constantLong RX8 108 (200), .methodLink RX8 83 yX8_is, .instanceMethod yX8_is, .selects RX8 yX8_is yX8_is, .code yX8_is cX8_is 2 (some .boolean), .fieldLink RX8 73 "SpotRowsModel" "status" "I", .methodLink RX8 103 yX8_at, .static yX8_at, .code yX8_at cX8_at 2 (some .int)] ++ wsX80)
def wsX8_unsay : List Cond := .code yX8_unsay cX8_unsay 3 (some .boolean) :: ([.fieldLink RX8 31 "SpotRowsModel" "groups" "[I", .methodLink RX8 110 yX8_isEye, .instanceMethod yX8_isEye, .selects RX8 yX8_isEye yX8_isEye, .initialized RX8, .code yX8_isEye cX8_isEye 2 (some .boolean), .fieldLink RX8 96 "SpotRowsModel" "eyes" "I", .methodLink RX8 113 yX8_isDay, .static yX8_isDay, .code yX8_isDay cX8_isDay 1 (some .boolean), .methodLink RX8 83 yX8_is, .instanceMethod yX8_is, .selects RX8 yX8_is yX8_is, .code yX8_is cX8_is 2 (some .boolean), .fieldLink RX8 73 "SpotRowsModel" "status" "I", .methodLink RX8 103 yX8_at, .static yX8_at, .code yX8_at cX8_at 2 (some .int)] ++ wsX80)
def wsX8_book_r1 : List Cond := [Cond.fieldLink RX8 17 "SpotRowsModel" "many" "[I", Cond.fieldLink RX8 20 "SpotRowsModel" "trays" "[J", Cond.constantLong RX8 94 (-1), Cond.constantLong RX8 120 (1000), Cond.fieldLink RX8 31 "SpotRowsModel" "groups" "[I", Cond.fieldLink RX8 34 "SpotRowsModel" "spots" "[I", Cond.methodLink RX8 110 yX8_isEye, Cond.instanceMethod yX8_isEye, Cond.selects RX8 yX8_isEye yX8_isEye, Cond.initialized RX8, Cond.code yX8_isEye cX8_isEye 2 (some .boolean), Cond.fieldLink RX8 96 "SpotRowsModel" "eyes" "I", Cond.methodLink RX8 113 yX8_isDay, Cond.static yX8_isDay, Cond.code yX8_isDay cX8_isDay 1 (some .boolean), Cond.methodLink RX8 79 yX8_isTray, Cond.static yX8_isTray, Cond.code yX8_isTray cX8_isTray 1 (some .boolean), Cond.methodLink RX8 83 yX8_is, Cond.instanceMethod yX8_is, Cond.selects RX8 yX8_is yX8_is, Cond.code yX8_is cX8_is 2 (some .boolean), Cond.fieldLink RX8 73 "SpotRowsModel" "status" "I", Cond.methodLink RX8 116 yX8_areTold]
def wsX8_book_r2 : List Cond := [Cond.static yX8_areTold, Cond.code yX8_areTold cX8_areTold 4 (some .boolean), Cond.constantLong RX8 106 (20), Cond.constantLong RX8 108 (200), Cond.methodLink RX8 103 yX8_at, Cond.static yX8_at, Cond.code yX8_at cX8_at 2 (some .int)]
def wsX8_book : List Cond := .code yX8_book cX8_book 8 (some .boolean) :: ((wsX8_book_r1 ++ wsX8_book_r2) ++ wsX80)
def wsX8_number : List Cond := .code yX8_number cX8_number 3 (some .int) :: ([.fieldLink RX8 31 "SpotRowsModel" "groups" "[I", .fieldLink RX8 34 "SpotRowsModel" "spots" "[I", .methodLink RX8 103 yX8_at, .static yX8_at, .initialized RX8, .code yX8_at cX8_at 2 (some .int)] ++ wsX80)
def wsX8_told : List Cond := .code yX8_told cX8_told 4 (some .int) :: ([.fieldLink RX8 31 "SpotRowsModel" "groups" "[I", .fieldLink RX8 73 "SpotRowsModel" "status" "I", .fieldLink RX8 34 "SpotRowsModel" "spots" "[I", .methodLink RX8 110 yX8_isEye, .instanceMethod yX8_isEye, .selects RX8 yX8_isEye yX8_isEye, .initialized RX8, .code yX8_isEye cX8_isEye 2 (some .boolean), .fieldLink RX8 96 "SpotRowsModel" "eyes" "I", .methodLink RX8 113 yX8_isDay, .static yX8_isDay, .code yX8_isDay cX8_isDay 1 (some .boolean), .methodLink RX8 99 yX8_refuse, .instanceMethod yX8_refuse, .selects RX8 yX8_refuse yX8_refuse, .code yX8_refuse cX8_refuse 2 (some .int), .methodLink RX8 103 yX8_at, .static yX8_at, .code yX8_at cX8_at 2 (some .int), .methodLink RX8 122 yX8_number, .instanceMethod yX8_number, .selects RX8 yX8_number yX8_number, .code yX8_number cX8_number 3 (some .int)] ++ wsX80)
def wsX8_days : List Cond := .code yX8_days cX8_days 4 (some .int) :: ([.fieldLink RX8 73 "SpotRowsModel" "status" "I", .fieldLink RX8 31 "SpotRowsModel" "groups" "[I", .methodLink RX8 110 yX8_isEye, .instanceMethod yX8_isEye, .selects RX8 yX8_isEye yX8_isEye, .initialized RX8, .code yX8_isEye cX8_isEye 2 (some .boolean), .fieldLink RX8 96 "SpotRowsModel" "eyes" "I", .methodLink RX8 99 yX8_refuse, .instanceMethod yX8_refuse, .selects RX8 yX8_refuse yX8_refuse, .code yX8_refuse cX8_refuse 2 (some .int), .methodLink RX8 103 yX8_at, .static yX8_at, .code yX8_at cX8_at 2 (some .int)] ++ wsX80)
def wsX8_rules : List Cond := .code yX8_rules cX8_rules 3 (some .boolean) :: ([.fieldLink RX8 24 "SpotRowsModel" "least" "I", .fieldLink RX8 28 "SpotRowsModel" "enough" "I", .methodLink RX8 83 yX8_is, .instanceMethod yX8_is, .selects RX8 yX8_is yX8_is, .initialized RX8, .code yX8_is cX8_is 2 (some .boolean), .fieldLink RX8 73 "SpotRowsModel" "status" "I"] ++ wsX80)
def wsX8_tells : List Cond := .code yX8_tells cX8_tells 3 (some .boolean) :: ([.fieldLink RX8 37 "SpotRowsModel" "without" "I", .fieldLink RX8 31 "SpotRowsModel" "groups" "[I", .methodLink RX8 103 yX8_at, .static yX8_at, .initialized RX8, .code yX8_at cX8_at 2 (some .int)] ++ wsX80)
def wsX8_areBoth : List Cond := .code yX8_areBoth cX8_areBoth 4 (some .boolean) :: ([.methodLink RX8 125 yX8_tells, .instanceMethod yX8_tells, .selects RX8 yX8_tells yX8_tells, .initialized RX8, .code yX8_tells cX8_tells 3 (some .boolean), .fieldLink RX8 37 "SpotRowsModel" "without" "I", .fieldLink RX8 31 "SpotRowsModel" "groups" "[I", .methodLink RX8 103 yX8_at, .static yX8_at, .code yX8_at cX8_at 2 (some .int)] ++ wsX80)
def wsX8_bothOf : List Cond := .code yX8_bothOf cX8_bothOf 5 (some .int) :: ([.methodLink RX8 129 yX8_areBoth, .instanceMethod yX8_areBoth, .selects RX8 yX8_areBoth yX8_areBoth, .initialized RX8, .code yX8_areBoth cX8_areBoth 4 (some .boolean), .methodLink RX8 125 yX8_tells, .instanceMethod yX8_tells, .selects RX8 yX8_tells yX8_tells, .code yX8_tells cX8_tells 3 (some .boolean), .fieldLink RX8 37 "SpotRowsModel" "without" "I", .fieldLink RX8 31 "SpotRowsModel" "groups" "[I", .methodLink RX8 103 yX8_at, .static yX8_at, .code yX8_at cX8_at 2 (some .int)] ++ wsX80)
def wsX8_areTwo : List Cond := .code yX8_areTwo cX8_areTwo 3 (some .boolean) :: ([.methodLink RX8 110 yX8_isEye, .instanceMethod yX8_isEye, .selects RX8 yX8_isEye yX8_isEye, .initialized RX8, .code yX8_isEye cX8_isEye 2 (some .boolean), .fieldLink RX8 96 "SpotRowsModel" "eyes" "I"] ++ wsX80)
def wsX8_both_r1 : List Cond := [Cond.fieldLink RX8 73 "SpotRowsModel" "status" "I", Cond.methodLink RX8 133 yX8_areTwo, Cond.instanceMethod yX8_areTwo, Cond.selects RX8 yX8_areTwo yX8_areTwo, Cond.initialized RX8, Cond.code yX8_areTwo cX8_areTwo 3 (some .boolean), Cond.methodLink RX8 110 yX8_isEye, Cond.instanceMethod yX8_isEye, Cond.selects RX8 yX8_isEye yX8_isEye, Cond.code yX8_isEye cX8_isEye 2 (some .boolean), Cond.fieldLink RX8 96 "SpotRowsModel" "eyes" "I", Cond.methodLink RX8 99 yX8_refuse, Cond.instanceMethod yX8_refuse, Cond.selects RX8 yX8_refuse yX8_refuse, Cond.code yX8_refuse cX8_refuse 2 (some .int), Cond.methodLink RX8 136 yX8_bothOf, Cond.instanceMethod yX8_bothOf, Cond.selects RX8 yX8_bothOf yX8_bothOf, Cond.code yX8_bothOf cX8_bothOf 5 (some .int), Cond.methodLink RX8 129 yX8_areBoth, Cond.instanceMethod yX8_areBoth, Cond.selects RX8 yX8_areBoth yX8_areBoth, Cond.code yX8_areBoth cX8_areBoth 4 (some .boolean), Cond.methodLink RX8 125 yX8_tells]
def wsX8_both_r2 : List Cond := [Cond.instanceMethod yX8_tells, Cond.selects RX8 yX8_tells yX8_tells, Cond.code yX8_tells cX8_tells 3 (some .boolean), Cond.fieldLink RX8 37 "SpotRowsModel" "without" "I", Cond.fieldLink RX8 31 "SpotRowsModel" "groups" "[I", Cond.methodLink RX8 103 yX8_at, Cond.static yX8_at, Cond.code yX8_at cX8_at 2 (some .int)]
def wsX8_both : List Cond := .code yX8_both cX8_both 3 (some .int) :: ((wsX8_both_r1 ++ wsX8_both_r2) ++ wsX80)
def wsX8_factorOf : List Cond := .code yX8_factorOf cX8_factorOf 10 (some .int) :: ([.fieldLink RX8 24 "SpotRowsModel" "least" "I", .constantLong RX8 120 (1000), .constantLong RX8 139 (10), .constantLong RX8 141 (100000), .methodLink RX8 129 yX8_areBoth, .instanceMethod yX8_areBoth, .selects RX8 yX8_areBoth yX8_areBoth, .initialized RX8, .code yX8_areBoth cX8_areBoth 4 (some .boolean), .methodLink RX8 125 yX8_tells, .instanceMethod yX8_tells, .selects RX8 yX8_tells yX8_tells, .code yX8_tells cX8_tells 3 (some .boolean), .fieldLink RX8 37 "SpotRowsModel" "without" "I", .fieldLink RX8 31 "SpotRowsModel" "groups" "[I", .methodLink RX8 103 yX8_at, .static yX8_at, .code yX8_at cX8_at 2 (some .int), .methodLink RX8 122 yX8_number, .instanceMethod yX8_number, .selects RX8 yX8_number yX8_number, .code yX8_number cX8_number 3 (some .int), .fieldLink RX8 34 "SpotRowsModel" "spots" "[I"] ++ wsX80)
def wsX8_factor_r1 : List Cond := [Cond.fieldLink RX8 73 "SpotRowsModel" "status" "I", Cond.methodLink RX8 133 yX8_areTwo, Cond.instanceMethod yX8_areTwo, Cond.selects RX8 yX8_areTwo yX8_areTwo, Cond.initialized RX8, Cond.code yX8_areTwo cX8_areTwo 3 (some .boolean), Cond.methodLink RX8 110 yX8_isEye, Cond.instanceMethod yX8_isEye, Cond.selects RX8 yX8_isEye yX8_isEye, Cond.code yX8_isEye cX8_isEye 2 (some .boolean), Cond.fieldLink RX8 96 "SpotRowsModel" "eyes" "I", Cond.methodLink RX8 99 yX8_refuse, Cond.instanceMethod yX8_refuse, Cond.selects RX8 yX8_refuse yX8_refuse, Cond.code yX8_refuse cX8_refuse 2 (some .int), Cond.methodLink RX8 143 yX8_factorOf, Cond.instanceMethod yX8_factorOf, Cond.selects RX8 yX8_factorOf yX8_factorOf, Cond.code yX8_factorOf cX8_factorOf 10 (some .int), Cond.fieldLink RX8 24 "SpotRowsModel" "least" "I", Cond.constantLong RX8 120 (1000), Cond.constantLong RX8 139 (10), Cond.constantLong RX8 141 (100000), Cond.methodLink RX8 129 yX8_areBoth]
def wsX8_factor_r2 : List Cond := [Cond.instanceMethod yX8_areBoth, Cond.selects RX8 yX8_areBoth yX8_areBoth, Cond.code yX8_areBoth cX8_areBoth 4 (some .boolean), Cond.methodLink RX8 125 yX8_tells, Cond.instanceMethod yX8_tells, Cond.selects RX8 yX8_tells yX8_tells, Cond.code yX8_tells cX8_tells 3 (some .boolean), Cond.fieldLink RX8 37 "SpotRowsModel" "without" "I", Cond.fieldLink RX8 31 "SpotRowsModel" "groups" "[I", Cond.methodLink RX8 103 yX8_at, Cond.static yX8_at, Cond.code yX8_at cX8_at 2 (some .int), Cond.methodLink RX8 122 yX8_number, Cond.instanceMethod yX8_number, Cond.selects RX8 yX8_number yX8_number, Cond.code yX8_number cX8_number 3 (some .int), Cond.fieldLink RX8 34 "SpotRowsModel" "spots" "[I"]
def wsX8_factor : List Cond := .code yX8_factor cX8_factor 4 (some .int) :: ((wsX8_factor_r1 ++ wsX8_factor_r2) ++ wsX80)
def wsX8_fraction : List Cond := .code yX8_fraction cX8_fraction 11 (some .int) :: ([.fieldLink RX8 76 "SpotRowsModel" "top" "J", .fieldLink RX8 7 "SpotRowsModel" "bottom" "J", .fieldLink RX8 73 "SpotRowsModel" "status" "I"] ++ wsX80)
def wsX8_middle_r1 : List Cond := [Cond.methodLink RX8 133 yX8_areTwo, Cond.instanceMethod yX8_areTwo, Cond.selects RX8 yX8_areTwo yX8_areTwo, Cond.initialized RX8, Cond.code yX8_areTwo cX8_areTwo 3 (some .boolean), Cond.methodLink RX8 110 yX8_isEye, Cond.instanceMethod yX8_isEye, Cond.selects RX8 yX8_isEye yX8_isEye, Cond.code yX8_isEye cX8_isEye 2 (some .boolean), Cond.fieldLink RX8 96 "SpotRowsModel" "eyes" "I", Cond.methodLink RX8 99 yX8_refuse, Cond.instanceMethod yX8_refuse, Cond.selects RX8 yX8_refuse yX8_refuse, Cond.code yX8_refuse cX8_refuse 2 (some .int), Cond.fieldLink RX8 73 "SpotRowsModel" "status" "I", Cond.methodLink RX8 129 yX8_areBoth, Cond.instanceMethod yX8_areBoth, Cond.selects RX8 yX8_areBoth yX8_areBoth, Cond.code yX8_areBoth cX8_areBoth 4 (some .boolean), Cond.methodLink RX8 125 yX8_tells, Cond.instanceMethod yX8_tells, Cond.selects RX8 yX8_tells yX8_tells, Cond.code yX8_tells cX8_tells 3 (some .boolean), Cond.fieldLink RX8 37 "SpotRowsModel" "without" "I"]
def wsX8_middle_r2 : List Cond := [Cond.fieldLink RX8 31 "SpotRowsModel" "groups" "[I", Cond.methodLink RX8 103 yX8_at, Cond.static yX8_at, Cond.code yX8_at cX8_at 2 (some .int), Cond.methodLink RX8 122 yX8_number, Cond.instanceMethod yX8_number, Cond.selects RX8 yX8_number yX8_number, Cond.code yX8_number cX8_number 3 (some .int), Cond.fieldLink RX8 34 "SpotRowsModel" "spots" "[I", Cond.methodLink RX8 146 yX8_fraction, Cond.instanceMethod yX8_fraction, Cond.selects RX8 yX8_fraction yX8_fraction, Cond.code yX8_fraction cX8_fraction 11 (some .int), Cond.fieldLink RX8 76 "SpotRowsModel" "top" "J", Cond.fieldLink RX8 7 "SpotRowsModel" "bottom" "J"]
def wsX8_middle : List Cond := .code yX8_middle cX8_middle 8 (some .int) :: ((wsX8_middle_r1 ++ wsX8_middle_r2) ++ wsX80)
def wsX8_step_r1 : List Cond := [Cond.fieldLink RX8 40 "SpotRowsModel" "count" "[I", Cond.fieldLink RX8 43 "SpotRowsModel" "sum" "[I", Cond.fieldLink RX8 31 "SpotRowsModel" "groups" "[I", Cond.constantLong RX8 94 (-1), Cond.methodLink RX8 133 yX8_areTwo, Cond.instanceMethod yX8_areTwo, Cond.selects RX8 yX8_areTwo yX8_areTwo, Cond.initialized RX8, Cond.code yX8_areTwo cX8_areTwo 3 (some .boolean), Cond.methodLink RX8 110 yX8_isEye, Cond.instanceMethod yX8_isEye, Cond.selects RX8 yX8_isEye yX8_isEye, Cond.code yX8_isEye cX8_isEye 2 (some .boolean), Cond.fieldLink RX8 96 "SpotRowsModel" "eyes" "I", Cond.methodLink RX8 99 yX8_refuse, Cond.instanceMethod yX8_refuse, Cond.selects RX8 yX8_refuse yX8_refuse, Cond.code yX8_refuse cX8_refuse 2 (some .int), Cond.fieldLink RX8 73 "SpotRowsModel" "status" "I", Cond.methodLink RX8 129 yX8_areBoth, Cond.instanceMethod yX8_areBoth, Cond.selects RX8 yX8_areBoth yX8_areBoth, Cond.code yX8_areBoth cX8_areBoth 4 (some .boolean), Cond.methodLink RX8 125 yX8_tells]
def wsX8_step_r2 : List Cond := [Cond.instanceMethod yX8_tells, Cond.selects RX8 yX8_tells yX8_tells, Cond.code yX8_tells cX8_tells 3 (some .boolean), Cond.fieldLink RX8 37 "SpotRowsModel" "without" "I", Cond.methodLink RX8 103 yX8_at, Cond.static yX8_at, Cond.code yX8_at cX8_at 2 (some .int), Cond.methodLink RX8 146 yX8_fraction, Cond.instanceMethod yX8_fraction, Cond.selects RX8 yX8_fraction yX8_fraction, Cond.code yX8_fraction cX8_fraction 11 (some .int), Cond.fieldLink RX8 76 "SpotRowsModel" "top" "J", Cond.fieldLink RX8 7 "SpotRowsModel" "bottom" "J"]
def wsX8_step : List Cond := .code yX8_step cX8_step 19 (some .int) :: ((wsX8_step_r1 ++ wsX8_step_r2) ++ wsX80)
def wsX8_blind_r1 : List Cond := [Cond.fieldLink RX8 73 "SpotRowsModel" "status" "I", Cond.fieldLink RX8 31 "SpotRowsModel" "groups" "[I", Cond.methodLink RX8 133 yX8_areTwo, Cond.instanceMethod yX8_areTwo, Cond.selects RX8 yX8_areTwo yX8_areTwo, Cond.initialized RX8, Cond.code yX8_areTwo cX8_areTwo 3 (some .boolean), Cond.methodLink RX8 110 yX8_isEye, Cond.instanceMethod yX8_isEye, Cond.selects RX8 yX8_isEye yX8_isEye, Cond.code yX8_isEye cX8_isEye 2 (some .boolean), Cond.fieldLink RX8 96 "SpotRowsModel" "eyes" "I", Cond.methodLink RX8 99 yX8_refuse, Cond.instanceMethod yX8_refuse, Cond.selects RX8 yX8_refuse yX8_refuse, Cond.code yX8_refuse cX8_refuse 2 (some .int), Cond.methodLink RX8 136 yX8_bothOf, Cond.instanceMethod yX8_bothOf, Cond.selects RX8 yX8_bothOf yX8_bothOf, Cond.code yX8_bothOf cX8_bothOf 5 (some .int), Cond.methodLink RX8 129 yX8_areBoth, Cond.instanceMethod yX8_areBoth, Cond.selects RX8 yX8_areBoth yX8_areBoth, Cond.code yX8_areBoth cX8_areBoth 4 (some .boolean)]
def wsX8_blind_r2 : List Cond := [Cond.methodLink RX8 125 yX8_tells, Cond.instanceMethod yX8_tells, Cond.selects RX8 yX8_tells yX8_tells, Cond.code yX8_tells cX8_tells 3 (some .boolean), Cond.fieldLink RX8 37 "SpotRowsModel" "without" "I", Cond.methodLink RX8 103 yX8_at, Cond.static yX8_at, Cond.code yX8_at cX8_at 2 (some .int)]
def wsX8_blind : List Cond := .code yX8_blind cX8_blind 8 (some .int) :: ((wsX8_blind_r1 ++ wsX8_blind_r2) ++ wsX80)
def wsX8_active : List Cond := .code yX8_active cX8_active 7 (some .int) :: ([.fieldLink RX8 31 "SpotRowsModel" "groups" "[I", .methodLink RX8 110 yX8_isEye, .instanceMethod yX8_isEye, .selects RX8 yX8_isEye yX8_isEye, .initialized RX8, .code yX8_isEye cX8_isEye 2 (some .boolean), .fieldLink RX8 96 "SpotRowsModel" "eyes" "I", .methodLink RX8 113 yX8_isDay, .static yX8_isDay, .code yX8_isDay cX8_isDay 1 (some .boolean), .methodLink RX8 99 yX8_refuse, .instanceMethod yX8_refuse, .selects RX8 yX8_refuse yX8_refuse, .code yX8_refuse cX8_refuse 2 (some .int), .fieldLink RX8 73 "SpotRowsModel" "status" "I", .methodLink RX8 103 yX8_at, .static yX8_at, .code yX8_at cX8_at 2 (some .int), .methodLink RX8 146 yX8_fraction, .instanceMethod yX8_fraction, .selects RX8 yX8_fraction yX8_fraction, .code yX8_fraction cX8_fraction 11 (some .int), .fieldLink RX8 76 "SpotRowsModel" "top" "J", .fieldLink RX8 7 "SpotRowsModel" "bottom" "J"] ++ wsX80)
def wsX8_pair : List Cond := .code yX8_pair cX8_pair 2 (some .int) :: ([])
def wsX8_look_r1 : List Cond := [Cond.fieldLink RX8 96 "SpotRowsModel" "eyes" "I", Cond.fieldLink RX8 58 "SpotRowsModel" "factors" "[I", Cond.fieldLink RX8 55 "SpotRowsModel" "ties" "[I", Cond.fieldLink RX8 46 "SpotRowsModel" "far" "[I", Cond.fieldLink RX8 49 "SpotRowsModel" "strong" "[I", Cond.fieldLink RX8 52 "SpotRowsModel" "next" "[I", Cond.methodLink RX8 153 Lib.Math.min.name, Cond.static Lib.Math.min.name, Cond.initialized "java/lang/Math", Cond.code Lib.Math.min.name Lib.Math.min.code 2 (some .int), Cond.methodLink RX8 150 yX8_pair, Cond.static yX8_pair, Cond.initialized RX8, Cond.code yX8_pair cX8_pair 2 (some .int), Cond.methodLink RX8 143 yX8_factorOf, Cond.instanceMethod yX8_factorOf, Cond.selects RX8 yX8_factorOf yX8_factorOf, Cond.code yX8_factorOf cX8_factorOf 10 (some .int), Cond.fieldLink RX8 24 "SpotRowsModel" "least" "I", Cond.constantLong RX8 120 (1000), Cond.constantLong RX8 139 (10), Cond.constantLong RX8 141 (100000), Cond.methodLink RX8 129 yX8_areBoth, Cond.instanceMethod yX8_areBoth]
def wsX8_look_r2 : List Cond := [Cond.selects RX8 yX8_areBoth yX8_areBoth, Cond.code yX8_areBoth cX8_areBoth 4 (some .boolean), Cond.methodLink RX8 125 yX8_tells, Cond.instanceMethod yX8_tells, Cond.selects RX8 yX8_tells yX8_tells, Cond.code yX8_tells cX8_tells 3 (some .boolean), Cond.fieldLink RX8 37 "SpotRowsModel" "without" "I", Cond.fieldLink RX8 31 "SpotRowsModel" "groups" "[I", Cond.methodLink RX8 103 yX8_at, Cond.static yX8_at, Cond.code yX8_at cX8_at 2 (some .int), Cond.methodLink RX8 122 yX8_number, Cond.instanceMethod yX8_number, Cond.selects RX8 yX8_number yX8_number, Cond.code yX8_number cX8_number 3 (some .int), Cond.fieldLink RX8 34 "SpotRowsModel" "spots" "[I", Cond.methodLink RX8 136 yX8_bothOf, Cond.instanceMethod yX8_bothOf, Cond.selects RX8 yX8_bothOf yX8_bothOf, Cond.code yX8_bothOf cX8_bothOf 5 (some .int)]
def wsX8_look : List Cond := .code yX8_look cX8_look 5 none :: ((wsX8_look_r1 ++ wsX8_look_r2) ++ wsX80)
def wsX8_lay_r1 : List Cond := [Cond.fieldLink RX8 46 "SpotRowsModel" "far" "[I", Cond.fieldLink RX8 49 "SpotRowsModel" "strong" "[I", Cond.fieldLink RX8 61 "SpotRowsModel" "way" "[I", Cond.fieldLink RX8 58 "SpotRowsModel" "factors" "[I", Cond.fieldLink RX8 55 "SpotRowsModel" "ties" "[I", Cond.methodLink RX8 153 Lib.Math.min.name, Cond.static Lib.Math.min.name, Cond.initialized "java/lang/Math", Cond.code Lib.Math.min.name Lib.Math.min.code 2 (some .int), Cond.methodLink RX8 158 yX8_look, Cond.instanceMethod yX8_look, Cond.selects RX8 yX8_look yX8_look, Cond.initialized RX8, Cond.code yX8_look cX8_look 5 none, Cond.fieldLink RX8 96 "SpotRowsModel" "eyes" "I", Cond.fieldLink RX8 52 "SpotRowsModel" "next" "[I", Cond.methodLink RX8 150 yX8_pair, Cond.static yX8_pair, Cond.code yX8_pair cX8_pair 2 (some .int), Cond.methodLink RX8 143 yX8_factorOf, Cond.instanceMethod yX8_factorOf, Cond.selects RX8 yX8_factorOf yX8_factorOf, Cond.code yX8_factorOf cX8_factorOf 10 (some .int), Cond.fieldLink RX8 24 "SpotRowsModel" "least" "I"]
def wsX8_lay_r2 : List Cond := [Cond.constantLong RX8 120 (1000), Cond.constantLong RX8 139 (10), Cond.constantLong RX8 141 (100000), Cond.methodLink RX8 129 yX8_areBoth, Cond.instanceMethod yX8_areBoth, Cond.selects RX8 yX8_areBoth yX8_areBoth, Cond.code yX8_areBoth cX8_areBoth 4 (some .boolean), Cond.methodLink RX8 125 yX8_tells, Cond.instanceMethod yX8_tells, Cond.selects RX8 yX8_tells yX8_tells, Cond.code yX8_tells cX8_tells 3 (some .boolean), Cond.fieldLink RX8 37 "SpotRowsModel" "without" "I", Cond.fieldLink RX8 31 "SpotRowsModel" "groups" "[I", Cond.methodLink RX8 103 yX8_at, Cond.static yX8_at, Cond.code yX8_at cX8_at 2 (some .int), Cond.methodLink RX8 122 yX8_number, Cond.instanceMethod yX8_number, Cond.selects RX8 yX8_number yX8_number, Cond.code yX8_number cX8_number 3 (some .int), Cond.fieldLink RX8 34 "SpotRowsModel" "spots" "[I", Cond.methodLink RX8 136 yX8_bothOf, Cond.instanceMethod yX8_bothOf, Cond.selects RX8 yX8_bothOf yX8_bothOf]
def wsX8_lay_r3 : List Cond := [Cond.code yX8_bothOf cX8_bothOf 5 (some .int)]
def wsX8_lay : List Cond := .code yX8_lay cX8_lay 6 (some .int) :: ((wsX8_lay_r1 ++ (wsX8_lay_r2 ++ wsX8_lay_r3)) ++ wsX80)
def wsX8_chain_r1 : List Cond := [Cond.fieldLink RX8 73 "SpotRowsModel" "status" "I", Cond.fieldLink RX8 61 "SpotRowsModel" "way" "[I", Cond.methodLink RX8 110 yX8_isEye, Cond.instanceMethod yX8_isEye, Cond.selects RX8 yX8_isEye yX8_isEye, Cond.initialized RX8, Cond.code yX8_isEye cX8_isEye 2 (some .boolean), Cond.fieldLink RX8 96 "SpotRowsModel" "eyes" "I", Cond.methodLink RX8 99 yX8_refuse, Cond.instanceMethod yX8_refuse, Cond.selects RX8 yX8_refuse yX8_refuse, Cond.code yX8_refuse cX8_refuse 2 (some .int), Cond.methodLink RX8 161 yX8_lay, Cond.instanceMethod yX8_lay, Cond.selects RX8 yX8_lay yX8_lay, Cond.code yX8_lay cX8_lay 6 (some .int), Cond.fieldLink RX8 46 "SpotRowsModel" "far" "[I", Cond.fieldLink RX8 49 "SpotRowsModel" "strong" "[I", Cond.fieldLink RX8 58 "SpotRowsModel" "factors" "[I", Cond.fieldLink RX8 55 "SpotRowsModel" "ties" "[I", Cond.methodLink RX8 153 Lib.Math.min.name, Cond.static Lib.Math.min.name, Cond.initialized "java/lang/Math", Cond.code Lib.Math.min.name Lib.Math.min.code 2 (some .int)]
def wsX8_chain_r2 : List Cond := [Cond.methodLink RX8 158 yX8_look, Cond.instanceMethod yX8_look, Cond.selects RX8 yX8_look yX8_look, Cond.code yX8_look cX8_look 5 none, Cond.fieldLink RX8 52 "SpotRowsModel" "next" "[I", Cond.methodLink RX8 150 yX8_pair, Cond.static yX8_pair, Cond.code yX8_pair cX8_pair 2 (some .int), Cond.methodLink RX8 143 yX8_factorOf, Cond.instanceMethod yX8_factorOf, Cond.selects RX8 yX8_factorOf yX8_factorOf, Cond.code yX8_factorOf cX8_factorOf 10 (some .int), Cond.fieldLink RX8 24 "SpotRowsModel" "least" "I", Cond.constantLong RX8 120 (1000), Cond.constantLong RX8 139 (10), Cond.constantLong RX8 141 (100000), Cond.methodLink RX8 129 yX8_areBoth, Cond.instanceMethod yX8_areBoth, Cond.selects RX8 yX8_areBoth yX8_areBoth, Cond.code yX8_areBoth cX8_areBoth 4 (some .boolean), Cond.methodLink RX8 125 yX8_tells, Cond.instanceMethod yX8_tells, Cond.selects RX8 yX8_tells yX8_tells, Cond.code yX8_tells cX8_tells 3 (some .boolean)]
def wsX8_chain_r3 : List Cond := [Cond.fieldLink RX8 37 "SpotRowsModel" "without" "I", Cond.fieldLink RX8 31 "SpotRowsModel" "groups" "[I", Cond.methodLink RX8 103 yX8_at, Cond.static yX8_at, Cond.code yX8_at cX8_at 2 (some .int), Cond.methodLink RX8 122 yX8_number, Cond.instanceMethod yX8_number, Cond.selects RX8 yX8_number yX8_number, Cond.code yX8_number cX8_number 3 (some .int), Cond.fieldLink RX8 34 "SpotRowsModel" "spots" "[I", Cond.methodLink RX8 136 yX8_bothOf, Cond.instanceMethod yX8_bothOf, Cond.selects RX8 yX8_bothOf yX8_bothOf, Cond.code yX8_bothOf cX8_bothOf 5 (some .int)]
def wsX8_chain : List Cond := .code yX8_chain cX8_chain 4 (some .int) :: ((wsX8_chain_r1 ++ (wsX8_chain_r2 ++ wsX8_chain_r3)) ++ wsX80)
def wsX8_weightOf_r1 : List Cond := [Cond.constantLong RX8 120 (1000), Cond.constantLong RX8 164 (1000000), Cond.fieldLink RX8 58 "SpotRowsModel" "factors" "[I", Cond.fieldLink RX8 61 "SpotRowsModel" "way" "[I", Cond.methodLink RX8 166 Lib.MathLoose.min_long.x, Cond.static Lib.MathLoose.min_long.x, Cond.initialized "java/lang/Math", Cond.code Lib.MathLoose.min_long.x Lib.MathLoose.min_long.code 4 (some .long), Cond.methodLink RX8 161 yX8_lay, Cond.instanceMethod yX8_lay, Cond.selects RX8 yX8_lay yX8_lay, Cond.initialized RX8, Cond.code yX8_lay cX8_lay 6 (some .int), Cond.fieldLink RX8 46 "SpotRowsModel" "far" "[I", Cond.fieldLink RX8 49 "SpotRowsModel" "strong" "[I", Cond.fieldLink RX8 55 "SpotRowsModel" "ties" "[I", Cond.methodLink RX8 153 Lib.Math.min.name, Cond.static Lib.Math.min.name, Cond.code Lib.Math.min.name Lib.Math.min.code 2 (some .int), Cond.methodLink RX8 158 yX8_look, Cond.instanceMethod yX8_look, Cond.selects RX8 yX8_look yX8_look, Cond.code yX8_look cX8_look 5 none, Cond.fieldLink RX8 96 "SpotRowsModel" "eyes" "I"]
def wsX8_weightOf_r2 : List Cond := [Cond.fieldLink RX8 52 "SpotRowsModel" "next" "[I", Cond.methodLink RX8 150 yX8_pair, Cond.static yX8_pair, Cond.code yX8_pair cX8_pair 2 (some .int), Cond.methodLink RX8 143 yX8_factorOf, Cond.instanceMethod yX8_factorOf, Cond.selects RX8 yX8_factorOf yX8_factorOf, Cond.code yX8_factorOf cX8_factorOf 10 (some .int), Cond.fieldLink RX8 24 "SpotRowsModel" "least" "I", Cond.constantLong RX8 139 (10), Cond.constantLong RX8 141 (100000), Cond.methodLink RX8 129 yX8_areBoth, Cond.instanceMethod yX8_areBoth, Cond.selects RX8 yX8_areBoth yX8_areBoth, Cond.code yX8_areBoth cX8_areBoth 4 (some .boolean), Cond.methodLink RX8 125 yX8_tells, Cond.instanceMethod yX8_tells, Cond.selects RX8 yX8_tells yX8_tells, Cond.code yX8_tells cX8_tells 3 (some .boolean), Cond.fieldLink RX8 37 "SpotRowsModel" "without" "I", Cond.fieldLink RX8 31 "SpotRowsModel" "groups" "[I", Cond.methodLink RX8 103 yX8_at, Cond.static yX8_at, Cond.code yX8_at cX8_at 2 (some .int)]
def wsX8_weightOf_r3 : List Cond := [Cond.methodLink RX8 122 yX8_number, Cond.instanceMethod yX8_number, Cond.selects RX8 yX8_number yX8_number, Cond.code yX8_number cX8_number 3 (some .int), Cond.fieldLink RX8 34 "SpotRowsModel" "spots" "[I", Cond.methodLink RX8 136 yX8_bothOf, Cond.instanceMethod yX8_bothOf, Cond.selects RX8 yX8_bothOf yX8_bothOf, Cond.code yX8_bothOf cX8_bothOf 5 (some .int)]
def wsX8_weightOf : List Cond := .code yX8_weightOf cX8_weightOf 6 (some .int) :: ((wsX8_weightOf_r1 ++ (wsX8_weightOf_r2 ++ wsX8_weightOf_r3)) ++ wsX80)
def wsX8_weight_r1 : List Cond := [Cond.fieldLink RX8 73 "SpotRowsModel" "status" "I", Cond.methodLink RX8 110 yX8_isEye, Cond.instanceMethod yX8_isEye, Cond.selects RX8 yX8_isEye yX8_isEye, Cond.initialized RX8, Cond.code yX8_isEye cX8_isEye 2 (some .boolean), Cond.fieldLink RX8 96 "SpotRowsModel" "eyes" "I", Cond.methodLink RX8 99 yX8_refuse, Cond.instanceMethod yX8_refuse, Cond.selects RX8 yX8_refuse yX8_refuse, Cond.code yX8_refuse cX8_refuse 2 (some .int), Cond.methodLink RX8 169 yX8_weightOf, Cond.instanceMethod yX8_weightOf, Cond.selects RX8 yX8_weightOf yX8_weightOf, Cond.code yX8_weightOf cX8_weightOf 6 (some .int), Cond.constantLong RX8 120 (1000), Cond.constantLong RX8 164 (1000000), Cond.fieldLink RX8 58 "SpotRowsModel" "factors" "[I", Cond.fieldLink RX8 61 "SpotRowsModel" "way" "[I", Cond.methodLink RX8 166 Lib.MathLoose.min_long.x, Cond.static Lib.MathLoose.min_long.x, Cond.initialized "java/lang/Math", Cond.code Lib.MathLoose.min_long.x Lib.MathLoose.min_long.code 4 (some .long), Cond.methodLink RX8 161 yX8_lay]
def wsX8_weight_r2 : List Cond := [Cond.instanceMethod yX8_lay, Cond.selects RX8 yX8_lay yX8_lay, Cond.code yX8_lay cX8_lay 6 (some .int), Cond.fieldLink RX8 46 "SpotRowsModel" "far" "[I", Cond.fieldLink RX8 49 "SpotRowsModel" "strong" "[I", Cond.fieldLink RX8 55 "SpotRowsModel" "ties" "[I", Cond.methodLink RX8 153 Lib.Math.min.name, Cond.static Lib.Math.min.name, Cond.code Lib.Math.min.name Lib.Math.min.code 2 (some .int), Cond.methodLink RX8 158 yX8_look, Cond.instanceMethod yX8_look, Cond.selects RX8 yX8_look yX8_look, Cond.code yX8_look cX8_look 5 none, Cond.fieldLink RX8 52 "SpotRowsModel" "next" "[I", Cond.methodLink RX8 150 yX8_pair, Cond.static yX8_pair, Cond.code yX8_pair cX8_pair 2 (some .int), Cond.methodLink RX8 143 yX8_factorOf, Cond.instanceMethod yX8_factorOf, Cond.selects RX8 yX8_factorOf yX8_factorOf, Cond.code yX8_factorOf cX8_factorOf 10 (some .int), Cond.fieldLink RX8 24 "SpotRowsModel" "least" "I", Cond.constantLong RX8 139 (10), Cond.constantLong RX8 141 (100000)]
def wsX8_weight_r3 : List Cond := [Cond.methodLink RX8 129 yX8_areBoth, Cond.instanceMethod yX8_areBoth, Cond.selects RX8 yX8_areBoth yX8_areBoth, Cond.code yX8_areBoth cX8_areBoth 4 (some .boolean), Cond.methodLink RX8 125 yX8_tells, Cond.instanceMethod yX8_tells, Cond.selects RX8 yX8_tells yX8_tells, Cond.code yX8_tells cX8_tells 3 (some .boolean), Cond.fieldLink RX8 37 "SpotRowsModel" "without" "I", Cond.fieldLink RX8 31 "SpotRowsModel" "groups" "[I", Cond.methodLink RX8 103 yX8_at, Cond.static yX8_at, Cond.code yX8_at cX8_at 2 (some .int), Cond.methodLink RX8 122 yX8_number, Cond.instanceMethod yX8_number, Cond.selects RX8 yX8_number yX8_number, Cond.code yX8_number cX8_number 3 (some .int), Cond.fieldLink RX8 34 "SpotRowsModel" "spots" "[I", Cond.methodLink RX8 136 yX8_bothOf, Cond.instanceMethod yX8_bothOf, Cond.selects RX8 yX8_bothOf yX8_bothOf, Cond.code yX8_bothOf cX8_bothOf 5 (some .int)]
def wsX8_weight : List Cond := .code yX8_weight cX8_weight 3 (some .int) :: ((wsX8_weight_r1 ++ (wsX8_weight_r2 ++ wsX8_weight_r3)) ++ wsX80)
def wsX8_loop_r1 : List Cond := [Cond.constantLong RX8 94 (-1), Cond.fieldLink RX8 73 "SpotRowsModel" "status" "I", Cond.constantLong RX8 164 (1000000), Cond.methodLink RX8 133 yX8_areTwo, Cond.instanceMethod yX8_areTwo, Cond.selects RX8 yX8_areTwo yX8_areTwo, Cond.initialized RX8, Cond.code yX8_areTwo cX8_areTwo 3 (some .boolean), Cond.methodLink RX8 110 yX8_isEye, Cond.instanceMethod yX8_isEye, Cond.selects RX8 yX8_isEye yX8_isEye, Cond.code yX8_isEye cX8_isEye 2 (some .boolean), Cond.fieldLink RX8 96 "SpotRowsModel" "eyes" "I", Cond.methodLink RX8 99 yX8_refuse, Cond.instanceMethod yX8_refuse, Cond.selects RX8 yX8_refuse yX8_refuse, Cond.code yX8_refuse cX8_refuse 2 (some .int), Cond.methodLink RX8 143 yX8_factorOf, Cond.instanceMethod yX8_factorOf, Cond.selects RX8 yX8_factorOf yX8_factorOf, Cond.code yX8_factorOf cX8_factorOf 10 (some .int), Cond.fieldLink RX8 24 "SpotRowsModel" "least" "I", Cond.constantLong RX8 120 (1000), Cond.constantLong RX8 139 (10)]
def wsX8_loop_r2 : List Cond := [Cond.constantLong RX8 141 (100000), Cond.methodLink RX8 129 yX8_areBoth, Cond.instanceMethod yX8_areBoth, Cond.selects RX8 yX8_areBoth yX8_areBoth, Cond.code yX8_areBoth cX8_areBoth 4 (some .boolean), Cond.methodLink RX8 125 yX8_tells, Cond.instanceMethod yX8_tells, Cond.selects RX8 yX8_tells yX8_tells, Cond.code yX8_tells cX8_tells 3 (some .boolean), Cond.fieldLink RX8 37 "SpotRowsModel" "without" "I", Cond.fieldLink RX8 31 "SpotRowsModel" "groups" "[I", Cond.methodLink RX8 103 yX8_at, Cond.static yX8_at, Cond.code yX8_at cX8_at 2 (some .int), Cond.methodLink RX8 122 yX8_number, Cond.instanceMethod yX8_number, Cond.selects RX8 yX8_number yX8_number, Cond.code yX8_number cX8_number 3 (some .int), Cond.fieldLink RX8 34 "SpotRowsModel" "spots" "[I"]
def wsX8_loop : List Cond := .code yX8_loop cX8_loop 10 (some .int) :: ((wsX8_loop_r1 ++ wsX8_loop_r2) ++ wsX80)
def wsX8_weigh_r1 : List Cond := [Cond.fieldLink RX8 96 "SpotRowsModel" "eyes" "I", Cond.fieldLink RX8 64 "SpotRowsModel" "weights" "[I", Cond.methodLink RX8 169 yX8_weightOf, Cond.instanceMethod yX8_weightOf, Cond.selects RX8 yX8_weightOf yX8_weightOf, Cond.initialized RX8, Cond.code yX8_weightOf cX8_weightOf 6 (some .int), Cond.constantLong RX8 120 (1000), Cond.constantLong RX8 164 (1000000), Cond.fieldLink RX8 58 "SpotRowsModel" "factors" "[I", Cond.fieldLink RX8 61 "SpotRowsModel" "way" "[I", Cond.methodLink RX8 166 Lib.MathLoose.min_long.x, Cond.static Lib.MathLoose.min_long.x, Cond.initialized "java/lang/Math", Cond.code Lib.MathLoose.min_long.x Lib.MathLoose.min_long.code 4 (some .long), Cond.methodLink RX8 161 yX8_lay, Cond.instanceMethod yX8_lay, Cond.selects RX8 yX8_lay yX8_lay, Cond.code yX8_lay cX8_lay 6 (some .int), Cond.fieldLink RX8 46 "SpotRowsModel" "far" "[I", Cond.fieldLink RX8 49 "SpotRowsModel" "strong" "[I", Cond.fieldLink RX8 55 "SpotRowsModel" "ties" "[I", Cond.methodLink RX8 153 Lib.Math.min.name, Cond.static Lib.Math.min.name]
def wsX8_weigh_r2 : List Cond := [Cond.code Lib.Math.min.name Lib.Math.min.code 2 (some .int), Cond.methodLink RX8 158 yX8_look, Cond.instanceMethod yX8_look, Cond.selects RX8 yX8_look yX8_look, Cond.code yX8_look cX8_look 5 none, Cond.fieldLink RX8 52 "SpotRowsModel" "next" "[I", Cond.methodLink RX8 150 yX8_pair, Cond.static yX8_pair, Cond.code yX8_pair cX8_pair 2 (some .int), Cond.methodLink RX8 143 yX8_factorOf, Cond.instanceMethod yX8_factorOf, Cond.selects RX8 yX8_factorOf yX8_factorOf, Cond.code yX8_factorOf cX8_factorOf 10 (some .int), Cond.fieldLink RX8 24 "SpotRowsModel" "least" "I", Cond.constantLong RX8 139 (10), Cond.constantLong RX8 141 (100000), Cond.methodLink RX8 129 yX8_areBoth, Cond.instanceMethod yX8_areBoth, Cond.selects RX8 yX8_areBoth yX8_areBoth, Cond.code yX8_areBoth cX8_areBoth 4 (some .boolean), Cond.methodLink RX8 125 yX8_tells, Cond.instanceMethod yX8_tells, Cond.selects RX8 yX8_tells yX8_tells, Cond.code yX8_tells cX8_tells 3 (some .boolean)]
def wsX8_weigh_r3 : List Cond := [Cond.fieldLink RX8 37 "SpotRowsModel" "without" "I", Cond.fieldLink RX8 31 "SpotRowsModel" "groups" "[I", Cond.methodLink RX8 103 yX8_at, Cond.static yX8_at, Cond.code yX8_at cX8_at 2 (some .int), Cond.methodLink RX8 122 yX8_number, Cond.instanceMethod yX8_number, Cond.selects RX8 yX8_number yX8_number, Cond.code yX8_number cX8_number 3 (some .int), Cond.fieldLink RX8 34 "SpotRowsModel" "spots" "[I", Cond.methodLink RX8 136 yX8_bothOf, Cond.instanceMethod yX8_bothOf, Cond.selects RX8 yX8_bothOf yX8_bothOf, Cond.code yX8_bothOf cX8_bothOf 5 (some .int)]
def wsX8_weigh : List Cond := .code yX8_weigh cX8_weigh 2 none :: ((wsX8_weigh_r1 ++ (wsX8_weigh_r2 ++ wsX8_weigh_r3)) ++ wsX80)
def wsX8_valueOf : List Cond := .code yX8_valueOf cX8_valueOf 6 (some .int) :: ([.fieldLink RX8 96 "SpotRowsModel" "eyes" "I", .fieldLink RX8 64 "SpotRowsModel" "weights" "[I", .methodLink RX8 125 yX8_tells, .instanceMethod yX8_tells, .selects RX8 yX8_tells yX8_tells, .initialized RX8, .code yX8_tells cX8_tells 3 (some .boolean), .fieldLink RX8 37 "SpotRowsModel" "without" "I", .fieldLink RX8 31 "SpotRowsModel" "groups" "[I", .methodLink RX8 103 yX8_at, .static yX8_at, .code yX8_at cX8_at 2 (some .int), .methodLink RX8 122 yX8_number, .instanceMethod yX8_number, .selects RX8 yX8_number yX8_number, .code yX8_number cX8_number 3 (some .int), .fieldLink RX8 34 "SpotRowsModel" "spots" "[I"] ++ wsX80)
def wsX8_monthOf : List Cond := .code yX8_monthOf cX8_monthOf 7 (some .int) :: ([.fieldLink RX8 28 "SpotRowsModel" "enough" "I", .methodLink RX8 172 yX8_valueOf, .instanceMethod yX8_valueOf, .selects RX8 yX8_valueOf yX8_valueOf, .initialized RX8, .code yX8_valueOf cX8_valueOf 6 (some .int), .fieldLink RX8 96 "SpotRowsModel" "eyes" "I", .fieldLink RX8 64 "SpotRowsModel" "weights" "[I", .methodLink RX8 125 yX8_tells, .instanceMethod yX8_tells, .selects RX8 yX8_tells yX8_tells, .code yX8_tells cX8_tells 3 (some .boolean), .fieldLink RX8 37 "SpotRowsModel" "without" "I", .fieldLink RX8 31 "SpotRowsModel" "groups" "[I", .methodLink RX8 103 yX8_at, .static yX8_at, .code yX8_at cX8_at 2 (some .int), .methodLink RX8 122 yX8_number, .instanceMethod yX8_number, .selects RX8 yX8_number yX8_number, .code yX8_number cX8_number 3 (some .int), .fieldLink RX8 34 "SpotRowsModel" "spots" "[I"] ++ wsX80)
def wsX8_tellValue : List Cond := .code yX8_tellValue cX8_tellValue 2 (some .int) :: ([.fieldLink RX8 73 "SpotRowsModel" "status" "I", .methodLink RX8 99 yX8_refuse, .instanceMethod yX8_refuse, .selects RX8 yX8_refuse yX8_refuse, .initialized RX8, .code yX8_refuse cX8_refuse 2 (some .int)] ++ wsX80)
def wsX8_day_r1 : List Cond := [Cond.methodLink RX8 113 yX8_isDay, Cond.static yX8_isDay, Cond.initialized RX8, Cond.code yX8_isDay cX8_isDay 1 (some .boolean), Cond.methodLink RX8 99 yX8_refuse, Cond.instanceMethod yX8_refuse, Cond.selects RX8 yX8_refuse yX8_refuse, Cond.code yX8_refuse cX8_refuse 2 (some .int), Cond.fieldLink RX8 73 "SpotRowsModel" "status" "I", Cond.methodLink RX8 175 yX8_weigh, Cond.instanceMethod yX8_weigh, Cond.selects RX8 yX8_weigh yX8_weigh, Cond.code yX8_weigh cX8_weigh 2 none, Cond.fieldLink RX8 96 "SpotRowsModel" "eyes" "I", Cond.fieldLink RX8 64 "SpotRowsModel" "weights" "[I", Cond.methodLink RX8 169 yX8_weightOf, Cond.instanceMethod yX8_weightOf, Cond.selects RX8 yX8_weightOf yX8_weightOf, Cond.code yX8_weightOf cX8_weightOf 6 (some .int), Cond.constantLong RX8 120 (1000), Cond.constantLong RX8 164 (1000000), Cond.fieldLink RX8 58 "SpotRowsModel" "factors" "[I", Cond.fieldLink RX8 61 "SpotRowsModel" "way" "[I", Cond.methodLink RX8 166 Lib.MathLoose.min_long.x]
def wsX8_day_r2 : List Cond := [Cond.static Lib.MathLoose.min_long.x, Cond.initialized "java/lang/Math", Cond.code Lib.MathLoose.min_long.x Lib.MathLoose.min_long.code 4 (some .long), Cond.methodLink RX8 161 yX8_lay, Cond.instanceMethod yX8_lay, Cond.selects RX8 yX8_lay yX8_lay, Cond.code yX8_lay cX8_lay 6 (some .int), Cond.fieldLink RX8 46 "SpotRowsModel" "far" "[I", Cond.fieldLink RX8 49 "SpotRowsModel" "strong" "[I", Cond.fieldLink RX8 55 "SpotRowsModel" "ties" "[I", Cond.methodLink RX8 153 Lib.Math.min.name, Cond.static Lib.Math.min.name, Cond.code Lib.Math.min.name Lib.Math.min.code 2 (some .int), Cond.methodLink RX8 158 yX8_look, Cond.instanceMethod yX8_look, Cond.selects RX8 yX8_look yX8_look, Cond.code yX8_look cX8_look 5 none, Cond.fieldLink RX8 52 "SpotRowsModel" "next" "[I", Cond.methodLink RX8 150 yX8_pair, Cond.static yX8_pair, Cond.code yX8_pair cX8_pair 2 (some .int), Cond.methodLink RX8 143 yX8_factorOf, Cond.instanceMethod yX8_factorOf, Cond.selects RX8 yX8_factorOf yX8_factorOf]
def wsX8_day_r3 : List Cond := [Cond.code yX8_factorOf cX8_factorOf 10 (some .int), Cond.fieldLink RX8 24 "SpotRowsModel" "least" "I", Cond.constantLong RX8 139 (10), Cond.constantLong RX8 141 (100000), Cond.methodLink RX8 129 yX8_areBoth, Cond.instanceMethod yX8_areBoth, Cond.selects RX8 yX8_areBoth yX8_areBoth, Cond.code yX8_areBoth cX8_areBoth 4 (some .boolean), Cond.methodLink RX8 125 yX8_tells, Cond.instanceMethod yX8_tells, Cond.selects RX8 yX8_tells yX8_tells, Cond.code yX8_tells cX8_tells 3 (some .boolean), Cond.fieldLink RX8 37 "SpotRowsModel" "without" "I", Cond.fieldLink RX8 31 "SpotRowsModel" "groups" "[I", Cond.methodLink RX8 103 yX8_at, Cond.static yX8_at, Cond.code yX8_at cX8_at 2 (some .int), Cond.methodLink RX8 122 yX8_number, Cond.instanceMethod yX8_number, Cond.selects RX8 yX8_number yX8_number, Cond.code yX8_number cX8_number 3 (some .int), Cond.fieldLink RX8 34 "SpotRowsModel" "spots" "[I", Cond.methodLink RX8 136 yX8_bothOf, Cond.instanceMethod yX8_bothOf]
def wsX8_day_r4 : List Cond := [Cond.selects RX8 yX8_bothOf yX8_bothOf, Cond.code yX8_bothOf cX8_bothOf 5 (some .int), Cond.methodLink RX8 172 yX8_valueOf, Cond.instanceMethod yX8_valueOf, Cond.selects RX8 yX8_valueOf yX8_valueOf, Cond.code yX8_valueOf cX8_valueOf 6 (some .int), Cond.methodLink RX8 178 yX8_tellValue, Cond.instanceMethod yX8_tellValue, Cond.selects RX8 yX8_tellValue yX8_tellValue, Cond.code yX8_tellValue cX8_tellValue 2 (some .int)]
def wsX8_day : List Cond := .code yX8_day cX8_day 2 (some .int) :: ((wsX8_day_r1 ++ (wsX8_day_r2 ++ (wsX8_day_r3 ++ wsX8_day_r4))) ++ wsX80)
def wsX8_month_r1 : List Cond := [Cond.methodLink RX8 181 yX8_isMonth, Cond.static yX8_isMonth, Cond.initialized RX8, Cond.code yX8_isMonth cX8_isMonth 1 (some .boolean), Cond.methodLink RX8 99 yX8_refuse, Cond.instanceMethod yX8_refuse, Cond.selects RX8 yX8_refuse yX8_refuse, Cond.code yX8_refuse cX8_refuse 2 (some .int), Cond.fieldLink RX8 73 "SpotRowsModel" "status" "I", Cond.methodLink RX8 175 yX8_weigh, Cond.instanceMethod yX8_weigh, Cond.selects RX8 yX8_weigh yX8_weigh, Cond.code yX8_weigh cX8_weigh 2 none, Cond.fieldLink RX8 96 "SpotRowsModel" "eyes" "I", Cond.fieldLink RX8 64 "SpotRowsModel" "weights" "[I", Cond.methodLink RX8 169 yX8_weightOf, Cond.instanceMethod yX8_weightOf, Cond.selects RX8 yX8_weightOf yX8_weightOf, Cond.code yX8_weightOf cX8_weightOf 6 (some .int), Cond.constantLong RX8 120 (1000), Cond.constantLong RX8 164 (1000000), Cond.fieldLink RX8 58 "SpotRowsModel" "factors" "[I", Cond.fieldLink RX8 61 "SpotRowsModel" "way" "[I", Cond.methodLink RX8 166 Lib.MathLoose.min_long.x]
def wsX8_month_r2 : List Cond := [Cond.static Lib.MathLoose.min_long.x, Cond.initialized "java/lang/Math", Cond.code Lib.MathLoose.min_long.x Lib.MathLoose.min_long.code 4 (some .long), Cond.methodLink RX8 161 yX8_lay, Cond.instanceMethod yX8_lay, Cond.selects RX8 yX8_lay yX8_lay, Cond.code yX8_lay cX8_lay 6 (some .int), Cond.fieldLink RX8 46 "SpotRowsModel" "far" "[I", Cond.fieldLink RX8 49 "SpotRowsModel" "strong" "[I", Cond.fieldLink RX8 55 "SpotRowsModel" "ties" "[I", Cond.methodLink RX8 153 Lib.Math.min.name, Cond.static Lib.Math.min.name, Cond.code Lib.Math.min.name Lib.Math.min.code 2 (some .int), Cond.methodLink RX8 158 yX8_look, Cond.instanceMethod yX8_look, Cond.selects RX8 yX8_look yX8_look, Cond.code yX8_look cX8_look 5 none, Cond.fieldLink RX8 52 "SpotRowsModel" "next" "[I", Cond.methodLink RX8 150 yX8_pair, Cond.static yX8_pair, Cond.code yX8_pair cX8_pair 2 (some .int), Cond.methodLink RX8 143 yX8_factorOf, Cond.instanceMethod yX8_factorOf, Cond.selects RX8 yX8_factorOf yX8_factorOf]
def wsX8_month_r3 : List Cond := [Cond.code yX8_factorOf cX8_factorOf 10 (some .int), Cond.fieldLink RX8 24 "SpotRowsModel" "least" "I", Cond.constantLong RX8 139 (10), Cond.constantLong RX8 141 (100000), Cond.methodLink RX8 129 yX8_areBoth, Cond.instanceMethod yX8_areBoth, Cond.selects RX8 yX8_areBoth yX8_areBoth, Cond.code yX8_areBoth cX8_areBoth 4 (some .boolean), Cond.methodLink RX8 125 yX8_tells, Cond.instanceMethod yX8_tells, Cond.selects RX8 yX8_tells yX8_tells, Cond.code yX8_tells cX8_tells 3 (some .boolean), Cond.fieldLink RX8 37 "SpotRowsModel" "without" "I", Cond.fieldLink RX8 31 "SpotRowsModel" "groups" "[I", Cond.methodLink RX8 103 yX8_at, Cond.static yX8_at, Cond.code yX8_at cX8_at 2 (some .int), Cond.methodLink RX8 122 yX8_number, Cond.instanceMethod yX8_number, Cond.selects RX8 yX8_number yX8_number, Cond.code yX8_number cX8_number 3 (some .int), Cond.fieldLink RX8 34 "SpotRowsModel" "spots" "[I", Cond.methodLink RX8 136 yX8_bothOf, Cond.instanceMethod yX8_bothOf]
def wsX8_month_r4 : List Cond := [Cond.selects RX8 yX8_bothOf yX8_bothOf, Cond.code yX8_bothOf cX8_bothOf 5 (some .int), Cond.methodLink RX8 184 yX8_monthOf, Cond.instanceMethod yX8_monthOf, Cond.selects RX8 yX8_monthOf yX8_monthOf, Cond.code yX8_monthOf cX8_monthOf 7 (some .int), Cond.fieldLink RX8 28 "SpotRowsModel" "enough" "I", Cond.methodLink RX8 172 yX8_valueOf, Cond.instanceMethod yX8_valueOf, Cond.selects RX8 yX8_valueOf yX8_valueOf, Cond.code yX8_valueOf cX8_valueOf 6 (some .int), Cond.methodLink RX8 178 yX8_tellValue, Cond.instanceMethod yX8_tellValue, Cond.selects RX8 yX8_tellValue yX8_tellValue, Cond.code yX8_tellValue cX8_tellValue 2 (some .int)]
def wsX8_month : List Cond := .code yX8_month cX8_month 2 (some .int) :: ((wsX8_month_r1 ++ (wsX8_month_r2 ++ (wsX8_month_r3 ++ wsX8_month_r4))) ++ wsX80)
def wsX8_isWide : List Cond := .code yX8_isWide cX8_isWide 1 (some .boolean) :: ([])
def wsX8_smoothAll_r1 : List Cond := [Cond.fieldLink RX8 67 "SpotRowsModel" "rough" "[I", Cond.fieldLink RX8 70 "SpotRowsModel" "smoothed" "[I", Cond.methodLink RX8 175 yX8_weigh, Cond.instanceMethod yX8_weigh, Cond.selects RX8 yX8_weigh yX8_weigh, Cond.initialized RX8, Cond.code yX8_weigh cX8_weigh 2 none, Cond.fieldLink RX8 96 "SpotRowsModel" "eyes" "I", Cond.fieldLink RX8 64 "SpotRowsModel" "weights" "[I", Cond.methodLink RX8 169 yX8_weightOf, Cond.instanceMethod yX8_weightOf, Cond.selects RX8 yX8_weightOf yX8_weightOf, Cond.code yX8_weightOf cX8_weightOf 6 (some .int), Cond.constantLong RX8 120 (1000), Cond.constantLong RX8 164 (1000000), Cond.fieldLink RX8 58 "SpotRowsModel" "factors" "[I", Cond.fieldLink RX8 61 "SpotRowsModel" "way" "[I", Cond.methodLink RX8 166 Lib.MathLoose.min_long.x, Cond.static Lib.MathLoose.min_long.x, Cond.initialized "java/lang/Math", Cond.code Lib.MathLoose.min_long.x Lib.MathLoose.min_long.code 4 (some .long), Cond.methodLink RX8 161 yX8_lay, Cond.instanceMethod yX8_lay, Cond.selects RX8 yX8_lay yX8_lay]
def wsX8_smoothAll_r2 : List Cond := [Cond.code yX8_lay cX8_lay 6 (some .int), Cond.fieldLink RX8 46 "SpotRowsModel" "far" "[I", Cond.fieldLink RX8 49 "SpotRowsModel" "strong" "[I", Cond.fieldLink RX8 55 "SpotRowsModel" "ties" "[I", Cond.methodLink RX8 153 Lib.Math.min.name, Cond.static Lib.Math.min.name, Cond.code Lib.Math.min.name Lib.Math.min.code 2 (some .int), Cond.methodLink RX8 158 yX8_look, Cond.instanceMethod yX8_look, Cond.selects RX8 yX8_look yX8_look, Cond.code yX8_look cX8_look 5 none, Cond.fieldLink RX8 52 "SpotRowsModel" "next" "[I", Cond.methodLink RX8 150 yX8_pair, Cond.static yX8_pair, Cond.code yX8_pair cX8_pair 2 (some .int), Cond.methodLink RX8 143 yX8_factorOf, Cond.instanceMethod yX8_factorOf, Cond.selects RX8 yX8_factorOf yX8_factorOf, Cond.code yX8_factorOf cX8_factorOf 10 (some .int), Cond.fieldLink RX8 24 "SpotRowsModel" "least" "I", Cond.constantLong RX8 139 (10), Cond.constantLong RX8 141 (100000), Cond.methodLink RX8 129 yX8_areBoth, Cond.instanceMethod yX8_areBoth]
def wsX8_smoothAll_r3 : List Cond := [Cond.selects RX8 yX8_areBoth yX8_areBoth, Cond.code yX8_areBoth cX8_areBoth 4 (some .boolean), Cond.methodLink RX8 125 yX8_tells, Cond.instanceMethod yX8_tells, Cond.selects RX8 yX8_tells yX8_tells, Cond.code yX8_tells cX8_tells 3 (some .boolean), Cond.fieldLink RX8 37 "SpotRowsModel" "without" "I", Cond.fieldLink RX8 31 "SpotRowsModel" "groups" "[I", Cond.methodLink RX8 103 yX8_at, Cond.static yX8_at, Cond.code yX8_at cX8_at 2 (some .int), Cond.methodLink RX8 122 yX8_number, Cond.instanceMethod yX8_number, Cond.selects RX8 yX8_number yX8_number, Cond.code yX8_number cX8_number 3 (some .int), Cond.fieldLink RX8 34 "SpotRowsModel" "spots" "[I", Cond.methodLink RX8 136 yX8_bothOf, Cond.instanceMethod yX8_bothOf, Cond.selects RX8 yX8_bothOf yX8_bothOf, Cond.code yX8_bothOf cX8_bothOf 5 (some .int), Cond.methodLink RX8 184 yX8_monthOf, Cond.instanceMethod yX8_monthOf, Cond.selects RX8 yX8_monthOf yX8_monthOf, Cond.code yX8_monthOf cX8_monthOf 7 (some .int)]
def wsX8_smoothAll_r4 : List Cond := [Cond.fieldLink RX8 28 "SpotRowsModel" "enough" "I", Cond.methodLink RX8 172 yX8_valueOf, Cond.instanceMethod yX8_valueOf, Cond.selects RX8 yX8_valueOf yX8_valueOf, Cond.code yX8_valueOf cX8_valueOf 6 (some .int), Cond.methodLink RX8 181 yX8_isMonth, Cond.static yX8_isMonth, Cond.code yX8_isMonth cX8_isMonth 1 (some .boolean)]
def wsX8_smoothAll : List Cond := .code yX8_smoothAll cX8_smoothAll 7 none :: ((wsX8_smoothAll_r1 ++ (wsX8_smoothAll_r2 ++ (wsX8_smoothAll_r3 ++ wsX8_smoothAll_r4))) ++ wsX80)
def wsX8_smooth_r1 : List Cond := [Cond.fieldLink RX8 70 "SpotRowsModel" "smoothed" "[I", Cond.methodLink RX8 181 yX8_isMonth, Cond.static yX8_isMonth, Cond.initialized RX8, Cond.code yX8_isMonth cX8_isMonth 1 (some .boolean), Cond.methodLink RX8 187 yX8_isWide, Cond.static yX8_isWide, Cond.code yX8_isWide cX8_isWide 1 (some .boolean), Cond.methodLink RX8 99 yX8_refuse, Cond.instanceMethod yX8_refuse, Cond.selects RX8 yX8_refuse yX8_refuse, Cond.code yX8_refuse cX8_refuse 2 (some .int), Cond.fieldLink RX8 73 "SpotRowsModel" "status" "I", Cond.methodLink RX8 190 yX8_smoothAll, Cond.instanceMethod yX8_smoothAll, Cond.selects RX8 yX8_smoothAll yX8_smoothAll, Cond.code yX8_smoothAll cX8_smoothAll 7 none, Cond.fieldLink RX8 67 "SpotRowsModel" "rough" "[I", Cond.methodLink RX8 175 yX8_weigh, Cond.instanceMethod yX8_weigh, Cond.selects RX8 yX8_weigh yX8_weigh, Cond.code yX8_weigh cX8_weigh 2 none, Cond.fieldLink RX8 96 "SpotRowsModel" "eyes" "I", Cond.fieldLink RX8 64 "SpotRowsModel" "weights" "[I"]
def wsX8_smooth_r2 : List Cond := [Cond.methodLink RX8 169 yX8_weightOf, Cond.instanceMethod yX8_weightOf, Cond.selects RX8 yX8_weightOf yX8_weightOf, Cond.code yX8_weightOf cX8_weightOf 6 (some .int), Cond.constantLong RX8 120 (1000), Cond.constantLong RX8 164 (1000000), Cond.fieldLink RX8 58 "SpotRowsModel" "factors" "[I", Cond.fieldLink RX8 61 "SpotRowsModel" "way" "[I", Cond.methodLink RX8 166 Lib.MathLoose.min_long.x, Cond.static Lib.MathLoose.min_long.x, Cond.initialized "java/lang/Math", Cond.code Lib.MathLoose.min_long.x Lib.MathLoose.min_long.code 4 (some .long), Cond.methodLink RX8 161 yX8_lay, Cond.instanceMethod yX8_lay, Cond.selects RX8 yX8_lay yX8_lay, Cond.code yX8_lay cX8_lay 6 (some .int), Cond.fieldLink RX8 46 "SpotRowsModel" "far" "[I", Cond.fieldLink RX8 49 "SpotRowsModel" "strong" "[I", Cond.fieldLink RX8 55 "SpotRowsModel" "ties" "[I", Cond.methodLink RX8 153 Lib.Math.min.name, Cond.static Lib.Math.min.name, Cond.code Lib.Math.min.name Lib.Math.min.code 2 (some .int), Cond.methodLink RX8 158 yX8_look, Cond.instanceMethod yX8_look]
def wsX8_smooth_r3 : List Cond := [Cond.selects RX8 yX8_look yX8_look, Cond.code yX8_look cX8_look 5 none, Cond.fieldLink RX8 52 "SpotRowsModel" "next" "[I", Cond.methodLink RX8 150 yX8_pair, Cond.static yX8_pair, Cond.code yX8_pair cX8_pair 2 (some .int), Cond.methodLink RX8 143 yX8_factorOf, Cond.instanceMethod yX8_factorOf, Cond.selects RX8 yX8_factorOf yX8_factorOf, Cond.code yX8_factorOf cX8_factorOf 10 (some .int), Cond.fieldLink RX8 24 "SpotRowsModel" "least" "I", Cond.constantLong RX8 139 (10), Cond.constantLong RX8 141 (100000), Cond.methodLink RX8 129 yX8_areBoth, Cond.instanceMethod yX8_areBoth, Cond.selects RX8 yX8_areBoth yX8_areBoth, Cond.code yX8_areBoth cX8_areBoth 4 (some .boolean), Cond.methodLink RX8 125 yX8_tells, Cond.instanceMethod yX8_tells, Cond.selects RX8 yX8_tells yX8_tells, Cond.code yX8_tells cX8_tells 3 (some .boolean), Cond.fieldLink RX8 37 "SpotRowsModel" "without" "I", Cond.fieldLink RX8 31 "SpotRowsModel" "groups" "[I", Cond.methodLink RX8 103 yX8_at]
def wsX8_smooth_r4 : List Cond := [Cond.static yX8_at, Cond.code yX8_at cX8_at 2 (some .int), Cond.methodLink RX8 122 yX8_number, Cond.instanceMethod yX8_number, Cond.selects RX8 yX8_number yX8_number, Cond.code yX8_number cX8_number 3 (some .int), Cond.fieldLink RX8 34 "SpotRowsModel" "spots" "[I", Cond.methodLink RX8 136 yX8_bothOf, Cond.instanceMethod yX8_bothOf, Cond.selects RX8 yX8_bothOf yX8_bothOf, Cond.code yX8_bothOf cX8_bothOf 5 (some .int), Cond.methodLink RX8 184 yX8_monthOf, Cond.instanceMethod yX8_monthOf, Cond.selects RX8 yX8_monthOf yX8_monthOf, Cond.code yX8_monthOf cX8_monthOf 7 (some .int), Cond.fieldLink RX8 28 "SpotRowsModel" "enough" "I", Cond.methodLink RX8 172 yX8_valueOf, Cond.instanceMethod yX8_valueOf, Cond.selects RX8 yX8_valueOf yX8_valueOf, Cond.code yX8_valueOf cX8_valueOf 6 (some .int), Cond.methodLink RX8 178 yX8_tellValue, Cond.instanceMethod yX8_tellValue, Cond.selects RX8 yX8_tellValue yX8_tellValue, Cond.code yX8_tellValue cX8_tellValue 2 (some .int)]
def wsX8_smooth : List Cond := .code yX8_smooth cX8_smooth 3 (some .int) :: ((wsX8_smooth_r1 ++ (wsX8_smooth_r2 ++ (wsX8_smooth_r3 ++ wsX8_smooth_r4))) ++ wsX80)
def wsX8_isTurn : List Cond := .code yX8_isTurn cX8_isTurn 7 (some .boolean) :: ([.fieldLink RX8 70 "SpotRowsModel" "smoothed" "[I", .methodLink RX8 194 Lib.Math.max.name, .static Lib.Math.max.name, .initialized "java/lang/Math", .code Lib.Math.max.name Lib.Math.max.code 2 (some .int), .methodLink RX8 153 Lib.Math.min.name, .static Lib.Math.min.name, .code Lib.Math.min.name Lib.Math.min.code 2 (some .int)] ++ wsX80)
def wsX8_turn_r1 : List Cond := [Cond.fieldLink RX8 73 "SpotRowsModel" "status" "I", Cond.methodLink RX8 187 yX8_isWide, Cond.static yX8_isWide, Cond.initialized RX8, Cond.code yX8_isWide cX8_isWide 1 (some .boolean), Cond.methodLink RX8 99 yX8_refuse, Cond.instanceMethod yX8_refuse, Cond.selects RX8 yX8_refuse yX8_refuse, Cond.code yX8_refuse cX8_refuse 2 (some .int), Cond.methodLink RX8 190 yX8_smoothAll, Cond.instanceMethod yX8_smoothAll, Cond.selects RX8 yX8_smoothAll yX8_smoothAll, Cond.code yX8_smoothAll cX8_smoothAll 7 none, Cond.fieldLink RX8 67 "SpotRowsModel" "rough" "[I", Cond.fieldLink RX8 70 "SpotRowsModel" "smoothed" "[I", Cond.methodLink RX8 175 yX8_weigh, Cond.instanceMethod yX8_weigh, Cond.selects RX8 yX8_weigh yX8_weigh, Cond.code yX8_weigh cX8_weigh 2 none, Cond.fieldLink RX8 96 "SpotRowsModel" "eyes" "I", Cond.fieldLink RX8 64 "SpotRowsModel" "weights" "[I", Cond.methodLink RX8 169 yX8_weightOf, Cond.instanceMethod yX8_weightOf, Cond.selects RX8 yX8_weightOf yX8_weightOf]
def wsX8_turn_r2 : List Cond := [Cond.code yX8_weightOf cX8_weightOf 6 (some .int), Cond.constantLong RX8 120 (1000), Cond.constantLong RX8 164 (1000000), Cond.fieldLink RX8 58 "SpotRowsModel" "factors" "[I", Cond.fieldLink RX8 61 "SpotRowsModel" "way" "[I", Cond.methodLink RX8 166 Lib.MathLoose.min_long.x, Cond.static Lib.MathLoose.min_long.x, Cond.initialized "java/lang/Math", Cond.code Lib.MathLoose.min_long.x Lib.MathLoose.min_long.code 4 (some .long), Cond.methodLink RX8 161 yX8_lay, Cond.instanceMethod yX8_lay, Cond.selects RX8 yX8_lay yX8_lay, Cond.code yX8_lay cX8_lay 6 (some .int), Cond.fieldLink RX8 46 "SpotRowsModel" "far" "[I", Cond.fieldLink RX8 49 "SpotRowsModel" "strong" "[I", Cond.fieldLink RX8 55 "SpotRowsModel" "ties" "[I", Cond.methodLink RX8 153 Lib.Math.min.name, Cond.static Lib.Math.min.name, Cond.code Lib.Math.min.name Lib.Math.min.code 2 (some .int), Cond.methodLink RX8 158 yX8_look, Cond.instanceMethod yX8_look, Cond.selects RX8 yX8_look yX8_look, Cond.code yX8_look cX8_look 5 none, Cond.fieldLink RX8 52 "SpotRowsModel" "next" "[I"]
def wsX8_turn_r3 : List Cond := [Cond.methodLink RX8 150 yX8_pair, Cond.static yX8_pair, Cond.code yX8_pair cX8_pair 2 (some .int), Cond.methodLink RX8 143 yX8_factorOf, Cond.instanceMethod yX8_factorOf, Cond.selects RX8 yX8_factorOf yX8_factorOf, Cond.code yX8_factorOf cX8_factorOf 10 (some .int), Cond.fieldLink RX8 24 "SpotRowsModel" "least" "I", Cond.constantLong RX8 139 (10), Cond.constantLong RX8 141 (100000), Cond.methodLink RX8 129 yX8_areBoth, Cond.instanceMethod yX8_areBoth, Cond.selects RX8 yX8_areBoth yX8_areBoth, Cond.code yX8_areBoth cX8_areBoth 4 (some .boolean), Cond.methodLink RX8 125 yX8_tells, Cond.instanceMethod yX8_tells, Cond.selects RX8 yX8_tells yX8_tells, Cond.code yX8_tells cX8_tells 3 (some .boolean), Cond.fieldLink RX8 37 "SpotRowsModel" "without" "I", Cond.fieldLink RX8 31 "SpotRowsModel" "groups" "[I", Cond.methodLink RX8 103 yX8_at, Cond.static yX8_at, Cond.code yX8_at cX8_at 2 (some .int), Cond.methodLink RX8 122 yX8_number]
def wsX8_turn_r4 : List Cond := [Cond.instanceMethod yX8_number, Cond.selects RX8 yX8_number yX8_number, Cond.code yX8_number cX8_number 3 (some .int), Cond.fieldLink RX8 34 "SpotRowsModel" "spots" "[I", Cond.methodLink RX8 136 yX8_bothOf, Cond.instanceMethod yX8_bothOf, Cond.selects RX8 yX8_bothOf yX8_bothOf, Cond.code yX8_bothOf cX8_bothOf 5 (some .int), Cond.methodLink RX8 184 yX8_monthOf, Cond.instanceMethod yX8_monthOf, Cond.selects RX8 yX8_monthOf yX8_monthOf, Cond.code yX8_monthOf cX8_monthOf 7 (some .int), Cond.fieldLink RX8 28 "SpotRowsModel" "enough" "I", Cond.methodLink RX8 172 yX8_valueOf, Cond.instanceMethod yX8_valueOf, Cond.selects RX8 yX8_valueOf yX8_valueOf, Cond.code yX8_valueOf cX8_valueOf 6 (some .int), Cond.methodLink RX8 181 yX8_isMonth, Cond.static yX8_isMonth, Cond.code yX8_isMonth cX8_isMonth 1 (some .boolean), Cond.methodLink RX8 197 yX8_isTurn, Cond.instanceMethod yX8_isTurn, Cond.selects RX8 yX8_isTurn yX8_isTurn, Cond.code yX8_isTurn cX8_isTurn 7 (some .boolean)]
def wsX8_turn_r5 : List Cond := [Cond.methodLink RX8 194 Lib.Math.max.name, Cond.static Lib.Math.max.name, Cond.code Lib.Math.max.name Lib.Math.max.code 2 (some .int)]
def wsX8_turn : List Cond := .code yX8_turn cX8_turn 7 (some .int) :: ((wsX8_turn_r1 ++ (wsX8_turn_r2 ++ (wsX8_turn_r3 ++ (wsX8_turn_r4 ++ wsX8_turn_r5)))) ++ wsX80)
def wsX8_change_r1 : List Cond := [Cond.fieldLink RX8 37 "SpotRowsModel" "without" "I", Cond.fieldLink RX8 73 "SpotRowsModel" "status" "I", Cond.methodLink RX8 181 yX8_isMonth, Cond.static yX8_isMonth, Cond.initialized RX8, Cond.code yX8_isMonth cX8_isMonth 1 (some .boolean), Cond.methodLink RX8 110 yX8_isEye, Cond.instanceMethod yX8_isEye, Cond.selects RX8 yX8_isEye yX8_isEye, Cond.code yX8_isEye cX8_isEye 2 (some .boolean), Cond.fieldLink RX8 96 "SpotRowsModel" "eyes" "I", Cond.methodLink RX8 99 yX8_refuse, Cond.instanceMethod yX8_refuse, Cond.selects RX8 yX8_refuse yX8_refuse, Cond.code yX8_refuse cX8_refuse 2 (some .int), Cond.methodLink RX8 175 yX8_weigh, Cond.instanceMethod yX8_weigh, Cond.selects RX8 yX8_weigh yX8_weigh, Cond.code yX8_weigh cX8_weigh 2 none, Cond.fieldLink RX8 64 "SpotRowsModel" "weights" "[I", Cond.methodLink RX8 169 yX8_weightOf, Cond.instanceMethod yX8_weightOf, Cond.selects RX8 yX8_weightOf yX8_weightOf, Cond.code yX8_weightOf cX8_weightOf 6 (some .int)]
def wsX8_change_r2 : List Cond := [Cond.constantLong RX8 120 (1000), Cond.constantLong RX8 164 (1000000), Cond.fieldLink RX8 58 "SpotRowsModel" "factors" "[I", Cond.fieldLink RX8 61 "SpotRowsModel" "way" "[I", Cond.methodLink RX8 166 Lib.MathLoose.min_long.x, Cond.static Lib.MathLoose.min_long.x, Cond.initialized "java/lang/Math", Cond.code Lib.MathLoose.min_long.x Lib.MathLoose.min_long.code 4 (some .long), Cond.methodLink RX8 161 yX8_lay, Cond.instanceMethod yX8_lay, Cond.selects RX8 yX8_lay yX8_lay, Cond.code yX8_lay cX8_lay 6 (some .int), Cond.fieldLink RX8 46 "SpotRowsModel" "far" "[I", Cond.fieldLink RX8 49 "SpotRowsModel" "strong" "[I", Cond.fieldLink RX8 55 "SpotRowsModel" "ties" "[I", Cond.methodLink RX8 153 Lib.Math.min.name, Cond.static Lib.Math.min.name, Cond.code Lib.Math.min.name Lib.Math.min.code 2 (some .int), Cond.methodLink RX8 158 yX8_look, Cond.instanceMethod yX8_look, Cond.selects RX8 yX8_look yX8_look, Cond.code yX8_look cX8_look 5 none, Cond.fieldLink RX8 52 "SpotRowsModel" "next" "[I", Cond.methodLink RX8 150 yX8_pair]
def wsX8_change_r3 : List Cond := [Cond.static yX8_pair, Cond.code yX8_pair cX8_pair 2 (some .int), Cond.methodLink RX8 143 yX8_factorOf, Cond.instanceMethod yX8_factorOf, Cond.selects RX8 yX8_factorOf yX8_factorOf, Cond.code yX8_factorOf cX8_factorOf 10 (some .int), Cond.fieldLink RX8 24 "SpotRowsModel" "least" "I", Cond.constantLong RX8 139 (10), Cond.constantLong RX8 141 (100000), Cond.methodLink RX8 129 yX8_areBoth, Cond.instanceMethod yX8_areBoth, Cond.selects RX8 yX8_areBoth yX8_areBoth, Cond.code yX8_areBoth cX8_areBoth 4 (some .boolean), Cond.methodLink RX8 125 yX8_tells, Cond.instanceMethod yX8_tells, Cond.selects RX8 yX8_tells yX8_tells, Cond.code yX8_tells cX8_tells 3 (some .boolean), Cond.fieldLink RX8 31 "SpotRowsModel" "groups" "[I", Cond.methodLink RX8 103 yX8_at, Cond.static yX8_at, Cond.code yX8_at cX8_at 2 (some .int), Cond.methodLink RX8 122 yX8_number, Cond.instanceMethod yX8_number, Cond.selects RX8 yX8_number yX8_number]
def wsX8_change_r4 : List Cond := [Cond.code yX8_number cX8_number 3 (some .int), Cond.fieldLink RX8 34 "SpotRowsModel" "spots" "[I", Cond.methodLink RX8 136 yX8_bothOf, Cond.instanceMethod yX8_bothOf, Cond.selects RX8 yX8_bothOf yX8_bothOf, Cond.code yX8_bothOf cX8_bothOf 5 (some .int), Cond.methodLink RX8 184 yX8_monthOf, Cond.instanceMethod yX8_monthOf, Cond.selects RX8 yX8_monthOf yX8_monthOf, Cond.code yX8_monthOf cX8_monthOf 7 (some .int), Cond.fieldLink RX8 28 "SpotRowsModel" "enough" "I", Cond.methodLink RX8 172 yX8_valueOf, Cond.instanceMethod yX8_valueOf, Cond.selects RX8 yX8_valueOf yX8_valueOf, Cond.code yX8_valueOf cX8_valueOf 6 (some .int)]
def wsX8_change : List Cond := .code yX8_change cX8_change 5 (some .int) :: ((wsX8_change_r1 ++ (wsX8_change_r2 ++ (wsX8_change_r3 ++ wsX8_change_r4))) ++ wsX80)
def wsJ9_max_7cf53 : List Cond := .code yJ9_max_7cf53 cJ9_max_7cf53 2 (some .int) :: ([])
def wsJ9_min_7cf53 : List Cond := .code yJ9_min_7cf53 cJ9_min_7cf53 2 (some .int) :: ([])
def wsJ9_min_f86c9 : List Cond := .code yJ9_min_f86c9 cJ9_min_f86c9 4 (some .long) :: ([])
theorem dX0_init_0 : decode cX0_init 0 = .ok (.aload_n 0, 1) := by decide +kernel
theorem dX0_init_1 : decode cX0_init 1 = .ok (.invokespecial 3, 3) := by decide +kernel
theorem dX0_init_4 : decode cX0_init 4 = .ok (.aload_n 0, 1) := by decide +kernel
theorem dX0_init_5 : decode cX0_init 5 = .ok (.bipush 8, 2) := by decide +kernel
theorem dX0_init_7 : decode cX0_init 7 = .ok (.newarray .int, 2) := by decide +kernel
theorem dX0_init_9 : decode cX0_init 9 = .ok (.putfield 9, 3) := by decide +kernel
theorem dX0_init_12 : decode cX0_init 12 = .ok (.aload_n 0, 1) := by decide +kernel
theorem dX0_init_13 : decode cX0_init 13 = .ok (.bipush 8, 2) := by decide +kernel
theorem dX0_init_15 : decode cX0_init 15 = .ok (.newarray .int, 2) := by decide +kernel
theorem dX0_init_17 : decode cX0_init 17 = .ok (.putfield 15, 3) := by decide +kernel
theorem dX0_init_20 : decode cX0_init 20 = .ok (.aload_n 0, 1) := by decide +kernel
theorem dX0_init_21 : decode cX0_init 21 = .ok (.bipush 8, 2) := by decide +kernel
theorem dX0_init_23 : decode cX0_init 23 = .ok (.newarray .int, 2) := by decide +kernel
theorem dX0_init_25 : decode cX0_init 25 = .ok (.putfield 18, 3) := by decide +kernel
theorem dX0_init_28 : decode cX0_init 28 = .ok (.aload_n 0, 1) := by decide +kernel
theorem dX0_init_29 : decode cX0_init 29 = .ok (.bipush 8, 2) := by decide +kernel
theorem dX0_init_31 : decode cX0_init 31 = .ok (.newarray .int, 2) := by decide +kernel
theorem dX0_init_33 : decode cX0_init 33 = .ok (.putfield 21, 3) := by decide +kernel
theorem dX0_init_36 : decode cX0_init 36 = .ok (.return_, 1) := by decide +kernel
set_option maxRecDepth 20000 in
theorem ggX0_reckon_J7_fill_53178 : GoodIn wsX0_reckon wsJ7_fill_53178 := goodIn_r _ [7] (by decide +kernel) (by decide +kernel)
set_option maxRecDepth 20000 in
theorem gX0_reckon_J7_fill_53178 : GoodIn wsX0_reckon (va_wsS RX0 24 yJ7_fill_53178 wsJ7_fill_53178) := goodIn_app (goodIn_of _ (by decide +kernel)) ggX0_reckon_J7_fill_53178
set_option maxRecDepth 20000 in
theorem ggX0_reckon_X0_reach : GoodIn wsX0_reckon wsX0_reach := goodIn_r _ [12, 1, 2, 13, 14, 15, 16, 17, 18, 19, 20, 21, 22, 23, 24, 25, 26, 27, 28, 29, 30, 31, 32, 55, 56, 57, 58, 59, 51, 52, 53, 54] (by decide +kernel) (by decide +kernel)
set_option maxRecDepth 20000 in
theorem gX0_reckon_X0_reach : GoodIn wsX0_reckon (wsV RX0 36 RX0 yX0_reach wsX0_reach) := goodIn_app (goodIn_of _ (by decide +kernel)) ggX0_reckon_X0_reach
set_option maxRecDepth 20000 in
theorem ggX0_reckon_X0_weigh : GoodIn wsX0_reckon wsX0_weigh := goodIn_r _ [36, 1, 37, 38, 39, 40, 41, 15, 42, 43, 44, 45, 11, 46, 2, 47, 48, 49, 50, 29, 30, 31, 23, 32, 26, 20, 21, 22, 24, 25, 27, 28, 51, 52, 53, 54, 55, 56, 57, 58, 59] (by decide +kernel) (by decide +kernel)
set_option maxRecDepth 20000 in
theorem gX0_reckon_X0_weigh : GoodIn wsX0_reckon (wsV RX0 40 RX0 yX0_weigh wsX0_weigh) := goodIn_app (goodIn_of _ (by decide +kernel)) ggX0_reckon_X0_weigh
theorem dX0_reckon_0 : decode cX0_reckon 0 = .ok (.aload_n 0, 1) := by decide +kernel
theorem dX0_reckon_1 : decode cX0_reckon 1 = .ok (.getfield 9, 3) := by decide +kernel
theorem dX0_reckon_4 : decode cX0_reckon 4 = .ok (.iconst (-1), 1) := by decide +kernel
theorem dX0_reckon_5 : decode cX0_reckon 5 = .ok (.invokestatic 24, 3) := by decide +kernel
theorem dX0_reckon_8 : decode cX0_reckon 8 = .ok (.aload_n 0, 1) := by decide +kernel
theorem dX0_reckon_9 : decode cX0_reckon 9 = .ok (.getfield 15, 3) := by decide +kernel
theorem dX0_reckon_12 : decode cX0_reckon 12 = .ok (.iconst 0, 1) := by decide +kernel
theorem dX0_reckon_13 : decode cX0_reckon 13 = .ok (.invokestatic 24, 3) := by decide +kernel
theorem dX0_reckon_16 : decode cX0_reckon 16 = .ok (.aload_n 0, 1) := by decide +kernel
theorem dX0_reckon_17 : decode cX0_reckon 17 = .ok (.getfield 9, 3) := by decide +kernel
theorem dX0_reckon_20 : decode cX0_reckon 20 = .ok (.iconst 0, 1) := by decide +kernel
theorem dX0_reckon_21 : decode cX0_reckon 21 = .ok (.iconst 0, 1) := by decide +kernel
theorem dX0_reckon_22 : decode cX0_reckon 22 = .ok (.iastore, 1) := by decide +kernel
theorem dX0_reckon_23 : decode cX0_reckon 23 = .ok (.aload_n 0, 1) := by decide +kernel
theorem dX0_reckon_24 : decode cX0_reckon 24 = .ok (.getfield 15, 3) := by decide +kernel
theorem dX0_reckon_27 : decode cX0_reckon 27 = .ok (.iconst 0, 1) := by decide +kernel
theorem dX0_reckon_28 : decode cX0_reckon 28 = .ok (.sipush 240, 3) := by decide +kernel
theorem dX0_reckon_31 : decode cX0_reckon 31 = .ok (.iastore, 1) := by decide +kernel
theorem dX0_reckon_32 : decode cX0_reckon 32 = .ok (.iconst 1, 1) := by decide +kernel
theorem dX0_reckon_33 : decode cX0_reckon 33 = .ok (.istore_n 3, 1) := by decide +kernel
theorem dX0_reckon_34 : decode cX0_reckon 34 = .ok (.iload_n 3, 1) := by decide +kernel
theorem dX0_reckon_35 : decode cX0_reckon 35 = .ok (.bipush 8, 2) := by decide +kernel
theorem dX0_reckon_37 : decode cX0_reckon 37 = .ok (.if_icmp .ge 52, 3) := by decide +kernel
theorem dX0_reckon_40 : decode cX0_reckon 40 = .ok (.iconst 1, 1) := by decide +kernel
theorem dX0_reckon_41 : decode cX0_reckon 41 = .ok (.istore 4, 2) := by decide +kernel
theorem dX0_reckon_43 : decode cX0_reckon 43 = .ok (.iload 4, 2) := by decide +kernel
theorem dX0_reckon_45 : decode cX0_reckon 45 = .ok (.aload_n 1, 1) := by decide +kernel
theorem dX0_reckon_46 : decode cX0_reckon 46 = .ok (.getfield 30, 3) := by decide +kernel
theorem dX0_reckon_49 : decode cX0_reckon 49 = .ok (.if_icmp .ge 34, 3) := by decide +kernel
theorem dX0_reckon_52 : decode cX0_reckon 52 = .ok (.iload 4, 2) := by decide +kernel
theorem dX0_reckon_54 : decode cX0_reckon 54 = .ok (.iload_n 2, 1) := by decide +kernel
theorem dX0_reckon_55 : decode cX0_reckon 55 = .ok (.if_icmp .eq 22, 3) := by decide +kernel
theorem dX0_reckon_58 : decode cX0_reckon 58 = .ok (.aload_n 0, 1) := by decide +kernel
theorem dX0_reckon_59 : decode cX0_reckon 59 = .ok (.getfield 9, 3) := by decide +kernel
theorem dX0_reckon_62 : decode cX0_reckon 62 = .ok (.iload 4, 2) := by decide +kernel
theorem dX0_reckon_64 : decode cX0_reckon 64 = .ok (.iaload, 1) := by decide +kernel
theorem dX0_reckon_65 : decode cX0_reckon 65 = .ok (.iconst (-1), 1) := by decide +kernel
theorem dX0_reckon_66 : decode cX0_reckon 66 = .ok (.if_icmp .ne 11, 3) := by decide +kernel
theorem dX0_reckon_69 : decode cX0_reckon 69 = .ok (.aload_n 0, 1) := by decide +kernel
theorem dX0_reckon_70 : decode cX0_reckon 70 = .ok (.aload_n 1, 1) := by decide +kernel
theorem dX0_reckon_71 : decode cX0_reckon 71 = .ok (.iload 4, 2) := by decide +kernel
theorem dX0_reckon_73 : decode cX0_reckon 73 = .ok (.iload_n 3, 1) := by decide +kernel
theorem dX0_reckon_74 : decode cX0_reckon 74 = .ok (.invokevirtual 36, 3) := by decide +kernel
theorem dX0_reckon_77 : decode cX0_reckon 77 = .ok (.iinc 4 1, 3) := by decide +kernel
theorem dX0_reckon_80 : decode cX0_reckon 80 = .ok (.goto (-37), 3) := by decide +kernel
theorem dX0_reckon_83 : decode cX0_reckon 83 = .ok (.iinc 3 1, 3) := by decide +kernel
theorem dX0_reckon_86 : decode cX0_reckon 86 = .ok (.goto (-52), 3) := by decide +kernel
theorem dX0_reckon_89 : decode cX0_reckon 89 = .ok (.iconst 0, 1) := by decide +kernel
theorem dX0_reckon_90 : decode cX0_reckon 90 = .ok (.istore_n 3, 1) := by decide +kernel
theorem dX0_reckon_91 : decode cX0_reckon 91 = .ok (.iload_n 3, 1) := by decide +kernel
theorem dX0_reckon_92 : decode cX0_reckon 92 = .ok (.bipush 8, 2) := by decide +kernel
theorem dX0_reckon_94 : decode cX0_reckon 94 = .ok (.if_icmp .ge 21, 3) := by decide +kernel
theorem dX0_reckon_97 : decode cX0_reckon 97 = .ok (.aload_n 0, 1) := by decide +kernel
theorem dX0_reckon_98 : decode cX0_reckon 98 = .ok (.getfield 18, 3) := by decide +kernel
theorem dX0_reckon_101 : decode cX0_reckon 101 = .ok (.iload_n 3, 1) := by decide +kernel
theorem dX0_reckon_102 : decode cX0_reckon 102 = .ok (.aload_n 0, 1) := by decide +kernel
theorem dX0_reckon_103 : decode cX0_reckon 103 = .ok (.aload_n 1, 1) := by decide +kernel
theorem dX0_reckon_104 : decode cX0_reckon 104 = .ok (.iload_n 3, 1) := by decide +kernel
theorem dX0_reckon_105 : decode cX0_reckon 105 = .ok (.invokevirtual 40, 3) := by decide +kernel
theorem dX0_reckon_108 : decode cX0_reckon 108 = .ok (.iastore, 1) := by decide +kernel
theorem dX0_reckon_109 : decode cX0_reckon 109 = .ok (.iinc 3 1, 3) := by decide +kernel
theorem dX0_reckon_112 : decode cX0_reckon 112 = .ok (.goto (-21), 3) := by decide +kernel
theorem dX0_reckon_115 : decode cX0_reckon 115 = .ok (.return_, 1) := by decide +kernel
set_option maxRecDepth 20000 in
theorem ggX0_reach_X5_factorOf : GoodIn wsX0_reach wsX5_factorOf := goodIn_r _ [14, 15, 16, 17, 18, 23, 24, 25, 26, 27] (by decide +kernel) (by decide +kernel)
set_option maxRecDepth 20000 in
theorem gX0_reach_X5_factorOf : GoodIn wsX0_reach (wsV RX0 44 RX5 yX5_factorOf wsX5_factorOf) := goodIn_app (goodIn_of _ (by decide +kernel)) ggX0_reach_X5_factorOf
set_option maxRecDepth 20000 in
theorem ggX0_reach_X5_countBoth : GoodIn wsX0_reach wsX5_countBoth := goodIn_r _ [22, 16, 23, 24, 25, 26, 27] (by decide +kernel) (by decide +kernel)
set_option maxRecDepth 20000 in
theorem gX0_reach_X5_countBoth : GoodIn wsX0_reach (wsV RX0 48 RX5 yX5_countBoth wsX5_countBoth) := goodIn_app (goodIn_of _ (by decide +kernel)) ggX0_reach_X5_countBoth
theorem dX0_reach_0 : decode cX0_reach 0 = .ok (.iconst 0, 1) := by decide +kernel
theorem dX0_reach_1 : decode cX0_reach 1 = .ok (.istore 4, 2) := by decide +kernel
theorem dX0_reach_3 : decode cX0_reach 3 = .ok (.iload 4, 2) := by decide +kernel
theorem dX0_reach_5 : decode cX0_reach 5 = .ok (.aload_n 1, 1) := by decide +kernel
theorem dX0_reach_6 : decode cX0_reach 6 = .ok (.getfield 30, 3) := by decide +kernel
theorem dX0_reach_9 : decode cX0_reach 9 = .ok (.if_icmp .ge 76, 3) := by decide +kernel
theorem dX0_reach_12 : decode cX0_reach 12 = .ok (.aload_n 0, 1) := by decide +kernel
theorem dX0_reach_13 : decode cX0_reach 13 = .ok (.getfield 9, 3) := by decide +kernel
theorem dX0_reach_16 : decode cX0_reach 16 = .ok (.iload 4, 2) := by decide +kernel
theorem dX0_reach_18 : decode cX0_reach 18 = .ok (.iaload, 1) := by decide +kernel
theorem dX0_reach_19 : decode cX0_reach 19 = .ok (.iload_n 3, 1) := by decide +kernel
theorem dX0_reach_20 : decode cX0_reach 20 = .ok (.iconst 1, 1) := by decide +kernel
theorem dX0_reach_21 : decode cX0_reach 21 = .ok (.isub, 1) := by decide +kernel
theorem dX0_reach_22 : decode cX0_reach 22 = .ok (.if_icmp .ne 57, 3) := by decide +kernel
theorem dX0_reach_25 : decode cX0_reach 25 = .ok (.aload_n 1, 1) := by decide +kernel
theorem dX0_reach_26 : decode cX0_reach 26 = .ok (.iload_n 2, 1) := by decide +kernel
theorem dX0_reach_27 : decode cX0_reach 27 = .ok (.iload 4, 2) := by decide +kernel
theorem dX0_reach_29 : decode cX0_reach 29 = .ok (.invokevirtual 44, 3) := by decide +kernel
theorem dX0_reach_32 : decode cX0_reach 32 = .ok (.iconst (-1), 1) := by decide +kernel
theorem dX0_reach_33 : decode cX0_reach 33 = .ok (.if_icmp .eq 46, 3) := by decide +kernel
theorem dX0_reach_36 : decode cX0_reach 36 = .ok (.aload_n 0, 1) := by decide +kernel
theorem dX0_reach_37 : decode cX0_reach 37 = .ok (.getfield 9, 3) := by decide +kernel
theorem dX0_reach_40 : decode cX0_reach 40 = .ok (.iload_n 2, 1) := by decide +kernel
theorem dX0_reach_41 : decode cX0_reach 41 = .ok (.iload_n 3, 1) := by decide +kernel
theorem dX0_reach_42 : decode cX0_reach 42 = .ok (.iastore, 1) := by decide +kernel
theorem dX0_reach_43 : decode cX0_reach 43 = .ok (.aload_n 1, 1) := by decide +kernel
theorem dX0_reach_44 : decode cX0_reach 44 = .ok (.iload_n 2, 1) := by decide +kernel
theorem dX0_reach_45 : decode cX0_reach 45 = .ok (.iload 4, 2) := by decide +kernel
theorem dX0_reach_47 : decode cX0_reach 47 = .ok (.invokevirtual 48, 3) := by decide +kernel
theorem dX0_reach_50 : decode cX0_reach 50 = .ok (.aload_n 0, 1) := by decide +kernel
theorem dX0_reach_51 : decode cX0_reach 51 = .ok (.getfield 15, 3) := by decide +kernel
theorem dX0_reach_54 : decode cX0_reach 54 = .ok (.iload 4, 2) := by decide +kernel
theorem dX0_reach_56 : decode cX0_reach 56 = .ok (.iaload, 1) := by decide +kernel
theorem dX0_reach_57 : decode cX0_reach 57 = .ok (.invokestatic 51, 3) := by decide +kernel
theorem dX0_reach_60 : decode cX0_reach 60 = .ok (.istore 5, 2) := by decide +kernel
theorem dX0_reach_62 : decode cX0_reach 62 = .ok (.aload_n 0, 1) := by decide +kernel
theorem dX0_reach_63 : decode cX0_reach 63 = .ok (.getfield 15, 3) := by decide +kernel
theorem dX0_reach_66 : decode cX0_reach 66 = .ok (.iload_n 2, 1) := by decide +kernel
theorem dX0_reach_67 : decode cX0_reach 67 = .ok (.aload_n 0, 1) := by decide +kernel
theorem dX0_reach_68 : decode cX0_reach 68 = .ok (.getfield 15, 3) := by decide +kernel
theorem dX0_reach_71 : decode cX0_reach 71 = .ok (.iload_n 2, 1) := by decide +kernel
theorem dX0_reach_72 : decode cX0_reach 72 = .ok (.iaload, 1) := by decide +kernel
theorem dX0_reach_73 : decode cX0_reach 73 = .ok (.iload 5, 2) := by decide +kernel
theorem dX0_reach_75 : decode cX0_reach 75 = .ok (.invokestatic 56, 3) := by decide +kernel
theorem dX0_reach_78 : decode cX0_reach 78 = .ok (.iastore, 1) := by decide +kernel
theorem dX0_reach_79 : decode cX0_reach 79 = .ok (.iinc 4 1, 3) := by decide +kernel
theorem dX0_reach_82 : decode cX0_reach 82 = .ok (.goto (-79), 3) := by decide +kernel
theorem dX0_reach_85 : decode cX0_reach 85 = .ok (.return_, 1) := by decide +kernel
set_option maxRecDepth 20000 in
theorem ggX0_walk_X0_firstNext : GoodIn wsX0_walk wsX0_firstNext := goodIn_r _ [8, 2, 3, 9, 10, 11, 12, 13, 14, 15, 16, 17, 18, 19, 20, 21, 26, 27, 28, 29, 30, 22, 23, 24, 25] (by decide +kernel) (by decide +kernel)
set_option maxRecDepth 20000 in
theorem gX0_walk_X0_firstNext : GoodIn wsX0_walk (wsV RX0 59 RX0 yX0_firstNext wsX0_firstNext) := goodIn_app (goodIn_of _ (by decide +kernel)) ggX0_walk_X0_firstNext
theorem dX0_walk_0 : decode cX0_walk 0 = .ok (.aload_n 0, 1) := by decide +kernel
theorem dX0_walk_1 : decode cX0_walk 1 = .ok (.getfield 21, 3) := by decide +kernel
theorem dX0_walk_4 : decode cX0_walk 4 = .ok (.iconst 0, 1) := by decide +kernel
theorem dX0_walk_5 : decode cX0_walk 5 = .ok (.iload_n 2, 1) := by decide +kernel
theorem dX0_walk_6 : decode cX0_walk 6 = .ok (.iastore, 1) := by decide +kernel
theorem dX0_walk_7 : decode cX0_walk 7 = .ok (.iconst 1, 1) := by decide +kernel
theorem dX0_walk_8 : decode cX0_walk 8 = .ok (.istore_n 3, 1) := by decide +kernel
theorem dX0_walk_9 : decode cX0_walk 9 = .ok (.iload_n 3, 1) := by decide +kernel
theorem dX0_walk_10 : decode cX0_walk 10 = .ok (.aload_n 0, 1) := by decide +kernel
theorem dX0_walk_11 : decode cX0_walk 11 = .ok (.getfield 9, 3) := by decide +kernel
theorem dX0_walk_14 : decode cX0_walk 14 = .ok (.iload_n 2, 1) := by decide +kernel
theorem dX0_walk_15 : decode cX0_walk 15 = .ok (.iaload, 1) := by decide +kernel
theorem dX0_walk_16 : decode cX0_walk 16 = .ok (.if_icmp .gt 34, 3) := by decide +kernel
theorem dX0_walk_19 : decode cX0_walk 19 = .ok (.aload_n 0, 1) := by decide +kernel
theorem dX0_walk_20 : decode cX0_walk 20 = .ok (.getfield 21, 3) := by decide +kernel
theorem dX0_walk_23 : decode cX0_walk 23 = .ok (.iload_n 3, 1) := by decide +kernel
theorem dX0_walk_24 : decode cX0_walk 24 = .ok (.aload_n 0, 1) := by decide +kernel
theorem dX0_walk_25 : decode cX0_walk 25 = .ok (.aload_n 1, 1) := by decide +kernel
theorem dX0_walk_26 : decode cX0_walk 26 = .ok (.aload_n 0, 1) := by decide +kernel
theorem dX0_walk_27 : decode cX0_walk 27 = .ok (.getfield 21, 3) := by decide +kernel
theorem dX0_walk_30 : decode cX0_walk 30 = .ok (.iload_n 3, 1) := by decide +kernel
theorem dX0_walk_31 : decode cX0_walk 31 = .ok (.iconst 1, 1) := by decide +kernel
theorem dX0_walk_32 : decode cX0_walk 32 = .ok (.isub, 1) := by decide +kernel
theorem dX0_walk_33 : decode cX0_walk 33 = .ok (.iaload, 1) := by decide +kernel
theorem dX0_walk_34 : decode cX0_walk 34 = .ok (.aload_n 0, 1) := by decide +kernel
theorem dX0_walk_35 : decode cX0_walk 35 = .ok (.getfield 15, 3) := by decide +kernel
theorem dX0_walk_38 : decode cX0_walk 38 = .ok (.iload_n 2, 1) := by decide +kernel
theorem dX0_walk_39 : decode cX0_walk 39 = .ok (.iaload, 1) := by decide +kernel
theorem dX0_walk_40 : decode cX0_walk 40 = .ok (.invokevirtual 59, 3) := by decide +kernel
theorem dX0_walk_43 : decode cX0_walk 43 = .ok (.iastore, 1) := by decide +kernel
theorem dX0_walk_44 : decode cX0_walk 44 = .ok (.iinc 3 1, 3) := by decide +kernel
theorem dX0_walk_47 : decode cX0_walk 47 = .ok (.goto (-38), 3) := by decide +kernel
theorem dX0_walk_50 : decode cX0_walk 50 = .ok (.return_, 1) := by decide +kernel
set_option maxRecDepth 20000 in
theorem ggX0_firstNext_X5_countBoth : GoodIn wsX0_firstNext wsX5_countBoth := goodIn_r _ [7, 8, 16, 17, 18, 19, 20] (by decide +kernel) (by decide +kernel)
set_option maxRecDepth 20000 in
theorem gX0_firstNext_X5_countBoth : GoodIn wsX0_firstNext (wsV RX0 48 RX5 yX5_countBoth wsX5_countBoth) := goodIn_app (goodIn_of _ (by decide +kernel)) ggX0_firstNext_X5_countBoth
set_option maxRecDepth 20000 in
theorem ggX0_firstNext_X5_factorOf : GoodIn wsX0_firstNext wsX5_factorOf := goodIn_r _ [12, 13, 8, 14, 15, 16, 17, 18, 19, 20] (by decide +kernel) (by decide +kernel)
set_option maxRecDepth 20000 in
theorem gX0_firstNext_X5_factorOf : GoodIn wsX0_firstNext (wsV RX0 44 RX5 yX5_factorOf wsX5_factorOf) := goodIn_app (goodIn_of _ (by decide +kernel)) ggX0_firstNext_X5_factorOf
theorem dX0_firstNext_0 : decode cX0_firstNext 0 = .ok (.iconst 0, 1) := by decide +kernel
theorem dX0_firstNext_1 : decode cX0_firstNext 1 = .ok (.istore 4, 2) := by decide +kernel
theorem dX0_firstNext_3 : decode cX0_firstNext 3 = .ok (.iload 4, 2) := by decide +kernel
theorem dX0_firstNext_5 : decode cX0_firstNext 5 = .ok (.aload_n 1, 1) := by decide +kernel
theorem dX0_firstNext_6 : decode cX0_firstNext 6 = .ok (.getfield 30, 3) := by decide +kernel
theorem dX0_firstNext_9 : decode cX0_firstNext 9 = .ok (.if_icmp .ge 63, 3) := by decide +kernel
theorem dX0_firstNext_12 : decode cX0_firstNext 12 = .ok (.aload_n 0, 1) := by decide +kernel
theorem dX0_firstNext_13 : decode cX0_firstNext 13 = .ok (.getfield 9, 3) := by decide +kernel
theorem dX0_firstNext_16 : decode cX0_firstNext 16 = .ok (.iload 4, 2) := by decide +kernel
theorem dX0_firstNext_18 : decode cX0_firstNext 18 = .ok (.iaload, 1) := by decide +kernel
theorem dX0_firstNext_19 : decode cX0_firstNext 19 = .ok (.aload_n 0, 1) := by decide +kernel
theorem dX0_firstNext_20 : decode cX0_firstNext 20 = .ok (.getfield 9, 3) := by decide +kernel
theorem dX0_firstNext_23 : decode cX0_firstNext 23 = .ok (.iload_n 2, 1) := by decide +kernel
theorem dX0_firstNext_24 : decode cX0_firstNext 24 = .ok (.iaload, 1) := by decide +kernel
theorem dX0_firstNext_25 : decode cX0_firstNext 25 = .ok (.iconst 1, 1) := by decide +kernel
theorem dX0_firstNext_26 : decode cX0_firstNext 26 = .ok (.isub, 1) := by decide +kernel
theorem dX0_firstNext_27 : decode cX0_firstNext 27 = .ok (.if_icmp .ne 39, 3) := by decide +kernel
end
section
theorem dX0_firstNext_30 : decode cX0_firstNext 30 = .ok (.aload_n 0, 1) := by decide +kernel
theorem dX0_firstNext_31 : decode cX0_firstNext 31 = .ok (.getfield 15, 3) := by decide +kernel
theorem dX0_firstNext_34 : decode cX0_firstNext 34 = .ok (.iload 4, 2) := by decide +kernel
theorem dX0_firstNext_36 : decode cX0_firstNext 36 = .ok (.iaload, 1) := by decide +kernel
theorem dX0_firstNext_37 : decode cX0_firstNext 37 = .ok (.iload_n 3, 1) := by decide +kernel
theorem dX0_firstNext_38 : decode cX0_firstNext 38 = .ok (.if_icmp .lt 28, 3) := by decide +kernel
theorem dX0_firstNext_41 : decode cX0_firstNext 41 = .ok (.aload_n 1, 1) := by decide +kernel
theorem dX0_firstNext_42 : decode cX0_firstNext 42 = .ok (.iload_n 2, 1) := by decide +kernel
theorem dX0_firstNext_43 : decode cX0_firstNext 43 = .ok (.iload 4, 2) := by decide +kernel
theorem dX0_firstNext_45 : decode cX0_firstNext 45 = .ok (.invokevirtual 48, 3) := by decide +kernel
theorem dX0_firstNext_48 : decode cX0_firstNext 48 = .ok (.iload_n 3, 1) := by decide +kernel
theorem dX0_firstNext_49 : decode cX0_firstNext 49 = .ok (.if_icmp .lt 17, 3) := by decide +kernel
theorem dX0_firstNext_52 : decode cX0_firstNext 52 = .ok (.aload_n 1, 1) := by decide +kernel
theorem dX0_firstNext_53 : decode cX0_firstNext 53 = .ok (.iload_n 2, 1) := by decide +kernel
theorem dX0_firstNext_54 : decode cX0_firstNext 54 = .ok (.iload 4, 2) := by decide +kernel
theorem dX0_firstNext_56 : decode cX0_firstNext 56 = .ok (.invokevirtual 44, 3) := by decide +kernel
theorem dX0_firstNext_59 : decode cX0_firstNext 59 = .ok (.iconst (-1), 1) := by decide +kernel
theorem dX0_firstNext_60 : decode cX0_firstNext 60 = .ok (.if_icmp .eq 6, 3) := by decide +kernel
theorem dX0_firstNext_63 : decode cX0_firstNext 63 = .ok (.iload 4, 2) := by decide +kernel
theorem dX0_firstNext_65 : decode cX0_firstNext 65 = .ok (.ireturn, 1) := by decide +kernel
theorem dX0_firstNext_66 : decode cX0_firstNext 66 = .ok (.iinc 4 1, 3) := by decide +kernel
theorem dX0_firstNext_69 : decode cX0_firstNext 69 = .ok (.goto (-66), 3) := by decide +kernel
theorem dX0_firstNext_72 : decode cX0_firstNext 72 = .ok (.iconst 0, 1) := by decide +kernel
theorem dX0_firstNext_73 : decode cX0_firstNext 73 = .ok (.ireturn, 1) := by decide +kernel
set_option maxRecDepth 20000 in
theorem ggX0_weigh_X0_walk : GoodIn wsX0_weigh wsX0_walk := goodIn_r _ [13, 3, 1, 14, 15, 16, 17, 12, 18, 19, 20, 21, 22, 23, 24, 25, 26, 27, 28, 29, 30, 31, 32, 33, 34, 35, 36, 37, 38, 39, 40] (by decide +kernel) (by decide +kernel)
set_option maxRecDepth 20000 in
theorem gX0_weigh_X0_walk : GoodIn wsX0_weigh (wsV RX0 63 RX0 yX0_walk wsX0_walk) := goodIn_app (goodIn_of _ (by decide +kernel)) ggX0_weigh_X0_walk
set_option maxRecDepth 20000 in
theorem ggX0_weigh_X5_factorOf : GoodIn wsX0_weigh wsX5_factorOf := goodIn_r _ [28, 29, 24, 30, 31, 36, 37, 38, 39, 40] (by decide +kernel) (by decide +kernel)
set_option maxRecDepth 20000 in
theorem gX0_weigh_X5_factorOf : GoodIn wsX0_weigh (wsV RX0 44 RX5 yX5_factorOf wsX5_factorOf) := goodIn_app (goodIn_of _ (by decide +kernel)) ggX0_weigh_X5_factorOf
theorem dX0_weigh_0 : decode cX0_weigh 0 = .ok (.aload_n 0, 1) := by decide +kernel
theorem dX0_weigh_1 : decode cX0_weigh 1 = .ok (.getfield 9, 3) := by decide +kernel
theorem dX0_weigh_4 : decode cX0_weigh 4 = .ok (.iload_n 2, 1) := by decide +kernel
theorem dX0_weigh_5 : decode cX0_weigh 5 = .ok (.iaload, 1) := by decide +kernel
theorem dX0_weigh_6 : decode cX0_weigh 6 = .ok (.iconst (-1), 1) := by decide +kernel
theorem dX0_weigh_7 : decode cX0_weigh 7 = .ok (.if_icmp .ne 5, 3) := by decide +kernel
theorem dX0_weigh_10 : decode cX0_weigh 10 = .ok (.iconst (-1), 1) := by decide +kernel
theorem dX0_weigh_11 : decode cX0_weigh 11 = .ok (.ireturn, 1) := by decide +kernel
theorem dX0_weigh_12 : decode cX0_weigh 12 = .ok (.aload_n 0, 1) := by decide +kernel
theorem dX0_weigh_13 : decode cX0_weigh 13 = .ok (.aload_n 1, 1) := by decide +kernel
theorem dX0_weigh_14 : decode cX0_weigh 14 = .ok (.iload_n 2, 1) := by decide +kernel
theorem dX0_weigh_15 : decode cX0_weigh 15 = .ok (.invokevirtual 63, 3) := by decide +kernel
theorem dX0_weigh_18 : decode cX0_weigh 18 = .ok (.ldc2_w 67, 3) := by decide +kernel
theorem dX0_weigh_21 : decode cX0_weigh 21 = .ok (.lstore_n 3, 1) := by decide +kernel
theorem dX0_weigh_22 : decode cX0_weigh 22 = .ok (.aload_n 0, 1) := by decide +kernel
theorem dX0_weigh_23 : decode cX0_weigh 23 = .ok (.getfield 9, 3) := by decide +kernel
theorem dX0_weigh_26 : decode cX0_weigh 26 = .ok (.iload_n 2, 1) := by decide +kernel
theorem dX0_weigh_27 : decode cX0_weigh 27 = .ok (.iaload, 1) := by decide +kernel
theorem dX0_weigh_28 : decode cX0_weigh 28 = .ok (.istore 5, 2) := by decide +kernel
theorem dX0_weigh_30 : decode cX0_weigh 30 = .ok (.iload 5, 2) := by decide +kernel
theorem dX0_weigh_32 : decode cX0_weigh 32 = .ok (.ifCond .le 45, 3) := by decide +kernel
theorem dX0_weigh_35 : decode cX0_weigh 35 = .ok (.lload_n 3, 1) := by decide +kernel
theorem dX0_weigh_36 : decode cX0_weigh 36 = .ok (.aload_n 1, 1) := by decide +kernel
theorem dX0_weigh_37 : decode cX0_weigh 37 = .ok (.aload_n 0, 1) := by decide +kernel
theorem dX0_weigh_38 : decode cX0_weigh 38 = .ok (.getfield 21, 3) := by decide +kernel
theorem dX0_weigh_41 : decode cX0_weigh 41 = .ok (.iload 5, 2) := by decide +kernel
theorem dX0_weigh_43 : decode cX0_weigh 43 = .ok (.iconst 1, 1) := by decide +kernel
theorem dX0_weigh_44 : decode cX0_weigh 44 = .ok (.isub, 1) := by decide +kernel
theorem dX0_weigh_45 : decode cX0_weigh 45 = .ok (.iaload, 1) := by decide +kernel
theorem dX0_weigh_46 : decode cX0_weigh 46 = .ok (.aload_n 0, 1) := by decide +kernel
theorem dX0_weigh_47 : decode cX0_weigh 47 = .ok (.getfield 21, 3) := by decide +kernel
theorem dX0_weigh_50 : decode cX0_weigh 50 = .ok (.iload 5, 2) := by decide +kernel
theorem dX0_weigh_52 : decode cX0_weigh 52 = .ok (.iaload, 1) := by decide +kernel
theorem dX0_weigh_53 : decode cX0_weigh 53 = .ok (.invokevirtual 44, 3) := by decide +kernel
theorem dX0_weigh_56 : decode cX0_weigh 56 = .ok (.i2l, 1) := by decide +kernel
theorem dX0_weigh_57 : decode cX0_weigh 57 = .ok (.lmul, 1) := by decide +kernel
theorem dX0_weigh_58 : decode cX0_weigh 58 = .ok (.ldc2_w 67, 3) := by decide +kernel
theorem dX0_weigh_61 : decode cX0_weigh 61 = .ok (.ldiv, 1) := by decide +kernel
theorem dX0_weigh_62 : decode cX0_weigh 62 = .ok (.lstore_n 3, 1) := by decide +kernel
theorem dX0_weigh_63 : decode cX0_weigh 63 = .ok (.lload_n 3, 1) := by decide +kernel
theorem dX0_weigh_64 : decode cX0_weigh 64 = .ok (.ldc2_w 69, 3) := by decide +kernel
theorem dX0_weigh_67 : decode cX0_weigh 67 = .ok (.invokestatic 71, 3) := by decide +kernel
theorem dX0_weigh_70 : decode cX0_weigh 70 = .ok (.lstore_n 3, 1) := by decide +kernel
theorem dX0_weigh_71 : decode cX0_weigh 71 = .ok (.iinc 5 (-1), 3) := by decide +kernel
theorem dX0_weigh_74 : decode cX0_weigh 74 = .ok (.goto (-44), 3) := by decide +kernel
theorem dX0_weigh_77 : decode cX0_weigh 77 = .ok (.lload_n 3, 1) := by decide +kernel
theorem dX0_weigh_78 : decode cX0_weigh 78 = .ok (.l2i, 1) := by decide +kernel
theorem dX0_weigh_79 : decode cX0_weigh 79 = .ok (.ireturn, 1) := by decide +kernel
theorem dX1_init_0 : decode cX1_init 0 = .ok (.aload_n 0, 1) := by decide +kernel
theorem dX1_init_1 : decode cX1_init 1 = .ok (.invokespecial 1, 3) := by decide +kernel
theorem dX1_init_4 : decode cX1_init 4 = .ok (.aload_n 0, 1) := by decide +kernel
theorem dX1_init_5 : decode cX1_init 5 = .ok (.lconst 0, 1) := by decide +kernel
theorem dX1_init_6 : decode cX1_init 6 = .ok (.putfield 7, 3) := by decide +kernel
theorem dX1_init_9 : decode cX1_init 9 = .ok (.aload_n 0, 1) := by decide +kernel
theorem dX1_init_10 : decode cX1_init 10 = .ok (.lconst 1, 1) := by decide +kernel
theorem dX1_init_11 : decode cX1_init 11 = .ok (.putfield 13, 3) := by decide +kernel
theorem dX1_init_14 : decode cX1_init 14 = .ok (.return_, 1) := by decide +kernel
set_option maxRecDepth 20000 in
theorem ggX1_put_X1_commonDivisor : GoodIn wsX1_put wsX1_commonDivisor := goodIn_r _ [6] (by decide +kernel) (by decide +kernel)
set_option maxRecDepth 20000 in
theorem gX1_put_X1_commonDivisor : GoodIn wsX1_put (va_wsS RX1 16 yX1_commonDivisor wsX1_commonDivisor) := goodIn_app (goodIn_of _ (by decide +kernel)) ggX1_put_X1_commonDivisor
theorem dX1_put_0 : decode cX1_put 0 = .ok (.iload_n 1, 1) := by decide +kernel
theorem dX1_put_1 : decode cX1_put 1 = .ok (.iload_n 2, 1) := by decide +kernel
theorem dX1_put_2 : decode cX1_put 2 = .ok (.invokestatic 16, 3) := by decide +kernel
theorem dX1_put_5 : decode cX1_put 5 = .ok (.istore_n 3, 1) := by decide +kernel
theorem dX1_put_6 : decode cX1_put 6 = .ok (.iload_n 3, 1) := by decide +kernel
theorem dX1_put_7 : decode cX1_put 7 = .ok (.ifCond .le 19, 3) := by decide +kernel
theorem dX1_put_10 : decode cX1_put 10 = .ok (.aload_n 0, 1) := by decide +kernel
theorem dX1_put_11 : decode cX1_put 11 = .ok (.iload_n 1, 1) := by decide +kernel
theorem dX1_put_12 : decode cX1_put 12 = .ok (.iload_n 3, 1) := by decide +kernel
theorem dX1_put_13 : decode cX1_put 13 = .ok (.idiv, 1) := by decide +kernel
theorem dX1_put_14 : decode cX1_put 14 = .ok (.i2l, 1) := by decide +kernel
theorem dX1_put_15 : decode cX1_put 15 = .ok (.putfield 7, 3) := by decide +kernel
theorem dX1_put_18 : decode cX1_put 18 = .ok (.aload_n 0, 1) := by decide +kernel
theorem dX1_put_19 : decode cX1_put 19 = .ok (.iload_n 2, 1) := by decide +kernel
theorem dX1_put_20 : decode cX1_put 20 = .ok (.iload_n 3, 1) := by decide +kernel
theorem dX1_put_21 : decode cX1_put 21 = .ok (.idiv, 1) := by decide +kernel
theorem dX1_put_22 : decode cX1_put 22 = .ok (.i2l, 1) := by decide +kernel
theorem dX1_put_23 : decode cX1_put 23 = .ok (.putfield 13, 3) := by decide +kernel
theorem dX1_put_26 : decode cX1_put 26 = .ok (.return_, 1) := by decide +kernel
theorem dX1_commonDivisor_0 : decode cX1_commonDivisor 0 = .ok (.iload_n 0, 1) := by decide +kernel
theorem dX1_commonDivisor_1 : decode cX1_commonDivisor 1 = .ok (.istore_n 2, 1) := by decide +kernel
theorem dX1_commonDivisor_2 : decode cX1_commonDivisor 2 = .ok (.iload_n 1, 1) := by decide +kernel
theorem dX1_commonDivisor_3 : decode cX1_commonDivisor 3 = .ok (.istore_n 3, 1) := by decide +kernel
theorem dX1_commonDivisor_4 : decode cX1_commonDivisor 4 = .ok (.iconst 0, 1) := by decide +kernel
theorem dX1_commonDivisor_5 : decode cX1_commonDivisor 5 = .ok (.istore 4, 2) := by decide +kernel
theorem dX1_commonDivisor_7 : decode cX1_commonDivisor 7 = .ok (.iload 4, 2) := by decide +kernel
theorem dX1_commonDivisor_9 : decode cX1_commonDivisor 9 = .ok (.bipush 64, 2) := by decide +kernel
theorem dX1_commonDivisor_11 : decode cX1_commonDivisor 11 = .ok (.if_icmp .ge 23, 3) := by decide +kernel
theorem dX1_commonDivisor_14 : decode cX1_commonDivisor 14 = .ok (.iload_n 3, 1) := by decide +kernel
theorem dX1_commonDivisor_15 : decode cX1_commonDivisor 15 = .ok (.ifCond .eq 19, 3) := by decide +kernel
theorem dX1_commonDivisor_18 : decode cX1_commonDivisor 18 = .ok (.iload_n 2, 1) := by decide +kernel
theorem dX1_commonDivisor_19 : decode cX1_commonDivisor 19 = .ok (.iload_n 3, 1) := by decide +kernel
theorem dX1_commonDivisor_20 : decode cX1_commonDivisor 20 = .ok (.irem, 1) := by decide +kernel
theorem dX1_commonDivisor_21 : decode cX1_commonDivisor 21 = .ok (.istore 5, 2) := by decide +kernel
theorem dX1_commonDivisor_23 : decode cX1_commonDivisor 23 = .ok (.iload_n 3, 1) := by decide +kernel
theorem dX1_commonDivisor_24 : decode cX1_commonDivisor 24 = .ok (.istore_n 2, 1) := by decide +kernel
theorem dX1_commonDivisor_25 : decode cX1_commonDivisor 25 = .ok (.iload 5, 2) := by decide +kernel
theorem dX1_commonDivisor_27 : decode cX1_commonDivisor 27 = .ok (.istore_n 3, 1) := by decide +kernel
theorem dX1_commonDivisor_28 : decode cX1_commonDivisor 28 = .ok (.iinc 4 1, 3) := by decide +kernel
theorem dX1_commonDivisor_31 : decode cX1_commonDivisor 31 = .ok (.goto (-24), 3) := by decide +kernel
theorem dX1_commonDivisor_34 : decode cX1_commonDivisor 34 = .ok (.iload_n 2, 1) := by decide +kernel
theorem dX1_commonDivisor_35 : decode cX1_commonDivisor 35 = .ok (.ireturn, 1) := by decide +kernel
theorem dX2_init_0 : decode cX2_init 0 = .ok (.aload_n 0, 1) := by decide +kernel
theorem dX2_init_1 : decode cX2_init 1 = .ok (.invokespecial 3, 3) := by decide +kernel
theorem dX2_init_4 : decode cX2_init 4 = .ok (.aload_n 0, 1) := by decide +kernel
theorem dX2_init_5 : decode cX2_init 5 = .ok (.sipush 240, 3) := by decide +kernel
theorem dX2_init_8 : decode cX2_init 8 = .ok (.newarray .int, 2) := by decide +kernel
theorem dX2_init_10 : decode cX2_init 10 = .ok (.putfield 9, 3) := by decide +kernel
theorem dX2_init_13 : decode cX2_init 13 = .ok (.aload_n 0, 1) := by decide +kernel
theorem dX2_init_14 : decode cX2_init 14 = .ok (.sipush 240, 3) := by decide +kernel
theorem dX2_init_17 : decode cX2_init 17 = .ok (.newarray .int, 2) := by decide +kernel
theorem dX2_init_19 : decode cX2_init 19 = .ok (.putfield 15, 3) := by decide +kernel
theorem dX2_init_22 : decode cX2_init 22 = .ok (.aload_n 0, 1) := by decide +kernel
theorem dX2_init_23 : decode cX2_init 23 = .ok (.iconst 0, 1) := by decide +kernel
theorem dX2_init_24 : decode cX2_init 24 = .ok (.putfield 18, 3) := by decide +kernel
theorem dX2_init_27 : decode cX2_init 27 = .ok (.return_, 1) := by decide +kernel
set_option maxRecDepth 20000 in
theorem ggX2_gather_X5_haveBoth : GoodIn wsX2_gather wsX5_haveBoth := goodIn_r _ [8, 9, 10, 11, 7, 12, 13, 29, 30, 31, 32, 33] (by decide +kernel) (by decide +kernel)
set_option maxRecDepth 20000 in
theorem gX2_gather_X5_haveBoth : GoodIn wsX2_gather (wsV RX2 22 RX5 yX5_haveBoth wsX5_haveBoth) := goodIn_app (goodIn_of _ (by decide +kernel)) ggX2_gather_X5_haveBoth
set_option maxRecDepth 20000 in
theorem ggX2_gather_X5_numberOf : GoodIn wsX2_gather wsX5_numberOf := goodIn_r _ [17, 18, 19, 20, 7, 21, 13, 22, 23, 24, 25, 29, 30, 31, 32, 33] (by decide +kernel) (by decide +kernel)
set_option maxRecDepth 20000 in
theorem gX2_gather_X5_numberOf : GoodIn wsX2_gather (wsV RX2 28 RX5 yX5_numberOf wsX5_numberOf) := goodIn_app (goodIn_of _ (by decide +kernel)) ggX2_gather_X5_numberOf
theorem dX2_gather_0 : decode cX2_gather 0 = .ok (.aload_n 0, 1) := by decide +kernel
theorem dX2_gather_1 : decode cX2_gather 1 = .ok (.iconst 0, 1) := by decide +kernel
theorem dX2_gather_2 : decode cX2_gather 2 = .ok (.putfield 18, 3) := by decide +kernel
theorem dX2_gather_5 : decode cX2_gather 5 = .ok (.iconst 0, 1) := by decide +kernel
theorem dX2_gather_6 : decode cX2_gather 6 = .ok (.istore 4, 2) := by decide +kernel
theorem dX2_gather_8 : decode cX2_gather 8 = .ok (.iload 4, 2) := by decide +kernel
theorem dX2_gather_10 : decode cX2_gather 10 = .ok (.sipush 240, 3) := by decide +kernel
theorem dX2_gather_13 : decode cX2_gather 13 = .ok (.if_icmp .ge 72, 3) := by decide +kernel
theorem dX2_gather_16 : decode cX2_gather 16 = .ok (.aload_n 1, 1) := by decide +kernel
theorem dX2_gather_17 : decode cX2_gather 17 = .ok (.iload_n 2, 1) := by decide +kernel
theorem dX2_gather_18 : decode cX2_gather 18 = .ok (.iload_n 3, 1) := by decide +kernel
theorem dX2_gather_19 : decode cX2_gather 19 = .ok (.iload 4, 2) := by decide +kernel
theorem dX2_gather_21 : decode cX2_gather 21 = .ok (.invokevirtual 22, 3) := by decide +kernel
theorem dX2_gather_24 : decode cX2_gather 24 = .ok (.ifCond .eq 55, 3) := by decide +kernel
theorem dX2_gather_27 : decode cX2_gather 27 = .ok (.aload_n 1, 1) := by decide +kernel
theorem dX2_gather_28 : decode cX2_gather 28 = .ok (.iload_n 2, 1) := by decide +kernel
theorem dX2_gather_29 : decode cX2_gather 29 = .ok (.iload 4, 2) := by decide +kernel
theorem dX2_gather_31 : decode cX2_gather 31 = .ok (.invokevirtual 28, 3) := by decide +kernel
theorem dX2_gather_34 : decode cX2_gather 34 = .ok (.ifCond .le 45, 3) := by decide +kernel
theorem dX2_gather_37 : decode cX2_gather 37 = .ok (.aload_n 0, 1) := by decide +kernel
theorem dX2_gather_38 : decode cX2_gather 38 = .ok (.getfield 9, 3) := by decide +kernel
theorem dX2_gather_41 : decode cX2_gather 41 = .ok (.aload_n 0, 1) := by decide +kernel
theorem dX2_gather_42 : decode cX2_gather 42 = .ok (.getfield 18, 3) := by decide +kernel
theorem dX2_gather_45 : decode cX2_gather 45 = .ok (.aload_n 1, 1) := by decide +kernel
theorem dX2_gather_46 : decode cX2_gather 46 = .ok (.iload_n 3, 1) := by decide +kernel
theorem dX2_gather_47 : decode cX2_gather 47 = .ok (.iload 4, 2) := by decide +kernel
theorem dX2_gather_49 : decode cX2_gather 49 = .ok (.invokevirtual 28, 3) := by decide +kernel
theorem dX2_gather_52 : decode cX2_gather 52 = .ok (.iastore, 1) := by decide +kernel
theorem dX2_gather_53 : decode cX2_gather 53 = .ok (.aload_n 0, 1) := by decide +kernel
theorem dX2_gather_54 : decode cX2_gather 54 = .ok (.getfield 15, 3) := by decide +kernel
theorem dX2_gather_57 : decode cX2_gather 57 = .ok (.aload_n 0, 1) := by decide +kernel
theorem dX2_gather_58 : decode cX2_gather 58 = .ok (.getfield 18, 3) := by decide +kernel
theorem dX2_gather_61 : decode cX2_gather 61 = .ok (.aload_n 1, 1) := by decide +kernel
theorem dX2_gather_62 : decode cX2_gather 62 = .ok (.iload_n 2, 1) := by decide +kernel
theorem dX2_gather_63 : decode cX2_gather 63 = .ok (.iload 4, 2) := by decide +kernel
theorem dX2_gather_65 : decode cX2_gather 65 = .ok (.invokevirtual 28, 3) := by decide +kernel
theorem dX2_gather_68 : decode cX2_gather 68 = .ok (.iastore, 1) := by decide +kernel
theorem dX2_gather_69 : decode cX2_gather 69 = .ok (.aload_n 0, 1) := by decide +kernel
theorem dX2_gather_70 : decode cX2_gather 70 = .ok (.dup, 1) := by decide +kernel
theorem dX2_gather_71 : decode cX2_gather 71 = .ok (.getfield 18, 3) := by decide +kernel
theorem dX2_gather_74 : decode cX2_gather 74 = .ok (.iconst 1, 1) := by decide +kernel
theorem dX2_gather_75 : decode cX2_gather 75 = .ok (.iadd, 1) := by decide +kernel
theorem dX2_gather_76 : decode cX2_gather 76 = .ok (.putfield 18, 3) := by decide +kernel
theorem dX2_gather_79 : decode cX2_gather 79 = .ok (.iinc 4 1, 3) := by decide +kernel
theorem dX2_gather_82 : decode cX2_gather 82 = .ok (.goto (-74), 3) := by decide +kernel
theorem dX2_gather_85 : decode cX2_gather 85 = .ok (.return_, 1) := by decide +kernel
set_option maxRecDepth 20000 in
theorem ggX2_order_X2_sink : GoodIn wsX2_order wsX2_sink := goodIn_r _ [6, 7, 8, 9, 10, 11] (by decide +kernel) (by decide +kernel)
set_option maxRecDepth 20000 in
theorem gX2_order_X2_sink : GoodIn wsX2_order (wsV RX2 32 RX2 yX2_sink wsX2_sink) := goodIn_app (goodIn_of _ (by decide +kernel)) ggX2_order_X2_sink
theorem dX2_order_0 : decode cX2_order 0 = .ok (.bipush 121, 2) := by decide +kernel
theorem dX2_order_2 : decode cX2_order 2 = .ok (.istore_n 1, 1) := by decide +kernel
theorem dX2_order_3 : decode cX2_order 3 = .ok (.iload_n 1, 1) := by decide +kernel
theorem dX2_order_4 : decode cX2_order 4 = .ok (.ifCond .le 32, 3) := by decide +kernel
theorem dX2_order_7 : decode cX2_order 7 = .ok (.iload_n 1, 1) := by decide +kernel
theorem dX2_order_8 : decode cX2_order 8 = .ok (.istore_n 2, 1) := by decide +kernel
theorem dX2_order_9 : decode cX2_order 9 = .ok (.iload_n 2, 1) := by decide +kernel
theorem dX2_order_10 : decode cX2_order 10 = .ok (.aload_n 0, 1) := by decide +kernel
theorem dX2_order_11 : decode cX2_order 11 = .ok (.getfield 18, 3) := by decide +kernel
theorem dX2_order_14 : decode cX2_order 14 = .ok (.if_icmp .ge 15, 3) := by decide +kernel
theorem dX2_order_17 : decode cX2_order 17 = .ok (.aload_n 0, 1) := by decide +kernel
theorem dX2_order_18 : decode cX2_order 18 = .ok (.iload_n 2, 1) := by decide +kernel
theorem dX2_order_19 : decode cX2_order 19 = .ok (.iload_n 1, 1) := by decide +kernel
theorem dX2_order_20 : decode cX2_order 20 = .ok (.invokevirtual 32, 3) := by decide +kernel
theorem dX2_order_23 : decode cX2_order 23 = .ok (.iinc 2 1, 3) := by decide +kernel
theorem dX2_order_26 : decode cX2_order 26 = .ok (.goto (-17), 3) := by decide +kernel
theorem dX2_order_29 : decode cX2_order 29 = .ok (.iload_n 1, 1) := by decide +kernel
theorem dX2_order_30 : decode cX2_order 30 = .ok (.iconst 3, 1) := by decide +kernel
theorem dX2_order_31 : decode cX2_order 31 = .ok (.idiv, 1) := by decide +kernel
theorem dX2_order_32 : decode cX2_order 32 = .ok (.istore_n 1, 1) := by decide +kernel
theorem dX2_order_33 : decode cX2_order 33 = .ok (.goto (-30), 3) := by decide +kernel
theorem dX2_order_36 : decode cX2_order 36 = .ok (.return_, 1) := by decide +kernel
theorem dX2_sink_0 : decode cX2_sink 0 = .ok (.aload_n 0, 1) := by decide +kernel
theorem dX2_sink_1 : decode cX2_sink 1 = .ok (.getfield 9, 3) := by decide +kernel
theorem dX2_sink_4 : decode cX2_sink 4 = .ok (.iload_n 1, 1) := by decide +kernel
theorem dX2_sink_5 : decode cX2_sink 5 = .ok (.iaload, 1) := by decide +kernel
theorem dX2_sink_6 : decode cX2_sink 6 = .ok (.istore_n 3, 1) := by decide +kernel
theorem dX2_sink_7 : decode cX2_sink 7 = .ok (.aload_n 0, 1) := by decide +kernel
theorem dX2_sink_8 : decode cX2_sink 8 = .ok (.getfield 15, 3) := by decide +kernel
theorem dX2_sink_11 : decode cX2_sink 11 = .ok (.iload_n 1, 1) := by decide +kernel
theorem dX2_sink_12 : decode cX2_sink 12 = .ok (.iaload, 1) := by decide +kernel
theorem dX2_sink_13 : decode cX2_sink 13 = .ok (.istore 4, 2) := by decide +kernel
theorem dX2_sink_15 : decode cX2_sink 15 = .ok (.iload_n 1, 1) := by decide +kernel
theorem dX2_sink_16 : decode cX2_sink 16 = .ok (.istore 5, 2) := by decide +kernel
theorem dX2_sink_18 : decode cX2_sink 18 = .ok (.iload 5, 2) := by decide +kernel
theorem dX2_sink_20 : decode cX2_sink 20 = .ok (.iload_n 2, 1) := by decide +kernel
theorem dX2_sink_21 : decode cX2_sink 21 = .ok (.if_icmp .lt 70, 3) := by decide +kernel
theorem dX2_sink_24 : decode cX2_sink 24 = .ok (.iload_n 3, 1) := by decide +kernel
theorem dX2_sink_25 : decode cX2_sink 25 = .ok (.aload_n 0, 1) := by decide +kernel
theorem dX2_sink_26 : decode cX2_sink 26 = .ok (.getfield 15, 3) := by decide +kernel
theorem dX2_sink_29 : decode cX2_sink 29 = .ok (.iload 5, 2) := by decide +kernel
theorem dX2_sink_31 : decode cX2_sink 31 = .ok (.iload_n 2, 1) := by decide +kernel
theorem dX2_sink_32 : decode cX2_sink 32 = .ok (.isub, 1) := by decide +kernel
theorem dX2_sink_33 : decode cX2_sink 33 = .ok (.iaload, 1) := by decide +kernel
theorem dX2_sink_34 : decode cX2_sink 34 = .ok (.imul, 1) := by decide +kernel
theorem dX2_sink_35 : decode cX2_sink 35 = .ok (.aload_n 0, 1) := by decide +kernel
theorem dX2_sink_36 : decode cX2_sink 36 = .ok (.getfield 9, 3) := by decide +kernel
theorem dX2_sink_39 : decode cX2_sink 39 = .ok (.iload 5, 2) := by decide +kernel
theorem dX2_sink_41 : decode cX2_sink 41 = .ok (.iload_n 2, 1) := by decide +kernel
theorem dX2_sink_42 : decode cX2_sink 42 = .ok (.isub, 1) := by decide +kernel
theorem dX2_sink_43 : decode cX2_sink 43 = .ok (.iaload, 1) := by decide +kernel
theorem dX2_sink_44 : decode cX2_sink 44 = .ok (.iload 4, 2) := by decide +kernel
theorem dX2_sink_46 : decode cX2_sink 46 = .ok (.imul, 1) := by decide +kernel
theorem dX2_sink_47 : decode cX2_sink 47 = .ok (.if_icmp .ge 44, 3) := by decide +kernel
theorem dX2_sink_50 : decode cX2_sink 50 = .ok (.aload_n 0, 1) := by decide +kernel
theorem dX2_sink_51 : decode cX2_sink 51 = .ok (.getfield 9, 3) := by decide +kernel
theorem dX2_sink_54 : decode cX2_sink 54 = .ok (.iload 5, 2) := by decide +kernel
theorem dX2_sink_56 : decode cX2_sink 56 = .ok (.aload_n 0, 1) := by decide +kernel
theorem dX2_sink_57 : decode cX2_sink 57 = .ok (.getfield 9, 3) := by decide +kernel
theorem dX2_sink_60 : decode cX2_sink 60 = .ok (.iload 5, 2) := by decide +kernel
theorem dX2_sink_62 : decode cX2_sink 62 = .ok (.iload_n 2, 1) := by decide +kernel
theorem dX2_sink_63 : decode cX2_sink 63 = .ok (.isub, 1) := by decide +kernel
theorem dX2_sink_64 : decode cX2_sink 64 = .ok (.iaload, 1) := by decide +kernel
theorem dX2_sink_65 : decode cX2_sink 65 = .ok (.iastore, 1) := by decide +kernel
theorem dX2_sink_66 : decode cX2_sink 66 = .ok (.aload_n 0, 1) := by decide +kernel
theorem dX2_sink_67 : decode cX2_sink 67 = .ok (.getfield 15, 3) := by decide +kernel
theorem dX2_sink_70 : decode cX2_sink 70 = .ok (.iload 5, 2) := by decide +kernel
theorem dX2_sink_72 : decode cX2_sink 72 = .ok (.aload_n 0, 1) := by decide +kernel
theorem dX2_sink_73 : decode cX2_sink 73 = .ok (.getfield 15, 3) := by decide +kernel
theorem dX2_sink_76 : decode cX2_sink 76 = .ok (.iload 5, 2) := by decide +kernel
theorem dX2_sink_78 : decode cX2_sink 78 = .ok (.iload_n 2, 1) := by decide +kernel
theorem dX2_sink_79 : decode cX2_sink 79 = .ok (.isub, 1) := by decide +kernel
theorem dX2_sink_80 : decode cX2_sink 80 = .ok (.iaload, 1) := by decide +kernel
theorem dX2_sink_81 : decode cX2_sink 81 = .ok (.iastore, 1) := by decide +kernel
theorem dX2_sink_82 : decode cX2_sink 82 = .ok (.iload 5, 2) := by decide +kernel
theorem dX2_sink_84 : decode cX2_sink 84 = .ok (.iload_n 2, 1) := by decide +kernel
theorem dX2_sink_85 : decode cX2_sink 85 = .ok (.isub, 1) := by decide +kernel
theorem dX2_sink_86 : decode cX2_sink 86 = .ok (.istore 5, 2) := by decide +kernel
theorem dX2_sink_88 : decode cX2_sink 88 = .ok (.goto (-70), 3) := by decide +kernel
theorem dX2_sink_91 : decode cX2_sink 91 = .ok (.aload_n 0, 1) := by decide +kernel
theorem dX2_sink_92 : decode cX2_sink 92 = .ok (.getfield 9, 3) := by decide +kernel
theorem dX2_sink_95 : decode cX2_sink 95 = .ok (.iload 5, 2) := by decide +kernel
theorem dX2_sink_97 : decode cX2_sink 97 = .ok (.iload_n 3, 1) := by decide +kernel
theorem dX2_sink_98 : decode cX2_sink 98 = .ok (.iastore, 1) := by decide +kernel
theorem dX2_sink_99 : decode cX2_sink 99 = .ok (.aload_n 0, 1) := by decide +kernel
theorem dX2_sink_100 : decode cX2_sink 100 = .ok (.getfield 15, 3) := by decide +kernel
theorem dX2_sink_103 : decode cX2_sink 103 = .ok (.iload 5, 2) := by decide +kernel
theorem dX2_sink_105 : decode cX2_sink 105 = .ok (.iload 4, 2) := by decide +kernel
theorem dX2_sink_107 : decode cX2_sink 107 = .ok (.iastore, 1) := by decide +kernel
theorem dX2_sink_108 : decode cX2_sink 108 = .ok (.return_, 1) := by decide +kernel
theorem dX3_init_0 : decode cX3_init 0 = .ok (.aload_n 0, 1) := by decide +kernel
theorem dX3_init_1 : decode cX3_init 1 = .ok (.invokespecial 3, 3) := by decide +kernel
theorem dX3_init_4 : decode cX3_init 4 = .ok (.aload_n 0, 1) := by decide +kernel
theorem dX3_init_5 : decode cX3_init 5 = .ok (.bipush 24, 2) := by decide +kernel
theorem dX3_init_7 : decode cX3_init 7 = .ok (.newarray .int, 2) := by decide +kernel
theorem dX3_init_9 : decode cX3_init 9 = .ok (.putfield 9, 3) := by decide +kernel
theorem dX3_init_12 : decode cX3_init 12 = .ok (.aload_n 0, 1) := by decide +kernel
theorem dX3_init_13 : decode cX3_init 13 = .ok (.bipush 24, 2) := by decide +kernel
theorem dX3_init_15 : decode cX3_init 15 = .ok (.newarray .int, 2) := by decide +kernel
theorem dX3_init_17 : decode cX3_init 17 = .ok (.putfield 15, 3) := by decide +kernel
theorem dX3_init_20 : decode cX3_init 20 = .ok (.aload_n 0, 1) := by decide +kernel
theorem dX3_init_21 : decode cX3_init 21 = .ok (.iconst 3, 1) := by decide +kernel
theorem dX3_init_22 : decode cX3_init 22 = .ok (.putfield 18, 3) := by decide +kernel
theorem dX3_init_25 : decode cX3_init 25 = .ok (.return_, 1) := by decide +kernel
theorem dX3_isSmoothWidth_0 : decode cX3_isSmoothWidth 0 = .ok (.iload_n 0, 1) := by decide +kernel
theorem dX3_isSmoothWidth_1 : decode cX3_isSmoothWidth 1 = .ok (.iconst 1, 1) := by decide +kernel
theorem dX3_isSmoothWidth_2 : decode cX3_isSmoothWidth 2 = .ok (.if_icmp .lt 20, 3) := by decide +kernel
theorem dX3_isSmoothWidth_5 : decode cX3_isSmoothWidth 5 = .ok (.iload_n 0, 1) := by decide +kernel
theorem dX3_isSmoothWidth_6 : decode cX3_isSmoothWidth 6 = .ok (.bipush 7, 2) := by decide +kernel
theorem dX3_isSmoothWidth_8 : decode cX3_isSmoothWidth 8 = .ok (.if_icmp .gt 14, 3) := by decide +kernel
theorem dX3_isSmoothWidth_11 : decode cX3_isSmoothWidth 11 = .ok (.iload_n 0, 1) := by decide +kernel
theorem dX3_isSmoothWidth_12 : decode cX3_isSmoothWidth 12 = .ok (.iconst 2, 1) := by decide +kernel
theorem dX3_isSmoothWidth_13 : decode cX3_isSmoothWidth 13 = .ok (.irem, 1) := by decide +kernel
theorem dX3_isSmoothWidth_14 : decode cX3_isSmoothWidth 14 = .ok (.iconst 1, 1) := by decide +kernel
theorem dX3_isSmoothWidth_15 : decode cX3_isSmoothWidth 15 = .ok (.if_icmp .ne 7, 3) := by decide +kernel
theorem dX3_isSmoothWidth_18 : decode cX3_isSmoothWidth 18 = .ok (.iconst 1, 1) := by decide +kernel
theorem dX3_isSmoothWidth_19 : decode cX3_isSmoothWidth 19 = .ok (.goto 4, 3) := by decide +kernel
theorem dX3_isSmoothWidth_22 : decode cX3_isSmoothWidth 22 = .ok (.iconst 0, 1) := by decide +kernel
theorem dX3_isSmoothWidth_23 : decode cX3_isSmoothWidth 23 = .ok (.ireturn, 1) := by decide +kernel
set_option maxRecDepth 20000 in
theorem ggX3_valueOfDay_X5_has : GoodIn wsX3_valueOfDay wsX5_has := goodIn_r _ [5, 6, 19, 20, 21, 22, 23] (by decide +kernel) (by decide +kernel)
set_option maxRecDepth 20000 in
theorem gX3_valueOfDay_X5_has : GoodIn wsX3_valueOfDay (wsV RX3 32 RX5 yX5_has wsX5_has) := goodIn_app (goodIn_of _ (by decide +kernel)) ggX3_valueOfDay_X5_has
set_option maxRecDepth 20000 in
theorem ggX3_valueOfDay_X5_numberOf : GoodIn wsX3_valueOfDay wsX5_numberOf := goodIn_r _ [10, 11, 12, 13, 4, 14, 6, 15, 16, 17, 18, 19, 20, 21, 22, 23] (by decide +kernel) (by decide +kernel)
set_option maxRecDepth 20000 in
theorem gX3_valueOfDay_X5_numberOf : GoodIn wsX3_valueOfDay (wsV RX3 36 RX5 yX5_numberOf wsX5_numberOf) := goodIn_app (goodIn_of _ (by decide +kernel)) ggX3_valueOfDay_X5_numberOf
theorem dX3_valueOfDay_0 : decode cX3_valueOfDay 0 = .ok (.lconst 0, 1) := by decide +kernel
theorem dX3_valueOfDay_1 : decode cX3_valueOfDay 1 = .ok (.lstore 4, 2) := by decide +kernel
theorem dX3_valueOfDay_3 : decode cX3_valueOfDay 3 = .ok (.iconst 0, 1) := by decide +kernel
theorem dX3_valueOfDay_4 : decode cX3_valueOfDay 4 = .ok (.istore 6, 2) := by decide +kernel
theorem dX3_valueOfDay_6 : decode cX3_valueOfDay 6 = .ok (.iconst 0, 1) := by decide +kernel
theorem dX3_valueOfDay_7 : decode cX3_valueOfDay 7 = .ok (.istore 7, 2) := by decide +kernel
theorem dX3_valueOfDay_9 : decode cX3_valueOfDay 9 = .ok (.iload 7, 2) := by decide +kernel
theorem dX3_valueOfDay_11 : decode cX3_valueOfDay 11 = .ok (.aload_n 1, 1) := by decide +kernel
theorem dX3_valueOfDay_12 : decode cX3_valueOfDay 12 = .ok (.getfield 22, 3) := by decide +kernel
theorem dX3_valueOfDay_15 : decode cX3_valueOfDay 15 = .ok (.if_icmp .ge 55, 3) := by decide +kernel
theorem dX3_valueOfDay_18 : decode cX3_valueOfDay 18 = .ok (.aload_n 2, 1) := by decide +kernel
theorem dX3_valueOfDay_19 : decode cX3_valueOfDay 19 = .ok (.getfield 27, 3) := by decide +kernel
theorem dX3_valueOfDay_22 : decode cX3_valueOfDay 22 = .ok (.iload 7, 2) := by decide +kernel
theorem dX3_valueOfDay_24 : decode cX3_valueOfDay 24 = .ok (.iaload, 1) := by decide +kernel
theorem dX3_valueOfDay_25 : decode cX3_valueOfDay 25 = .ok (.iconst (-1), 1) := by decide +kernel
theorem dX3_valueOfDay_26 : decode cX3_valueOfDay 26 = .ok (.if_icmp .eq 38, 3) := by decide +kernel
theorem dX3_valueOfDay_29 : decode cX3_valueOfDay 29 = .ok (.aload_n 1, 1) := by decide +kernel
theorem dX3_valueOfDay_30 : decode cX3_valueOfDay 30 = .ok (.iload 7, 2) := by decide +kernel
theorem dX3_valueOfDay_32 : decode cX3_valueOfDay 32 = .ok (.iload_n 3, 1) := by decide +kernel
theorem dX3_valueOfDay_33 : decode cX3_valueOfDay 33 = .ok (.invokevirtual 32, 3) := by decide +kernel
theorem dX3_valueOfDay_36 : decode cX3_valueOfDay 36 = .ok (.ifCond .eq 28, 3) := by decide +kernel
theorem dX3_valueOfDay_39 : decode cX3_valueOfDay 39 = .ok (.lload 4, 2) := by decide +kernel
theorem dX3_valueOfDay_41 : decode cX3_valueOfDay 41 = .ok (.aload_n 1, 1) := by decide +kernel
theorem dX3_valueOfDay_42 : decode cX3_valueOfDay 42 = .ok (.iload 7, 2) := by decide +kernel
theorem dX3_valueOfDay_44 : decode cX3_valueOfDay 44 = .ok (.iload_n 3, 1) := by decide +kernel
theorem dX3_valueOfDay_45 : decode cX3_valueOfDay 45 = .ok (.invokevirtual 36, 3) := by decide +kernel
theorem dX3_valueOfDay_48 : decode cX3_valueOfDay 48 = .ok (.i2l, 1) := by decide +kernel
theorem dX3_valueOfDay_49 : decode cX3_valueOfDay 49 = .ok (.aload_n 2, 1) := by decide +kernel
theorem dX3_valueOfDay_50 : decode cX3_valueOfDay 50 = .ok (.getfield 27, 3) := by decide +kernel
theorem dX3_valueOfDay_53 : decode cX3_valueOfDay 53 = .ok (.iload 7, 2) := by decide +kernel
theorem dX3_valueOfDay_55 : decode cX3_valueOfDay 55 = .ok (.iaload, 1) := by decide +kernel
theorem dX3_valueOfDay_56 : decode cX3_valueOfDay 56 = .ok (.i2l, 1) := by decide +kernel
theorem dX3_valueOfDay_57 : decode cX3_valueOfDay 57 = .ok (.lmul, 1) := by decide +kernel
theorem dX3_valueOfDay_58 : decode cX3_valueOfDay 58 = .ok (.ladd, 1) := by decide +kernel
theorem dX3_valueOfDay_59 : decode cX3_valueOfDay 59 = .ok (.lstore 4, 2) := by decide +kernel
theorem dX3_valueOfDay_61 : decode cX3_valueOfDay 61 = .ok (.iinc 6 1, 3) := by decide +kernel
theorem dX3_valueOfDay_64 : decode cX3_valueOfDay 64 = .ok (.iinc 7 1, 3) := by decide +kernel
theorem dX3_valueOfDay_67 : decode cX3_valueOfDay 67 = .ok (.goto (-58), 3) := by decide +kernel
theorem dX3_valueOfDay_70 : decode cX3_valueOfDay 70 = .ok (.iload 6, 2) := by decide +kernel
theorem dX3_valueOfDay_72 : decode cX3_valueOfDay 72 = .ok (.ifCond .ne 7, 3) := by decide +kernel
theorem dX3_valueOfDay_75 : decode cX3_valueOfDay 75 = .ok (.iconst (-1), 1) := by decide +kernel
theorem dX3_valueOfDay_76 : decode cX3_valueOfDay 76 = .ok (.goto 10, 3) := by decide +kernel
theorem dX3_valueOfDay_79 : decode cX3_valueOfDay 79 = .ok (.lload 4, 2) := by decide +kernel
theorem dX3_valueOfDay_81 : decode cX3_valueOfDay 81 = .ok (.iload 6, 2) := by decide +kernel
theorem dX3_valueOfDay_83 : decode cX3_valueOfDay 83 = .ok (.i2l, 1) := by decide +kernel
theorem dX3_valueOfDay_84 : decode cX3_valueOfDay 84 = .ok (.ldiv, 1) := by decide +kernel
theorem dX3_valueOfDay_85 : decode cX3_valueOfDay 85 = .ok (.l2i, 1) := by decide +kernel
theorem dX3_valueOfDay_86 : decode cX3_valueOfDay 86 = .ok (.ireturn, 1) := by decide +kernel
set_option maxRecDepth 20000 in
theorem ggX3_valueOfMonth_X3_valueOfDay : GoodIn wsX3_valueOfMonth wsX3_valueOfDay := goodIn_r _ [6, 7, 8, 9, 10, 11, 12, 13, 14, 15, 16, 17, 18, 19, 20, 21, 22, 23, 24, 28, 29, 30, 31, 32, 33, 34, 35, 36] (by decide +kernel) (by decide +kernel)
set_option maxRecDepth 20000 in
theorem gX3_valueOfMonth_X3_valueOfDay : GoodIn wsX3_valueOfMonth (wsV RX3 40 RX3 yX3_valueOfDay wsX3_valueOfDay) := goodIn_app (goodIn_of _ (by decide +kernel)) ggX3_valueOfMonth_X3_valueOfDay
theorem dX3_valueOfMonth_0 : decode cX3_valueOfMonth 0 = .ok (.lconst 0, 1) := by decide +kernel
theorem dX3_valueOfMonth_1 : decode cX3_valueOfMonth 1 = .ok (.lstore 4, 2) := by decide +kernel
theorem dX3_valueOfMonth_3 : decode cX3_valueOfMonth 3 = .ok (.iconst 0, 1) := by decide +kernel
theorem dX3_valueOfMonth_4 : decode cX3_valueOfMonth 4 = .ok (.istore 6, 2) := by decide +kernel
theorem dX3_valueOfMonth_6 : decode cX3_valueOfMonth 6 = .ok (.iconst 0, 1) := by decide +kernel
theorem dX3_valueOfMonth_7 : decode cX3_valueOfMonth 7 = .ok (.istore 7, 2) := by decide +kernel
theorem dX3_valueOfMonth_9 : decode cX3_valueOfMonth 9 = .ok (.iload 7, 2) := by decide +kernel
theorem dX3_valueOfMonth_11 : decode cX3_valueOfMonth 11 = .ok (.bipush 10, 2) := by decide +kernel
theorem dX3_valueOfMonth_13 : decode cX3_valueOfMonth 13 = .ok (.if_icmp .ge 41, 3) := by decide +kernel
theorem dX3_valueOfMonth_16 : decode cX3_valueOfMonth 16 = .ok (.aload_n 0, 1) := by decide +kernel
theorem dX3_valueOfMonth_17 : decode cX3_valueOfMonth 17 = .ok (.aload_n 1, 1) := by decide +kernel
theorem dX3_valueOfMonth_18 : decode cX3_valueOfMonth 18 = .ok (.aload_n 2, 1) := by decide +kernel
theorem dX3_valueOfMonth_19 : decode cX3_valueOfMonth 19 = .ok (.iload_n 3, 1) := by decide +kernel
theorem dX3_valueOfMonth_20 : decode cX3_valueOfMonth 20 = .ok (.bipush 10, 2) := by decide +kernel
theorem dX3_valueOfMonth_22 : decode cX3_valueOfMonth 22 = .ok (.imul, 1) := by decide +kernel
theorem dX3_valueOfMonth_23 : decode cX3_valueOfMonth 23 = .ok (.iload 7, 2) := by decide +kernel
theorem dX3_valueOfMonth_25 : decode cX3_valueOfMonth 25 = .ok (.iadd, 1) := by decide +kernel
theorem dX3_valueOfMonth_26 : decode cX3_valueOfMonth 26 = .ok (.invokevirtual 40, 3) := by decide +kernel
theorem dX3_valueOfMonth_29 : decode cX3_valueOfMonth 29 = .ok (.istore 8, 2) := by decide +kernel
theorem dX3_valueOfMonth_31 : decode cX3_valueOfMonth 31 = .ok (.iload 8, 2) := by decide +kernel
theorem dX3_valueOfMonth_33 : decode cX3_valueOfMonth 33 = .ok (.iconst (-1), 1) := by decide +kernel
theorem dX3_valueOfMonth_34 : decode cX3_valueOfMonth 34 = .ok (.if_icmp .eq 14, 3) := by decide +kernel
theorem dX3_valueOfMonth_37 : decode cX3_valueOfMonth 37 = .ok (.lload 4, 2) := by decide +kernel
theorem dX3_valueOfMonth_39 : decode cX3_valueOfMonth 39 = .ok (.iload 8, 2) := by decide +kernel
theorem dX3_valueOfMonth_41 : decode cX3_valueOfMonth 41 = .ok (.i2l, 1) := by decide +kernel
theorem dX3_valueOfMonth_42 : decode cX3_valueOfMonth 42 = .ok (.ladd, 1) := by decide +kernel
theorem dX3_valueOfMonth_43 : decode cX3_valueOfMonth 43 = .ok (.lstore 4, 2) := by decide +kernel
theorem dX3_valueOfMonth_45 : decode cX3_valueOfMonth 45 = .ok (.iinc 6 1, 3) := by decide +kernel
theorem dX3_valueOfMonth_48 : decode cX3_valueOfMonth 48 = .ok (.iinc 7 1, 3) := by decide +kernel
theorem dX3_valueOfMonth_51 : decode cX3_valueOfMonth 51 = .ok (.goto (-42), 3) := by decide +kernel
theorem dX3_valueOfMonth_54 : decode cX3_valueOfMonth 54 = .ok (.iload 6, 2) := by decide +kernel
theorem dX3_valueOfMonth_56 : decode cX3_valueOfMonth 56 = .ok (.ifCond .eq 12, 3) := by decide +kernel
theorem dX3_valueOfMonth_59 : decode cX3_valueOfMonth 59 = .ok (.iload 6, 2) := by decide +kernel
theorem dX3_valueOfMonth_61 : decode cX3_valueOfMonth 61 = .ok (.aload_n 0, 1) := by decide +kernel
theorem dX3_valueOfMonth_62 : decode cX3_valueOfMonth 62 = .ok (.getfield 18, 3) := by decide +kernel
theorem dX3_valueOfMonth_65 : decode cX3_valueOfMonth 65 = .ok (.if_icmp .ge 7, 3) := by decide +kernel
theorem dX3_valueOfMonth_68 : decode cX3_valueOfMonth 68 = .ok (.iconst (-1), 1) := by decide +kernel
theorem dX3_valueOfMonth_69 : decode cX3_valueOfMonth 69 = .ok (.goto 10, 3) := by decide +kernel
theorem dX3_valueOfMonth_72 : decode cX3_valueOfMonth 72 = .ok (.lload 4, 2) := by decide +kernel
theorem dX3_valueOfMonth_74 : decode cX3_valueOfMonth 74 = .ok (.iload 6, 2) := by decide +kernel
theorem dX3_valueOfMonth_76 : decode cX3_valueOfMonth 76 = .ok (.i2l, 1) := by decide +kernel
theorem dX3_valueOfMonth_77 : decode cX3_valueOfMonth 77 = .ok (.ldiv, 1) := by decide +kernel
theorem dX3_valueOfMonth_78 : decode cX3_valueOfMonth 78 = .ok (.l2i, 1) := by decide +kernel
theorem dX3_valueOfMonth_79 : decode cX3_valueOfMonth 79 = .ok (.ireturn, 1) := by decide +kernel
set_option maxRecDepth 20000 in
theorem ggX3_reckonMonths_X3_valueOfMonth : GoodIn wsX3_reckonMonths wsX3_valueOfMonth := goodIn_r _ [6, 7, 8, 9, 10, 5, 11, 12, 13, 14, 15, 16, 17, 18, 19, 20, 21, 22, 23, 24, 25, 26, 27, 28, 29, 30, 31, 32, 33, 34, 35, 36, 37, 38, 39, 40, 41] (by decide +kernel) (by decide +kernel)
set_option maxRecDepth 20000 in
theorem gX3_reckonMonths_X3_valueOfMonth : GoodIn wsX3_reckonMonths (wsV RX3 44 RX3 yX3_valueOfMonth wsX3_valueOfMonth) := goodIn_app (goodIn_of _ (by decide +kernel)) ggX3_reckonMonths_X3_valueOfMonth
theorem dX3_reckonMonths_0 : decode cX3_reckonMonths 0 = .ok (.iconst 0, 1) := by decide +kernel
theorem dX3_reckonMonths_1 : decode cX3_reckonMonths 1 = .ok (.istore_n 3, 1) := by decide +kernel
theorem dX3_reckonMonths_2 : decode cX3_reckonMonths 2 = .ok (.iload_n 3, 1) := by decide +kernel
theorem dX3_reckonMonths_3 : decode cX3_reckonMonths 3 = .ok (.bipush 24, 2) := by decide +kernel
theorem dX3_reckonMonths_5 : decode cX3_reckonMonths 5 = .ok (.if_icmp .ge 22, 3) := by decide +kernel
theorem dX3_reckonMonths_8 : decode cX3_reckonMonths 8 = .ok (.aload_n 0, 1) := by decide +kernel
theorem dX3_reckonMonths_9 : decode cX3_reckonMonths 9 = .ok (.getfield 9, 3) := by decide +kernel
theorem dX3_reckonMonths_12 : decode cX3_reckonMonths 12 = .ok (.iload_n 3, 1) := by decide +kernel
theorem dX3_reckonMonths_13 : decode cX3_reckonMonths 13 = .ok (.aload_n 0, 1) := by decide +kernel
theorem dX3_reckonMonths_14 : decode cX3_reckonMonths 14 = .ok (.aload_n 1, 1) := by decide +kernel
theorem dX3_reckonMonths_15 : decode cX3_reckonMonths 15 = .ok (.aload_n 2, 1) := by decide +kernel
theorem dX3_reckonMonths_16 : decode cX3_reckonMonths 16 = .ok (.iload_n 3, 1) := by decide +kernel
theorem dX3_reckonMonths_17 : decode cX3_reckonMonths 17 = .ok (.invokevirtual 44, 3) := by decide +kernel
theorem dX3_reckonMonths_20 : decode cX3_reckonMonths 20 = .ok (.iastore, 1) := by decide +kernel
theorem dX3_reckonMonths_21 : decode cX3_reckonMonths 21 = .ok (.iinc 3 1, 3) := by decide +kernel
theorem dX3_reckonMonths_24 : decode cX3_reckonMonths 24 = .ok (.goto (-22), 3) := by decide +kernel
theorem dX3_reckonMonths_27 : decode cX3_reckonMonths 27 = .ok (.return_, 1) := by decide +kernel
theorem dX3_smoothOf_0 : decode cX3_smoothOf 0 = .ok (.aload_n 0, 1) := by decide +kernel
theorem dX3_smoothOf_1 : decode cX3_smoothOf 1 = .ok (.getfield 9, 3) := by decide +kernel
theorem dX3_smoothOf_4 : decode cX3_smoothOf 4 = .ok (.iload_n 1, 1) := by decide +kernel
theorem dX3_smoothOf_5 : decode cX3_smoothOf 5 = .ok (.iaload, 1) := by decide +kernel
theorem dX3_smoothOf_6 : decode cX3_smoothOf 6 = .ok (.iconst (-1), 1) := by decide +kernel
theorem dX3_smoothOf_7 : decode cX3_smoothOf 7 = .ok (.if_icmp .ne 5, 3) := by decide +kernel
theorem dX3_smoothOf_10 : decode cX3_smoothOf 10 = .ok (.iconst (-1), 1) := by decide +kernel
theorem dX3_smoothOf_11 : decode cX3_smoothOf 11 = .ok (.ireturn, 1) := by decide +kernel
theorem dX3_smoothOf_12 : decode cX3_smoothOf 12 = .ok (.iload_n 2, 1) := by decide +kernel
end
section
theorem dX3_smoothOf_13 : decode cX3_smoothOf 13 = .ok (.iconst 1, 1) := by decide +kernel
theorem dX3_smoothOf_14 : decode cX3_smoothOf 14 = .ok (.isub, 1) := by decide +kernel
theorem dX3_smoothOf_15 : decode cX3_smoothOf 15 = .ok (.iconst 2, 1) := by decide +kernel
theorem dX3_smoothOf_16 : decode cX3_smoothOf 16 = .ok (.idiv, 1) := by decide +kernel
theorem dX3_smoothOf_17 : decode cX3_smoothOf 17 = .ok (.istore_n 3, 1) := by decide +kernel
theorem dX3_smoothOf_18 : decode cX3_smoothOf 18 = .ok (.iload_n 1, 1) := by decide +kernel
theorem dX3_smoothOf_19 : decode cX3_smoothOf 19 = .ok (.iload_n 3, 1) := by decide +kernel
theorem dX3_smoothOf_20 : decode cX3_smoothOf 20 = .ok (.iadd, 1) := by decide +kernel
theorem dX3_smoothOf_21 : decode cX3_smoothOf 21 = .ok (.bipush 23, 2) := by decide +kernel
theorem dX3_smoothOf_23 : decode cX3_smoothOf 23 = .ok (.invokestatic 47, 3) := by decide +kernel
theorem dX3_smoothOf_26 : decode cX3_smoothOf 26 = .ok (.istore 4, 2) := by decide +kernel
theorem dX3_smoothOf_28 : decode cX3_smoothOf 28 = .ok (.lconst 0, 1) := by decide +kernel
theorem dX3_smoothOf_29 : decode cX3_smoothOf 29 = .ok (.lstore 5, 2) := by decide +kernel
theorem dX3_smoothOf_31 : decode cX3_smoothOf 31 = .ok (.iconst 0, 1) := by decide +kernel
theorem dX3_smoothOf_32 : decode cX3_smoothOf 32 = .ok (.istore 7, 2) := by decide +kernel
theorem dX3_smoothOf_34 : decode cX3_smoothOf 34 = .ok (.iload_n 1, 1) := by decide +kernel
theorem dX3_smoothOf_35 : decode cX3_smoothOf 35 = .ok (.iload_n 3, 1) := by decide +kernel
theorem dX3_smoothOf_36 : decode cX3_smoothOf 36 = .ok (.isub, 1) := by decide +kernel
theorem dX3_smoothOf_37 : decode cX3_smoothOf 37 = .ok (.iconst 0, 1) := by decide +kernel
theorem dX3_smoothOf_38 : decode cX3_smoothOf 38 = .ok (.invokestatic 52, 3) := by decide +kernel
theorem dX3_smoothOf_41 : decode cX3_smoothOf 41 = .ok (.istore 8, 2) := by decide +kernel
theorem dX3_smoothOf_43 : decode cX3_smoothOf 43 = .ok (.iload 8, 2) := by decide +kernel
theorem dX3_smoothOf_45 : decode cX3_smoothOf 45 = .ok (.iload 4, 2) := by decide +kernel
theorem dX3_smoothOf_47 : decode cX3_smoothOf 47 = .ok (.if_icmp .gt 36, 3) := by decide +kernel
theorem dX3_smoothOf_50 : decode cX3_smoothOf 50 = .ok (.aload_n 0, 1) := by decide +kernel
theorem dX3_smoothOf_51 : decode cX3_smoothOf 51 = .ok (.getfield 9, 3) := by decide +kernel
theorem dX3_smoothOf_54 : decode cX3_smoothOf 54 = .ok (.iload 8, 2) := by decide +kernel
theorem dX3_smoothOf_56 : decode cX3_smoothOf 56 = .ok (.iaload, 1) := by decide +kernel
theorem dX3_smoothOf_57 : decode cX3_smoothOf 57 = .ok (.iconst (-1), 1) := by decide +kernel
theorem dX3_smoothOf_58 : decode cX3_smoothOf 58 = .ok (.if_icmp .eq 19, 3) := by decide +kernel
theorem dX3_smoothOf_61 : decode cX3_smoothOf 61 = .ok (.lload 5, 2) := by decide +kernel
theorem dX3_smoothOf_63 : decode cX3_smoothOf 63 = .ok (.aload_n 0, 1) := by decide +kernel
theorem dX3_smoothOf_64 : decode cX3_smoothOf 64 = .ok (.getfield 9, 3) := by decide +kernel
theorem dX3_smoothOf_67 : decode cX3_smoothOf 67 = .ok (.iload 8, 2) := by decide +kernel
theorem dX3_smoothOf_69 : decode cX3_smoothOf 69 = .ok (.iaload, 1) := by decide +kernel
theorem dX3_smoothOf_70 : decode cX3_smoothOf 70 = .ok (.i2l, 1) := by decide +kernel
theorem dX3_smoothOf_71 : decode cX3_smoothOf 71 = .ok (.ladd, 1) := by decide +kernel
theorem dX3_smoothOf_72 : decode cX3_smoothOf 72 = .ok (.lstore 5, 2) := by decide +kernel
theorem dX3_smoothOf_74 : decode cX3_smoothOf 74 = .ok (.iinc 7 1, 3) := by decide +kernel
theorem dX3_smoothOf_77 : decode cX3_smoothOf 77 = .ok (.iinc 8 1, 3) := by decide +kernel
theorem dX3_smoothOf_80 : decode cX3_smoothOf 80 = .ok (.goto (-37), 3) := by decide +kernel
theorem dX3_smoothOf_83 : decode cX3_smoothOf 83 = .ok (.iload 7, 2) := by decide +kernel
theorem dX3_smoothOf_85 : decode cX3_smoothOf 85 = .ok (.ifCond .ne 7, 3) := by decide +kernel
theorem dX3_smoothOf_88 : decode cX3_smoothOf 88 = .ok (.iconst (-1), 1) := by decide +kernel
theorem dX3_smoothOf_89 : decode cX3_smoothOf 89 = .ok (.goto 10, 3) := by decide +kernel
theorem dX3_smoothOf_92 : decode cX3_smoothOf 92 = .ok (.lload 5, 2) := by decide +kernel
theorem dX3_smoothOf_94 : decode cX3_smoothOf 94 = .ok (.iload 7, 2) := by decide +kernel
theorem dX3_smoothOf_96 : decode cX3_smoothOf 96 = .ok (.i2l, 1) := by decide +kernel
theorem dX3_smoothOf_97 : decode cX3_smoothOf 97 = .ok (.ldiv, 1) := by decide +kernel
theorem dX3_smoothOf_98 : decode cX3_smoothOf 98 = .ok (.l2i, 1) := by decide +kernel
theorem dX3_smoothOf_99 : decode cX3_smoothOf 99 = .ok (.ireturn, 1) := by decide +kernel
set_option maxRecDepth 20000 in
theorem ggX3_reckonSmooths_X3_smoothOf : GoodIn wsX3_reckonSmooths wsX3_smoothOf := goodIn_r _ [6, 7, 8, 9, 10, 11, 12, 13, 14, 15, 16, 17] (by decide +kernel) (by decide +kernel)
set_option maxRecDepth 20000 in
theorem gX3_reckonSmooths_X3_smoothOf : GoodIn wsX3_reckonSmooths (wsV RX3 55 RX3 yX3_smoothOf wsX3_smoothOf) := goodIn_app (goodIn_of _ (by decide +kernel)) ggX3_reckonSmooths_X3_smoothOf
theorem dX3_reckonSmooths_0 : decode cX3_reckonSmooths 0 = .ok (.iconst 0, 1) := by decide +kernel
theorem dX3_reckonSmooths_1 : decode cX3_reckonSmooths 1 = .ok (.istore_n 2, 1) := by decide +kernel
theorem dX3_reckonSmooths_2 : decode cX3_reckonSmooths 2 = .ok (.iload_n 2, 1) := by decide +kernel
theorem dX3_reckonSmooths_3 : decode cX3_reckonSmooths 3 = .ok (.bipush 24, 2) := by decide +kernel
theorem dX3_reckonSmooths_5 : decode cX3_reckonSmooths 5 = .ok (.if_icmp .ge 21, 3) := by decide +kernel
theorem dX3_reckonSmooths_8 : decode cX3_reckonSmooths 8 = .ok (.aload_n 0, 1) := by decide +kernel
theorem dX3_reckonSmooths_9 : decode cX3_reckonSmooths 9 = .ok (.getfield 15, 3) := by decide +kernel
theorem dX3_reckonSmooths_12 : decode cX3_reckonSmooths 12 = .ok (.iload_n 2, 1) := by decide +kernel
theorem dX3_reckonSmooths_13 : decode cX3_reckonSmooths 13 = .ok (.aload_n 0, 1) := by decide +kernel
theorem dX3_reckonSmooths_14 : decode cX3_reckonSmooths 14 = .ok (.iload_n 2, 1) := by decide +kernel
theorem dX3_reckonSmooths_15 : decode cX3_reckonSmooths 15 = .ok (.iload_n 1, 1) := by decide +kernel
theorem dX3_reckonSmooths_16 : decode cX3_reckonSmooths 16 = .ok (.invokevirtual 55, 3) := by decide +kernel
theorem dX3_reckonSmooths_19 : decode cX3_reckonSmooths 19 = .ok (.iastore, 1) := by decide +kernel
theorem dX3_reckonSmooths_20 : decode cX3_reckonSmooths 20 = .ok (.iinc 2 1, 3) := by decide +kernel
theorem dX3_reckonSmooths_23 : decode cX3_reckonSmooths 23 = .ok (.goto (-21), 3) := by decide +kernel
theorem dX3_reckonSmooths_26 : decode cX3_reckonSmooths 26 = .ok (.return_, 1) := by decide +kernel
set_option maxRecDepth 20000 in
theorem ggX3_findTurn_X3_isTurn : GoodIn wsX3_findTurn wsX3_isTurn := goodIn_r _ [5, 6, 7, 8, 9, 10, 11, 12, 13, 14, 15, 16, 4, 17, 18, 19, 20] (by decide +kernel) (by decide +kernel)
set_option maxRecDepth 20000 in
theorem gX3_findTurn_X3_isTurn : GoodIn wsX3_findTurn (wsV RX3 58 RX3 yX3_isTurn wsX3_isTurn) := goodIn_app (goodIn_of _ (by decide +kernel)) ggX3_findTurn_X3_isTurn
theorem dX3_findTurn_0 : decode cX3_findTurn 0 = .ok (.iconst 0, 1) := by decide +kernel
theorem dX3_findTurn_1 : decode cX3_findTurn 1 = .ok (.istore 4, 2) := by decide +kernel
theorem dX3_findTurn_3 : decode cX3_findTurn 3 = .ok (.iconst 0, 1) := by decide +kernel
theorem dX3_findTurn_4 : decode cX3_findTurn 4 = .ok (.istore 5, 2) := by decide +kernel
theorem dX3_findTurn_6 : decode cX3_findTurn 6 = .ok (.iload 5, 2) := by decide +kernel
theorem dX3_findTurn_8 : decode cX3_findTurn 8 = .ok (.bipush 24, 2) := by decide +kernel
theorem dX3_findTurn_10 : decode cX3_findTurn 10 = .ok (.if_icmp .ge 32, 3) := by decide +kernel
theorem dX3_findTurn_13 : decode cX3_findTurn 13 = .ok (.aload_n 0, 1) := by decide +kernel
theorem dX3_findTurn_14 : decode cX3_findTurn 14 = .ok (.iload 5, 2) := by decide +kernel
theorem dX3_findTurn_16 : decode cX3_findTurn 16 = .ok (.iload_n 2, 1) := by decide +kernel
theorem dX3_findTurn_17 : decode cX3_findTurn 17 = .ok (.iload_n 3, 1) := by decide +kernel
theorem dX3_findTurn_18 : decode cX3_findTurn 18 = .ok (.invokevirtual 58, 3) := by decide +kernel
theorem dX3_findTurn_21 : decode cX3_findTurn 21 = .ok (.ifCond .eq 15, 3) := by decide +kernel
theorem dX3_findTurn_24 : decode cX3_findTurn 24 = .ok (.iload 4, 2) := by decide +kernel
theorem dX3_findTurn_26 : decode cX3_findTurn 26 = .ok (.iload_n 1, 1) := by decide +kernel
theorem dX3_findTurn_27 : decode cX3_findTurn 27 = .ok (.if_icmp .ne 6, 3) := by decide +kernel
theorem dX3_findTurn_30 : decode cX3_findTurn 30 = .ok (.iload 5, 2) := by decide +kernel
theorem dX3_findTurn_32 : decode cX3_findTurn 32 = .ok (.ireturn, 1) := by decide +kernel
theorem dX3_findTurn_33 : decode cX3_findTurn 33 = .ok (.iinc 4 1, 3) := by decide +kernel
theorem dX3_findTurn_36 : decode cX3_findTurn 36 = .ok (.iinc 5 1, 3) := by decide +kernel
theorem dX3_findTurn_39 : decode cX3_findTurn 39 = .ok (.goto (-33), 3) := by decide +kernel
theorem dX3_findTurn_42 : decode cX3_findTurn 42 = .ok (.iconst (-1), 1) := by decide +kernel
theorem dX3_findTurn_43 : decode cX3_findTurn 43 = .ok (.ireturn, 1) := by decide +kernel
set_option maxRecDepth 20000 in
theorem ggX3_isTurn_X3_outdoes : GoodIn wsX3_isTurn wsX3_outdoes := goodIn_r _ [13, 1, 14, 15, 16] (by decide +kernel) (by decide +kernel)
set_option maxRecDepth 20000 in
theorem gX3_isTurn_X3_outdoes : GoodIn wsX3_isTurn (wsV RX3 62 RX3 yX3_outdoes wsX3_outdoes) := goodIn_app (goodIn_of _ (by decide +kernel)) ggX3_isTurn_X3_outdoes
theorem dX3_isTurn_0 : decode cX3_isTurn 0 = .ok (.aload_n 0, 1) := by decide +kernel
theorem dX3_isTurn_1 : decode cX3_isTurn 1 = .ok (.getfield 15, 3) := by decide +kernel
theorem dX3_isTurn_4 : decode cX3_isTurn 4 = .ok (.iload_n 1, 1) := by decide +kernel
theorem dX3_isTurn_5 : decode cX3_isTurn 5 = .ok (.iaload, 1) := by decide +kernel
theorem dX3_isTurn_6 : decode cX3_isTurn 6 = .ok (.iconst (-1), 1) := by decide +kernel
theorem dX3_isTurn_7 : decode cX3_isTurn 7 = .ok (.if_icmp .ne 5, 3) := by decide +kernel
theorem dX3_isTurn_10 : decode cX3_isTurn 10 = .ok (.iconst 0, 1) := by decide +kernel
theorem dX3_isTurn_11 : decode cX3_isTurn 11 = .ok (.ireturn, 1) := by decide +kernel
theorem dX3_isTurn_12 : decode cX3_isTurn 12 = .ok (.iload_n 1, 1) := by decide +kernel
theorem dX3_isTurn_13 : decode cX3_isTurn 13 = .ok (.iload_n 2, 1) := by decide +kernel
theorem dX3_isTurn_14 : decode cX3_isTurn 14 = .ok (.iadd, 1) := by decide +kernel
theorem dX3_isTurn_15 : decode cX3_isTurn 15 = .ok (.bipush 23, 2) := by decide +kernel
theorem dX3_isTurn_17 : decode cX3_isTurn 17 = .ok (.invokestatic 47, 3) := by decide +kernel
theorem dX3_isTurn_20 : decode cX3_isTurn 20 = .ok (.istore 4, 2) := by decide +kernel
theorem dX3_isTurn_22 : decode cX3_isTurn 22 = .ok (.iload_n 1, 1) := by decide +kernel
theorem dX3_isTurn_23 : decode cX3_isTurn 23 = .ok (.iload_n 2, 1) := by decide +kernel
theorem dX3_isTurn_24 : decode cX3_isTurn 24 = .ok (.isub, 1) := by decide +kernel
theorem dX3_isTurn_25 : decode cX3_isTurn 25 = .ok (.iconst 0, 1) := by decide +kernel
theorem dX3_isTurn_26 : decode cX3_isTurn 26 = .ok (.invokestatic 52, 3) := by decide +kernel
theorem dX3_isTurn_29 : decode cX3_isTurn 29 = .ok (.istore 5, 2) := by decide +kernel
theorem dX3_isTurn_31 : decode cX3_isTurn 31 = .ok (.iload 5, 2) := by decide +kernel
theorem dX3_isTurn_33 : decode cX3_isTurn 33 = .ok (.iload 4, 2) := by decide +kernel
theorem dX3_isTurn_35 : decode cX3_isTurn 35 = .ok (.if_icmp .gt 39, 3) := by decide +kernel
theorem dX3_isTurn_38 : decode cX3_isTurn 38 = .ok (.iload 5, 2) := by decide +kernel
theorem dX3_isTurn_40 : decode cX3_isTurn 40 = .ok (.iload_n 1, 1) := by decide +kernel
theorem dX3_isTurn_41 : decode cX3_isTurn 41 = .ok (.if_icmp .eq 27, 3) := by decide +kernel
theorem dX3_isTurn_44 : decode cX3_isTurn 44 = .ok (.aload_n 0, 1) := by decide +kernel
theorem dX3_isTurn_45 : decode cX3_isTurn 45 = .ok (.getfield 15, 3) := by decide +kernel
theorem dX3_isTurn_48 : decode cX3_isTurn 48 = .ok (.iload 5, 2) := by decide +kernel
theorem dX3_isTurn_50 : decode cX3_isTurn 50 = .ok (.iaload, 1) := by decide +kernel
theorem dX3_isTurn_51 : decode cX3_isTurn 51 = .ok (.iconst (-1), 1) := by decide +kernel
theorem dX3_isTurn_52 : decode cX3_isTurn 52 = .ok (.if_icmp .eq 16, 3) := by decide +kernel
theorem dX3_isTurn_55 : decode cX3_isTurn 55 = .ok (.aload_n 0, 1) := by decide +kernel
theorem dX3_isTurn_56 : decode cX3_isTurn 56 = .ok (.iload 5, 2) := by decide +kernel
theorem dX3_isTurn_58 : decode cX3_isTurn 58 = .ok (.iload_n 1, 1) := by decide +kernel
theorem dX3_isTurn_59 : decode cX3_isTurn 59 = .ok (.iload_n 3, 1) := by decide +kernel
theorem dX3_isTurn_60 : decode cX3_isTurn 60 = .ok (.invokevirtual 62, 3) := by decide +kernel
theorem dX3_isTurn_63 : decode cX3_isTurn 63 = .ok (.ifCond .eq 5, 3) := by decide +kernel
theorem dX3_isTurn_66 : decode cX3_isTurn 66 = .ok (.iconst 0, 1) := by decide +kernel
theorem dX3_isTurn_67 : decode cX3_isTurn 67 = .ok (.ireturn, 1) := by decide +kernel
theorem dX3_isTurn_68 : decode cX3_isTurn 68 = .ok (.iinc 5 1, 3) := by decide +kernel
theorem dX3_isTurn_71 : decode cX3_isTurn 71 = .ok (.goto (-40), 3) := by decide +kernel
theorem dX3_isTurn_74 : decode cX3_isTurn 74 = .ok (.iconst 1, 1) := by decide +kernel
theorem dX3_isTurn_75 : decode cX3_isTurn 75 = .ok (.ireturn, 1) := by decide +kernel
theorem dX3_outdoes_0 : decode cX3_outdoes 0 = .ok (.iload_n 3, 1) := by decide +kernel
theorem dX3_outdoes_1 : decode cX3_outdoes 1 = .ok (.ifCond .eq 19, 3) := by decide +kernel
theorem dX3_outdoes_4 : decode cX3_outdoes 4 = .ok (.aload_n 0, 1) := by decide +kernel
theorem dX3_outdoes_5 : decode cX3_outdoes 5 = .ok (.getfield 15, 3) := by decide +kernel
theorem dX3_outdoes_8 : decode cX3_outdoes 8 = .ok (.iload_n 1, 1) := by decide +kernel
theorem dX3_outdoes_9 : decode cX3_outdoes 9 = .ok (.iaload, 1) := by decide +kernel
theorem dX3_outdoes_10 : decode cX3_outdoes 10 = .ok (.aload_n 0, 1) := by decide +kernel
theorem dX3_outdoes_11 : decode cX3_outdoes 11 = .ok (.getfield 15, 3) := by decide +kernel
theorem dX3_outdoes_14 : decode cX3_outdoes 14 = .ok (.iload_n 2, 1) := by decide +kernel
theorem dX3_outdoes_15 : decode cX3_outdoes 15 = .ok (.iaload, 1) := by decide +kernel
theorem dX3_outdoes_16 : decode cX3_outdoes 16 = .ok (.isub, 1) := by decide +kernel
theorem dX3_outdoes_17 : decode cX3_outdoes 17 = .ok (.goto 16, 3) := by decide +kernel
theorem dX3_outdoes_20 : decode cX3_outdoes 20 = .ok (.aload_n 0, 1) := by decide +kernel
theorem dX3_outdoes_21 : decode cX3_outdoes 21 = .ok (.getfield 15, 3) := by decide +kernel
theorem dX3_outdoes_24 : decode cX3_outdoes 24 = .ok (.iload_n 2, 1) := by decide +kernel
theorem dX3_outdoes_25 : decode cX3_outdoes 25 = .ok (.iaload, 1) := by decide +kernel
theorem dX3_outdoes_26 : decode cX3_outdoes 26 = .ok (.aload_n 0, 1) := by decide +kernel
theorem dX3_outdoes_27 : decode cX3_outdoes 27 = .ok (.getfield 15, 3) := by decide +kernel
theorem dX3_outdoes_30 : decode cX3_outdoes 30 = .ok (.iload_n 1, 1) := by decide +kernel
theorem dX3_outdoes_31 : decode cX3_outdoes 31 = .ok (.iaload, 1) := by decide +kernel
theorem dX3_outdoes_32 : decode cX3_outdoes 32 = .ok (.isub, 1) := by decide +kernel
theorem dX3_outdoes_33 : decode cX3_outdoes 33 = .ok (.istore 4, 2) := by decide +kernel
theorem dX3_outdoes_35 : decode cX3_outdoes 35 = .ok (.iload_n 1, 1) := by decide +kernel
theorem dX3_outdoes_36 : decode cX3_outdoes 36 = .ok (.iload_n 2, 1) := by decide +kernel
theorem dX3_outdoes_37 : decode cX3_outdoes 37 = .ok (.if_icmp .ge 16, 3) := by decide +kernel
theorem dX3_outdoes_40 : decode cX3_outdoes 40 = .ok (.iload 4, 2) := by decide +kernel
theorem dX3_outdoes_42 : decode cX3_outdoes 42 = .ok (.ifCond .lt 7, 3) := by decide +kernel
theorem dX3_outdoes_45 : decode cX3_outdoes 45 = .ok (.iconst 1, 1) := by decide +kernel
theorem dX3_outdoes_46 : decode cX3_outdoes 46 = .ok (.goto 17, 3) := by decide +kernel
theorem dX3_outdoes_49 : decode cX3_outdoes 49 = .ok (.iconst 0, 1) := by decide +kernel
theorem dX3_outdoes_50 : decode cX3_outdoes 50 = .ok (.goto 13, 3) := by decide +kernel
theorem dX3_outdoes_53 : decode cX3_outdoes 53 = .ok (.iload 4, 2) := by decide +kernel
theorem dX3_outdoes_55 : decode cX3_outdoes 55 = .ok (.ifCond .le 7, 3) := by decide +kernel
theorem dX3_outdoes_58 : decode cX3_outdoes 58 = .ok (.iconst 1, 1) := by decide +kernel
theorem dX3_outdoes_59 : decode cX3_outdoes 59 = .ok (.goto 4, 3) := by decide +kernel
theorem dX3_outdoes_62 : decode cX3_outdoes 62 = .ok (.iconst 0, 1) := by decide +kernel
theorem dX3_outdoes_63 : decode cX3_outdoes 63 = .ok (.ireturn, 1) := by decide +kernel
theorem dX4_init_0 : decode cX4_init 0 = .ok (.aload_n 0, 1) := by decide +kernel
theorem dX4_init_1 : decode cX4_init 1 = .ok (.invokespecial 3, 3) := by decide +kernel
theorem dX4_init_4 : decode cX4_init 4 = .ok (.aload_n 0, 1) := by decide +kernel
theorem dX4_init_5 : decode cX4_init 5 = .ok (.bipush 21, 2) := by decide +kernel
theorem dX4_init_7 : decode cX4_init 7 = .ok (.newarray .int, 2) := by decide +kernel
theorem dX4_init_9 : decode cX4_init 9 = .ok (.putfield 9, 3) := by decide +kernel
theorem dX4_init_12 : decode cX4_init 12 = .ok (.aload_n 0, 1) := by decide +kernel
theorem dX4_init_13 : decode cX4_init 13 = .ok (.bipush 21, 2) := by decide +kernel
theorem dX4_init_15 : decode cX4_init 15 = .ok (.newarray .int, 2) := by decide +kernel
theorem dX4_init_17 : decode cX4_init 17 = .ok (.putfield 15, 3) := by decide +kernel
theorem dX4_init_20 : decode cX4_init 20 = .ok (.aload_n 0, 1) := by decide +kernel
theorem dX4_init_21 : decode cX4_init 21 = .ok (.bipush 21, 2) := by decide +kernel
theorem dX4_init_23 : decode cX4_init 23 = .ok (.newarray .int, 2) := by decide +kernel
theorem dX4_init_25 : decode cX4_init 25 = .ok (.putfield 18, 3) := by decide +kernel
theorem dX4_init_28 : decode cX4_init 28 = .ok (.aload_n 0, 1) := by decide +kernel
theorem dX4_init_29 : decode cX4_init 29 = .ok (.bipush 21, 2) := by decide +kernel
theorem dX4_init_31 : decode cX4_init 31 = .ok (.newarray .int, 2) := by decide +kernel
theorem dX4_init_33 : decode cX4_init 33 = .ok (.putfield 21, 3) := by decide +kernel
theorem dX4_init_36 : decode cX4_init 36 = .ok (.aload_n 0, 1) := by decide +kernel
theorem dX4_init_37 : decode cX4_init 37 = .ok (.bipush 21, 2) := by decide +kernel
theorem dX4_init_39 : decode cX4_init 39 = .ok (.newarray .int, 2) := by decide +kernel
theorem dX4_init_41 : decode cX4_init 41 = .ok (.putfield 24, 3) := by decide +kernel
theorem dX4_init_44 : decode cX4_init 44 = .ok (.aload_n 0, 1) := by decide +kernel
theorem dX4_init_45 : decode cX4_init 45 = .ok (.iconst 0, 1) := by decide +kernel
theorem dX4_init_46 : decode cX4_init 46 = .ok (.putfield 27, 3) := by decide +kernel
theorem dX4_init_49 : decode cX4_init 49 = .ok (.return_, 1) := by decide +kernel
set_option maxRecDepth 20000 in
theorem ggX4_gather_J7_fill_53178 : GoodIn wsX4_gather wsJ7_fill_53178 := goodIn_r _ [6] (by decide +kernel) (by decide +kernel)
set_option maxRecDepth 20000 in
theorem gX4_gather_J7_fill_53178 : GoodIn wsX4_gather (va_wsS RX4 31 yJ7_fill_53178 wsJ7_fill_53178) := goodIn_app (goodIn_of _ (by decide +kernel)) ggX4_gather_J7_fill_53178
set_option maxRecDepth 20000 in
theorem ggX4_gather_X5_haveBoth : GoodIn wsX4_gather wsX5_haveBoth := goodIn_r _ [11, 12, 13, 14, 10, 15, 16, 27, 28, 29, 30, 31] (by decide +kernel) (by decide +kernel)
set_option maxRecDepth 20000 in
theorem gX4_gather_X5_haveBoth : GoodIn wsX4_gather (wsV RX4 37 RX5 yX5_haveBoth wsX5_haveBoth) := goodIn_app (goodIn_of _ (by decide +kernel)) ggX4_gather_X5_haveBoth
set_option maxRecDepth 20000 in
theorem ggX4_gather_X5_groupsOf : GoodIn wsX4_gather wsX5_groupsOf := goodIn_r _ [20, 16, 27, 28, 29, 30, 31] (by decide +kernel) (by decide +kernel)
set_option maxRecDepth 20000 in
theorem gX4_gather_X5_groupsOf : GoodIn wsX4_gather (wsV RX4 43 RX5 yX5_groupsOf wsX5_groupsOf) := goodIn_app (goodIn_of _ (by decide +kernel)) ggX4_gather_X5_groupsOf
theorem dX4_gather_0 : decode cX4_gather 0 = .ok (.aload_n 0, 1) := by decide +kernel
theorem dX4_gather_1 : decode cX4_gather 1 = .ok (.getfield 9, 3) := by decide +kernel
theorem dX4_gather_4 : decode cX4_gather 4 = .ok (.iconst 0, 1) := by decide +kernel
theorem dX4_gather_5 : decode cX4_gather 5 = .ok (.invokestatic 31, 3) := by decide +kernel
theorem dX4_gather_8 : decode cX4_gather 8 = .ok (.aload_n 0, 1) := by decide +kernel
theorem dX4_gather_9 : decode cX4_gather 9 = .ok (.getfield 15, 3) := by decide +kernel
theorem dX4_gather_12 : decode cX4_gather 12 = .ok (.iconst 0, 1) := by decide +kernel
theorem dX4_gather_13 : decode cX4_gather 13 = .ok (.invokestatic 31, 3) := by decide +kernel
theorem dX4_gather_16 : decode cX4_gather 16 = .ok (.iconst 0, 1) := by decide +kernel
theorem dX4_gather_17 : decode cX4_gather 17 = .ok (.istore 4, 2) := by decide +kernel
theorem dX4_gather_19 : decode cX4_gather 19 = .ok (.iload 4, 2) := by decide +kernel
theorem dX4_gather_21 : decode cX4_gather 21 = .ok (.sipush 240, 3) := by decide +kernel
theorem dX4_gather_24 : decode cX4_gather 24 = .ok (.if_icmp .ge 57, 3) := by decide +kernel
theorem dX4_gather_27 : decode cX4_gather 27 = .ok (.aload_n 1, 1) := by decide +kernel
theorem dX4_gather_28 : decode cX4_gather 28 = .ok (.iload_n 2, 1) := by decide +kernel
theorem dX4_gather_29 : decode cX4_gather 29 = .ok (.iload_n 3, 1) := by decide +kernel
theorem dX4_gather_30 : decode cX4_gather 30 = .ok (.iload 4, 2) := by decide +kernel
theorem dX4_gather_32 : decode cX4_gather 32 = .ok (.invokevirtual 37, 3) := by decide +kernel
theorem dX4_gather_35 : decode cX4_gather 35 = .ok (.ifCond .eq 40, 3) := by decide +kernel
theorem dX4_gather_38 : decode cX4_gather 38 = .ok (.aload_n 1, 1) := by decide +kernel
theorem dX4_gather_39 : decode cX4_gather 39 = .ok (.iload_n 2, 1) := by decide +kernel
theorem dX4_gather_40 : decode cX4_gather 40 = .ok (.iload 4, 2) := by decide +kernel
theorem dX4_gather_42 : decode cX4_gather 42 = .ok (.invokevirtual 43, 3) := by decide +kernel
theorem dX4_gather_45 : decode cX4_gather 45 = .ok (.istore 5, 2) := by decide +kernel
theorem dX4_gather_47 : decode cX4_gather 47 = .ok (.aload_n 0, 1) := by decide +kernel
theorem dX4_gather_48 : decode cX4_gather 48 = .ok (.getfield 9, 3) := by decide +kernel
theorem dX4_gather_51 : decode cX4_gather 51 = .ok (.iload 5, 2) := by decide +kernel
theorem dX4_gather_53 : decode cX4_gather 53 = .ok (.dup2, 1) := by decide +kernel
theorem dX4_gather_54 : decode cX4_gather 54 = .ok (.iaload, 1) := by decide +kernel
theorem dX4_gather_55 : decode cX4_gather 55 = .ok (.aload_n 1, 1) := by decide +kernel
theorem dX4_gather_56 : decode cX4_gather 56 = .ok (.iload_n 3, 1) := by decide +kernel
theorem dX4_gather_57 : decode cX4_gather 57 = .ok (.iload 4, 2) := by decide +kernel
theorem dX4_gather_59 : decode cX4_gather 59 = .ok (.invokevirtual 43, 3) := by decide +kernel
theorem dX4_gather_62 : decode cX4_gather 62 = .ok (.iadd, 1) := by decide +kernel
theorem dX4_gather_63 : decode cX4_gather 63 = .ok (.iastore, 1) := by decide +kernel
theorem dX4_gather_64 : decode cX4_gather 64 = .ok (.aload_n 0, 1) := by decide +kernel
theorem dX4_gather_65 : decode cX4_gather 65 = .ok (.getfield 15, 3) := by decide +kernel
theorem dX4_gather_68 : decode cX4_gather 68 = .ok (.iload 5, 2) := by decide +kernel
theorem dX4_gather_70 : decode cX4_gather 70 = .ok (.dup2, 1) := by decide +kernel
theorem dX4_gather_71 : decode cX4_gather 71 = .ok (.iaload, 1) := by decide +kernel
theorem dX4_gather_72 : decode cX4_gather 72 = .ok (.iconst 1, 1) := by decide +kernel
theorem dX4_gather_73 : decode cX4_gather 73 = .ok (.iadd, 1) := by decide +kernel
theorem dX4_gather_74 : decode cX4_gather 74 = .ok (.iastore, 1) := by decide +kernel
theorem dX4_gather_75 : decode cX4_gather 75 = .ok (.iinc 4 1, 3) := by decide +kernel
theorem dX4_gather_78 : decode cX4_gather 78 = .ok (.goto (-59), 3) := by decide +kernel
theorem dX4_gather_81 : decode cX4_gather 81 = .ok (.return_, 1) := by decide +kernel
set_option maxRecDepth 20000 in
theorem ggX4_pool_X4_joinFalling : GoodIn wsX4_pool wsX4_joinFalling := goodIn_r _ [11, 1, 3, 5, 12, 13, 14, 10, 15, 16, 17, 18, 19, 20, 21] (by decide +kernel) (by decide +kernel)
set_option maxRecDepth 20000 in
theorem gX4_pool_X4_joinFalling : GoodIn wsX4_pool (wsV RX4 47 RX4 yX4_joinFalling wsX4_joinFalling) := goodIn_app (goodIn_of _ (by decide +kernel)) ggX4_pool_X4_joinFalling
theorem dX4_pool_0 : decode cX4_pool 0 = .ok (.aload_n 0, 1) := by decide +kernel
theorem dX4_pool_1 : decode cX4_pool 1 = .ok (.iconst 0, 1) := by decide +kernel
theorem dX4_pool_2 : decode cX4_pool 2 = .ok (.putfield 27, 3) := by decide +kernel
theorem dX4_pool_5 : decode cX4_pool 5 = .ok (.iconst 0, 1) := by decide +kernel
theorem dX4_pool_6 : decode cX4_pool 6 = .ok (.istore_n 1, 1) := by decide +kernel
theorem dX4_pool_7 : decode cX4_pool 7 = .ok (.iload_n 1, 1) := by decide +kernel
theorem dX4_pool_8 : decode cX4_pool 8 = .ok (.bipush 20, 2) := by decide +kernel
theorem dX4_pool_10 : decode cX4_pool 10 = .ok (.if_icmp .gt 72, 3) := by decide +kernel
theorem dX4_pool_13 : decode cX4_pool 13 = .ok (.aload_n 0, 1) := by decide +kernel
theorem dX4_pool_14 : decode cX4_pool 14 = .ok (.getfield 15, 3) := by decide +kernel
theorem dX4_pool_17 : decode cX4_pool 17 = .ok (.iload_n 1, 1) := by decide +kernel
theorem dX4_pool_18 : decode cX4_pool 18 = .ok (.iaload, 1) := by decide +kernel
theorem dX4_pool_19 : decode cX4_pool 19 = .ok (.ifCond .le 57, 3) := by decide +kernel
theorem dX4_pool_22 : decode cX4_pool 22 = .ok (.aload_n 0, 1) := by decide +kernel
theorem dX4_pool_23 : decode cX4_pool 23 = .ok (.getfield 18, 3) := by decide +kernel
theorem dX4_pool_26 : decode cX4_pool 26 = .ok (.aload_n 0, 1) := by decide +kernel
theorem dX4_pool_27 : decode cX4_pool 27 = .ok (.getfield 27, 3) := by decide +kernel
theorem dX4_pool_30 : decode cX4_pool 30 = .ok (.aload_n 0, 1) := by decide +kernel
theorem dX4_pool_31 : decode cX4_pool 31 = .ok (.getfield 9, 3) := by decide +kernel
theorem dX4_pool_34 : decode cX4_pool 34 = .ok (.iload_n 1, 1) := by decide +kernel
theorem dX4_pool_35 : decode cX4_pool 35 = .ok (.iaload, 1) := by decide +kernel
theorem dX4_pool_36 : decode cX4_pool 36 = .ok (.iastore, 1) := by decide +kernel
theorem dX4_pool_37 : decode cX4_pool 37 = .ok (.aload_n 0, 1) := by decide +kernel
theorem dX4_pool_38 : decode cX4_pool 38 = .ok (.getfield 21, 3) := by decide +kernel
theorem dX4_pool_41 : decode cX4_pool 41 = .ok (.aload_n 0, 1) := by decide +kernel
theorem dX4_pool_42 : decode cX4_pool 42 = .ok (.getfield 27, 3) := by decide +kernel
theorem dX4_pool_45 : decode cX4_pool 45 = .ok (.aload_n 0, 1) := by decide +kernel
theorem dX4_pool_46 : decode cX4_pool 46 = .ok (.getfield 15, 3) := by decide +kernel
theorem dX4_pool_49 : decode cX4_pool 49 = .ok (.iload_n 1, 1) := by decide +kernel
theorem dX4_pool_50 : decode cX4_pool 50 = .ok (.iaload, 1) := by decide +kernel
theorem dX4_pool_51 : decode cX4_pool 51 = .ok (.iastore, 1) := by decide +kernel
theorem dX4_pool_52 : decode cX4_pool 52 = .ok (.aload_n 0, 1) := by decide +kernel
theorem dX4_pool_53 : decode cX4_pool 53 = .ok (.getfield 24, 3) := by decide +kernel
theorem dX4_pool_56 : decode cX4_pool 56 = .ok (.aload_n 0, 1) := by decide +kernel
theorem dX4_pool_57 : decode cX4_pool 57 = .ok (.getfield 27, 3) := by decide +kernel
theorem dX4_pool_60 : decode cX4_pool 60 = .ok (.iload_n 1, 1) := by decide +kernel
theorem dX4_pool_61 : decode cX4_pool 61 = .ok (.iastore, 1) := by decide +kernel
theorem dX4_pool_62 : decode cX4_pool 62 = .ok (.aload_n 0, 1) := by decide +kernel
theorem dX4_pool_63 : decode cX4_pool 63 = .ok (.dup, 1) := by decide +kernel
theorem dX4_pool_64 : decode cX4_pool 64 = .ok (.getfield 27, 3) := by decide +kernel
theorem dX4_pool_67 : decode cX4_pool 67 = .ok (.iconst 1, 1) := by decide +kernel
theorem dX4_pool_68 : decode cX4_pool 68 = .ok (.iadd, 1) := by decide +kernel
theorem dX4_pool_69 : decode cX4_pool 69 = .ok (.putfield 27, 3) := by decide +kernel
theorem dX4_pool_72 : decode cX4_pool 72 = .ok (.aload_n 0, 1) := by decide +kernel
theorem dX4_pool_73 : decode cX4_pool 73 = .ok (.invokevirtual 47, 3) := by decide +kernel
theorem dX4_pool_76 : decode cX4_pool 76 = .ok (.iinc 1 1, 3) := by decide +kernel
theorem dX4_pool_79 : decode cX4_pool 79 = .ok (.goto (-72), 3) := by decide +kernel
theorem dX4_pool_82 : decode cX4_pool 82 = .ok (.return_, 1) := by decide +kernel
set_option maxRecDepth 20000 in
theorem ggX4_joinFalling_X4_lastFalls : GoodIn wsX4_joinFalling wsX4_lastFalls := goodIn_r _ [8, 1, 2, 3, 9, 10, 11, 12, 13, 14] (by decide +kernel) (by decide +kernel)
set_option maxRecDepth 20000 in
theorem gX4_joinFalling_X4_lastFalls : GoodIn wsX4_joinFalling (wsV RX4 50 RX4 yX4_lastFalls wsX4_lastFalls) := goodIn_app (goodIn_of _ (by decide +kernel)) ggX4_joinFalling_X4_lastFalls
theorem dX4_joinFalling_0 : decode cX4_joinFalling 0 = .ok (.aload_n 0, 1) := by decide +kernel
theorem dX4_joinFalling_1 : decode cX4_joinFalling 1 = .ok (.getfield 27, 3) := by decide +kernel
theorem dX4_joinFalling_4 : decode cX4_joinFalling 4 = .ok (.iconst 1, 1) := by decide +kernel
theorem dX4_joinFalling_5 : decode cX4_joinFalling 5 = .ok (.if_icmp .le 73, 3) := by decide +kernel
theorem dX4_joinFalling_8 : decode cX4_joinFalling 8 = .ok (.aload_n 0, 1) := by decide +kernel
theorem dX4_joinFalling_9 : decode cX4_joinFalling 9 = .ok (.invokevirtual 50, 3) := by decide +kernel
theorem dX4_joinFalling_12 : decode cX4_joinFalling 12 = .ok (.ifCond .eq 66, 3) := by decide +kernel
theorem dX4_joinFalling_15 : decode cX4_joinFalling 15 = .ok (.aload_n 0, 1) := by decide +kernel
theorem dX4_joinFalling_16 : decode cX4_joinFalling 16 = .ok (.getfield 18, 3) := by decide +kernel
theorem dX4_joinFalling_19 : decode cX4_joinFalling 19 = .ok (.aload_n 0, 1) := by decide +kernel
theorem dX4_joinFalling_20 : decode cX4_joinFalling 20 = .ok (.getfield 27, 3) := by decide +kernel
theorem dX4_joinFalling_23 : decode cX4_joinFalling 23 = .ok (.iconst 2, 1) := by decide +kernel
theorem dX4_joinFalling_24 : decode cX4_joinFalling 24 = .ok (.isub, 1) := by decide +kernel
theorem dX4_joinFalling_25 : decode cX4_joinFalling 25 = .ok (.dup2, 1) := by decide +kernel
theorem dX4_joinFalling_26 : decode cX4_joinFalling 26 = .ok (.iaload, 1) := by decide +kernel
theorem dX4_joinFalling_27 : decode cX4_joinFalling 27 = .ok (.aload_n 0, 1) := by decide +kernel
theorem dX4_joinFalling_28 : decode cX4_joinFalling 28 = .ok (.getfield 18, 3) := by decide +kernel
theorem dX4_joinFalling_31 : decode cX4_joinFalling 31 = .ok (.aload_n 0, 1) := by decide +kernel
theorem dX4_joinFalling_32 : decode cX4_joinFalling 32 = .ok (.getfield 27, 3) := by decide +kernel
theorem dX4_joinFalling_35 : decode cX4_joinFalling 35 = .ok (.iconst 1, 1) := by decide +kernel
theorem dX4_joinFalling_36 : decode cX4_joinFalling 36 = .ok (.isub, 1) := by decide +kernel
theorem dX4_joinFalling_37 : decode cX4_joinFalling 37 = .ok (.iaload, 1) := by decide +kernel
theorem dX4_joinFalling_38 : decode cX4_joinFalling 38 = .ok (.iadd, 1) := by decide +kernel
theorem dX4_joinFalling_39 : decode cX4_joinFalling 39 = .ok (.iastore, 1) := by decide +kernel
theorem dX4_joinFalling_40 : decode cX4_joinFalling 40 = .ok (.aload_n 0, 1) := by decide +kernel
theorem dX4_joinFalling_41 : decode cX4_joinFalling 41 = .ok (.getfield 21, 3) := by decide +kernel
theorem dX4_joinFalling_44 : decode cX4_joinFalling 44 = .ok (.aload_n 0, 1) := by decide +kernel
theorem dX4_joinFalling_45 : decode cX4_joinFalling 45 = .ok (.getfield 27, 3) := by decide +kernel
theorem dX4_joinFalling_48 : decode cX4_joinFalling 48 = .ok (.iconst 2, 1) := by decide +kernel
theorem dX4_joinFalling_49 : decode cX4_joinFalling 49 = .ok (.isub, 1) := by decide +kernel
theorem dX4_joinFalling_50 : decode cX4_joinFalling 50 = .ok (.dup2, 1) := by decide +kernel
theorem dX4_joinFalling_51 : decode cX4_joinFalling 51 = .ok (.iaload, 1) := by decide +kernel
theorem dX4_joinFalling_52 : decode cX4_joinFalling 52 = .ok (.aload_n 0, 1) := by decide +kernel
theorem dX4_joinFalling_53 : decode cX4_joinFalling 53 = .ok (.getfield 21, 3) := by decide +kernel
theorem dX4_joinFalling_56 : decode cX4_joinFalling 56 = .ok (.aload_n 0, 1) := by decide +kernel
theorem dX4_joinFalling_57 : decode cX4_joinFalling 57 = .ok (.getfield 27, 3) := by decide +kernel
theorem dX4_joinFalling_60 : decode cX4_joinFalling 60 = .ok (.iconst 1, 1) := by decide +kernel
theorem dX4_joinFalling_61 : decode cX4_joinFalling 61 = .ok (.isub, 1) := by decide +kernel
theorem dX4_joinFalling_62 : decode cX4_joinFalling 62 = .ok (.iaload, 1) := by decide +kernel
theorem dX4_joinFalling_63 : decode cX4_joinFalling 63 = .ok (.iadd, 1) := by decide +kernel
theorem dX4_joinFalling_64 : decode cX4_joinFalling 64 = .ok (.iastore, 1) := by decide +kernel
theorem dX4_joinFalling_65 : decode cX4_joinFalling 65 = .ok (.aload_n 0, 1) := by decide +kernel
theorem dX4_joinFalling_66 : decode cX4_joinFalling 66 = .ok (.dup, 1) := by decide +kernel
theorem dX4_joinFalling_67 : decode cX4_joinFalling 67 = .ok (.getfield 27, 3) := by decide +kernel
theorem dX4_joinFalling_70 : decode cX4_joinFalling 70 = .ok (.iconst 1, 1) := by decide +kernel
theorem dX4_joinFalling_71 : decode cX4_joinFalling 71 = .ok (.isub, 1) := by decide +kernel
theorem dX4_joinFalling_72 : decode cX4_joinFalling 72 = .ok (.putfield 27, 3) := by decide +kernel
theorem dX4_joinFalling_75 : decode cX4_joinFalling 75 = .ok (.goto (-75), 3) := by decide +kernel
theorem dX4_joinFalling_78 : decode cX4_joinFalling 78 = .ok (.return_, 1) := by decide +kernel
theorem dX4_lastFalls_0 : decode cX4_lastFalls 0 = .ok (.aload_n 0, 1) := by decide +kernel
theorem dX4_lastFalls_1 : decode cX4_lastFalls 1 = .ok (.getfield 27, 3) := by decide +kernel
theorem dX4_lastFalls_4 : decode cX4_lastFalls 4 = .ok (.iconst 1, 1) := by decide +kernel
theorem dX4_lastFalls_5 : decode cX4_lastFalls 5 = .ok (.isub, 1) := by decide +kernel
theorem dX4_lastFalls_6 : decode cX4_lastFalls 6 = .ok (.istore_n 1, 1) := by decide +kernel
theorem dX4_lastFalls_7 : decode cX4_lastFalls 7 = .ok (.aload_n 0, 1) := by decide +kernel
theorem dX4_lastFalls_8 : decode cX4_lastFalls 8 = .ok (.getfield 18, 3) := by decide +kernel
theorem dX4_lastFalls_11 : decode cX4_lastFalls 11 = .ok (.iload_n 1, 1) := by decide +kernel
theorem dX4_lastFalls_12 : decode cX4_lastFalls 12 = .ok (.iaload, 1) := by decide +kernel
theorem dX4_lastFalls_13 : decode cX4_lastFalls 13 = .ok (.aload_n 0, 1) := by decide +kernel
theorem dX4_lastFalls_14 : decode cX4_lastFalls 14 = .ok (.getfield 21, 3) := by decide +kernel
theorem dX4_lastFalls_17 : decode cX4_lastFalls 17 = .ok (.iload_n 1, 1) := by decide +kernel
theorem dX4_lastFalls_18 : decode cX4_lastFalls 18 = .ok (.iconst 1, 1) := by decide +kernel
theorem dX4_lastFalls_19 : decode cX4_lastFalls 19 = .ok (.isub, 1) := by decide +kernel
theorem dX4_lastFalls_20 : decode cX4_lastFalls 20 = .ok (.iaload, 1) := by decide +kernel
theorem dX4_lastFalls_21 : decode cX4_lastFalls 21 = .ok (.imul, 1) := by decide +kernel
theorem dX4_lastFalls_22 : decode cX4_lastFalls 22 = .ok (.aload_n 0, 1) := by decide +kernel
theorem dX4_lastFalls_23 : decode cX4_lastFalls 23 = .ok (.getfield 18, 3) := by decide +kernel
theorem dX4_lastFalls_26 : decode cX4_lastFalls 26 = .ok (.iload_n 1, 1) := by decide +kernel
theorem dX4_lastFalls_27 : decode cX4_lastFalls 27 = .ok (.iconst 1, 1) := by decide +kernel
theorem dX4_lastFalls_28 : decode cX4_lastFalls 28 = .ok (.isub, 1) := by decide +kernel
theorem dX4_lastFalls_29 : decode cX4_lastFalls 29 = .ok (.iaload, 1) := by decide +kernel
theorem dX4_lastFalls_30 : decode cX4_lastFalls 30 = .ok (.aload_n 0, 1) := by decide +kernel
theorem dX4_lastFalls_31 : decode cX4_lastFalls 31 = .ok (.getfield 21, 3) := by decide +kernel
theorem dX4_lastFalls_34 : decode cX4_lastFalls 34 = .ok (.iload_n 1, 1) := by decide +kernel
theorem dX4_lastFalls_35 : decode cX4_lastFalls 35 = .ok (.iaload, 1) := by decide +kernel
theorem dX4_lastFalls_36 : decode cX4_lastFalls 36 = .ok (.imul, 1) := by decide +kernel
theorem dX4_lastFalls_37 : decode cX4_lastFalls 37 = .ok (.if_icmp .ge 7, 3) := by decide +kernel
theorem dX4_lastFalls_40 : decode cX4_lastFalls 40 = .ok (.iconst 1, 1) := by decide +kernel
theorem dX4_lastFalls_41 : decode cX4_lastFalls 41 = .ok (.goto 4, 3) := by decide +kernel
theorem dX4_lastFalls_44 : decode cX4_lastFalls 44 = .ok (.iconst 0, 1) := by decide +kernel
theorem dX4_lastFalls_45 : decode cX4_lastFalls 45 = .ok (.ireturn, 1) := by decide +kernel
theorem dX4_blockFor_0 : decode cX4_blockFor 0 = .ok (.iconst (-1), 1) := by decide +kernel
theorem dX4_blockFor_1 : decode cX4_blockFor 1 = .ok (.istore_n 2, 1) := by decide +kernel
theorem dX4_blockFor_2 : decode cX4_blockFor 2 = .ok (.iconst 0, 1) := by decide +kernel
theorem dX4_blockFor_3 : decode cX4_blockFor 3 = .ok (.istore_n 3, 1) := by decide +kernel
theorem dX4_blockFor_4 : decode cX4_blockFor 4 = .ok (.iload_n 3, 1) := by decide +kernel
theorem dX4_blockFor_5 : decode cX4_blockFor 5 = .ok (.aload_n 0, 1) := by decide +kernel
theorem dX4_blockFor_6 : decode cX4_blockFor 6 = .ok (.getfield 27, 3) := by decide +kernel
theorem dX4_blockFor_9 : decode cX4_blockFor 9 = .ok (.if_icmp .ge 21, 3) := by decide +kernel
theorem dX4_blockFor_12 : decode cX4_blockFor 12 = .ok (.aload_n 0, 1) := by decide +kernel
theorem dX4_blockFor_13 : decode cX4_blockFor 13 = .ok (.getfield 24, 3) := by decide +kernel
theorem dX4_blockFor_16 : decode cX4_blockFor 16 = .ok (.iload_n 3, 1) := by decide +kernel
theorem dX4_blockFor_17 : decode cX4_blockFor 17 = .ok (.iaload, 1) := by decide +kernel
theorem dX4_blockFor_18 : decode cX4_blockFor 18 = .ok (.iload_n 1, 1) := by decide +kernel
theorem dX4_blockFor_19 : decode cX4_blockFor 19 = .ok (.if_icmp .gt 5, 3) := by decide +kernel
theorem dX4_blockFor_22 : decode cX4_blockFor 22 = .ok (.iload_n 3, 1) := by decide +kernel
theorem dX4_blockFor_23 : decode cX4_blockFor 23 = .ok (.istore_n 2, 1) := by decide +kernel
theorem dX4_blockFor_24 : decode cX4_blockFor 24 = .ok (.iinc 3 1, 3) := by decide +kernel
theorem dX4_blockFor_27 : decode cX4_blockFor 27 = .ok (.goto (-23), 3) := by decide +kernel
theorem dX4_blockFor_30 : decode cX4_blockFor 30 = .ok (.iload_n 2, 1) := by decide +kernel
theorem dX4_blockFor_31 : decode cX4_blockFor 31 = .ok (.ireturn, 1) := by decide +kernel
set_option maxRecDepth 20000 in
theorem ggX5_init_J7_fill_53178 : GoodIn wsX5_init wsJ7_fill_53178 := goodIn_r _ [13] (by decide +kernel) (by decide +kernel)
set_option maxRecDepth 20000 in
theorem gX5_init_J7_fill_53178 : GoodIn wsX5_init (va_wsS RX5 21 yJ7_fill_53178 wsJ7_fill_53178) := goodIn_app (goodIn_of _ (by decide +kernel)) ggX5_init_J7_fill_53178
theorem dX5_init_0 : decode cX5_init 0 = .ok (.aload_n 0, 1) := by decide +kernel
theorem dX5_init_1 : decode cX5_init 1 = .ok (.invokespecial 3, 3) := by decide +kernel
theorem dX5_init_4 : decode cX5_init 4 = .ok (.aload_n 0, 1) := by decide +kernel
theorem dX5_init_5 : decode cX5_init 5 = .ok (.sipush 1920, 3) := by decide +kernel
theorem dX5_init_8 : decode cX5_init 8 = .ok (.newarray .int, 2) := by decide +kernel
theorem dX5_init_10 : decode cX5_init 10 = .ok (.putfield 9, 3) := by decide +kernel
theorem dX5_init_13 : decode cX5_init 13 = .ok (.aload_n 0, 1) := by decide +kernel
theorem dX5_init_14 : decode cX5_init 14 = .ok (.bipush 64, 2) := by decide +kernel
theorem dX5_init_16 : decode cX5_init 16 = .ok (.newarray .int, 2) := by decide +kernel
theorem dX5_init_18 : decode cX5_init 18 = .ok (.putfield 15, 3) := by decide +kernel
theorem dX5_init_21 : decode cX5_init 21 = .ok (.aload_n 0, 1) := by decide +kernel
theorem dX5_init_22 : decode cX5_init 22 = .ok (.bipush 64, 2) := by decide +kernel
theorem dX5_init_24 : decode cX5_init 24 = .ok (.newarray .int, 2) := by decide +kernel
theorem dX5_init_26 : decode cX5_init 26 = .ok (.putfield 18, 3) := by decide +kernel
theorem dX5_init_29 : decode cX5_init 29 = .ok (.aload_n 0, 1) := by decide +kernel
theorem dX5_init_30 : decode cX5_init 30 = .ok (.getfield 9, 3) := by decide +kernel
theorem dX5_init_33 : decode cX5_init 33 = .ok (.iconst (-1), 1) := by decide +kernel
theorem dX5_init_34 : decode cX5_init 34 = .ok (.invokestatic 21, 3) := by decide +kernel
theorem dX5_init_37 : decode cX5_init 37 = .ok (.aload_n 0, 1) := by decide +kernel
theorem dX5_init_38 : decode cX5_init 38 = .ok (.iconst 0, 1) := by decide +kernel
theorem dX5_init_39 : decode cX5_init 39 = .ok (.putfield 27, 3) := by decide +kernel
theorem dX5_init_42 : decode cX5_init 42 = .ok (.aload_n 0, 1) := by decide +kernel
theorem dX5_init_43 : decode cX5_init 43 = .ok (.bipush 10, 2) := by decide +kernel
theorem dX5_init_45 : decode cX5_init 45 = .ok (.putfield 31, 3) := by decide +kernel
theorem dX5_init_48 : decode cX5_init 48 = .ok (.return_, 1) := by decide +kernel
set_option maxRecDepth 20000 in
theorem ggX5_canBeTold_X7_isWithin : GoodIn wsX5_canBeTold wsX7_isWithin := goodIn_r _ [3] (by decide +kernel) (by decide +kernel)
set_option maxRecDepth 20000 in
theorem gX5_canBeTold_X7_isWithin_n34 : GoodIn wsX5_canBeTold (wsX7_isWithin) := ggX5_canBeTold_X7_isWithin
theorem dX5_canBeTold_0 : decode cX5_canBeTold 0 = .ok (.iload_n 0, 1) := by decide +kernel
theorem dX5_canBeTold_1 : decode cX5_canBeTold 1 = .ok (.bipush 20, 2) := by decide +kernel
theorem dX5_canBeTold_3 : decode cX5_canBeTold 3 = .ok (.invokestatic 34, 3) := by decide +kernel
end
section
theorem dX5_canBeTold_6 : decode cX5_canBeTold 6 = .ok (.ifCond .eq 22, 3) := by decide +kernel
theorem dX5_canBeTold_9 : decode cX5_canBeTold 9 = .ok (.iload_n 1, 1) := by decide +kernel
theorem dX5_canBeTold_10 : decode cX5_canBeTold 10 = .ok (.sipush 200, 3) := by decide +kernel
theorem dX5_canBeTold_13 : decode cX5_canBeTold 13 = .ok (.invokestatic 34, 3) := by decide +kernel
theorem dX5_canBeTold_16 : decode cX5_canBeTold 16 = .ok (.ifCond .eq 12, 3) := by decide +kernel
theorem dX5_canBeTold_19 : decode cX5_canBeTold 19 = .ok (.iload_n 1, 1) := by decide +kernel
theorem dX5_canBeTold_20 : decode cX5_canBeTold 20 = .ok (.iload_n 0, 1) := by decide +kernel
theorem dX5_canBeTold_21 : decode cX5_canBeTold 21 = .ok (.if_icmp .lt 7, 3) := by decide +kernel
theorem dX5_canBeTold_24 : decode cX5_canBeTold 24 = .ok (.iconst 1, 1) := by decide +kernel
theorem dX5_canBeTold_25 : decode cX5_canBeTold 25 = .ok (.goto 4, 3) := by decide +kernel
theorem dX5_canBeTold_28 : decode cX5_canBeTold 28 = .ok (.iconst 0, 1) := by decide +kernel
theorem dX5_canBeTold_29 : decode cX5_canBeTold 29 = .ok (.ireturn, 1) := by decide +kernel
set_option maxRecDepth 20000 in
theorem ggX5_isCode_X5_canBeTold : GoodIn wsX5_isCode wsX5_canBeTold := goodIn_r _ [6, 7, 8, 9] (by decide +kernel) (by decide +kernel)
set_option maxRecDepth 20000 in
theorem gX5_isCode_X5_canBeTold : GoodIn wsX5_isCode (va_wsS RX5 42 yX5_canBeTold wsX5_canBeTold) := goodIn_app (goodIn_of _ (by decide +kernel)) ggX5_isCode_X5_canBeTold
theorem dX5_isCode_0 : decode cX5_isCode 0 = .ok (.lload_n 0, 1) := by decide +kernel
theorem dX5_isCode_1 : decode cX5_isCode 1 = .ok (.ldc2_w 38, 3) := by decide +kernel
theorem dX5_isCode_4 : decode cX5_isCode 4 = .ok (.lcmp, 1) := by decide +kernel
theorem dX5_isCode_5 : decode cX5_isCode 5 = .ok (.ifCond .ne 5, 3) := by decide +kernel
theorem dX5_isCode_8 : decode cX5_isCode 8 = .ok (.iconst 1, 1) := by decide +kernel
theorem dX5_isCode_9 : decode cX5_isCode 9 = .ok (.ireturn, 1) := by decide +kernel
theorem dX5_isCode_10 : decode cX5_isCode 10 = .ok (.lload_n 0, 1) := by decide +kernel
theorem dX5_isCode_11 : decode cX5_isCode 11 = .ok (.lconst 0, 1) := by decide +kernel
theorem dX5_isCode_12 : decode cX5_isCode 12 = .ok (.lcmp, 1) := by decide +kernel
theorem dX5_isCode_13 : decode cX5_isCode 13 = .ok (.ifCond .lt 11, 3) := by decide +kernel
theorem dX5_isCode_16 : decode cX5_isCode 16 = .ok (.lload_n 0, 1) := by decide +kernel
theorem dX5_isCode_17 : decode cX5_isCode 17 = .ok (.ldc2_w 40, 3) := by decide +kernel
theorem dX5_isCode_20 : decode cX5_isCode 20 = .ok (.lcmp, 1) := by decide +kernel
theorem dX5_isCode_21 : decode cX5_isCode 21 = .ok (.ifCond .le 5, 3) := by decide +kernel
theorem dX5_isCode_24 : decode cX5_isCode 24 = .ok (.iconst 0, 1) := by decide +kernel
theorem dX5_isCode_25 : decode cX5_isCode 25 = .ok (.ireturn, 1) := by decide +kernel
theorem dX5_isCode_26 : decode cX5_isCode 26 = .ok (.lload_n 0, 1) := by decide +kernel
theorem dX5_isCode_27 : decode cX5_isCode 27 = .ok (.l2i, 1) := by decide +kernel
theorem dX5_isCode_28 : decode cX5_isCode 28 = .ok (.istore_n 2, 1) := by decide +kernel
theorem dX5_isCode_29 : decode cX5_isCode 29 = .ok (.iload_n 2, 1) := by decide +kernel
theorem dX5_isCode_30 : decode cX5_isCode 30 = .ok (.sipush 1000, 3) := by decide +kernel
theorem dX5_isCode_33 : decode cX5_isCode 33 = .ok (.idiv, 1) := by decide +kernel
theorem dX5_isCode_34 : decode cX5_isCode 34 = .ok (.iload_n 2, 1) := by decide +kernel
theorem dX5_isCode_35 : decode cX5_isCode 35 = .ok (.sipush 1000, 3) := by decide +kernel
theorem dX5_isCode_38 : decode cX5_isCode 38 = .ok (.irem, 1) := by decide +kernel
theorem dX5_isCode_39 : decode cX5_isCode 39 = .ok (.invokestatic 42, 3) := by decide +kernel
theorem dX5_isCode_42 : decode cX5_isCode 42 = .ok (.ireturn, 1) := by decide +kernel
theorem dX5_addEye_0 : decode cX5_addEye 0 = .ok (.aload_n 0, 1) := by decide +kernel
theorem dX5_addEye_1 : decode cX5_addEye 1 = .ok (.dup, 1) := by decide +kernel
theorem dX5_addEye_2 : decode cX5_addEye 2 = .ok (.getfield 27, 3) := by decide +kernel
theorem dX5_addEye_5 : decode cX5_addEye 5 = .ok (.iconst 1, 1) := by decide +kernel
theorem dX5_addEye_6 : decode cX5_addEye 6 = .ok (.iadd, 1) := by decide +kernel
theorem dX5_addEye_7 : decode cX5_addEye 7 = .ok (.putfield 27, 3) := by decide +kernel
theorem dX5_addEye_10 : decode cX5_addEye 10 = .ok (.aload_n 0, 1) := by decide +kernel
theorem dX5_addEye_11 : decode cX5_addEye 11 = .ok (.getfield 27, 3) := by decide +kernel
theorem dX5_addEye_14 : decode cX5_addEye 14 = .ok (.iconst 1, 1) := by decide +kernel
theorem dX5_addEye_15 : decode cX5_addEye 15 = .ok (.isub, 1) := by decide +kernel
theorem dX5_addEye_16 : decode cX5_addEye 16 = .ok (.ireturn, 1) := by decide +kernel
theorem dX5_has_0 : decode cX5_has 0 = .ok (.aload_n 0, 1) := by decide +kernel
theorem dX5_has_1 : decode cX5_has 1 = .ok (.getfield 9, 3) := by decide +kernel
theorem dX5_has_4 : decode cX5_has 4 = .ok (.iload_n 1, 1) := by decide +kernel
theorem dX5_has_5 : decode cX5_has 5 = .ok (.sipush 240, 3) := by decide +kernel
theorem dX5_has_8 : decode cX5_has 8 = .ok (.imul, 1) := by decide +kernel
theorem dX5_has_9 : decode cX5_has 9 = .ok (.iload_n 2, 1) := by decide +kernel
theorem dX5_has_10 : decode cX5_has 10 = .ok (.iadd, 1) := by decide +kernel
theorem dX5_has_11 : decode cX5_has 11 = .ok (.iaload, 1) := by decide +kernel
theorem dX5_has_12 : decode cX5_has 12 = .ok (.iconst (-1), 1) := by decide +kernel
theorem dX5_has_13 : decode cX5_has 13 = .ok (.if_icmp .eq 7, 3) := by decide +kernel
theorem dX5_has_16 : decode cX5_has 16 = .ok (.iconst 1, 1) := by decide +kernel
theorem dX5_has_17 : decode cX5_has 17 = .ok (.goto 4, 3) := by decide +kernel
theorem dX5_has_20 : decode cX5_has 20 = .ok (.iconst 0, 1) := by decide +kernel
theorem dX5_has_21 : decode cX5_has 21 = .ok (.ireturn, 1) := by decide +kernel
set_option maxRecDepth 20000 in
theorem ggX5_haveBoth_X5_has : GoodIn wsX5_haveBoth wsX5_has := goodIn_r _ [5, 6, 7, 8, 9, 10, 11] (by decide +kernel) (by decide +kernel)
set_option maxRecDepth 20000 in
theorem gX5_haveBoth_X5_has : GoodIn wsX5_haveBoth (wsV RX5 45 RX5 yX5_has wsX5_has) := goodIn_app (goodIn_of _ (by decide +kernel)) ggX5_haveBoth_X5_has
theorem dX5_haveBoth_0 : decode cX5_haveBoth 0 = .ok (.aload_n 0, 1) := by decide +kernel
theorem dX5_haveBoth_1 : decode cX5_haveBoth 1 = .ok (.iload_n 1, 1) := by decide +kernel
theorem dX5_haveBoth_2 : decode cX5_haveBoth 2 = .ok (.iload_n 3, 1) := by decide +kernel
theorem dX5_haveBoth_3 : decode cX5_haveBoth 3 = .ok (.invokevirtual 45, 3) := by decide +kernel
theorem dX5_haveBoth_6 : decode cX5_haveBoth 6 = .ok (.ifCond .eq 16, 3) := by decide +kernel
theorem dX5_haveBoth_9 : decode cX5_haveBoth 9 = .ok (.aload_n 0, 1) := by decide +kernel
theorem dX5_haveBoth_10 : decode cX5_haveBoth 10 = .ok (.iload_n 2, 1) := by decide +kernel
theorem dX5_haveBoth_11 : decode cX5_haveBoth 11 = .ok (.iload_n 3, 1) := by decide +kernel
theorem dX5_haveBoth_12 : decode cX5_haveBoth 12 = .ok (.invokevirtual 45, 3) := by decide +kernel
theorem dX5_haveBoth_15 : decode cX5_haveBoth 15 = .ok (.ifCond .eq 7, 3) := by decide +kernel
theorem dX5_haveBoth_18 : decode cX5_haveBoth 18 = .ok (.iconst 1, 1) := by decide +kernel
theorem dX5_haveBoth_19 : decode cX5_haveBoth 19 = .ok (.goto 4, 3) := by decide +kernel
theorem dX5_haveBoth_22 : decode cX5_haveBoth 22 = .ok (.iconst 0, 1) := by decide +kernel
theorem dX5_haveBoth_23 : decode cX5_haveBoth 23 = .ok (.ireturn, 1) := by decide +kernel
theorem dX5_groupsOf_0 : decode cX5_groupsOf 0 = .ok (.aload_n 0, 1) := by decide +kernel
theorem dX5_groupsOf_1 : decode cX5_groupsOf 1 = .ok (.getfield 9, 3) := by decide +kernel
theorem dX5_groupsOf_4 : decode cX5_groupsOf 4 = .ok (.iload_n 1, 1) := by decide +kernel
theorem dX5_groupsOf_5 : decode cX5_groupsOf 5 = .ok (.sipush 240, 3) := by decide +kernel
theorem dX5_groupsOf_8 : decode cX5_groupsOf 8 = .ok (.imul, 1) := by decide +kernel
theorem dX5_groupsOf_9 : decode cX5_groupsOf 9 = .ok (.iload_n 2, 1) := by decide +kernel
theorem dX5_groupsOf_10 : decode cX5_groupsOf 10 = .ok (.iadd, 1) := by decide +kernel
theorem dX5_groupsOf_11 : decode cX5_groupsOf 11 = .ok (.iaload, 1) := by decide +kernel
theorem dX5_groupsOf_12 : decode cX5_groupsOf 12 = .ok (.sipush 1000, 3) := by decide +kernel
theorem dX5_groupsOf_15 : decode cX5_groupsOf 15 = .ok (.idiv, 1) := by decide +kernel
theorem dX5_groupsOf_16 : decode cX5_groupsOf 16 = .ok (.ireturn, 1) := by decide +kernel
theorem dX5_spotsOf_0 : decode cX5_spotsOf 0 = .ok (.aload_n 0, 1) := by decide +kernel
theorem dX5_spotsOf_1 : decode cX5_spotsOf 1 = .ok (.getfield 9, 3) := by decide +kernel
theorem dX5_spotsOf_4 : decode cX5_spotsOf 4 = .ok (.iload_n 1, 1) := by decide +kernel
theorem dX5_spotsOf_5 : decode cX5_spotsOf 5 = .ok (.sipush 240, 3) := by decide +kernel
theorem dX5_spotsOf_8 : decode cX5_spotsOf 8 = .ok (.imul, 1) := by decide +kernel
theorem dX5_spotsOf_9 : decode cX5_spotsOf 9 = .ok (.iload_n 2, 1) := by decide +kernel
theorem dX5_spotsOf_10 : decode cX5_spotsOf 10 = .ok (.iadd, 1) := by decide +kernel
theorem dX5_spotsOf_11 : decode cX5_spotsOf 11 = .ok (.iaload, 1) := by decide +kernel
theorem dX5_spotsOf_12 : decode cX5_spotsOf 12 = .ok (.sipush 1000, 3) := by decide +kernel
theorem dX5_spotsOf_15 : decode cX5_spotsOf 15 = .ok (.irem, 1) := by decide +kernel
theorem dX5_spotsOf_16 : decode cX5_spotsOf 16 = .ok (.ireturn, 1) := by decide +kernel
set_option maxRecDepth 20000 in
theorem ggX5_numberOf_X5_groupsOf : GoodIn wsX5_numberOf wsX5_groupsOf := goodIn_r _ [5, 6, 11, 12, 13, 14, 15] (by decide +kernel) (by decide +kernel)
set_option maxRecDepth 20000 in
theorem gX5_numberOf_X5_groupsOf : GoodIn wsX5_numberOf (wsV RX5 48 RX5 yX5_groupsOf wsX5_groupsOf) := goodIn_app (goodIn_of _ (by decide +kernel)) ggX5_numberOf_X5_groupsOf
set_option maxRecDepth 20000 in
theorem ggX5_numberOf_X5_spotsOf : GoodIn wsX5_numberOf wsX5_spotsOf := goodIn_r _ [10, 6, 11, 12, 13, 14, 15] (by decide +kernel) (by decide +kernel)
set_option maxRecDepth 20000 in
theorem gX5_numberOf_X5_spotsOf : GoodIn wsX5_numberOf (wsV RX5 52 RX5 yX5_spotsOf wsX5_spotsOf) := goodIn_app (goodIn_of _ (by decide +kernel)) ggX5_numberOf_X5_spotsOf
theorem dX5_numberOf_0 : decode cX5_numberOf 0 = .ok (.bipush 10, 2) := by decide +kernel
theorem dX5_numberOf_2 : decode cX5_numberOf 2 = .ok (.aload_n 0, 1) := by decide +kernel
theorem dX5_numberOf_3 : decode cX5_numberOf 3 = .ok (.iload_n 1, 1) := by decide +kernel
theorem dX5_numberOf_4 : decode cX5_numberOf 4 = .ok (.iload_n 2, 1) := by decide +kernel
theorem dX5_numberOf_5 : decode cX5_numberOf 5 = .ok (.invokevirtual 48, 3) := by decide +kernel
theorem dX5_numberOf_8 : decode cX5_numberOf 8 = .ok (.imul, 1) := by decide +kernel
theorem dX5_numberOf_9 : decode cX5_numberOf 9 = .ok (.aload_n 0, 1) := by decide +kernel
theorem dX5_numberOf_10 : decode cX5_numberOf 10 = .ok (.iload_n 1, 1) := by decide +kernel
theorem dX5_numberOf_11 : decode cX5_numberOf 11 = .ok (.iload_n 2, 1) := by decide +kernel
theorem dX5_numberOf_12 : decode cX5_numberOf 12 = .ok (.invokevirtual 52, 3) := by decide +kernel
theorem dX5_numberOf_15 : decode cX5_numberOf 15 = .ok (.iadd, 1) := by decide +kernel
theorem dX5_numberOf_16 : decode cX5_numberOf 16 = .ok (.ireturn, 1) := by decide +kernel
set_option maxRecDepth 20000 in
theorem ggX5_put_X5_countIn : GoodIn wsX5_put wsX5_countIn := goodIn_r _ [6, 7, 8, 9, 10, 11, 12, 5, 13, 1, 14, 15, 16, 17, 18, 19, 20, 21, 22, 23, 24, 25, 26, 27, 28, 29, 30] (by decide +kernel) (by decide +kernel)
set_option maxRecDepth 20000 in
theorem gX5_put_X5_countIn : GoodIn wsX5_put (wsV RX5 55 RX5 yX5_countIn wsX5_countIn) := goodIn_app (goodIn_of _ (by decide +kernel)) ggX5_put_X5_countIn
theorem dX5_put_0 : decode cX5_put 0 = .ok (.aload_n 0, 1) := by decide +kernel
theorem dX5_put_1 : decode cX5_put 1 = .ok (.iload_n 1, 1) := by decide +kernel
theorem dX5_put_2 : decode cX5_put 2 = .ok (.iload_n 2, 1) := by decide +kernel
theorem dX5_put_3 : decode cX5_put 3 = .ok (.iconst (-1), 1) := by decide +kernel
theorem dX5_put_4 : decode cX5_put 4 = .ok (.invokevirtual 55, 3) := by decide +kernel
theorem dX5_put_7 : decode cX5_put 7 = .ok (.aload_n 0, 1) := by decide +kernel
theorem dX5_put_8 : decode cX5_put 8 = .ok (.getfield 9, 3) := by decide +kernel
theorem dX5_put_11 : decode cX5_put 11 = .ok (.iload_n 1, 1) := by decide +kernel
theorem dX5_put_12 : decode cX5_put 12 = .ok (.sipush 240, 3) := by decide +kernel
theorem dX5_put_15 : decode cX5_put 15 = .ok (.imul, 1) := by decide +kernel
theorem dX5_put_16 : decode cX5_put 16 = .ok (.iload_n 2, 1) := by decide +kernel
theorem dX5_put_17 : decode cX5_put 17 = .ok (.iadd, 1) := by decide +kernel
theorem dX5_put_18 : decode cX5_put 18 = .ok (.iload_n 3, 1) := by decide +kernel
theorem dX5_put_19 : decode cX5_put 19 = .ok (.iastore, 1) := by decide +kernel
theorem dX5_put_20 : decode cX5_put 20 = .ok (.aload_n 0, 1) := by decide +kernel
theorem dX5_put_21 : decode cX5_put 21 = .ok (.iload_n 1, 1) := by decide +kernel
theorem dX5_put_22 : decode cX5_put 22 = .ok (.iload_n 2, 1) := by decide +kernel
theorem dX5_put_23 : decode cX5_put 23 = .ok (.iconst 1, 1) := by decide +kernel
theorem dX5_put_24 : decode cX5_put 24 = .ok (.invokevirtual 55, 3) := by decide +kernel
theorem dX5_put_27 : decode cX5_put 27 = .ok (.return_, 1) := by decide +kernel
set_option maxRecDepth 20000 in
theorem ggX5_countIn_X5_has : GoodIn wsX5_countIn wsX5_has := goodIn_r _ [8, 9, 22, 23, 24, 25, 26] (by decide +kernel) (by decide +kernel)
set_option maxRecDepth 20000 in
theorem gX5_countIn_X5_has : GoodIn wsX5_countIn (wsV RX5 45 RX5 yX5_has wsX5_has) := goodIn_app (goodIn_of _ (by decide +kernel)) ggX5_countIn_X5_has
set_option maxRecDepth 20000 in
theorem ggX5_countIn_X5_numberOf : GoodIn wsX5_countIn wsX5_numberOf := goodIn_r _ [13, 14, 15, 16, 7, 17, 9, 18, 19, 20, 21, 22, 23, 24, 25, 26] (by decide +kernel) (by decide +kernel)
set_option maxRecDepth 20000 in
theorem gX5_countIn_X5_numberOf : GoodIn wsX5_countIn (wsV RX5 59 RX5 yX5_numberOf wsX5_numberOf) := goodIn_app (goodIn_of _ (by decide +kernel)) ggX5_countIn_X5_numberOf
theorem dX5_countIn_0 : decode cX5_countIn 0 = .ok (.aload_n 0, 1) := by decide +kernel
theorem dX5_countIn_1 : decode cX5_countIn 1 = .ok (.iload_n 1, 1) := by decide +kernel
theorem dX5_countIn_2 : decode cX5_countIn 2 = .ok (.iload_n 2, 1) := by decide +kernel
theorem dX5_countIn_3 : decode cX5_countIn 3 = .ok (.invokevirtual 45, 3) := by decide +kernel
theorem dX5_countIn_6 : decode cX5_countIn 6 = .ok (.ifCond .ne 4, 3) := by decide +kernel
theorem dX5_countIn_9 : decode cX5_countIn 9 = .ok (.return_, 1) := by decide +kernel
theorem dX5_countIn_10 : decode cX5_countIn 10 = .ok (.iconst 0, 1) := by decide +kernel
theorem dX5_countIn_11 : decode cX5_countIn 11 = .ok (.istore 4, 2) := by decide +kernel
theorem dX5_countIn_13 : decode cX5_countIn 13 = .ok (.iload 4, 2) := by decide +kernel
theorem dX5_countIn_15 : decode cX5_countIn 15 = .ok (.aload_n 0, 1) := by decide +kernel
theorem dX5_countIn_16 : decode cX5_countIn 16 = .ok (.getfield 27, 3) := by decide +kernel
theorem dX5_countIn_19 : decode cX5_countIn 19 = .ok (.if_icmp .ge 102, 3) := by decide +kernel
theorem dX5_countIn_22 : decode cX5_countIn 22 = .ok (.iload 4, 2) := by decide +kernel
theorem dX5_countIn_24 : decode cX5_countIn 24 = .ok (.iload_n 1, 1) := by decide +kernel
theorem dX5_countIn_25 : decode cX5_countIn 25 = .ok (.if_icmp .eq 90, 3) := by decide +kernel
theorem dX5_countIn_28 : decode cX5_countIn 28 = .ok (.aload_n 0, 1) := by decide +kernel
theorem dX5_countIn_29 : decode cX5_countIn 29 = .ok (.iload 4, 2) := by decide +kernel
theorem dX5_countIn_31 : decode cX5_countIn 31 = .ok (.iload_n 2, 1) := by decide +kernel
theorem dX5_countIn_32 : decode cX5_countIn 32 = .ok (.invokevirtual 45, 3) := by decide +kernel
theorem dX5_countIn_35 : decode cX5_countIn 35 = .ok (.ifCond .eq 80, 3) := by decide +kernel
theorem dX5_countIn_38 : decode cX5_countIn 38 = .ok (.iload_n 1, 1) := by decide +kernel
theorem dX5_countIn_39 : decode cX5_countIn 39 = .ok (.bipush 8, 2) := by decide +kernel
theorem dX5_countIn_41 : decode cX5_countIn 41 = .ok (.imul, 1) := by decide +kernel
theorem dX5_countIn_42 : decode cX5_countIn 42 = .ok (.iload 4, 2) := by decide +kernel
theorem dX5_countIn_44 : decode cX5_countIn 44 = .ok (.iadd, 1) := by decide +kernel
theorem dX5_countIn_45 : decode cX5_countIn 45 = .ok (.istore 5, 2) := by decide +kernel
theorem dX5_countIn_47 : decode cX5_countIn 47 = .ok (.iload 4, 2) := by decide +kernel
theorem dX5_countIn_49 : decode cX5_countIn 49 = .ok (.bipush 8, 2) := by decide +kernel
theorem dX5_countIn_51 : decode cX5_countIn 51 = .ok (.imul, 1) := by decide +kernel
theorem dX5_countIn_52 : decode cX5_countIn 52 = .ok (.iload_n 1, 1) := by decide +kernel
theorem dX5_countIn_53 : decode cX5_countIn 53 = .ok (.iadd, 1) := by decide +kernel
theorem dX5_countIn_54 : decode cX5_countIn 54 = .ok (.istore 6, 2) := by decide +kernel
theorem dX5_countIn_56 : decode cX5_countIn 56 = .ok (.aload_n 0, 1) := by decide +kernel
theorem dX5_countIn_57 : decode cX5_countIn 57 = .ok (.getfield 15, 3) := by decide +kernel
theorem dX5_countIn_60 : decode cX5_countIn 60 = .ok (.iload 5, 2) := by decide +kernel
theorem dX5_countIn_62 : decode cX5_countIn 62 = .ok (.dup2, 1) := by decide +kernel
theorem dX5_countIn_63 : decode cX5_countIn 63 = .ok (.iaload, 1) := by decide +kernel
theorem dX5_countIn_64 : decode cX5_countIn 64 = .ok (.iload_n 3, 1) := by decide +kernel
theorem dX5_countIn_65 : decode cX5_countIn 65 = .ok (.iadd, 1) := by decide +kernel
theorem dX5_countIn_66 : decode cX5_countIn 66 = .ok (.iastore, 1) := by decide +kernel
theorem dX5_countIn_67 : decode cX5_countIn 67 = .ok (.aload_n 0, 1) := by decide +kernel
theorem dX5_countIn_68 : decode cX5_countIn 68 = .ok (.getfield 15, 3) := by decide +kernel
theorem dX5_countIn_71 : decode cX5_countIn 71 = .ok (.iload 6, 2) := by decide +kernel
theorem dX5_countIn_73 : decode cX5_countIn 73 = .ok (.dup2, 1) := by decide +kernel
theorem dX5_countIn_74 : decode cX5_countIn 74 = .ok (.iaload, 1) := by decide +kernel
theorem dX5_countIn_75 : decode cX5_countIn 75 = .ok (.iload_n 3, 1) := by decide +kernel
theorem dX5_countIn_76 : decode cX5_countIn 76 = .ok (.iadd, 1) := by decide +kernel
theorem dX5_countIn_77 : decode cX5_countIn 77 = .ok (.iastore, 1) := by decide +kernel
theorem dX5_countIn_78 : decode cX5_countIn 78 = .ok (.aload_n 0, 1) := by decide +kernel
theorem dX5_countIn_79 : decode cX5_countIn 79 = .ok (.getfield 18, 3) := by decide +kernel
theorem dX5_countIn_82 : decode cX5_countIn 82 = .ok (.iload 5, 2) := by decide +kernel
theorem dX5_countIn_84 : decode cX5_countIn 84 = .ok (.dup2, 1) := by decide +kernel
theorem dX5_countIn_85 : decode cX5_countIn 85 = .ok (.iaload, 1) := by decide +kernel
theorem dX5_countIn_86 : decode cX5_countIn 86 = .ok (.iload_n 3, 1) := by decide +kernel
theorem dX5_countIn_87 : decode cX5_countIn 87 = .ok (.aload_n 0, 1) := by decide +kernel
theorem dX5_countIn_88 : decode cX5_countIn 88 = .ok (.iload_n 1, 1) := by decide +kernel
theorem dX5_countIn_89 : decode cX5_countIn 89 = .ok (.iload_n 2, 1) := by decide +kernel
theorem dX5_countIn_90 : decode cX5_countIn 90 = .ok (.invokevirtual 59, 3) := by decide +kernel
theorem dX5_countIn_93 : decode cX5_countIn 93 = .ok (.imul, 1) := by decide +kernel
theorem dX5_countIn_94 : decode cX5_countIn 94 = .ok (.iadd, 1) := by decide +kernel
theorem dX5_countIn_95 : decode cX5_countIn 95 = .ok (.iastore, 1) := by decide +kernel
theorem dX5_countIn_96 : decode cX5_countIn 96 = .ok (.aload_n 0, 1) := by decide +kernel
theorem dX5_countIn_97 : decode cX5_countIn 97 = .ok (.getfield 18, 3) := by decide +kernel
theorem dX5_countIn_100 : decode cX5_countIn 100 = .ok (.iload 6, 2) := by decide +kernel
theorem dX5_countIn_102 : decode cX5_countIn 102 = .ok (.dup2, 1) := by decide +kernel
theorem dX5_countIn_103 : decode cX5_countIn 103 = .ok (.iaload, 1) := by decide +kernel
theorem dX5_countIn_104 : decode cX5_countIn 104 = .ok (.iload_n 3, 1) := by decide +kernel
theorem dX5_countIn_105 : decode cX5_countIn 105 = .ok (.aload_n 0, 1) := by decide +kernel
theorem dX5_countIn_106 : decode cX5_countIn 106 = .ok (.iload 4, 2) := by decide +kernel
theorem dX5_countIn_108 : decode cX5_countIn 108 = .ok (.iload_n 2, 1) := by decide +kernel
theorem dX5_countIn_109 : decode cX5_countIn 109 = .ok (.invokevirtual 59, 3) := by decide +kernel
theorem dX5_countIn_112 : decode cX5_countIn 112 = .ok (.imul, 1) := by decide +kernel
theorem dX5_countIn_113 : decode cX5_countIn 113 = .ok (.iadd, 1) := by decide +kernel
theorem dX5_countIn_114 : decode cX5_countIn 114 = .ok (.iastore, 1) := by decide +kernel
theorem dX5_countIn_115 : decode cX5_countIn 115 = .ok (.iinc 4 1, 3) := by decide +kernel
theorem dX5_countIn_118 : decode cX5_countIn 118 = .ok (.goto (-105), 3) := by decide +kernel
theorem dX5_countIn_121 : decode cX5_countIn 121 = .ok (.return_, 1) := by decide +kernel
set_option maxRecDepth 20000 in
theorem ggX5_countDays_X5_has : GoodIn wsX5_countDays wsX5_has := goodIn_r _ [5, 6, 7, 8, 9, 10, 11] (by decide +kernel) (by decide +kernel)
set_option maxRecDepth 20000 in
theorem gX5_countDays_X5_has : GoodIn wsX5_countDays (wsV RX5 45 RX5 yX5_has wsX5_has) := goodIn_app (goodIn_of _ (by decide +kernel)) ggX5_countDays_X5_has
theorem dX5_countDays_0 : decode cX5_countDays 0 = .ok (.iconst 0, 1) := by decide +kernel
theorem dX5_countDays_1 : decode cX5_countDays 1 = .ok (.istore 4, 2) := by decide +kernel
theorem dX5_countDays_3 : decode cX5_countDays 3 = .ok (.iload_n 2, 1) := by decide +kernel
theorem dX5_countDays_4 : decode cX5_countDays 4 = .ok (.istore 5, 2) := by decide +kernel
theorem dX5_countDays_6 : decode cX5_countDays 6 = .ok (.iload 5, 2) := by decide +kernel
theorem dX5_countDays_8 : decode cX5_countDays 8 = .ok (.iload_n 3, 1) := by decide +kernel
theorem dX5_countDays_9 : decode cX5_countDays 9 = .ok (.if_icmp .gt 22, 3) := by decide +kernel
theorem dX5_countDays_12 : decode cX5_countDays 12 = .ok (.aload_n 0, 1) := by decide +kernel
theorem dX5_countDays_13 : decode cX5_countDays 13 = .ok (.iload_n 1, 1) := by decide +kernel
theorem dX5_countDays_14 : decode cX5_countDays 14 = .ok (.iload 5, 2) := by decide +kernel
theorem dX5_countDays_16 : decode cX5_countDays 16 = .ok (.invokevirtual 45, 3) := by decide +kernel
theorem dX5_countDays_19 : decode cX5_countDays 19 = .ok (.ifCond .eq 6, 3) := by decide +kernel
theorem dX5_countDays_22 : decode cX5_countDays 22 = .ok (.iinc 4 1, 3) := by decide +kernel
theorem dX5_countDays_25 : decode cX5_countDays 25 = .ok (.iinc 5 1, 3) := by decide +kernel
theorem dX5_countDays_28 : decode cX5_countDays 28 = .ok (.goto (-22), 3) := by decide +kernel
theorem dX5_countDays_31 : decode cX5_countDays 31 = .ok (.iload 4, 2) := by decide +kernel
theorem dX5_countDays_33 : decode cX5_countDays 33 = .ok (.ireturn, 1) := by decide +kernel
set_option maxRecDepth 20000 in
theorem ggX5_countActive_X5_has : GoodIn wsX5_countActive wsX5_has := goodIn_r _ [5, 6, 11, 12, 13, 14, 15] (by decide +kernel) (by decide +kernel)
set_option maxRecDepth 20000 in
theorem gX5_countActive_X5_has : GoodIn wsX5_countActive (wsV RX5 45 RX5 yX5_has wsX5_has) := goodIn_app (goodIn_of _ (by decide +kernel)) ggX5_countActive_X5_has
set_option maxRecDepth 20000 in
theorem ggX5_countActive_X5_groupsOf : GoodIn wsX5_countActive wsX5_groupsOf := goodIn_r _ [10, 6, 11, 12, 13, 14, 15] (by decide +kernel) (by decide +kernel)
set_option maxRecDepth 20000 in
theorem gX5_countActive_X5_groupsOf : GoodIn wsX5_countActive (wsV RX5 48 RX5 yX5_groupsOf wsX5_groupsOf) := goodIn_app (goodIn_of _ (by decide +kernel)) ggX5_countActive_X5_groupsOf
theorem dX5_countActive_0 : decode cX5_countActive 0 = .ok (.iconst 0, 1) := by decide +kernel
theorem dX5_countActive_1 : decode cX5_countActive 1 = .ok (.istore 4, 2) := by decide +kernel
theorem dX5_countActive_3 : decode cX5_countActive 3 = .ok (.iload_n 2, 1) := by decide +kernel
theorem dX5_countActive_4 : decode cX5_countActive 4 = .ok (.istore 5, 2) := by decide +kernel
theorem dX5_countActive_6 : decode cX5_countActive 6 = .ok (.iload 5, 2) := by decide +kernel
theorem dX5_countActive_8 : decode cX5_countActive 8 = .ok (.iload_n 3, 1) := by decide +kernel
theorem dX5_countActive_9 : decode cX5_countActive 9 = .ok (.if_icmp .gt 32, 3) := by decide +kernel
theorem dX5_countActive_12 : decode cX5_countActive 12 = .ok (.aload_n 0, 1) := by decide +kernel
theorem dX5_countActive_13 : decode cX5_countActive 13 = .ok (.iload_n 1, 1) := by decide +kernel
theorem dX5_countActive_14 : decode cX5_countActive 14 = .ok (.iload 5, 2) := by decide +kernel
theorem dX5_countActive_16 : decode cX5_countActive 16 = .ok (.invokevirtual 45, 3) := by decide +kernel
theorem dX5_countActive_19 : decode cX5_countActive 19 = .ok (.ifCond .eq 16, 3) := by decide +kernel
theorem dX5_countActive_22 : decode cX5_countActive 22 = .ok (.aload_n 0, 1) := by decide +kernel
theorem dX5_countActive_23 : decode cX5_countActive 23 = .ok (.iload_n 1, 1) := by decide +kernel
theorem dX5_countActive_24 : decode cX5_countActive 24 = .ok (.iload 5, 2) := by decide +kernel
theorem dX5_countActive_26 : decode cX5_countActive 26 = .ok (.invokevirtual 48, 3) := by decide +kernel
theorem dX5_countActive_29 : decode cX5_countActive 29 = .ok (.ifCond .le 6, 3) := by decide +kernel
theorem dX5_countActive_32 : decode cX5_countActive 32 = .ok (.iinc 4 1, 3) := by decide +kernel
theorem dX5_countActive_35 : decode cX5_countActive 35 = .ok (.iinc 5 1, 3) := by decide +kernel
theorem dX5_countActive_38 : decode cX5_countActive 38 = .ok (.goto (-32), 3) := by decide +kernel
theorem dX5_countActive_41 : decode cX5_countActive 41 = .ok (.iload 4, 2) := by decide +kernel
theorem dX5_countActive_43 : decode cX5_countActive 43 = .ok (.ireturn, 1) := by decide +kernel
theorem dX5_countBoth_0 : decode cX5_countBoth 0 = .ok (.aload_n 0, 1) := by decide +kernel
theorem dX5_countBoth_1 : decode cX5_countBoth 1 = .ok (.getfield 15, 3) := by decide +kernel
theorem dX5_countBoth_4 : decode cX5_countBoth 4 = .ok (.iload_n 1, 1) := by decide +kernel
theorem dX5_countBoth_5 : decode cX5_countBoth 5 = .ok (.bipush 8, 2) := by decide +kernel
theorem dX5_countBoth_7 : decode cX5_countBoth 7 = .ok (.imul, 1) := by decide +kernel
theorem dX5_countBoth_8 : decode cX5_countBoth 8 = .ok (.iload_n 2, 1) := by decide +kernel
theorem dX5_countBoth_9 : decode cX5_countBoth 9 = .ok (.iadd, 1) := by decide +kernel
theorem dX5_countBoth_10 : decode cX5_countBoth 10 = .ok (.iaload, 1) := by decide +kernel
theorem dX5_countBoth_11 : decode cX5_countBoth 11 = .ok (.ireturn, 1) := by decide +kernel
set_option maxRecDepth 20000 in
theorem ggX5_countBothAbove_X5_haveBoth : GoodIn wsX5_countBothAbove wsX5_haveBoth := goodIn_r _ [5, 6, 7, 8, 4, 9, 10, 15, 16, 17, 18, 19] (by decide +kernel) (by decide +kernel)
set_option maxRecDepth 20000 in
theorem gX5_countBothAbove_X5_haveBoth : GoodIn wsX5_countBothAbove (wsV RX5 62 RX5 yX5_haveBoth wsX5_haveBoth) := goodIn_app (goodIn_of _ (by decide +kernel)) ggX5_countBothAbove_X5_haveBoth
set_option maxRecDepth 20000 in
theorem ggX5_countBothAbove_X5_groupsOf : GoodIn wsX5_countBothAbove wsX5_groupsOf := goodIn_r _ [14, 10, 15, 16, 17, 18, 19] (by decide +kernel) (by decide +kernel)
set_option maxRecDepth 20000 in
theorem gX5_countBothAbove_X5_groupsOf : GoodIn wsX5_countBothAbove (wsV RX5 48 RX5 yX5_groupsOf wsX5_groupsOf) := goodIn_app (goodIn_of _ (by decide +kernel)) ggX5_countBothAbove_X5_groupsOf
theorem dX5_countBothAbove_0 : decode cX5_countBothAbove 0 = .ok (.iconst 0, 1) := by decide +kernel
theorem dX5_countBothAbove_1 : decode cX5_countBothAbove 1 = .ok (.istore 4, 2) := by decide +kernel
theorem dX5_countBothAbove_3 : decode cX5_countBothAbove 3 = .ok (.iconst 0, 1) := by decide +kernel
theorem dX5_countBothAbove_4 : decode cX5_countBothAbove 4 = .ok (.istore 5, 2) := by decide +kernel
theorem dX5_countBothAbove_6 : decode cX5_countBothAbove 6 = .ok (.iload 5, 2) := by decide +kernel
theorem dX5_countBothAbove_8 : decode cX5_countBothAbove 8 = .ok (.sipush 240, 3) := by decide +kernel
theorem dX5_countBothAbove_11 : decode cX5_countBothAbove 11 = .ok (.if_icmp .ge 34, 3) := by decide +kernel
theorem dX5_countBothAbove_14 : decode cX5_countBothAbove 14 = .ok (.aload_n 0, 1) := by decide +kernel
theorem dX5_countBothAbove_15 : decode cX5_countBothAbove 15 = .ok (.iload_n 1, 1) := by decide +kernel
theorem dX5_countBothAbove_16 : decode cX5_countBothAbove 16 = .ok (.iload_n 2, 1) := by decide +kernel
theorem dX5_countBothAbove_17 : decode cX5_countBothAbove 17 = .ok (.iload 5, 2) := by decide +kernel
theorem dX5_countBothAbove_19 : decode cX5_countBothAbove 19 = .ok (.invokevirtual 62, 3) := by decide +kernel
theorem dX5_countBothAbove_22 : decode cX5_countBothAbove 22 = .ok (.ifCond .eq 17, 3) := by decide +kernel
theorem dX5_countBothAbove_25 : decode cX5_countBothAbove 25 = .ok (.aload_n 0, 1) := by decide +kernel
theorem dX5_countBothAbove_26 : decode cX5_countBothAbove 26 = .ok (.iload_n 1, 1) := by decide +kernel
theorem dX5_countBothAbove_27 : decode cX5_countBothAbove 27 = .ok (.iload 5, 2) := by decide +kernel
theorem dX5_countBothAbove_29 : decode cX5_countBothAbove 29 = .ok (.invokevirtual 48, 3) := by decide +kernel
theorem dX5_countBothAbove_32 : decode cX5_countBothAbove 32 = .ok (.iload_n 3, 1) := by decide +kernel
theorem dX5_countBothAbove_33 : decode cX5_countBothAbove 33 = .ok (.if_icmp .le 6, 3) := by decide +kernel
theorem dX5_countBothAbove_36 : decode cX5_countBothAbove 36 = .ok (.iinc 4 1, 3) := by decide +kernel
theorem dX5_countBothAbove_39 : decode cX5_countBothAbove 39 = .ok (.iinc 5 1, 3) := by decide +kernel
theorem dX5_countBothAbove_42 : decode cX5_countBothAbove 42 = .ok (.goto (-36), 3) := by decide +kernel
theorem dX5_countBothAbove_45 : decode cX5_countBothAbove 45 = .ok (.iload 4, 2) := by decide +kernel
theorem dX5_countBothAbove_47 : decode cX5_countBothAbove 47 = .ok (.ireturn, 1) := by decide +kernel
theorem dX5_factorOf_0 : decode cX5_factorOf 0 = .ok (.aload_n 0, 1) := by decide +kernel
theorem dX5_factorOf_1 : decode cX5_factorOf 1 = .ok (.getfield 18, 3) := by decide +kernel
theorem dX5_factorOf_4 : decode cX5_factorOf 4 = .ok (.iload_n 1, 1) := by decide +kernel
theorem dX5_factorOf_5 : decode cX5_factorOf 5 = .ok (.bipush 8, 2) := by decide +kernel
theorem dX5_factorOf_7 : decode cX5_factorOf 7 = .ok (.imul, 1) := by decide +kernel
theorem dX5_factorOf_8 : decode cX5_factorOf 8 = .ok (.iload_n 2, 1) := by decide +kernel
theorem dX5_factorOf_9 : decode cX5_factorOf 9 = .ok (.iadd, 1) := by decide +kernel
theorem dX5_factorOf_10 : decode cX5_factorOf 10 = .ok (.iaload, 1) := by decide +kernel
theorem dX5_factorOf_11 : decode cX5_factorOf 11 = .ok (.istore_n 3, 1) := by decide +kernel
theorem dX5_factorOf_12 : decode cX5_factorOf 12 = .ok (.aload_n 0, 1) := by decide +kernel
theorem dX5_factorOf_13 : decode cX5_factorOf 13 = .ok (.getfield 18, 3) := by decide +kernel
theorem dX5_factorOf_16 : decode cX5_factorOf 16 = .ok (.iload_n 2, 1) := by decide +kernel
theorem dX5_factorOf_17 : decode cX5_factorOf 17 = .ok (.bipush 8, 2) := by decide +kernel
theorem dX5_factorOf_19 : decode cX5_factorOf 19 = .ok (.imul, 1) := by decide +kernel
theorem dX5_factorOf_20 : decode cX5_factorOf 20 = .ok (.iload_n 1, 1) := by decide +kernel
theorem dX5_factorOf_21 : decode cX5_factorOf 21 = .ok (.iadd, 1) := by decide +kernel
theorem dX5_factorOf_22 : decode cX5_factorOf 22 = .ok (.iaload, 1) := by decide +kernel
theorem dX5_factorOf_23 : decode cX5_factorOf 23 = .ok (.istore 4, 2) := by decide +kernel
theorem dX5_factorOf_25 : decode cX5_factorOf 25 = .ok (.aload_n 0, 1) := by decide +kernel
theorem dX5_factorOf_26 : decode cX5_factorOf 26 = .ok (.getfield 15, 3) := by decide +kernel
theorem dX5_factorOf_29 : decode cX5_factorOf 29 = .ok (.iload_n 1, 1) := by decide +kernel
theorem dX5_factorOf_30 : decode cX5_factorOf 30 = .ok (.bipush 8, 2) := by decide +kernel
theorem dX5_factorOf_32 : decode cX5_factorOf 32 = .ok (.imul, 1) := by decide +kernel
theorem dX5_factorOf_33 : decode cX5_factorOf 33 = .ok (.iload_n 2, 1) := by decide +kernel
theorem dX5_factorOf_34 : decode cX5_factorOf 34 = .ok (.iadd, 1) := by decide +kernel
theorem dX5_factorOf_35 : decode cX5_factorOf 35 = .ok (.iaload, 1) := by decide +kernel
theorem dX5_factorOf_36 : decode cX5_factorOf 36 = .ok (.aload_n 0, 1) := by decide +kernel
theorem dX5_factorOf_37 : decode cX5_factorOf 37 = .ok (.getfield 31, 3) := by decide +kernel
theorem dX5_factorOf_40 : decode cX5_factorOf 40 = .ok (.if_icmp .lt 12, 3) := by decide +kernel
theorem dX5_factorOf_43 : decode cX5_factorOf 43 = .ok (.iload_n 3, 1) := by decide +kernel
theorem dX5_factorOf_44 : decode cX5_factorOf 44 = .ok (.ifCond .le 8, 3) := by decide +kernel
theorem dX5_factorOf_47 : decode cX5_factorOf 47 = .ok (.iload 4, 2) := by decide +kernel
theorem dX5_factorOf_49 : decode cX5_factorOf 49 = .ok (.ifCond .gt 5, 3) := by decide +kernel
theorem dX5_factorOf_52 : decode cX5_factorOf 52 = .ok (.iconst (-1), 1) := by decide +kernel
theorem dX5_factorOf_53 : decode cX5_factorOf 53 = .ok (.ireturn, 1) := by decide +kernel
theorem dX5_factorOf_54 : decode cX5_factorOf 54 = .ok (.iload 4, 2) := by decide +kernel
theorem dX5_factorOf_56 : decode cX5_factorOf 56 = .ok (.sipush 1000, 3) := by decide +kernel
theorem dX5_factorOf_59 : decode cX5_factorOf 59 = .ok (.imul, 1) := by decide +kernel
theorem dX5_factorOf_60 : decode cX5_factorOf 60 = .ok (.iload_n 3, 1) := by decide +kernel
theorem dX5_factorOf_61 : decode cX5_factorOf 61 = .ok (.idiv, 1) := by decide +kernel
theorem dX5_factorOf_62 : decode cX5_factorOf 62 = .ok (.istore 5, 2) := by decide +kernel
theorem dX5_factorOf_64 : decode cX5_factorOf 64 = .ok (.iload 5, 2) := by decide +kernel
theorem dX5_factorOf_66 : decode cX5_factorOf 66 = .ok (.bipush 10, 2) := by decide +kernel
theorem dX5_factorOf_68 : decode cX5_factorOf 68 = .ok (.if_icmp .lt 15, 3) := by decide +kernel
theorem dX5_factorOf_71 : decode cX5_factorOf 71 = .ok (.iload 5, 2) := by decide +kernel
theorem dX5_factorOf_73 : decode cX5_factorOf 73 = .ok (.ldc 66, 2) := by decide +kernel
theorem dX5_factorOf_75 : decode cX5_factorOf 75 = .ok (.if_icmp .gt 8, 3) := by decide +kernel
theorem dX5_factorOf_78 : decode cX5_factorOf 78 = .ok (.iload 5, 2) := by decide +kernel
theorem dX5_factorOf_80 : decode cX5_factorOf 80 = .ok (.goto 4, 3) := by decide +kernel
theorem dX5_factorOf_83 : decode cX5_factorOf 83 = .ok (.iconst (-1), 1) := by decide +kernel
theorem dX5_factorOf_84 : decode cX5_factorOf 84 = .ok (.ireturn, 1) := by decide +kernel
set_option maxRecDepth 20000 in
theorem ggX6_init_J7_fill_53178 : GoodIn wsX6_init wsJ7_fill_53178 := goodIn_r _ [12] (by decide +kernel) (by decide +kernel)
set_option maxRecDepth 20000 in
theorem gX6_init_J7_fill_53178 : GoodIn wsX6_init (va_wsS RX6 22 yJ7_fill_53178 wsJ7_fill_53178) := goodIn_app (goodIn_of _ (by decide +kernel)) ggX6_init_J7_fill_53178
theorem dX6_init_0 : decode cX6_init 0 = .ok (.aload_n 0, 1) := by decide +kernel
theorem dX6_init_1 : decode cX6_init 1 = .ok (.invokespecial 3, 3) := by decide +kernel
theorem dX6_init_4 : decode cX6_init 4 = .ok (.aload_n 0, 1) := by decide +kernel
theorem dX6_init_5 : decode cX6_init 5 = .ok (.sipush 240, 3) := by decide +kernel
theorem dX6_init_8 : decode cX6_init 8 = .ok (.newarray .long, 2) := by decide +kernel
theorem dX6_init_10 : decode cX6_init 10 = .ok (.putfield 9, 3) := by decide +kernel
theorem dX6_init_13 : decode cX6_init 13 = .ok (.aload_n 0, 1) := by decide +kernel
theorem dX6_init_14 : decode cX6_init 14 = .ok (.iconst 4, 1) := by decide +kernel
theorem dX6_init_15 : decode cX6_init 15 = .ok (.newarray .int, 2) := by decide +kernel
theorem dX6_init_17 : decode cX6_init 17 = .ok (.putfield 15, 3) := by decide +kernel
theorem dX6_init_20 : decode cX6_init 20 = .ok (.aload_n 0, 1) := by decide +kernel
theorem dX6_init_21 : decode cX6_init 21 = .ok (.iconst 4, 1) := by decide +kernel
theorem dX6_init_22 : decode cX6_init 22 = .ok (.newarray .int, 2) := by decide +kernel
theorem dX6_init_24 : decode cX6_init 24 = .ok (.putfield 19, 3) := by decide +kernel
theorem dX6_init_27 : decode cX6_init 27 = .ok (.aload_n 0, 1) := by decide +kernel
theorem dX6_init_28 : decode cX6_init 28 = .ok (.getfield 15, 3) := by decide +kernel
theorem dX6_init_31 : decode cX6_init 31 = .ok (.iconst (-1), 1) := by decide +kernel
theorem dX6_init_32 : decode cX6_init 32 = .ok (.invokestatic 22, 3) := by decide +kernel
theorem dX6_init_35 : decode cX6_init 35 = .ok (.return_, 1) := by decide +kernel
theorem dX6_isSort_0 : decode cX6_isSort 0 = .ok (.iload_n 0, 1) := by decide +kernel
theorem dX6_isSort_1 : decode cX6_isSort 1 = .ok (.ifCond .lt 12, 3) := by decide +kernel
theorem dX6_isSort_4 : decode cX6_isSort 4 = .ok (.iload_n 0, 1) := by decide +kernel
theorem dX6_isSort_5 : decode cX6_isSort 5 = .ok (.iconst 3, 1) := by decide +kernel
theorem dX6_isSort_6 : decode cX6_isSort 6 = .ok (.if_icmp .gt 7, 3) := by decide +kernel
theorem dX6_isSort_9 : decode cX6_isSort 9 = .ok (.iconst 1, 1) := by decide +kernel
theorem dX6_isSort_10 : decode cX6_isSort 10 = .ok (.goto 4, 3) := by decide +kernel
theorem dX6_isSort_13 : decode cX6_isSort 13 = .ok (.iconst 0, 1) := by decide +kernel
theorem dX6_isSort_14 : decode cX6_isSort 14 = .ok (.ireturn, 1) := by decide +kernel
theorem dX6_isMissing_0 : decode cX6_isMissing 0 = .ok (.aload_n 0, 1) := by decide +kernel
theorem dX6_isMissing_1 : decode cX6_isMissing 1 = .ok (.getfield 15, 3) := by decide +kernel
theorem dX6_isMissing_4 : decode cX6_isMissing 4 = .ok (.iload_n 1, 1) := by decide +kernel
theorem dX6_isMissing_5 : decode cX6_isMissing 5 = .ok (.iaload, 1) := by decide +kernel
theorem dX6_isMissing_6 : decode cX6_isMissing 6 = .ok (.iconst (-1), 1) := by decide +kernel
theorem dX6_isMissing_7 : decode cX6_isMissing 7 = .ok (.if_icmp .ne 7, 3) := by decide +kernel
end
section
theorem dX6_isMissing_10 : decode cX6_isMissing 10 = .ok (.iconst 1, 1) := by decide +kernel
theorem dX6_isMissing_11 : decode cX6_isMissing 11 = .ok (.goto 4, 3) := by decide +kernel
theorem dX6_isMissing_14 : decode cX6_isMissing 14 = .ok (.iconst 0, 1) := by decide +kernel
theorem dX6_isMissing_15 : decode cX6_isMissing 15 = .ok (.ireturn, 1) := by decide +kernel
theorem dX6_areAlike_0 : decode cX6_areAlike 0 = .ok (.aload_n 0, 1) := by decide +kernel
theorem dX6_areAlike_1 : decode cX6_areAlike 1 = .ok (.getfield 15, 3) := by decide +kernel
theorem dX6_areAlike_4 : decode cX6_areAlike 4 = .ok (.iload_n 1, 1) := by decide +kernel
theorem dX6_areAlike_5 : decode cX6_areAlike 5 = .ok (.iaload, 1) := by decide +kernel
theorem dX6_areAlike_6 : decode cX6_areAlike 6 = .ok (.aload_n 0, 1) := by decide +kernel
theorem dX6_areAlike_7 : decode cX6_areAlike 7 = .ok (.getfield 15, 3) := by decide +kernel
theorem dX6_areAlike_10 : decode cX6_areAlike 10 = .ok (.iload_n 2, 1) := by decide +kernel
theorem dX6_areAlike_11 : decode cX6_areAlike 11 = .ok (.iaload, 1) := by decide +kernel
theorem dX6_areAlike_12 : decode cX6_areAlike 12 = .ok (.if_icmp .ne 7, 3) := by decide +kernel
theorem dX6_areAlike_15 : decode cX6_areAlike 15 = .ok (.iconst 1, 1) := by decide +kernel
theorem dX6_areAlike_16 : decode cX6_areAlike 16 = .ok (.goto 4, 3) := by decide +kernel
theorem dX6_areAlike_19 : decode cX6_areAlike 19 = .ok (.iconst 0, 1) := by decide +kernel
theorem dX6_areAlike_20 : decode cX6_areAlike 20 = .ok (.ireturn, 1) := by decide +kernel
theorem dX6_holds_0 : decode cX6_holds 0 = .ok (.iload_n 2, 1) := by decide +kernel
theorem dX6_holds_1 : decode cX6_holds 1 = .ok (.i2l, 1) := by decide +kernel
theorem dX6_holds_2 : decode cX6_holds 2 = .ok (.iload_n 3, 1) := by decide +kernel
theorem dX6_holds_3 : decode cX6_holds 3 = .ok (.i2l, 1) := by decide +kernel
theorem dX6_holds_4 : decode cX6_holds 4 = .ok (.ladd, 1) := by decide +kernel
theorem dX6_holds_5 : decode cX6_holds 5 = .ok (.aload_n 0, 1) := by decide +kernel
theorem dX6_holds_6 : decode cX6_holds 6 = .ok (.getfield 19, 3) := by decide +kernel
theorem dX6_holds_9 : decode cX6_holds 9 = .ok (.iload_n 1, 1) := by decide +kernel
theorem dX6_holds_10 : decode cX6_holds 10 = .ok (.iaload, 1) := by decide +kernel
theorem dX6_holds_11 : decode cX6_holds 11 = .ok (.i2l, 1) := by decide +kernel
theorem dX6_holds_12 : decode cX6_holds 12 = .ok (.lcmp, 1) := by decide +kernel
theorem dX6_holds_13 : decode cX6_holds 13 = .ok (.ifCond .gt 7, 3) := by decide +kernel
theorem dX6_holds_16 : decode cX6_holds 16 = .ok (.iconst 1, 1) := by decide +kernel
theorem dX6_holds_17 : decode cX6_holds 17 = .ok (.goto 4, 3) := by decide +kernel
theorem dX6_holds_20 : decode cX6_holds 20 = .ok (.iconst 0, 1) := by decide +kernel
theorem dX6_holds_21 : decode cX6_holds 21 = .ok (.ireturn, 1) := by decide +kernel
set_option maxRecDepth 20000 in
theorem ggX6_whyNoPlace_X7_isWithin : GoodIn wsX6_whyNoPlace wsX7_isWithin := goodIn_r _ [4] (by decide +kernel) (by decide +kernel)
set_option maxRecDepth 20000 in
theorem gX6_whyNoPlace_X7_isWithin_n28 : GoodIn wsX6_whyNoPlace (wsX7_isWithin) := ggX6_whyNoPlace_X7_isWithin
set_option maxRecDepth 20000 in
theorem ggX6_whyNoPlace_X6_isMissing : GoodIn wsX6_whyNoPlace wsX6_isMissing := goodIn_r _ [9, 10, 11, 12, 13] (by decide +kernel) (by decide +kernel)
set_option maxRecDepth 20000 in
theorem gX6_whyNoPlace_X6_isMissing : GoodIn wsX6_whyNoPlace (wsV RX6 32 RX6 yX6_isMissing wsX6_isMissing) := goodIn_app (goodIn_of _ (by decide +kernel)) ggX6_whyNoPlace_X6_isMissing
theorem dX6_whyNoPlace_0 : decode cX6_whyNoPlace 0 = .ok (.iload_n 1, 1) := by decide +kernel
theorem dX6_whyNoPlace_1 : decode cX6_whyNoPlace 1 = .ok (.iconst 3, 1) := by decide +kernel
theorem dX6_whyNoPlace_2 : decode cX6_whyNoPlace 2 = .ok (.invokestatic 28, 3) := by decide +kernel
theorem dX6_whyNoPlace_5 : decode cX6_whyNoPlace 5 = .ok (.ifCond .ne 5, 3) := by decide +kernel
theorem dX6_whyNoPlace_8 : decode cX6_whyNoPlace 8 = .ok (.iconst 1, 1) := by decide +kernel
theorem dX6_whyNoPlace_9 : decode cX6_whyNoPlace 9 = .ok (.ireturn, 1) := by decide +kernel
theorem dX6_whyNoPlace_10 : decode cX6_whyNoPlace 10 = .ok (.aload_n 0, 1) := by decide +kernel
theorem dX6_whyNoPlace_11 : decode cX6_whyNoPlace 11 = .ok (.iload_n 1, 1) := by decide +kernel
theorem dX6_whyNoPlace_12 : decode cX6_whyNoPlace 12 = .ok (.invokevirtual 32, 3) := by decide +kernel
theorem dX6_whyNoPlace_15 : decode cX6_whyNoPlace 15 = .ok (.ifCond .eq 5, 3) := by decide +kernel
theorem dX6_whyNoPlace_18 : decode cX6_whyNoPlace 18 = .ok (.iconst 2, 1) := by decide +kernel
theorem dX6_whyNoPlace_19 : decode cX6_whyNoPlace 19 = .ok (.ireturn, 1) := by decide +kernel
theorem dX6_whyNoPlace_20 : decode cX6_whyNoPlace 20 = .ok (.iload_n 2, 1) := by decide +kernel
theorem dX6_whyNoPlace_21 : decode cX6_whyNoPlace 21 = .ok (.ifCond .lt 17, 3) := by decide +kernel
theorem dX6_whyNoPlace_24 : decode cX6_whyNoPlace 24 = .ok (.iload_n 2, 1) := by decide +kernel
theorem dX6_whyNoPlace_25 : decode cX6_whyNoPlace 25 = .ok (.aload_n 0, 1) := by decide +kernel
theorem dX6_whyNoPlace_26 : decode cX6_whyNoPlace 26 = .ok (.getfield 19, 3) := by decide +kernel
theorem dX6_whyNoPlace_29 : decode cX6_whyNoPlace 29 = .ok (.iload_n 1, 1) := by decide +kernel
theorem dX6_whyNoPlace_30 : decode cX6_whyNoPlace 30 = .ok (.iaload, 1) := by decide +kernel
theorem dX6_whyNoPlace_31 : decode cX6_whyNoPlace 31 = .ok (.if_icmp .ge 7, 3) := by decide +kernel
theorem dX6_whyNoPlace_34 : decode cX6_whyNoPlace 34 = .ok (.iconst 0, 1) := by decide +kernel
theorem dX6_whyNoPlace_35 : decode cX6_whyNoPlace 35 = .ok (.goto 4, 3) := by decide +kernel
theorem dX6_whyNoPlace_38 : decode cX6_whyNoPlace 38 = .ok (.iconst 3, 1) := by decide +kernel
theorem dX6_whyNoPlace_39 : decode cX6_whyNoPlace 39 = .ok (.ireturn, 1) := by decide +kernel
set_option maxRecDepth 20000 in
theorem ggX6_lay_J7_fill_bad5a : GoodIn wsX6_lay wsJ7_fill_bad5a := goodIn_r _ [7, 8, 9, 6, 10] (by decide +kernel) (by decide +kernel)
set_option maxRecDepth 20000 in
theorem gX6_lay_J7_fill_bad5a : GoodIn wsX6_lay (va_wsS RX6 36 yJ7_fill_bad5a wsJ7_fill_bad5a) := goodIn_app (goodIn_of _ (by decide +kernel)) ggX6_lay_J7_fill_bad5a
theorem dX6_lay_0 : decode cX6_lay 0 = .ok (.aload_n 0, 1) := by decide +kernel
theorem dX6_lay_1 : decode cX6_lay 1 = .ok (.getfield 15, 3) := by decide +kernel
theorem dX6_lay_4 : decode cX6_lay 4 = .ok (.iload_n 1, 1) := by decide +kernel
theorem dX6_lay_5 : decode cX6_lay 5 = .ok (.iload_n 2, 1) := by decide +kernel
theorem dX6_lay_6 : decode cX6_lay 6 = .ok (.iastore, 1) := by decide +kernel
theorem dX6_lay_7 : decode cX6_lay 7 = .ok (.aload_n 0, 1) := by decide +kernel
theorem dX6_lay_8 : decode cX6_lay 8 = .ok (.getfield 19, 3) := by decide +kernel
theorem dX6_lay_11 : decode cX6_lay 11 = .ok (.iload_n 1, 1) := by decide +kernel
theorem dX6_lay_12 : decode cX6_lay 12 = .ok (.iload_n 3, 1) := by decide +kernel
theorem dX6_lay_13 : decode cX6_lay 13 = .ok (.iastore, 1) := by decide +kernel
theorem dX6_lay_14 : decode cX6_lay 14 = .ok (.aload_n 0, 1) := by decide +kernel
theorem dX6_lay_15 : decode cX6_lay 15 = .ok (.getfield 9, 3) := by decide +kernel
theorem dX6_lay_18 : decode cX6_lay 18 = .ok (.iload_n 1, 1) := by decide +kernel
theorem dX6_lay_19 : decode cX6_lay 19 = .ok (.bipush 60, 2) := by decide +kernel
theorem dX6_lay_21 : decode cX6_lay 21 = .ok (.imul, 1) := by decide +kernel
theorem dX6_lay_22 : decode cX6_lay 22 = .ok (.iload_n 1, 1) := by decide +kernel
theorem dX6_lay_23 : decode cX6_lay 23 = .ok (.iconst 1, 1) := by decide +kernel
theorem dX6_lay_24 : decode cX6_lay 24 = .ok (.iadd, 1) := by decide +kernel
theorem dX6_lay_25 : decode cX6_lay 25 = .ok (.bipush 60, 2) := by decide +kernel
theorem dX6_lay_27 : decode cX6_lay 27 = .ok (.imul, 1) := by decide +kernel
theorem dX6_lay_28 : decode cX6_lay 28 = .ok (.lconst 0, 1) := by decide +kernel
theorem dX6_lay_29 : decode cX6_lay 29 = .ok (.invokestatic 36, 3) := by decide +kernel
theorem dX6_lay_32 : decode cX6_lay 32 = .ok (.return_, 1) := by decide +kernel
theorem dX6_numberAt_0 : decode cX6_numberAt 0 = .ok (.aload_n 0, 1) := by decide +kernel
theorem dX6_numberAt_1 : decode cX6_numberAt 1 = .ok (.getfield 9, 3) := by decide +kernel
theorem dX6_numberAt_4 : decode cX6_numberAt 4 = .ok (.iload_n 1, 1) := by decide +kernel
theorem dX6_numberAt_5 : decode cX6_numberAt 5 = .ok (.bipush 60, 2) := by decide +kernel
theorem dX6_numberAt_7 : decode cX6_numberAt 7 = .ok (.imul, 1) := by decide +kernel
theorem dX6_numberAt_8 : decode cX6_numberAt 8 = .ok (.iload_n 2, 1) := by decide +kernel
theorem dX6_numberAt_9 : decode cX6_numberAt 9 = .ok (.iadd, 1) := by decide +kernel
theorem dX6_numberAt_10 : decode cX6_numberAt 10 = .ok (.laload, 1) := by decide +kernel
theorem dX6_numberAt_11 : decode cX6_numberAt 11 = .ok (.lreturn, 1) := by decide +kernel
set_option maxRecDepth 20000 in
theorem ggX6_put_X6_cut : GoodIn wsX6_put wsX6_cut := goodIn_r _ [6] (by decide +kernel) (by decide +kernel)
set_option maxRecDepth 20000 in
theorem gX6_put_X6_cut : GoodIn wsX6_put (va_wsS RX6 39 yX6_cut wsX6_cut) := goodIn_app (goodIn_of _ (by decide +kernel)) ggX6_put_X6_cut
theorem dX6_put_0 : decode cX6_put 0 = .ok (.aload_n 0, 1) := by decide +kernel
theorem dX6_put_1 : decode cX6_put 1 = .ok (.getfield 9, 3) := by decide +kernel
theorem dX6_put_4 : decode cX6_put 4 = .ok (.iload_n 1, 1) := by decide +kernel
theorem dX6_put_5 : decode cX6_put 5 = .ok (.bipush 60, 2) := by decide +kernel
theorem dX6_put_7 : decode cX6_put 7 = .ok (.imul, 1) := by decide +kernel
theorem dX6_put_8 : decode cX6_put 8 = .ok (.iload_n 2, 1) := by decide +kernel
theorem dX6_put_9 : decode cX6_put 9 = .ok (.iadd, 1) := by decide +kernel
theorem dX6_put_10 : decode cX6_put 10 = .ok (.aload_n 0, 1) := by decide +kernel
theorem dX6_put_11 : decode cX6_put 11 = .ok (.getfield 15, 3) := by decide +kernel
theorem dX6_put_14 : decode cX6_put 14 = .ok (.iload_n 1, 1) := by decide +kernel
theorem dX6_put_15 : decode cX6_put 15 = .ok (.iaload, 1) := by decide +kernel
theorem dX6_put_16 : decode cX6_put 16 = .ok (.lload_n 3, 1) := by decide +kernel
theorem dX6_put_17 : decode cX6_put 17 = .ok (.invokestatic 39, 3) := by decide +kernel
theorem dX6_put_20 : decode cX6_put 20 = .ok (.lastore, 1) := by decide +kernel
theorem dX6_put_21 : decode cX6_put 21 = .ok (.return_, 1) := by decide +kernel
theorem dX6_carry_0 : decode cX6_carry 0 = .ok (.aload_n 0, 1) := by decide +kernel
theorem dX6_carry_1 : decode cX6_carry 1 = .ok (.getfield 9, 3) := by decide +kernel
theorem dX6_carry_4 : decode cX6_carry 4 = .ok (.iload_n 1, 1) := by decide +kernel
theorem dX6_carry_5 : decode cX6_carry 5 = .ok (.bipush 60, 2) := by decide +kernel
theorem dX6_carry_7 : decode cX6_carry 7 = .ok (.imul, 1) := by decide +kernel
theorem dX6_carry_8 : decode cX6_carry 8 = .ok (.iload_n 2, 1) := by decide +kernel
theorem dX6_carry_9 : decode cX6_carry 9 = .ok (.iadd, 1) := by decide +kernel
theorem dX6_carry_10 : decode cX6_carry 10 = .ok (.aload_n 0, 1) := by decide +kernel
theorem dX6_carry_11 : decode cX6_carry 11 = .ok (.getfield 9, 3) := by decide +kernel
theorem dX6_carry_14 : decode cX6_carry 14 = .ok (.iload_n 3, 1) := by decide +kernel
theorem dX6_carry_15 : decode cX6_carry 15 = .ok (.bipush 60, 2) := by decide +kernel
theorem dX6_carry_17 : decode cX6_carry 17 = .ok (.imul, 1) := by decide +kernel
theorem dX6_carry_18 : decode cX6_carry 18 = .ok (.iload 4, 2) := by decide +kernel
theorem dX6_carry_20 : decode cX6_carry 20 = .ok (.iadd, 1) := by decide +kernel
theorem dX6_carry_21 : decode cX6_carry 21 = .ok (.iload 5, 2) := by decide +kernel
theorem dX6_carry_23 : decode cX6_carry 23 = .ok (.invokestatic 43, 3) := by decide +kernel
theorem dX6_carry_26 : decode cX6_carry 26 = .ok (.return_, 1) := by decide +kernel
theorem dX6_cut_0 : decode cX6_cut 0 = .ok (.iload_n 0, 1) := by decide +kernel
theorem dX6_cut_1 : decode cX6_cut 1 = .ok (.tableswitch 41 0 2 #[27, 32, 37], 27) := by decide +kernel
theorem dX6_cut_28 : decode cX6_cut 28 = .ok (.lload_n 1, 1) := by decide +kernel
theorem dX6_cut_29 : decode cX6_cut 29 = .ok (.l2i, 1) := by decide +kernel
theorem dX6_cut_30 : decode cX6_cut 30 = .ok (.i2b, 1) := by decide +kernel
theorem dX6_cut_31 : decode cX6_cut 31 = .ok (.i2l, 1) := by decide +kernel
theorem dX6_cut_32 : decode cX6_cut 32 = .ok (.lreturn, 1) := by decide +kernel
theorem dX6_cut_33 : decode cX6_cut 33 = .ok (.lload_n 1, 1) := by decide +kernel
theorem dX6_cut_34 : decode cX6_cut 34 = .ok (.l2i, 1) := by decide +kernel
theorem dX6_cut_35 : decode cX6_cut 35 = .ok (.i2s, 1) := by decide +kernel
theorem dX6_cut_36 : decode cX6_cut 36 = .ok (.i2l, 1) := by decide +kernel
theorem dX6_cut_37 : decode cX6_cut 37 = .ok (.lreturn, 1) := by decide +kernel
theorem dX6_cut_38 : decode cX6_cut 38 = .ok (.lload_n 1, 1) := by decide +kernel
theorem dX6_cut_39 : decode cX6_cut 39 = .ok (.l2i, 1) := by decide +kernel
theorem dX6_cut_40 : decode cX6_cut 40 = .ok (.i2l, 1) := by decide +kernel
theorem dX6_cut_41 : decode cX6_cut 41 = .ok (.lreturn, 1) := by decide +kernel
theorem dX6_cut_42 : decode cX6_cut 42 = .ok (.lload_n 1, 1) := by decide +kernel
theorem dX6_cut_43 : decode cX6_cut 43 = .ok (.lreturn, 1) := by decide +kernel
set_option maxRecDepth 20000 in
theorem ggX7_init_X6_init : GoodIn wsX7_init wsX6_init := goodIn_r _ [35, 36, 2, 3, 37, 38, 39, 40, 41, 42, 43, 44, 45, 94, 95, 96] (by decide +kernel) (by decide +kernel)
set_option maxRecDepth 20000 in
theorem gX7_init_X6_init : GoodIn wsX7_init (wsX6_init) := ggX7_init_X6_init
set_option maxRecDepth 20000 in
theorem ggX7_init_X5_init : GoodIn wsX7_init wsX5_init := goodIn_r _ [48, 49, 2, 3, 39, 50, 51, 52, 53, 54, 55, 43, 44, 45, 105, 106, 107, 108, 109] (by decide +kernel) (by decide +kernel)
set_option maxRecDepth 20000 in
theorem gX7_init_X5_init : GoodIn wsX7_init (wsX5_init) := ggX7_init_X5_init
set_option maxRecDepth 20000 in
theorem ggX7_init_X2_init : GoodIn wsX7_init wsX2_init := goodIn_r _ [58, 59, 2, 3, 39, 60, 61, 62, 110, 111, 112] (by decide +kernel) (by decide +kernel)
set_option maxRecDepth 20000 in
theorem gX7_init_X2_init : GoodIn wsX7_init (wsX2_init) := ggX7_init_X2_init
set_option maxRecDepth 20000 in
theorem ggX7_init_X4_init : GoodIn wsX7_init wsX4_init := goodIn_r _ [65, 66, 2, 3, 39, 67, 68, 69, 70, 71, 72, 113, 114, 115, 116, 117, 118] (by decide +kernel) (by decide +kernel)
set_option maxRecDepth 20000 in
theorem gX7_init_X4_init : GoodIn wsX7_init (wsX4_init) := ggX7_init_X4_init
set_option maxRecDepth 20000 in
theorem ggX7_init_X0_init : GoodIn wsX7_init wsX0_init := goodIn_r _ [75, 76, 2, 3, 39, 77, 78, 79, 80, 119, 120, 121, 122] (by decide +kernel) (by decide +kernel)
set_option maxRecDepth 20000 in
theorem gX7_init_X0_init : GoodIn wsX7_init (wsX0_init) := ggX7_init_X0_init
set_option maxRecDepth 20000 in
theorem ggX7_init_X3_init : GoodIn wsX7_init wsX3_init := goodIn_r _ [83, 84, 2, 3, 39, 85, 86, 87, 123, 124, 125] (by decide +kernel) (by decide +kernel)
set_option maxRecDepth 20000 in
theorem gX7_init_X3_init : GoodIn wsX7_init (wsX3_init) := ggX7_init_X3_init
set_option maxRecDepth 20000 in
theorem ggX7_init_X1_init : GoodIn wsX7_init wsX1_init := goodIn_r _ [90, 91, 2, 3, 92, 93, 126, 127] (by decide +kernel) (by decide +kernel)
set_option maxRecDepth 20000 in
theorem gX7_init_X1_init : GoodIn wsX7_init (wsX1_init) := ggX7_init_X1_init
theorem dX7_init_0 : decode cX7_init 0 = .ok (.aload_n 0, 1) := by decide +kernel
theorem dX7_init_1 : decode cX7_init 1 = .ok (.invokespecial 1, 3) := by decide +kernel
theorem dX7_init_4 : decode cX7_init 4 = .ok (.aload_n 0, 1) := by decide +kernel
theorem dX7_init_5 : decode cX7_init 5 = .ok (.new 7, 3) := by decide +kernel
theorem dX7_init_8 : decode cX7_init 8 = .ok (.dup, 1) := by decide +kernel
theorem dX7_init_9 : decode cX7_init 9 = .ok (.invokespecial 9, 3) := by decide +kernel
theorem dX7_init_12 : decode cX7_init 12 = .ok (.putfield 10, 3) := by decide +kernel
theorem dX7_init_15 : decode cX7_init 15 = .ok (.aload_n 0, 1) := by decide +kernel
theorem dX7_init_16 : decode cX7_init 16 = .ok (.new 16, 3) := by decide +kernel
theorem dX7_init_19 : decode cX7_init 19 = .ok (.dup, 1) := by decide +kernel
theorem dX7_init_20 : decode cX7_init 20 = .ok (.invokespecial 18, 3) := by decide +kernel
theorem dX7_init_23 : decode cX7_init 23 = .ok (.putfield 19, 3) := by decide +kernel
theorem dX7_init_26 : decode cX7_init 26 = .ok (.aload_n 0, 1) := by decide +kernel
theorem dX7_init_27 : decode cX7_init 27 = .ok (.new 23, 3) := by decide +kernel
theorem dX7_init_30 : decode cX7_init 30 = .ok (.dup, 1) := by decide +kernel
theorem dX7_init_31 : decode cX7_init 31 = .ok (.invokespecial 25, 3) := by decide +kernel
theorem dX7_init_34 : decode cX7_init 34 = .ok (.putfield 26, 3) := by decide +kernel
theorem dX7_init_37 : decode cX7_init 37 = .ok (.aload_n 0, 1) := by decide +kernel
theorem dX7_init_38 : decode cX7_init 38 = .ok (.new 30, 3) := by decide +kernel
theorem dX7_init_41 : decode cX7_init 41 = .ok (.dup, 1) := by decide +kernel
theorem dX7_init_42 : decode cX7_init 42 = .ok (.invokespecial 32, 3) := by decide +kernel
theorem dX7_init_45 : decode cX7_init 45 = .ok (.putfield 33, 3) := by decide +kernel
theorem dX7_init_48 : decode cX7_init 48 = .ok (.aload_n 0, 1) := by decide +kernel
theorem dX7_init_49 : decode cX7_init 49 = .ok (.new 37, 3) := by decide +kernel
theorem dX7_init_52 : decode cX7_init 52 = .ok (.dup, 1) := by decide +kernel
theorem dX7_init_53 : decode cX7_init 53 = .ok (.invokespecial 39, 3) := by decide +kernel
theorem dX7_init_56 : decode cX7_init 56 = .ok (.putfield 40, 3) := by decide +kernel
theorem dX7_init_59 : decode cX7_init 59 = .ok (.aload_n 0, 1) := by decide +kernel
theorem dX7_init_60 : decode cX7_init 60 = .ok (.new 44, 3) := by decide +kernel
theorem dX7_init_63 : decode cX7_init 63 = .ok (.dup, 1) := by decide +kernel
theorem dX7_init_64 : decode cX7_init 64 = .ok (.invokespecial 46, 3) := by decide +kernel
theorem dX7_init_67 : decode cX7_init 67 = .ok (.putfield 47, 3) := by decide +kernel
theorem dX7_init_70 : decode cX7_init 70 = .ok (.aload_n 0, 1) := by decide +kernel
theorem dX7_init_71 : decode cX7_init 71 = .ok (.new 51, 3) := by decide +kernel
theorem dX7_init_74 : decode cX7_init 74 = .ok (.dup, 1) := by decide +kernel
theorem dX7_init_75 : decode cX7_init 75 = .ok (.invokespecial 53, 3) := by decide +kernel
theorem dX7_init_78 : decode cX7_init 78 = .ok (.putfield 54, 3) := by decide +kernel
theorem dX7_init_81 : decode cX7_init 81 = .ok (.aload_n 0, 1) := by decide +kernel
theorem dX7_init_82 : decode cX7_init 82 = .ok (.iconst 0, 1) := by decide +kernel
theorem dX7_init_83 : decode cX7_init 83 = .ok (.putfield 58, 3) := by decide +kernel
theorem dX7_init_86 : decode cX7_init 86 = .ok (.return_, 1) := by decide +kernel
theorem dX7_status_0 : decode cX7_status 0 = .ok (.aload_n 0, 1) := by decide +kernel
theorem dX7_status_1 : decode cX7_status 1 = .ok (.getfield 58, 3) := by decide +kernel
theorem dX7_status_4 : decode cX7_status 4 = .ok (.ireturn, 1) := by decide +kernel
theorem dX7_top_0 : decode cX7_top 0 = .ok (.aload_n 0, 1) := by decide +kernel
theorem dX7_top_1 : decode cX7_top 1 = .ok (.getfield 54, 3) := by decide +kernel
theorem dX7_top_4 : decode cX7_top 4 = .ok (.getfield 62, 3) := by decide +kernel
theorem dX7_top_7 : decode cX7_top 7 = .ok (.lreturn, 1) := by decide +kernel
theorem dX7_bottom_0 : decode cX7_bottom 0 = .ok (.aload_n 0, 1) := by decide +kernel
theorem dX7_bottom_1 : decode cX7_bottom 1 = .ok (.getfield 54, 3) := by decide +kernel
theorem dX7_bottom_4 : decode cX7_bottom 4 = .ok (.getfield 66, 3) := by decide +kernel
theorem dX7_bottom_7 : decode cX7_bottom 7 = .ok (.lreturn, 1) := by decide +kernel
set_option maxRecDepth 20000 in
theorem ggX7_tray_X7_isWithin : GoodIn wsX7_tray wsX7_isWithin := goodIn_r _ [5] (by decide +kernel) (by decide +kernel)
set_option maxRecDepth 20000 in
theorem gX7_tray_X7_isWithin : GoodIn wsX7_tray (va_wsS RX7 69 yX7_isWithin wsX7_isWithin) := goodIn_app (goodIn_of _ (by decide +kernel)) ggX7_tray_X7_isWithin
set_option maxRecDepth 20000 in
theorem ggX7_tray_X6_isSort : GoodIn wsX7_tray wsX6_isSort := goodIn_r _ [9] (by decide +kernel) (by decide +kernel)
set_option maxRecDepth 20000 in
theorem gX7_tray_X6_isSort : GoodIn wsX7_tray (va_wsS RX7 73 yX6_isSort wsX6_isSort) := goodIn_app (goodIn_of _ (by decide +kernel)) ggX7_tray_X6_isSort
set_option maxRecDepth 20000 in
theorem ggX7_tray_X7_refuse : GoodIn wsX7_tray wsX7_refuse := goodIn_r _ [13, 14, 33, 34, 35, 36, 37, 38, 39, 40] (by decide +kernel) (by decide +kernel)
set_option maxRecDepth 20000 in
theorem gX7_tray_X7_refuse : GoodIn wsX7_tray (wsV RX7 77 RX7 yX7_refuse wsX7_refuse) := goodIn_app (goodIn_of _ (by decide +kernel)) ggX7_tray_X7_refuse
set_option maxRecDepth 20000 in
theorem ggX7_tray_X6_lay : GoodIn wsX7_tray wsX6_lay := goodIn_r _ [18, 19, 20, 21, 22, 23, 24, 25, 26, 27, 28, 41, 42, 43] (by decide +kernel) (by decide +kernel)
set_option maxRecDepth 20000 in
theorem gX7_tray_X6_lay : GoodIn wsX7_tray (wsV RX7 80 RX6 yX6_lay wsX6_lay) := goodIn_app (goodIn_of _ (by decide +kernel)) ggX7_tray_X6_lay
set_option maxRecDepth 20000 in
theorem ggX7_tray_X7_agree : GoodIn wsX7_tray wsX7_agree := goodIn_r _ [32, 14, 33, 34, 35, 36, 37, 38, 39, 40] (by decide +kernel) (by decide +kernel)
set_option maxRecDepth 20000 in
theorem gX7_tray_X7_agree : GoodIn wsX7_tray (wsV RX7 84 RX7 yX7_agree wsX7_agree) := goodIn_app (goodIn_of _ (by decide +kernel)) ggX7_tray_X7_agree
theorem dX7_tray_0 : decode cX7_tray 0 = .ok (.iload_n 1, 1) := by decide +kernel
theorem dX7_tray_1 : decode cX7_tray 1 = .ok (.iconst 3, 1) := by decide +kernel
theorem dX7_tray_2 : decode cX7_tray 2 = .ok (.invokestatic 69, 3) := by decide +kernel
theorem dX7_tray_5 : decode cX7_tray 5 = .ok (.ifCond .eq 19, 3) := by decide +kernel
theorem dX7_tray_8 : decode cX7_tray 8 = .ok (.iload_n 2, 1) := by decide +kernel
theorem dX7_tray_9 : decode cX7_tray 9 = .ok (.invokestatic 73, 3) := by decide +kernel
theorem dX7_tray_12 : decode cX7_tray 12 = .ok (.ifCond .eq 12, 3) := by decide +kernel
theorem dX7_tray_15 : decode cX7_tray 15 = .ok (.iload_n 3, 1) := by decide +kernel
theorem dX7_tray_16 : decode cX7_tray 16 = .ok (.bipush 60, 2) := by decide +kernel
theorem dX7_tray_18 : decode cX7_tray 18 = .ok (.invokestatic 69, 3) := by decide +kernel
theorem dX7_tray_21 : decode cX7_tray 21 = .ok (.ifCond .ne 9, 3) := by decide +kernel
theorem dX7_tray_24 : decode cX7_tray 24 = .ok (.aload_n 0, 1) := by decide +kernel
theorem dX7_tray_25 : decode cX7_tray 25 = .ok (.iconst 1, 1) := by decide +kernel
theorem dX7_tray_26 : decode cX7_tray 26 = .ok (.invokevirtual 77, 3) := by decide +kernel
theorem dX7_tray_29 : decode cX7_tray 29 = .ok (.ireturn, 1) := by decide +kernel
theorem dX7_tray_30 : decode cX7_tray 30 = .ok (.aload_n 0, 1) := by decide +kernel
theorem dX7_tray_31 : decode cX7_tray 31 = .ok (.getfield 10, 3) := by decide +kernel
theorem dX7_tray_34 : decode cX7_tray 34 = .ok (.iload_n 1, 1) := by decide +kernel
theorem dX7_tray_35 : decode cX7_tray 35 = .ok (.iload_n 2, 1) := by decide +kernel
theorem dX7_tray_36 : decode cX7_tray 36 = .ok (.iload_n 3, 1) := by decide +kernel
theorem dX7_tray_37 : decode cX7_tray 37 = .ok (.invokevirtual 80, 3) := by decide +kernel
theorem dX7_tray_40 : decode cX7_tray 40 = .ok (.aload_n 0, 1) := by decide +kernel
theorem dX7_tray_41 : decode cX7_tray 41 = .ok (.invokevirtual 84, 3) := by decide +kernel
theorem dX7_tray_44 : decode cX7_tray 44 = .ok (.ireturn, 1) := by decide +kernel
set_option maxRecDepth 20000 in
theorem ggX7_write_X6_whyNoPlace : GoodIn wsX7_write wsX6_whyNoPlace := goodIn_r _ [6, 7, 8, 9, 10, 11, 12, 13, 5, 14, 15, 41, 42, 43] (by decide +kernel) (by decide +kernel)
set_option maxRecDepth 20000 in
theorem gX7_write_X6_whyNoPlace : GoodIn wsX7_write (wsV RX7 88 RX6 yX6_whyNoPlace wsX6_whyNoPlace) := goodIn_app (goodIn_of _ (by decide +kernel)) ggX7_write_X6_whyNoPlace
set_option maxRecDepth 20000 in
theorem ggX7_write_X7_refuse : GoodIn wsX7_write wsX7_refuse := goodIn_r _ [19, 20, 33, 34, 35, 36, 37, 38, 39, 40] (by decide +kernel) (by decide +kernel)
set_option maxRecDepth 20000 in
theorem gX7_write_X7_refuse : GoodIn wsX7_write (wsV RX7 77 RX7 yX7_refuse wsX7_refuse) := goodIn_app (goodIn_of _ (by decide +kernel)) ggX7_write_X7_refuse
set_option maxRecDepth 20000 in
theorem ggX7_write_X6_put : GoodIn wsX7_write wsX6_put := goodIn_r _ [24, 25, 15, 26, 27, 5, 28, 41, 42, 43] (by decide +kernel) (by decide +kernel)
set_option maxRecDepth 20000 in
theorem gX7_write_X6_put : GoodIn wsX7_write (wsV RX7 92 RX6 yX6_put wsX6_put) := goodIn_app (goodIn_of _ (by decide +kernel)) ggX7_write_X6_put
set_option maxRecDepth 20000 in
theorem ggX7_write_X7_agree : GoodIn wsX7_write wsX7_agree := goodIn_r _ [32, 20, 33, 34, 35, 36, 37, 38, 39, 40] (by decide +kernel) (by decide +kernel)
set_option maxRecDepth 20000 in
theorem gX7_write_X7_agree : GoodIn wsX7_write (wsV RX7 84 RX7 yX7_agree wsX7_agree) := goodIn_app (goodIn_of _ (by decide +kernel)) ggX7_write_X7_agree
theorem dX7_write_0 : decode cX7_write 0 = .ok (.aload_n 0, 1) := by decide +kernel
theorem dX7_write_1 : decode cX7_write 1 = .ok (.getfield 10, 3) := by decide +kernel
theorem dX7_write_4 : decode cX7_write 4 = .ok (.iload_n 1, 1) := by decide +kernel
theorem dX7_write_5 : decode cX7_write 5 = .ok (.iload_n 2, 1) := by decide +kernel
theorem dX7_write_6 : decode cX7_write 6 = .ok (.invokevirtual 88, 3) := by decide +kernel
theorem dX7_write_9 : decode cX7_write 9 = .ok (.istore 5, 2) := by decide +kernel
theorem dX7_write_11 : decode cX7_write 11 = .ok (.iload 5, 2) := by decide +kernel
theorem dX7_write_13 : decode cX7_write 13 = .ok (.ifCond .eq 10, 3) := by decide +kernel
theorem dX7_write_16 : decode cX7_write 16 = .ok (.aload_n 0, 1) := by decide +kernel
theorem dX7_write_17 : decode cX7_write 17 = .ok (.iload 5, 2) := by decide +kernel
theorem dX7_write_19 : decode cX7_write 19 = .ok (.invokevirtual 77, 3) := by decide +kernel
theorem dX7_write_22 : decode cX7_write 22 = .ok (.ireturn, 1) := by decide +kernel
theorem dX7_write_23 : decode cX7_write 23 = .ok (.aload_n 0, 1) := by decide +kernel
theorem dX7_write_24 : decode cX7_write 24 = .ok (.getfield 10, 3) := by decide +kernel
theorem dX7_write_27 : decode cX7_write 27 = .ok (.iload_n 1, 1) := by decide +kernel
theorem dX7_write_28 : decode cX7_write 28 = .ok (.iload_n 2, 1) := by decide +kernel
theorem dX7_write_29 : decode cX7_write 29 = .ok (.lload_n 3, 1) := by decide +kernel
theorem dX7_write_30 : decode cX7_write 30 = .ok (.invokevirtual 92, 3) := by decide +kernel
theorem dX7_write_33 : decode cX7_write 33 = .ok (.aload_n 0, 1) := by decide +kernel
theorem dX7_write_34 : decode cX7_write 34 = .ok (.invokevirtual 84, 3) := by decide +kernel
theorem dX7_write_37 : decode cX7_write 37 = .ok (.ireturn, 1) := by decide +kernel
end
section
set_option maxRecDepth 20000 in
theorem ggX7_read_X6_whyNoPlace : GoodIn wsX7_read wsX6_whyNoPlace := goodIn_r _ [7, 8, 9, 10, 11, 12, 13, 14, 6, 15, 16, 34, 35, 36] (by decide +kernel) (by decide +kernel)
set_option maxRecDepth 20000 in
theorem gX7_read_X6_whyNoPlace : GoodIn wsX7_read (wsV RX7 88 RX6 yX6_whyNoPlace wsX6_whyNoPlace) := goodIn_app (goodIn_of _ (by decide +kernel)) ggX7_read_X6_whyNoPlace
set_option maxRecDepth 20000 in
theorem ggX7_read_X7_lack : GoodIn wsX7_read wsX7_lack := goodIn_r _ [20, 2, 26, 27, 28, 29, 30, 31, 32, 33] (by decide +kernel) (by decide +kernel)
set_option maxRecDepth 20000 in
theorem gX7_read_X7_lack : GoodIn wsX7_read (wsV RX7 96 RX7 yX7_lack wsX7_lack) := goodIn_app (goodIn_of _ (by decide +kernel)) ggX7_read_X7_lack
set_option maxRecDepth 20000 in
theorem ggX7_read_X6_numberAt : GoodIn wsX7_read wsX6_numberAt := goodIn_r _ [24, 25, 34, 35, 36] (by decide +kernel) (by decide +kernel)
set_option maxRecDepth 20000 in
theorem gX7_read_X6_numberAt : GoodIn wsX7_read (wsV RX7 100 RX6 yX6_numberAt wsX6_numberAt) := goodIn_app (goodIn_of _ (by decide +kernel)) ggX7_read_X6_numberAt
theorem dX7_read_0 : decode cX7_read 0 = .ok (.aload_n 0, 1) := by decide +kernel
theorem dX7_read_1 : decode cX7_read 1 = .ok (.getfield 10, 3) := by decide +kernel
theorem dX7_read_4 : decode cX7_read 4 = .ok (.iload_n 1, 1) := by decide +kernel
theorem dX7_read_5 : decode cX7_read 5 = .ok (.iload_n 2, 1) := by decide +kernel
theorem dX7_read_6 : decode cX7_read 6 = .ok (.invokevirtual 88, 3) := by decide +kernel
theorem dX7_read_9 : decode cX7_read 9 = .ok (.istore_n 3, 1) := by decide +kernel
theorem dX7_read_10 : decode cX7_read 10 = .ok (.iload_n 3, 1) := by decide +kernel
theorem dX7_read_11 : decode cX7_read 11 = .ok (.ifCond .eq 10, 3) := by decide +kernel
theorem dX7_read_14 : decode cX7_read 14 = .ok (.aload_n 0, 1) := by decide +kernel
theorem dX7_read_15 : decode cX7_read 15 = .ok (.iload_n 3, 1) := by decide +kernel
theorem dX7_read_16 : decode cX7_read 16 = .ok (.invokevirtual 96, 3) := by decide +kernel
theorem dX7_read_19 : decode cX7_read 19 = .ok (.i2l, 1) := by decide +kernel
theorem dX7_read_20 : decode cX7_read 20 = .ok (.lreturn, 1) := by decide +kernel
theorem dX7_read_21 : decode cX7_read 21 = .ok (.aload_n 0, 1) := by decide +kernel
theorem dX7_read_22 : decode cX7_read 22 = .ok (.iconst 0, 1) := by decide +kernel
theorem dX7_read_23 : decode cX7_read 23 = .ok (.putfield 58, 3) := by decide +kernel
theorem dX7_read_26 : decode cX7_read 26 = .ok (.aload_n 0, 1) := by decide +kernel
theorem dX7_read_27 : decode cX7_read 27 = .ok (.getfield 10, 3) := by decide +kernel
theorem dX7_read_30 : decode cX7_read 30 = .ok (.iload_n 1, 1) := by decide +kernel
theorem dX7_read_31 : decode cX7_read 31 = .ok (.iload_n 2, 1) := by decide +kernel
theorem dX7_read_32 : decode cX7_read 32 = .ok (.invokevirtual 100, 3) := by decide +kernel
theorem dX7_read_35 : decode cX7_read 35 = .ok (.lreturn, 1) := by decide +kernel
set_option maxRecDepth 20000 in
theorem ggX7_pour_X7_whyNoPour : GoodIn wsX7_pour wsX7_whyNoPour := goodIn_r _ [6, 1, 7, 8, 5, 9, 10, 11, 12, 13, 14, 15, 16, 17, 18, 19, 20, 21, 22, 23, 24, 43, 44, 45, 46, 47, 48, 49, 50, 51, 52, 53] (by decide +kernel) (by decide +kernel)
set_option maxRecDepth 20000 in
theorem gX7_pour_X7_whyNoPour : GoodIn wsX7_pour (wsV RX7 104 RX7 yX7_whyNoPour wsX7_whyNoPour) := goodIn_app (goodIn_of _ (by decide +kernel)) ggX7_pour_X7_whyNoPour
set_option maxRecDepth 20000 in
theorem ggX7_pour_X7_refuse : GoodIn wsX7_pour wsX7_refuse := goodIn_r _ [28, 29, 43, 44, 45, 46, 47, 48, 49, 50] (by decide +kernel) (by decide +kernel)
set_option maxRecDepth 20000 in
theorem gX7_pour_X7_refuse : GoodIn wsX7_pour (wsV RX7 77 RX7 yX7_refuse wsX7_refuse) := goodIn_app (goodIn_of _ (by decide +kernel)) ggX7_pour_X7_refuse
set_option maxRecDepth 20000 in
theorem ggX7_pour_X6_carry : GoodIn wsX7_pour wsX6_carry := goodIn_r _ [33, 34, 35, 36, 37, 38, 51, 52, 53] (by decide +kernel) (by decide +kernel)
set_option maxRecDepth 20000 in
theorem gX7_pour_X6_carry : GoodIn wsX7_pour (wsV RX7 108 RX6 yX6_carry wsX6_carry) := goodIn_app (goodIn_of _ (by decide +kernel)) ggX7_pour_X6_carry
set_option maxRecDepth 20000 in
theorem ggX7_pour_X7_agree : GoodIn wsX7_pour wsX7_agree := goodIn_r _ [42, 29, 43, 44, 45, 46, 47, 48, 49, 50] (by decide +kernel) (by decide +kernel)
set_option maxRecDepth 20000 in
theorem gX7_pour_X7_agree : GoodIn wsX7_pour (wsV RX7 84 RX7 yX7_agree wsX7_agree) := goodIn_app (goodIn_of _ (by decide +kernel)) ggX7_pour_X7_agree
theorem dX7_pour_0 : decode cX7_pour 0 = .ok (.aload_n 0, 1) := by decide +kernel
theorem dX7_pour_1 : decode cX7_pour 1 = .ok (.iload_n 1, 1) := by decide +kernel
theorem dX7_pour_2 : decode cX7_pour 2 = .ok (.iload_n 2, 1) := by decide +kernel
theorem dX7_pour_3 : decode cX7_pour 3 = .ok (.iload_n 3, 1) := by decide +kernel
theorem dX7_pour_4 : decode cX7_pour 4 = .ok (.iload 4, 2) := by decide +kernel
theorem dX7_pour_6 : decode cX7_pour 6 = .ok (.iload 5, 2) := by decide +kernel
theorem dX7_pour_8 : decode cX7_pour 8 = .ok (.invokevirtual 104, 3) := by decide +kernel
theorem dX7_pour_11 : decode cX7_pour 11 = .ok (.istore 6, 2) := by decide +kernel
theorem dX7_pour_13 : decode cX7_pour 13 = .ok (.iload 6, 2) := by decide +kernel
theorem dX7_pour_15 : decode cX7_pour 15 = .ok (.ifCond .eq 10, 3) := by decide +kernel
theorem dX7_pour_18 : decode cX7_pour 18 = .ok (.aload_n 0, 1) := by decide +kernel
theorem dX7_pour_19 : decode cX7_pour 19 = .ok (.iload 6, 2) := by decide +kernel
theorem dX7_pour_21 : decode cX7_pour 21 = .ok (.invokevirtual 77, 3) := by decide +kernel
theorem dX7_pour_24 : decode cX7_pour 24 = .ok (.ireturn, 1) := by decide +kernel
theorem dX7_pour_25 : decode cX7_pour 25 = .ok (.aload_n 0, 1) := by decide +kernel
theorem dX7_pour_26 : decode cX7_pour 26 = .ok (.getfield 10, 3) := by decide +kernel
theorem dX7_pour_29 : decode cX7_pour 29 = .ok (.iload_n 1, 1) := by decide +kernel
theorem dX7_pour_30 : decode cX7_pour 30 = .ok (.iload_n 2, 1) := by decide +kernel
theorem dX7_pour_31 : decode cX7_pour 31 = .ok (.iload_n 3, 1) := by decide +kernel
theorem dX7_pour_32 : decode cX7_pour 32 = .ok (.iload 4, 2) := by decide +kernel
theorem dX7_pour_34 : decode cX7_pour 34 = .ok (.iload 5, 2) := by decide +kernel
theorem dX7_pour_36 : decode cX7_pour 36 = .ok (.invokevirtual 108, 3) := by decide +kernel
theorem dX7_pour_39 : decode cX7_pour 39 = .ok (.aload_n 0, 1) := by decide +kernel
theorem dX7_pour_40 : decode cX7_pour 40 = .ok (.invokevirtual 84, 3) := by decide +kernel
theorem dX7_pour_43 : decode cX7_pour 43 = .ok (.ireturn, 1) := by decide +kernel
set_option maxRecDepth 20000 in
theorem ggX7_eye_X7_lack : GoodIn wsX7_eye wsX7_lack := goodIn_r _ [6, 7, 18, 19, 20, 21, 22, 23, 24, 25] (by decide +kernel) (by decide +kernel)
set_option maxRecDepth 20000 in
theorem gX7_eye_X7_lack : GoodIn wsX7_eye (wsV RX7 96 RX7 yX7_lack wsX7_lack) := goodIn_app (goodIn_of _ (by decide +kernel)) ggX7_eye_X7_lack
set_option maxRecDepth 20000 in
theorem ggX7_eye_X5_addEye : GoodIn wsX7_eye wsX5_addEye := goodIn_r _ [12, 13, 26, 27, 28, 29, 30] (by decide +kernel) (by decide +kernel)
set_option maxRecDepth 20000 in
theorem gX7_eye_X5_addEye : GoodIn wsX7_eye (wsV RX7 115 RX5 yX5_addEye wsX5_addEye) := goodIn_app (goodIn_of _ (by decide +kernel)) ggX7_eye_X5_addEye
set_option maxRecDepth 20000 in
theorem ggX7_eye_X7_answer : GoodIn wsX7_eye wsX7_answer := goodIn_r _ [17, 7, 18, 19, 20, 21, 22, 23, 24, 25] (by decide +kernel) (by decide +kernel)
set_option maxRecDepth 20000 in
theorem gX7_eye_X7_answer : GoodIn wsX7_eye (wsV RX7 119 RX7 yX7_answer wsX7_answer) := goodIn_app (goodIn_of _ (by decide +kernel)) ggX7_eye_X7_answer
theorem dX7_eye_0 : decode cX7_eye 0 = .ok (.aload_n 0, 1) := by decide +kernel
theorem dX7_eye_1 : decode cX7_eye 1 = .ok (.getfield 19, 3) := by decide +kernel
theorem dX7_eye_4 : decode cX7_eye 4 = .ok (.getfield 112, 3) := by decide +kernel
theorem dX7_eye_7 : decode cX7_eye 7 = .ok (.bipush 8, 2) := by decide +kernel
theorem dX7_eye_9 : decode cX7_eye 9 = .ok (.if_icmp .lt 9, 3) := by decide +kernel
theorem dX7_eye_12 : decode cX7_eye 12 = .ok (.aload_n 0, 1) := by decide +kernel
theorem dX7_eye_13 : decode cX7_eye 13 = .ok (.iconst 4, 1) := by decide +kernel
theorem dX7_eye_14 : decode cX7_eye 14 = .ok (.invokevirtual 96, 3) := by decide +kernel
theorem dX7_eye_17 : decode cX7_eye 17 = .ok (.ireturn, 1) := by decide +kernel
theorem dX7_eye_18 : decode cX7_eye 18 = .ok (.aload_n 0, 1) := by decide +kernel
theorem dX7_eye_19 : decode cX7_eye 19 = .ok (.aload_n 0, 1) := by decide +kernel
theorem dX7_eye_20 : decode cX7_eye 20 = .ok (.getfield 19, 3) := by decide +kernel
theorem dX7_eye_23 : decode cX7_eye 23 = .ok (.invokevirtual 115, 3) := by decide +kernel
theorem dX7_eye_26 : decode cX7_eye 26 = .ok (.invokevirtual 119, 3) := by decide +kernel
theorem dX7_eye_29 : decode cX7_eye 29 = .ok (.ireturn, 1) := by decide +kernel
set_option maxRecDepth 20000 in
theorem ggX7_tell_X7_isEye : GoodIn wsX7_tell wsX7_isEye := goodIn_r _ [6, 1, 54, 55, 56, 57, 58, 59, 60, 61, 62, 63, 64, 65, 66] (by decide +kernel) (by decide +kernel)
set_option maxRecDepth 20000 in
theorem gX7_tell_X7_isEye : GoodIn wsX7_tell (wsV RX7 122 RX7 yX7_isEye wsX7_isEye) := goodIn_app (goodIn_of _ (by decide +kernel)) ggX7_tell_X7_isEye
set_option maxRecDepth 20000 in
theorem ggX7_tell_X7_isDay : GoodIn wsX7_tell wsX7_isDay := goodIn_r _ [9, 10, 11, 5, 12] (by decide +kernel) (by decide +kernel)
set_option maxRecDepth 20000 in
theorem gX7_tell_X7_isDay : GoodIn wsX7_tell (va_wsS RX7 125 yX7_isDay wsX7_isDay) := goodIn_app (goodIn_of _ (by decide +kernel)) ggX7_tell_X7_isDay
set_option maxRecDepth 20000 in
theorem ggX7_tell_X5_canBeTold : GoodIn wsX7_tell wsX5_canBeTold := goodIn_r _ [16, 11, 5, 12] (by decide +kernel) (by decide +kernel)
set_option maxRecDepth 20000 in
theorem gX7_tell_X5_canBeTold : GoodIn wsX7_tell (va_wsS RX7 128 yX5_canBeTold wsX5_canBeTold) := goodIn_app (goodIn_of _ (by decide +kernel)) ggX7_tell_X5_canBeTold
set_option maxRecDepth 20000 in
theorem ggX7_tell_X7_refuse : GoodIn wsX7_tell wsX7_refuse := goodIn_r _ [20, 21, 54, 55, 56, 57, 58, 59, 60, 61] (by decide +kernel) (by decide +kernel)
set_option maxRecDepth 20000 in
theorem gX7_tell_X7_refuse : GoodIn wsX7_tell (wsV RX7 77 RX7 yX7_refuse wsX7_refuse) := goodIn_app (goodIn_of _ (by decide +kernel)) ggX7_tell_X7_refuse
set_option maxRecDepth 20000 in
theorem ggX7_tell_X5_put : GoodIn wsX7_tell wsX5_put := goodIn_r _ [25, 26, 27, 28, 29, 15, 30, 31, 32, 33, 34, 35, 36, 37, 38, 39, 40, 41, 42, 43, 44, 45, 46, 47, 48, 49, 62, 63, 64, 65, 66] (by decide +kernel) (by decide +kernel)
set_option maxRecDepth 20000 in
theorem gX7_tell_X5_put : GoodIn wsX7_tell (wsV RX7 131 RX5 yX5_put wsX5_put) := goodIn_app (goodIn_of _ (by decide +kernel)) ggX7_tell_X5_put
set_option maxRecDepth 20000 in
theorem ggX7_tell_X7_agree : GoodIn wsX7_tell wsX7_agree := goodIn_r _ [53, 21, 54, 55, 56, 57, 58, 59, 60, 61] (by decide +kernel) (by decide +kernel)
set_option maxRecDepth 20000 in
theorem gX7_tell_X7_agree : GoodIn wsX7_tell (wsV RX7 84 RX7 yX7_agree wsX7_agree) := goodIn_app (goodIn_of _ (by decide +kernel)) ggX7_tell_X7_agree
theorem dX7_tell_0 : decode cX7_tell 0 = .ok (.aload_n 0, 1) := by decide +kernel
theorem dX7_tell_1 : decode cX7_tell 1 = .ok (.iload_n 1, 1) := by decide +kernel
theorem dX7_tell_2 : decode cX7_tell 2 = .ok (.invokevirtual 122, 3) := by decide +kernel
theorem dX7_tell_5 : decode cX7_tell 5 = .ok (.ifCond .eq 19, 3) := by decide +kernel
theorem dX7_tell_8 : decode cX7_tell 8 = .ok (.iload_n 2, 1) := by decide +kernel
theorem dX7_tell_9 : decode cX7_tell 9 = .ok (.invokestatic 125, 3) := by decide +kernel
theorem dX7_tell_12 : decode cX7_tell 12 = .ok (.ifCond .eq 12, 3) := by decide +kernel
theorem dX7_tell_15 : decode cX7_tell 15 = .ok (.iload_n 3, 1) := by decide +kernel
theorem dX7_tell_16 : decode cX7_tell 16 = .ok (.iload 4, 2) := by decide +kernel
theorem dX7_tell_18 : decode cX7_tell 18 = .ok (.invokestatic 128, 3) := by decide +kernel
theorem dX7_tell_21 : decode cX7_tell 21 = .ok (.ifCond .ne 9, 3) := by decide +kernel
theorem dX7_tell_24 : decode cX7_tell 24 = .ok (.aload_n 0, 1) := by decide +kernel
theorem dX7_tell_25 : decode cX7_tell 25 = .ok (.iconst 1, 1) := by decide +kernel
theorem dX7_tell_26 : decode cX7_tell 26 = .ok (.invokevirtual 77, 3) := by decide +kernel
theorem dX7_tell_29 : decode cX7_tell 29 = .ok (.ireturn, 1) := by decide +kernel
theorem dX7_tell_30 : decode cX7_tell 30 = .ok (.aload_n 0, 1) := by decide +kernel
theorem dX7_tell_31 : decode cX7_tell 31 = .ok (.getfield 19, 3) := by decide +kernel
theorem dX7_tell_34 : decode cX7_tell 34 = .ok (.iload_n 1, 1) := by decide +kernel
theorem dX7_tell_35 : decode cX7_tell 35 = .ok (.iload_n 2, 1) := by decide +kernel
theorem dX7_tell_36 : decode cX7_tell 36 = .ok (.sipush 1000, 3) := by decide +kernel
theorem dX7_tell_39 : decode cX7_tell 39 = .ok (.iload_n 3, 1) := by decide +kernel
theorem dX7_tell_40 : decode cX7_tell 40 = .ok (.imul, 1) := by decide +kernel
theorem dX7_tell_41 : decode cX7_tell 41 = .ok (.iload 4, 2) := by decide +kernel
theorem dX7_tell_43 : decode cX7_tell 43 = .ok (.iadd, 1) := by decide +kernel
theorem dX7_tell_44 : decode cX7_tell 44 = .ok (.invokevirtual 131, 3) := by decide +kernel
theorem dX7_tell_47 : decode cX7_tell 47 = .ok (.aload_n 0, 1) := by decide +kernel
theorem dX7_tell_48 : decode cX7_tell 48 = .ok (.invokevirtual 84, 3) := by decide +kernel
theorem dX7_tell_51 : decode cX7_tell 51 = .ok (.ireturn, 1) := by decide +kernel
set_option maxRecDepth 20000 in
theorem ggX7_unsay_X7_isEye : GoodIn wsX7_unsay wsX7_isEye := goodIn_r _ [6, 1, 52, 53, 54, 55, 56, 57, 58, 59, 60, 61, 62, 63, 64] (by decide +kernel) (by decide +kernel)
set_option maxRecDepth 20000 in
theorem gX7_unsay_X7_isEye : GoodIn wsX7_unsay (wsV RX7 122 RX7 yX7_isEye wsX7_isEye) := goodIn_app (goodIn_of _ (by decide +kernel)) ggX7_unsay_X7_isEye
set_option maxRecDepth 20000 in
theorem ggX7_unsay_X7_isDay : GoodIn wsX7_unsay wsX7_isDay := goodIn_r _ [9, 10, 11, 5, 12] (by decide +kernel) (by decide +kernel)
set_option maxRecDepth 20000 in
theorem gX7_unsay_X7_isDay : GoodIn wsX7_unsay (va_wsS RX7 125 yX7_isDay wsX7_isDay) := goodIn_app (goodIn_of _ (by decide +kernel)) ggX7_unsay_X7_isDay
set_option maxRecDepth 20000 in
theorem ggX7_unsay_X7_refuse : GoodIn wsX7_unsay wsX7_refuse := goodIn_r _ [16, 17, 52, 53, 54, 55, 56, 57, 58, 59] (by decide +kernel) (by decide +kernel)
set_option maxRecDepth 20000 in
theorem gX7_unsay_X7_refuse : GoodIn wsX7_unsay (wsV RX7 77 RX7 yX7_refuse wsX7_refuse) := goodIn_app (goodIn_of _ (by decide +kernel)) ggX7_unsay_X7_refuse
set_option maxRecDepth 20000 in
theorem ggX7_unsay_X5_has : GoodIn wsX7_unsay wsX5_has := goodIn_r _ [22, 23, 60, 61, 62, 63, 64] (by decide +kernel) (by decide +kernel)
set_option maxRecDepth 20000 in
theorem gX7_unsay_X5_has : GoodIn wsX7_unsay (wsV RX7 133 RX5 yX5_has wsX5_has) := goodIn_app (goodIn_of _ (by decide +kernel)) ggX7_unsay_X5_has
set_option maxRecDepth 20000 in
theorem ggX7_unsay_X5_put : GoodIn wsX7_unsay wsX5_put := goodIn_r _ [27, 23, 28, 29, 30, 21, 31, 32, 33, 34, 35, 19, 20, 22, 36, 37, 38, 39, 40, 41, 42, 43, 44, 45, 46, 47, 60, 61, 62, 63, 64] (by decide +kernel) (by decide +kernel)
set_option maxRecDepth 20000 in
theorem gX7_unsay_X5_put : GoodIn wsX7_unsay (wsV RX7 131 RX5 yX5_put wsX5_put) := goodIn_app (goodIn_of _ (by decide +kernel)) ggX7_unsay_X5_put
set_option maxRecDepth 20000 in
theorem ggX7_unsay_X7_agree : GoodIn wsX7_unsay wsX7_agree := goodIn_r _ [51, 17, 52, 53, 54, 55, 56, 57, 58, 59] (by decide +kernel) (by decide +kernel)
set_option maxRecDepth 20000 in
theorem gX7_unsay_X7_agree : GoodIn wsX7_unsay (wsV RX7 84 RX7 yX7_agree wsX7_agree) := goodIn_app (goodIn_of _ (by decide +kernel)) ggX7_unsay_X7_agree
theorem dX7_unsay_0 : decode cX7_unsay 0 = .ok (.aload_n 0, 1) := by decide +kernel
theorem dX7_unsay_1 : decode cX7_unsay 1 = .ok (.iload_n 1, 1) := by decide +kernel
theorem dX7_unsay_2 : decode cX7_unsay 2 = .ok (.invokevirtual 122, 3) := by decide +kernel
theorem dX7_unsay_5 : decode cX7_unsay 5 = .ok (.ifCond .eq 10, 3) := by decide +kernel
theorem dX7_unsay_8 : decode cX7_unsay 8 = .ok (.iload_n 2, 1) := by decide +kernel
theorem dX7_unsay_9 : decode cX7_unsay 9 = .ok (.invokestatic 125, 3) := by decide +kernel
theorem dX7_unsay_12 : decode cX7_unsay 12 = .ok (.ifCond .ne 9, 3) := by decide +kernel
theorem dX7_unsay_15 : decode cX7_unsay 15 = .ok (.aload_n 0, 1) := by decide +kernel
theorem dX7_unsay_16 : decode cX7_unsay 16 = .ok (.iconst 1, 1) := by decide +kernel
theorem dX7_unsay_17 : decode cX7_unsay 17 = .ok (.invokevirtual 77, 3) := by decide +kernel
theorem dX7_unsay_20 : decode cX7_unsay 20 = .ok (.ireturn, 1) := by decide +kernel
theorem dX7_unsay_21 : decode cX7_unsay 21 = .ok (.aload_n 0, 1) := by decide +kernel
theorem dX7_unsay_22 : decode cX7_unsay 22 = .ok (.getfield 19, 3) := by decide +kernel
theorem dX7_unsay_25 : decode cX7_unsay 25 = .ok (.iload_n 1, 1) := by decide +kernel
theorem dX7_unsay_26 : decode cX7_unsay 26 = .ok (.iload_n 2, 1) := by decide +kernel
theorem dX7_unsay_27 : decode cX7_unsay 27 = .ok (.invokevirtual 133, 3) := by decide +kernel
theorem dX7_unsay_30 : decode cX7_unsay 30 = .ok (.ifCond .ne 9, 3) := by decide +kernel
theorem dX7_unsay_33 : decode cX7_unsay 33 = .ok (.aload_n 0, 1) := by decide +kernel
theorem dX7_unsay_34 : decode cX7_unsay 34 = .ok (.iconst 5, 1) := by decide +kernel
theorem dX7_unsay_35 : decode cX7_unsay 35 = .ok (.invokevirtual 77, 3) := by decide +kernel
theorem dX7_unsay_38 : decode cX7_unsay 38 = .ok (.ireturn, 1) := by decide +kernel
theorem dX7_unsay_39 : decode cX7_unsay 39 = .ok (.aload_n 0, 1) := by decide +kernel
theorem dX7_unsay_40 : decode cX7_unsay 40 = .ok (.getfield 19, 3) := by decide +kernel
theorem dX7_unsay_43 : decode cX7_unsay 43 = .ok (.iload_n 1, 1) := by decide +kernel
theorem dX7_unsay_44 : decode cX7_unsay 44 = .ok (.iload_n 2, 1) := by decide +kernel
theorem dX7_unsay_45 : decode cX7_unsay 45 = .ok (.iconst (-1), 1) := by decide +kernel
theorem dX7_unsay_46 : decode cX7_unsay 46 = .ok (.invokevirtual 131, 3) := by decide +kernel
theorem dX7_unsay_49 : decode cX7_unsay 49 = .ok (.aload_n 0, 1) := by decide +kernel
theorem dX7_unsay_50 : decode cX7_unsay 50 = .ok (.invokevirtual 84, 3) := by decide +kernel
theorem dX7_unsay_53 : decode cX7_unsay 53 = .ok (.ireturn, 1) := by decide +kernel
set_option maxRecDepth 20000 in
theorem ggX7_book_X7_whyNoBook : GoodIn wsX7_book wsX7_whyNoBook := goodIn_r _ [7, 2, 8, 9, 10, 6, 11, 1, 12, 13, 14, 15, 16, 17, 18, 19, 20, 21, 22, 23, 24, 25, 26, 27, 28, 29, 30, 31, 32, 33, 34, 35, 36, 37, 38, 39, 40, 41, 42, 80, 81, 82, 83, 84, 85, 86, 87, 88, 89, 90, 91, 92, 93, 94, 95] (by decide +kernel) (by decide +kernel)
set_option maxRecDepth 20000 in
theorem gX7_book_X7_whyNoBook : GoodIn wsX7_book (wsV RX7 136 RX7 yX7_whyNoBook wsX7_whyNoBook) := goodIn_app (goodIn_of _ (by decide +kernel)) ggX7_book_X7_whyNoBook
set_option maxRecDepth 20000 in
theorem ggX7_book_X7_refuse : GoodIn wsX7_book wsX7_refuse := goodIn_r _ [46, 47, 80, 81, 82, 83, 84, 85, 86, 87] (by decide +kernel) (by decide +kernel)
set_option maxRecDepth 20000 in
theorem gX7_book_X7_refuse : GoodIn wsX7_book (wsV RX7 77 RX7 yX7_refuse wsX7_refuse) := goodIn_app (goodIn_of _ (by decide +kernel)) ggX7_book_X7_refuse
set_option maxRecDepth 20000 in
theorem ggX7_book_X6_numberAt : GoodIn wsX7_book wsX6_numberAt := goodIn_r _ [32, 33, 93, 94, 95] (by decide +kernel) (by decide +kernel)
set_option maxRecDepth 20000 in
theorem gX7_book_X6_numberAt : GoodIn wsX7_book (wsV RX7 100 RX6 yX6_numberAt wsX6_numberAt) := goodIn_app (goodIn_of _ (by decide +kernel)) ggX7_book_X6_numberAt
set_option maxRecDepth 20000 in
theorem ggX7_book_X5_put : GoodIn wsX7_book wsX5_put := goodIn_r _ [51, 52, 53, 54, 55, 36, 56, 57, 58, 59, 60, 61, 62, 63, 64, 65, 66, 67, 68, 69, 70, 71, 72, 73, 74, 75, 88, 89, 90, 91, 92] (by decide +kernel) (by decide +kernel)
set_option maxRecDepth 20000 in
theorem gX7_book_X5_put : GoodIn wsX7_book (wsV RX7 131 RX5 yX5_put wsX5_put) := goodIn_app (goodIn_of _ (by decide +kernel)) ggX7_book_X5_put
set_option maxRecDepth 20000 in
theorem ggX7_book_X7_agree : GoodIn wsX7_book wsX7_agree := goodIn_r _ [79, 47, 80, 81, 82, 83, 84, 85, 86, 87] (by decide +kernel) (by decide +kernel)
end
section
set_option maxRecDepth 20000 in
theorem gX7_book_X7_agree : GoodIn wsX7_book (wsV RX7 84 RX7 yX7_agree wsX7_agree) := goodIn_app (goodIn_of _ (by decide +kernel)) ggX7_book_X7_agree
theorem dX7_book_0 : decode cX7_book 0 = .ok (.aload_n 0, 1) := by decide +kernel
theorem dX7_book_1 : decode cX7_book 1 = .ok (.iload_n 1, 1) := by decide +kernel
theorem dX7_book_2 : decode cX7_book 2 = .ok (.iload_n 2, 1) := by decide +kernel
theorem dX7_book_3 : decode cX7_book 3 = .ok (.iload_n 3, 1) := by decide +kernel
theorem dX7_book_4 : decode cX7_book 4 = .ok (.iload 4, 2) := by decide +kernel
theorem dX7_book_6 : decode cX7_book 6 = .ok (.invokevirtual 136, 3) := by decide +kernel
theorem dX7_book_9 : decode cX7_book 9 = .ok (.istore 5, 2) := by decide +kernel
theorem dX7_book_11 : decode cX7_book 11 = .ok (.iload 5, 2) := by decide +kernel
theorem dX7_book_13 : decode cX7_book 13 = .ok (.ifCond .eq 10, 3) := by decide +kernel
theorem dX7_book_16 : decode cX7_book 16 = .ok (.aload_n 0, 1) := by decide +kernel
theorem dX7_book_17 : decode cX7_book 17 = .ok (.iload 5, 2) := by decide +kernel
theorem dX7_book_19 : decode cX7_book 19 = .ok (.invokevirtual 77, 3) := by decide +kernel
theorem dX7_book_22 : decode cX7_book 22 = .ok (.ireturn, 1) := by decide +kernel
theorem dX7_book_23 : decode cX7_book 23 = .ok (.iconst 0, 1) := by decide +kernel
theorem dX7_book_24 : decode cX7_book 24 = .ok (.istore 6, 2) := by decide +kernel
theorem dX7_book_26 : decode cX7_book 26 = .ok (.iload 6, 2) := by decide +kernel
theorem dX7_book_28 : decode cX7_book 28 = .ok (.iload 4, 2) := by decide +kernel
theorem dX7_book_30 : decode cX7_book 30 = .ok (.if_icmp .ge 32, 3) := by decide +kernel
theorem dX7_book_33 : decode cX7_book 33 = .ok (.aload_n 0, 1) := by decide +kernel
theorem dX7_book_34 : decode cX7_book 34 = .ok (.getfield 19, 3) := by decide +kernel
theorem dX7_book_37 : decode cX7_book 37 = .ok (.iload_n 1, 1) := by decide +kernel
theorem dX7_book_38 : decode cX7_book 38 = .ok (.iload_n 2, 1) := by decide +kernel
theorem dX7_book_39 : decode cX7_book 39 = .ok (.iload 6, 2) := by decide +kernel
theorem dX7_book_41 : decode cX7_book 41 = .ok (.iadd, 1) := by decide +kernel
theorem dX7_book_42 : decode cX7_book 42 = .ok (.aload_n 0, 1) := by decide +kernel
theorem dX7_book_43 : decode cX7_book 43 = .ok (.getfield 10, 3) := by decide +kernel
theorem dX7_book_46 : decode cX7_book 46 = .ok (.iload_n 3, 1) := by decide +kernel
theorem dX7_book_47 : decode cX7_book 47 = .ok (.iload 6, 2) := by decide +kernel
theorem dX7_book_49 : decode cX7_book 49 = .ok (.invokevirtual 100, 3) := by decide +kernel
theorem dX7_book_52 : decode cX7_book 52 = .ok (.l2i, 1) := by decide +kernel
theorem dX7_book_53 : decode cX7_book 53 = .ok (.invokevirtual 131, 3) := by decide +kernel
theorem dX7_book_56 : decode cX7_book 56 = .ok (.iinc 6 1, 3) := by decide +kernel
theorem dX7_book_59 : decode cX7_book 59 = .ok (.goto (-33), 3) := by decide +kernel
theorem dX7_book_62 : decode cX7_book 62 = .ok (.aload_n 0, 1) := by decide +kernel
theorem dX7_book_63 : decode cX7_book 63 = .ok (.invokevirtual 84, 3) := by decide +kernel
theorem dX7_book_66 : decode cX7_book 66 = .ok (.ireturn, 1) := by decide +kernel
set_option maxRecDepth 20000 in
theorem ggX7_told_X7_isEye : GoodIn wsX7_told wsX7_isEye := goodIn_r _ [6, 1, 42, 43, 44, 45, 46, 47, 48, 49, 50, 51, 52, 53, 54] (by decide +kernel) (by decide +kernel)
set_option maxRecDepth 20000 in
theorem gX7_told_X7_isEye : GoodIn wsX7_told (wsV RX7 122 RX7 yX7_isEye wsX7_isEye) := goodIn_app (goodIn_of _ (by decide +kernel)) ggX7_told_X7_isEye
set_option maxRecDepth 20000 in
theorem ggX7_told_X7_isDay : GoodIn wsX7_told wsX7_isDay := goodIn_r _ [9, 10, 11, 5, 12] (by decide +kernel) (by decide +kernel)
set_option maxRecDepth 20000 in
theorem gX7_told_X7_isDay : GoodIn wsX7_told (va_wsS RX7 125 yX7_isDay wsX7_isDay) := goodIn_app (goodIn_of _ (by decide +kernel)) ggX7_told_X7_isDay
set_option maxRecDepth 20000 in
theorem ggX7_told_X7_isWithin : GoodIn wsX7_told wsX7_isWithin := goodIn_r _ [12] (by decide +kernel) (by decide +kernel)
set_option maxRecDepth 20000 in
theorem gX7_told_X7_isWithin : GoodIn wsX7_told (va_wsS RX7 69 yX7_isWithin wsX7_isWithin) := goodIn_app (goodIn_of _ (by decide +kernel)) ggX7_told_X7_isWithin
set_option maxRecDepth 20000 in
theorem ggX7_told_X7_lack : GoodIn wsX7_told wsX7_lack := goodIn_r _ [16, 17, 42, 43, 44, 45, 46, 47, 48, 49] (by decide +kernel) (by decide +kernel)
set_option maxRecDepth 20000 in
theorem gX7_told_X7_lack : GoodIn wsX7_told (wsV RX7 96 RX7 yX7_lack wsX7_lack) := goodIn_app (goodIn_of _ (by decide +kernel)) ggX7_told_X7_lack
set_option maxRecDepth 20000 in
theorem ggX7_told_X5_has : GoodIn wsX7_told wsX5_has := goodIn_r _ [22, 23, 50, 51, 52, 53, 54] (by decide +kernel) (by decide +kernel)
set_option maxRecDepth 20000 in
theorem gX7_told_X5_has : GoodIn wsX7_told (wsV RX7 133 RX5 yX5_has wsX5_has) := goodIn_app (goodIn_of _ (by decide +kernel)) ggX7_told_X5_has
set_option maxRecDepth 20000 in
theorem ggX7_told_X5_groupsOf : GoodIn wsX7_told wsX5_groupsOf := goodIn_r _ [27, 23, 50, 51, 52, 53, 54] (by decide +kernel) (by decide +kernel)
set_option maxRecDepth 20000 in
theorem gX7_told_X5_groupsOf : GoodIn wsX7_told (wsV RX7 140 RX5 yX5_groupsOf wsX5_groupsOf) := goodIn_app (goodIn_of _ (by decide +kernel)) ggX7_told_X5_groupsOf
set_option maxRecDepth 20000 in
theorem ggX7_told_X7_answer : GoodIn wsX7_told wsX7_answer := goodIn_r _ [31, 17, 42, 43, 44, 45, 46, 47, 48, 49] (by decide +kernel) (by decide +kernel)
set_option maxRecDepth 20000 in
theorem gX7_told_X7_answer : GoodIn wsX7_told (wsV RX7 119 RX7 yX7_answer wsX7_answer) := goodIn_app (goodIn_of _ (by decide +kernel)) ggX7_told_X7_answer
set_option maxRecDepth 20000 in
theorem ggX7_told_X5_spotsOf : GoodIn wsX7_told wsX5_spotsOf := goodIn_r _ [35, 23, 50, 51, 52, 53, 54] (by decide +kernel) (by decide +kernel)
set_option maxRecDepth 20000 in
theorem gX7_told_X5_spotsOf : GoodIn wsX7_told (wsV RX7 143 RX5 yX5_spotsOf wsX5_spotsOf) := goodIn_app (goodIn_of _ (by decide +kernel)) ggX7_told_X5_spotsOf
set_option maxRecDepth 20000 in
theorem ggX7_told_X5_numberOf : GoodIn wsX7_told wsX5_numberOf := goodIn_r _ [39, 40, 25, 26, 21, 27, 23, 41, 33, 34, 35, 50, 51, 52, 53, 54] (by decide +kernel) (by decide +kernel)
set_option maxRecDepth 20000 in
theorem gX7_told_X5_numberOf : GoodIn wsX7_told (wsV RX7 146 RX5 yX5_numberOf wsX5_numberOf) := goodIn_app (goodIn_of _ (by decide +kernel)) ggX7_told_X5_numberOf
theorem dX7_told_0 : decode cX7_told 0 = .ok (.aload_n 0, 1) := by decide +kernel
theorem dX7_told_1 : decode cX7_told 1 = .ok (.iload_n 1, 1) := by decide +kernel
theorem dX7_told_2 : decode cX7_told 2 = .ok (.invokevirtual 122, 3) := by decide +kernel
theorem dX7_told_5 : decode cX7_told 5 = .ok (.ifCond .eq 18, 3) := by decide +kernel
theorem dX7_told_8 : decode cX7_told 8 = .ok (.iload_n 2, 1) := by decide +kernel
theorem dX7_told_9 : decode cX7_told 9 = .ok (.invokestatic 125, 3) := by decide +kernel
theorem dX7_told_12 : decode cX7_told 12 = .ok (.ifCond .eq 11, 3) := by decide +kernel
theorem dX7_told_15 : decode cX7_told 15 = .ok (.iload_n 3, 1) := by decide +kernel
theorem dX7_told_16 : decode cX7_told 16 = .ok (.iconst 2, 1) := by decide +kernel
theorem dX7_told_17 : decode cX7_told 17 = .ok (.invokestatic 69, 3) := by decide +kernel
theorem dX7_told_20 : decode cX7_told 20 = .ok (.ifCond .ne 9, 3) := by decide +kernel
theorem dX7_told_23 : decode cX7_told 23 = .ok (.aload_n 0, 1) := by decide +kernel
theorem dX7_told_24 : decode cX7_told 24 = .ok (.iconst 1, 1) := by decide +kernel
theorem dX7_told_25 : decode cX7_told 25 = .ok (.invokevirtual 96, 3) := by decide +kernel
theorem dX7_told_28 : decode cX7_told 28 = .ok (.ireturn, 1) := by decide +kernel
theorem dX7_told_29 : decode cX7_told 29 = .ok (.aload_n 0, 1) := by decide +kernel
theorem dX7_told_30 : decode cX7_told 30 = .ok (.getfield 19, 3) := by decide +kernel
theorem dX7_told_33 : decode cX7_told 33 = .ok (.iload_n 1, 1) := by decide +kernel
theorem dX7_told_34 : decode cX7_told 34 = .ok (.iload_n 2, 1) := by decide +kernel
theorem dX7_told_35 : decode cX7_told 35 = .ok (.invokevirtual 133, 3) := by decide +kernel
theorem dX7_told_38 : decode cX7_told 38 = .ok (.ifCond .ne 9, 3) := by decide +kernel
theorem dX7_told_41 : decode cX7_told 41 = .ok (.aload_n 0, 1) := by decide +kernel
theorem dX7_told_42 : decode cX7_told 42 = .ok (.iconst 5, 1) := by decide +kernel
theorem dX7_told_43 : decode cX7_told 43 = .ok (.invokevirtual 96, 3) := by decide +kernel
theorem dX7_told_46 : decode cX7_told 46 = .ok (.ireturn, 1) := by decide +kernel
theorem dX7_told_47 : decode cX7_told 47 = .ok (.iload_n 3, 1) := by decide +kernel
theorem dX7_told_48 : decode cX7_told 48 = .ok (.ifCond .ne 17, 3) := by decide +kernel
theorem dX7_told_51 : decode cX7_told 51 = .ok (.aload_n 0, 1) := by decide +kernel
theorem dX7_told_52 : decode cX7_told 52 = .ok (.aload_n 0, 1) := by decide +kernel
theorem dX7_told_53 : decode cX7_told 53 = .ok (.getfield 19, 3) := by decide +kernel
theorem dX7_told_56 : decode cX7_told 56 = .ok (.iload_n 1, 1) := by decide +kernel
theorem dX7_told_57 : decode cX7_told 57 = .ok (.iload_n 2, 1) := by decide +kernel
theorem dX7_told_58 : decode cX7_told 58 = .ok (.invokevirtual 140, 3) := by decide +kernel
theorem dX7_told_61 : decode cX7_told 61 = .ok (.invokevirtual 119, 3) := by decide +kernel
theorem dX7_told_64 : decode cX7_told 64 = .ok (.ireturn, 1) := by decide +kernel
theorem dX7_told_65 : decode cX7_told 65 = .ok (.aload_n 0, 1) := by decide +kernel
theorem dX7_told_66 : decode cX7_told 66 = .ok (.iload_n 3, 1) := by decide +kernel
theorem dX7_told_67 : decode cX7_told 67 = .ok (.iconst 1, 1) := by decide +kernel
theorem dX7_told_68 : decode cX7_told 68 = .ok (.if_icmp .ne 15, 3) := by decide +kernel
theorem dX7_told_71 : decode cX7_told 71 = .ok (.aload_n 0, 1) := by decide +kernel
theorem dX7_told_72 : decode cX7_told 72 = .ok (.getfield 19, 3) := by decide +kernel
theorem dX7_told_75 : decode cX7_told 75 = .ok (.iload_n 1, 1) := by decide +kernel
theorem dX7_told_76 : decode cX7_told 76 = .ok (.iload_n 2, 1) := by decide +kernel
theorem dX7_told_77 : decode cX7_told 77 = .ok (.invokevirtual 143, 3) := by decide +kernel
theorem dX7_told_80 : decode cX7_told 80 = .ok (.goto 12, 3) := by decide +kernel
theorem dX7_told_83 : decode cX7_told 83 = .ok (.aload_n 0, 1) := by decide +kernel
theorem dX7_told_84 : decode cX7_told 84 = .ok (.getfield 19, 3) := by decide +kernel
theorem dX7_told_87 : decode cX7_told 87 = .ok (.iload_n 1, 1) := by decide +kernel
theorem dX7_told_88 : decode cX7_told 88 = .ok (.iload_n 2, 1) := by decide +kernel
theorem dX7_told_89 : decode cX7_told 89 = .ok (.invokevirtual 146, 3) := by decide +kernel
theorem dX7_told_92 : decode cX7_told 92 = .ok (.invokevirtual 119, 3) := by decide +kernel
theorem dX7_told_95 : decode cX7_told 95 = .ok (.ireturn, 1) := by decide +kernel
set_option maxRecDepth 20000 in
theorem ggX7_days_X7_isEye : GoodIn wsX7_days wsX7_isEye := goodIn_r _ [6, 1, 26, 27, 28, 29, 30, 31, 32, 33, 34, 35, 36, 37, 38] (by decide +kernel) (by decide +kernel)
set_option maxRecDepth 20000 in
theorem gX7_days_X7_isEye : GoodIn wsX7_days (wsV RX7 122 RX7 yX7_isEye wsX7_isEye) := goodIn_app (goodIn_of _ (by decide +kernel)) ggX7_days_X7_isEye
set_option maxRecDepth 20000 in
theorem ggX7_days_X7_lack : GoodIn wsX7_days wsX7_lack := goodIn_r _ [10, 11, 26, 27, 28, 29, 30, 31, 32, 33] (by decide +kernel) (by decide +kernel)
set_option maxRecDepth 20000 in
theorem gX7_days_X7_lack : GoodIn wsX7_days (wsV RX7 96 RX7 yX7_lack wsX7_lack) := goodIn_app (goodIn_of _ (by decide +kernel)) ggX7_days_X7_lack
set_option maxRecDepth 20000 in
theorem ggX7_days_X5_countDays : GoodIn wsX7_days wsX5_countDays := goodIn_r _ [16, 17, 18, 19, 15, 20, 21, 34, 35, 36, 37, 38] (by decide +kernel) (by decide +kernel)
set_option maxRecDepth 20000 in
theorem gX7_days_X5_countDays : GoodIn wsX7_days (wsV RX7 149 RX5 yX5_countDays wsX5_countDays) := goodIn_app (goodIn_of _ (by decide +kernel)) ggX7_days_X5_countDays
set_option maxRecDepth 20000 in
theorem ggX7_days_X7_answer : GoodIn wsX7_days wsX7_answer := goodIn_r _ [25, 11, 26, 27, 28, 29, 30, 31, 32, 33] (by decide +kernel) (by decide +kernel)
set_option maxRecDepth 20000 in
theorem gX7_days_X7_answer : GoodIn wsX7_days (wsV RX7 119 RX7 yX7_answer wsX7_answer) := goodIn_app (goodIn_of _ (by decide +kernel)) ggX7_days_X7_answer
theorem dX7_days_0 : decode cX7_days 0 = .ok (.aload_n 0, 1) := by decide +kernel
theorem dX7_days_1 : decode cX7_days 1 = .ok (.iload_n 1, 1) := by decide +kernel
theorem dX7_days_2 : decode cX7_days 2 = .ok (.invokevirtual 122, 3) := by decide +kernel
theorem dX7_days_5 : decode cX7_days 5 = .ok (.ifCond .ne 9, 3) := by decide +kernel
theorem dX7_days_8 : decode cX7_days 8 = .ok (.aload_n 0, 1) := by decide +kernel
theorem dX7_days_9 : decode cX7_days 9 = .ok (.iconst 1, 1) := by decide +kernel
theorem dX7_days_10 : decode cX7_days 10 = .ok (.invokevirtual 96, 3) := by decide +kernel
theorem dX7_days_13 : decode cX7_days 13 = .ok (.ireturn, 1) := by decide +kernel
theorem dX7_days_14 : decode cX7_days 14 = .ok (.aload_n 0, 1) := by decide +kernel
theorem dX7_days_15 : decode cX7_days 15 = .ok (.aload_n 0, 1) := by decide +kernel
theorem dX7_days_16 : decode cX7_days 16 = .ok (.getfield 19, 3) := by decide +kernel
theorem dX7_days_19 : decode cX7_days 19 = .ok (.iload_n 1, 1) := by decide +kernel
theorem dX7_days_20 : decode cX7_days 20 = .ok (.iconst 0, 1) := by decide +kernel
theorem dX7_days_21 : decode cX7_days 21 = .ok (.sipush 239, 3) := by decide +kernel
theorem dX7_days_24 : decode cX7_days 24 = .ok (.invokevirtual 149, 3) := by decide +kernel
theorem dX7_days_27 : decode cX7_days 27 = .ok (.invokevirtual 119, 3) := by decide +kernel
theorem dX7_days_30 : decode cX7_days 30 = .ok (.ireturn, 1) := by decide +kernel
set_option maxRecDepth 20000 in
theorem ggX7_rules_X7_refuse : GoodIn wsX7_rules wsX7_refuse := goodIn_r _ [7, 8, 13, 14, 15, 16, 17, 18, 19, 20] (by decide +kernel) (by decide +kernel)
set_option maxRecDepth 20000 in
theorem gX7_rules_X7_refuse : GoodIn wsX7_rules (wsV RX7 77 RX7 yX7_refuse wsX7_refuse) := goodIn_app (goodIn_of _ (by decide +kernel)) ggX7_rules_X7_refuse
set_option maxRecDepth 20000 in
theorem ggX7_rules_X7_agree : GoodIn wsX7_rules wsX7_agree := goodIn_r _ [12, 8, 13, 14, 15, 16, 17, 18, 19, 20] (by decide +kernel) (by decide +kernel)
set_option maxRecDepth 20000 in
theorem gX7_rules_X7_agree : GoodIn wsX7_rules (wsV RX7 84 RX7 yX7_agree wsX7_agree) := goodIn_app (goodIn_of _ (by decide +kernel)) ggX7_rules_X7_agree
theorem dX7_rules_0 : decode cX7_rules 0 = .ok (.iload_n 1, 1) := by decide +kernel
theorem dX7_rules_1 : decode cX7_rules 1 = .ok (.iconst 1, 1) := by decide +kernel
theorem dX7_rules_2 : decode cX7_rules 2 = .ok (.if_icmp .lt 20, 3) := by decide +kernel
theorem dX7_rules_5 : decode cX7_rules 5 = .ok (.iload_n 1, 1) := by decide +kernel
theorem dX7_rules_6 : decode cX7_rules 6 = .ok (.bipush 100, 2) := by decide +kernel
theorem dX7_rules_8 : decode cX7_rules 8 = .ok (.if_icmp .gt 14, 3) := by decide +kernel
theorem dX7_rules_11 : decode cX7_rules 11 = .ok (.iload_n 2, 1) := by decide +kernel
theorem dX7_rules_12 : decode cX7_rules 12 = .ok (.iconst 1, 1) := by decide +kernel
theorem dX7_rules_13 : decode cX7_rules 13 = .ok (.if_icmp .lt 9, 3) := by decide +kernel
theorem dX7_rules_16 : decode cX7_rules 16 = .ok (.iload_n 2, 1) := by decide +kernel
theorem dX7_rules_17 : decode cX7_rules 17 = .ok (.bipush 10, 2) := by decide +kernel
theorem dX7_rules_19 : decode cX7_rules 19 = .ok (.if_icmp .le 9, 3) := by decide +kernel
theorem dX7_rules_22 : decode cX7_rules 22 = .ok (.aload_n 0, 1) := by decide +kernel
theorem dX7_rules_23 : decode cX7_rules 23 = .ok (.iconst 1, 1) := by decide +kernel
theorem dX7_rules_24 : decode cX7_rules 24 = .ok (.invokevirtual 77, 3) := by decide +kernel
theorem dX7_rules_27 : decode cX7_rules 27 = .ok (.ireturn, 1) := by decide +kernel
theorem dX7_rules_28 : decode cX7_rules 28 = .ok (.aload_n 0, 1) := by decide +kernel
theorem dX7_rules_29 : decode cX7_rules 29 = .ok (.getfield 19, 3) := by decide +kernel
theorem dX7_rules_32 : decode cX7_rules 32 = .ok (.iload_n 1, 1) := by decide +kernel
theorem dX7_rules_33 : decode cX7_rules 33 = .ok (.putfield 153, 3) := by decide +kernel
theorem dX7_rules_36 : decode cX7_rules 36 = .ok (.aload_n 0, 1) := by decide +kernel
theorem dX7_rules_37 : decode cX7_rules 37 = .ok (.getfield 47, 3) := by decide +kernel
theorem dX7_rules_40 : decode cX7_rules 40 = .ok (.iload_n 2, 1) := by decide +kernel
theorem dX7_rules_41 : decode cX7_rules 41 = .ok (.putfield 156, 3) := by decide +kernel
theorem dX7_rules_44 : decode cX7_rules 44 = .ok (.aload_n 0, 1) := by decide +kernel
theorem dX7_rules_45 : decode cX7_rules 45 = .ok (.invokevirtual 84, 3) := by decide +kernel
theorem dX7_rules_48 : decode cX7_rules 48 = .ok (.ireturn, 1) := by decide +kernel
set_option maxRecDepth 20000 in
theorem ggX7_both_X7_arePair : GoodIn wsX7_both wsX7_arePair := goodIn_r _ [6, 7, 8, 9, 5, 10, 1, 26, 27, 28, 29, 30, 31, 32, 33, 34, 35, 36, 37, 38] (by decide +kernel) (by decide +kernel)
set_option maxRecDepth 20000 in
theorem gX7_both_X7_arePair : GoodIn wsX7_both (wsV RX7 159 RX7 yX7_arePair wsX7_arePair) := goodIn_app (goodIn_of _ (by decide +kernel)) ggX7_both_X7_arePair
set_option maxRecDepth 20000 in
theorem ggX7_both_X7_lack : GoodIn wsX7_both wsX7_lack := goodIn_r _ [14, 15, 26, 27, 28, 29, 30, 31, 32, 33] (by decide +kernel) (by decide +kernel)
set_option maxRecDepth 20000 in
theorem gX7_both_X7_lack : GoodIn wsX7_both (wsV RX7 96 RX7 yX7_lack wsX7_lack) := goodIn_app (goodIn_of _ (by decide +kernel)) ggX7_both_X7_lack
set_option maxRecDepth 20000 in
theorem ggX7_both_X5_countBoth : GoodIn wsX7_both wsX5_countBoth := goodIn_r _ [20, 21, 34, 35, 36, 37, 38] (by decide +kernel) (by decide +kernel)
set_option maxRecDepth 20000 in
theorem gX7_both_X5_countBoth : GoodIn wsX7_both (wsV RX7 162 RX5 yX5_countBoth wsX5_countBoth) := goodIn_app (goodIn_of _ (by decide +kernel)) ggX7_both_X5_countBoth
set_option maxRecDepth 20000 in
theorem ggX7_both_X7_answer : GoodIn wsX7_both wsX7_answer := goodIn_r _ [25, 15, 26, 27, 28, 29, 30, 31, 32, 33] (by decide +kernel) (by decide +kernel)
set_option maxRecDepth 20000 in
theorem gX7_both_X7_answer : GoodIn wsX7_both (wsV RX7 119 RX7 yX7_answer wsX7_answer) := goodIn_app (goodIn_of _ (by decide +kernel)) ggX7_both_X7_answer
theorem dX7_both_0 : decode cX7_both 0 = .ok (.aload_n 0, 1) := by decide +kernel
theorem dX7_both_1 : decode cX7_both 1 = .ok (.iload_n 1, 1) := by decide +kernel
theorem dX7_both_2 : decode cX7_both 2 = .ok (.iload_n 2, 1) := by decide +kernel
theorem dX7_both_3 : decode cX7_both 3 = .ok (.invokevirtual 159, 3) := by decide +kernel
theorem dX7_both_6 : decode cX7_both 6 = .ok (.ifCond .ne 9, 3) := by decide +kernel
theorem dX7_both_9 : decode cX7_both 9 = .ok (.aload_n 0, 1) := by decide +kernel
theorem dX7_both_10 : decode cX7_both 10 = .ok (.iconst 1, 1) := by decide +kernel
theorem dX7_both_11 : decode cX7_both 11 = .ok (.invokevirtual 96, 3) := by decide +kernel
theorem dX7_both_14 : decode cX7_both 14 = .ok (.ireturn, 1) := by decide +kernel
theorem dX7_both_15 : decode cX7_both 15 = .ok (.aload_n 0, 1) := by decide +kernel
theorem dX7_both_16 : decode cX7_both 16 = .ok (.aload_n 0, 1) := by decide +kernel
theorem dX7_both_17 : decode cX7_both 17 = .ok (.getfield 19, 3) := by decide +kernel
theorem dX7_both_20 : decode cX7_both 20 = .ok (.iload_n 1, 1) := by decide +kernel
theorem dX7_both_21 : decode cX7_both 21 = .ok (.iload_n 2, 1) := by decide +kernel
theorem dX7_both_22 : decode cX7_both 22 = .ok (.invokevirtual 162, 3) := by decide +kernel
theorem dX7_both_25 : decode cX7_both 25 = .ok (.invokevirtual 119, 3) := by decide +kernel
theorem dX7_both_28 : decode cX7_both 28 = .ok (.ireturn, 1) := by decide +kernel
set_option maxRecDepth 20000 in
theorem ggX7_factor_X7_arePair : GoodIn wsX7_factor wsX7_arePair := goodIn_r _ [6, 7, 8, 9, 5, 10, 1, 33, 34, 35, 36, 37, 38, 39, 40, 41, 42, 43, 44, 45] (by decide +kernel) (by decide +kernel)
set_option maxRecDepth 20000 in
theorem gX7_factor_X7_arePair : GoodIn wsX7_factor (wsV RX7 159 RX7 yX7_arePair wsX7_arePair) := goodIn_app (goodIn_of _ (by decide +kernel)) ggX7_factor_X7_arePair
set_option maxRecDepth 20000 in
theorem ggX7_factor_X7_lack : GoodIn wsX7_factor wsX7_lack := goodIn_r _ [14, 15, 33, 34, 35, 36, 37, 38, 39, 40] (by decide +kernel) (by decide +kernel)
set_option maxRecDepth 20000 in
theorem gX7_factor_X7_lack : GoodIn wsX7_factor (wsV RX7 96 RX7 yX7_lack wsX7_lack) := goodIn_app (goodIn_of _ (by decide +kernel)) ggX7_factor_X7_lack
set_option maxRecDepth 20000 in
theorem ggX7_factor_X5_factorOf : GoodIn wsX7_factor wsX5_factorOf := goodIn_r _ [20, 21, 22, 23, 24, 41, 42, 43, 44, 45] (by decide +kernel) (by decide +kernel)
set_option maxRecDepth 20000 in
theorem gX7_factor_X5_factorOf : GoodIn wsX7_factor (wsV RX7 165 RX5 yX5_factorOf wsX5_factorOf) := goodIn_app (goodIn_of _ (by decide +kernel)) ggX7_factor_X5_factorOf
set_option maxRecDepth 20000 in
theorem ggX7_factor_X7_answerOr : GoodIn wsX7_factor wsX7_answerOr := goodIn_r _ [28, 11, 12, 13, 5, 14, 15, 29, 30, 31, 32, 33, 34, 35, 36, 37, 38, 39, 40] (by decide +kernel) (by decide +kernel)
set_option maxRecDepth 20000 in
theorem gX7_factor_X7_answerOr : GoodIn wsX7_factor (wsV RX7 168 RX7 yX7_answerOr wsX7_answerOr) := goodIn_app (goodIn_of _ (by decide +kernel)) ggX7_factor_X7_answerOr
theorem dX7_factor_0 : decode cX7_factor 0 = .ok (.aload_n 0, 1) := by decide +kernel
theorem dX7_factor_1 : decode cX7_factor 1 = .ok (.iload_n 1, 1) := by decide +kernel
theorem dX7_factor_2 : decode cX7_factor 2 = .ok (.iload_n 2, 1) := by decide +kernel
theorem dX7_factor_3 : decode cX7_factor 3 = .ok (.invokevirtual 159, 3) := by decide +kernel
theorem dX7_factor_6 : decode cX7_factor 6 = .ok (.ifCond .ne 9, 3) := by decide +kernel
theorem dX7_factor_9 : decode cX7_factor 9 = .ok (.aload_n 0, 1) := by decide +kernel
theorem dX7_factor_10 : decode cX7_factor 10 = .ok (.iconst 1, 1) := by decide +kernel
theorem dX7_factor_11 : decode cX7_factor 11 = .ok (.invokevirtual 96, 3) := by decide +kernel
theorem dX7_factor_14 : decode cX7_factor 14 = .ok (.ireturn, 1) := by decide +kernel
theorem dX7_factor_15 : decode cX7_factor 15 = .ok (.aload_n 0, 1) := by decide +kernel
theorem dX7_factor_16 : decode cX7_factor 16 = .ok (.bipush 6, 2) := by decide +kernel
theorem dX7_factor_18 : decode cX7_factor 18 = .ok (.aload_n 0, 1) := by decide +kernel
theorem dX7_factor_19 : decode cX7_factor 19 = .ok (.getfield 19, 3) := by decide +kernel
theorem dX7_factor_22 : decode cX7_factor 22 = .ok (.iload_n 1, 1) := by decide +kernel
theorem dX7_factor_23 : decode cX7_factor 23 = .ok (.iload_n 2, 1) := by decide +kernel
theorem dX7_factor_24 : decode cX7_factor 24 = .ok (.invokevirtual 165, 3) := by decide +kernel
theorem dX7_factor_27 : decode cX7_factor 27 = .ok (.invokevirtual 168, 3) := by decide +kernel
theorem dX7_factor_30 : decode cX7_factor 30 = .ok (.ireturn, 1) := by decide +kernel
set_option maxRecDepth 20000 in
theorem ggX7_middle_X7_arePair : GoodIn wsX7_middle wsX7_arePair := goodIn_r _ [7, 8, 9, 10, 6, 11, 2, 74, 75, 76, 77, 78, 79, 80, 81, 85, 86, 87, 88, 89] (by decide +kernel) (by decide +kernel)
end
section
set_option maxRecDepth 20000 in
theorem gX7_middle_X7_arePair : GoodIn wsX7_middle (wsV RX7 159 RX7 yX7_arePair wsX7_arePair) := goodIn_app (goodIn_of _ (by decide +kernel)) ggX7_middle_X7_arePair
set_option maxRecDepth 20000 in
theorem ggX7_middle_X7_lack : GoodIn wsX7_middle wsX7_lack := goodIn_r _ [15, 16, 74, 75, 76, 77, 78, 79, 80, 81] (by decide +kernel) (by decide +kernel)
set_option maxRecDepth 20000 in
theorem gX7_middle_X7_lack : GoodIn wsX7_middle (wsV RX7 96 RX7 yX7_lack wsX7_lack) := goodIn_app (goodIn_of _ (by decide +kernel)) ggX7_middle_X7_lack
set_option maxRecDepth 20000 in
theorem ggX7_middle_X2_gather : GoodIn wsX7_middle wsX2_gather := goodIn_r _ [21, 22, 23, 24, 25, 26, 27, 28, 29, 30, 31, 32, 33, 34, 35, 36, 37, 38, 39, 40, 41, 42, 43, 44, 45, 46, 82, 83, 84, 85, 86, 87, 88, 89] (by decide +kernel) (by decide +kernel)
set_option maxRecDepth 20000 in
theorem gX7_middle_X2_gather : GoodIn wsX7_middle (wsV RX7 171 RX2 yX2_gather wsX2_gather) := goodIn_app (goodIn_of _ (by decide +kernel)) ggX7_middle_X2_gather
set_option maxRecDepth 20000 in
theorem ggX7_middle_X2_order : GoodIn wsX7_middle wsX2_order := goodIn_r _ [50, 22, 51, 52, 53, 20, 54, 23, 24, 82, 83, 84] (by decide +kernel) (by decide +kernel)
set_option maxRecDepth 20000 in
theorem gX7_middle_X2_order : GoodIn wsX7_middle (wsV RX7 178 RX2 yX2_order wsX2_order) := goodIn_app (goodIn_of _ (by decide +kernel)) ggX7_middle_X2_order
set_option maxRecDepth 20000 in
theorem ggX7_middle_X7_tellFraction : GoodIn wsX7_middle wsX7_tellFraction := goodIn_r _ [58, 59, 60, 61, 62, 63, 64, 65, 66, 67, 68, 69, 70, 71, 72, 6, 73, 16, 74, 75, 76, 77, 78, 79, 80, 81, 90, 91] (by decide +kernel) (by decide +kernel)
set_option maxRecDepth 20000 in
theorem gX7_middle_X7_tellFraction : GoodIn wsX7_middle (wsV RX7 188 RX7 yX7_tellFraction wsX7_tellFraction) := goodIn_app (goodIn_of _ (by decide +kernel)) ggX7_middle_X7_tellFraction
theorem dX7_middle_0 : decode cX7_middle 0 = .ok (.aload_n 0, 1) := by decide +kernel
theorem dX7_middle_1 : decode cX7_middle 1 = .ok (.iload_n 1, 1) := by decide +kernel
theorem dX7_middle_2 : decode cX7_middle 2 = .ok (.iload_n 2, 1) := by decide +kernel
theorem dX7_middle_3 : decode cX7_middle 3 = .ok (.invokevirtual 159, 3) := by decide +kernel
theorem dX7_middle_6 : decode cX7_middle 6 = .ok (.ifCond .ne 9, 3) := by decide +kernel
theorem dX7_middle_9 : decode cX7_middle 9 = .ok (.aload_n 0, 1) := by decide +kernel
theorem dX7_middle_10 : decode cX7_middle 10 = .ok (.iconst 1, 1) := by decide +kernel
theorem dX7_middle_11 : decode cX7_middle 11 = .ok (.invokevirtual 96, 3) := by decide +kernel
theorem dX7_middle_14 : decode cX7_middle 14 = .ok (.ireturn, 1) := by decide +kernel
theorem dX7_middle_15 : decode cX7_middle 15 = .ok (.aload_n 0, 1) := by decide +kernel
theorem dX7_middle_16 : decode cX7_middle 16 = .ok (.getfield 26, 3) := by decide +kernel
theorem dX7_middle_19 : decode cX7_middle 19 = .ok (.aload_n 0, 1) := by decide +kernel
theorem dX7_middle_20 : decode cX7_middle 20 = .ok (.getfield 19, 3) := by decide +kernel
theorem dX7_middle_23 : decode cX7_middle 23 = .ok (.iload_n 1, 1) := by decide +kernel
theorem dX7_middle_24 : decode cX7_middle 24 = .ok (.iload_n 2, 1) := by decide +kernel
theorem dX7_middle_25 : decode cX7_middle 25 = .ok (.invokevirtual 171, 3) := by decide +kernel
theorem dX7_middle_28 : decode cX7_middle 28 = .ok (.aload_n 0, 1) := by decide +kernel
theorem dX7_middle_29 : decode cX7_middle 29 = .ok (.getfield 26, 3) := by decide +kernel
theorem dX7_middle_32 : decode cX7_middle 32 = .ok (.getfield 175, 3) := by decide +kernel
theorem dX7_middle_35 : decode cX7_middle 35 = .ok (.ifCond .ne 10, 3) := by decide +kernel
theorem dX7_middle_38 : decode cX7_middle 38 = .ok (.aload_n 0, 1) := by decide +kernel
theorem dX7_middle_39 : decode cX7_middle 39 = .ok (.bipush 6, 2) := by decide +kernel
theorem dX7_middle_41 : decode cX7_middle 41 = .ok (.invokevirtual 96, 3) := by decide +kernel
theorem dX7_middle_44 : decode cX7_middle 44 = .ok (.ireturn, 1) := by decide +kernel
theorem dX7_middle_45 : decode cX7_middle 45 = .ok (.aload_n 0, 1) := by decide +kernel
theorem dX7_middle_46 : decode cX7_middle 46 = .ok (.getfield 26, 3) := by decide +kernel
theorem dX7_middle_49 : decode cX7_middle 49 = .ok (.invokevirtual 178, 3) := by decide +kernel
theorem dX7_middle_52 : decode cX7_middle 52 = .ok (.aload_n 0, 1) := by decide +kernel
theorem dX7_middle_53 : decode cX7_middle 53 = .ok (.getfield 26, 3) := by decide +kernel
theorem dX7_middle_56 : decode cX7_middle 56 = .ok (.getfield 175, 3) := by decide +kernel
theorem dX7_middle_59 : decode cX7_middle 59 = .ok (.iconst 1, 1) := by decide +kernel
theorem dX7_middle_60 : decode cX7_middle 60 = .ok (.isub, 1) := by decide +kernel
theorem dX7_middle_61 : decode cX7_middle 61 = .ok (.iconst 2, 1) := by decide +kernel
theorem dX7_middle_62 : decode cX7_middle 62 = .ok (.idiv, 1) := by decide +kernel
theorem dX7_middle_63 : decode cX7_middle 63 = .ok (.istore_n 3, 1) := by decide +kernel
theorem dX7_middle_64 : decode cX7_middle 64 = .ok (.aload_n 0, 1) := by decide +kernel
theorem dX7_middle_65 : decode cX7_middle 65 = .ok (.aload_n 0, 1) := by decide +kernel
theorem dX7_middle_66 : decode cX7_middle 66 = .ok (.getfield 26, 3) := by decide +kernel
theorem dX7_middle_69 : decode cX7_middle 69 = .ok (.getfield 181, 3) := by decide +kernel
theorem dX7_middle_72 : decode cX7_middle 72 = .ok (.iload_n 3, 1) := by decide +kernel
theorem dX7_middle_73 : decode cX7_middle 73 = .ok (.iaload, 1) := by decide +kernel
theorem dX7_middle_74 : decode cX7_middle 74 = .ok (.aload_n 0, 1) := by decide +kernel
theorem dX7_middle_75 : decode cX7_middle 75 = .ok (.getfield 26, 3) := by decide +kernel
theorem dX7_middle_78 : decode cX7_middle 78 = .ok (.getfield 185, 3) := by decide +kernel
theorem dX7_middle_81 : decode cX7_middle 81 = .ok (.iload_n 3, 1) := by decide +kernel
theorem dX7_middle_82 : decode cX7_middle 82 = .ok (.iaload, 1) := by decide +kernel
theorem dX7_middle_83 : decode cX7_middle 83 = .ok (.invokevirtual 188, 3) := by decide +kernel
theorem dX7_middle_86 : decode cX7_middle 86 = .ok (.ireturn, 1) := by decide +kernel
set_option maxRecDepth 20000 in
theorem ggX7_step_X7_arePair : GoodIn wsX7_step wsX7_arePair := goodIn_r _ [7, 8, 9, 10, 6, 11, 2, 84, 85, 86, 87, 88, 89, 90, 91, 98, 99, 100, 101, 102] (by decide +kernel) (by decide +kernel)
set_option maxRecDepth 20000 in
theorem gX7_step_X7_arePair : GoodIn wsX7_step (wsV RX7 159 RX7 yX7_arePair wsX7_arePair) := goodIn_app (goodIn_of _ (by decide +kernel)) ggX7_step_X7_arePair
set_option maxRecDepth 20000 in
theorem ggX7_step_X7_isWithin : GoodIn wsX7_step wsX7_isWithin := goodIn_r _ [14] (by decide +kernel) (by decide +kernel)
set_option maxRecDepth 20000 in
theorem gX7_step_X7_isWithin : GoodIn wsX7_step (va_wsS RX7 69 yX7_isWithin wsX7_isWithin) := goodIn_app (goodIn_of _ (by decide +kernel)) ggX7_step_X7_isWithin
set_option maxRecDepth 20000 in
theorem ggX7_step_X7_lack : GoodIn wsX7_step wsX7_lack := goodIn_r _ [18, 19, 84, 85, 86, 87, 88, 89, 90, 91] (by decide +kernel) (by decide +kernel)
set_option maxRecDepth 20000 in
theorem gX7_step_X7_lack : GoodIn wsX7_step (wsV RX7 96 RX7 yX7_lack wsX7_lack) := goodIn_app (goodIn_of _ (by decide +kernel)) ggX7_step_X7_lack
set_option maxRecDepth 20000 in
theorem ggX7_step_X4_gather : GoodIn wsX7_step wsX4_gather := goodIn_r _ [24, 25, 26, 27, 28, 29, 30, 31, 32, 33, 34, 35, 36, 37, 38, 39, 40, 41, 42, 43, 44, 92, 93, 94, 95, 96, 97, 98, 99, 100, 101, 102] (by decide +kernel) (by decide +kernel)
set_option maxRecDepth 20000 in
theorem gX7_step_X4_gather : GoodIn wsX7_step (wsV RX7 191 RX4 yX4_gather wsX4_gather) := goodIn_app (goodIn_of _ (by decide +kernel)) ggX7_step_X4_gather
set_option maxRecDepth 20000 in
theorem ggX7_step_X4_pool : GoodIn wsX7_step wsX4_pool := goodIn_r _ [48, 49, 26, 50, 25, 51, 52, 53, 54, 55, 23, 56, 57, 58, 59, 60, 92, 93, 94, 95, 96, 97] (by decide +kernel) (by decide +kernel)
set_option maxRecDepth 20000 in
theorem gX7_step_X4_pool : GoodIn wsX7_step (wsV RX7 192 RX4 yX4_pool wsX4_pool) := goodIn_app (goodIn_of _ (by decide +kernel)) ggX7_step_X4_pool
set_option maxRecDepth 20000 in
theorem ggX7_step_X4_blockFor : GoodIn wsX7_step wsX4_blockFor := goodIn_r _ [64, 49, 52, 92, 93, 94, 95, 96, 97] (by decide +kernel) (by decide +kernel)
set_option maxRecDepth 20000 in
theorem gX7_step_X4_blockFor : GoodIn wsX7_step (wsV RX7 195 RX4 yX4_blockFor wsX4_blockFor) := goodIn_app (goodIn_of _ (by decide +kernel)) ggX7_step_X4_blockFor
set_option maxRecDepth 20000 in
theorem ggX7_step_X7_tellFraction : GoodIn wsX7_step wsX7_tellFraction := goodIn_r _ [68, 69, 70, 71, 72, 73, 74, 75, 76, 77, 78, 79, 80, 81, 82, 6, 83, 19, 84, 85, 86, 87, 88, 89, 90, 91, 103, 104] (by decide +kernel) (by decide +kernel)
set_option maxRecDepth 20000 in
theorem gX7_step_X7_tellFraction : GoodIn wsX7_step (wsV RX7 188 RX7 yX7_tellFraction wsX7_tellFraction) := goodIn_app (goodIn_of _ (by decide +kernel)) ggX7_step_X7_tellFraction
theorem dX7_step_0 : decode cX7_step 0 = .ok (.aload_n 0, 1) := by decide +kernel
theorem dX7_step_1 : decode cX7_step 1 = .ok (.iload_n 1, 1) := by decide +kernel
theorem dX7_step_2 : decode cX7_step 2 = .ok (.iload_n 2, 1) := by decide +kernel
theorem dX7_step_3 : decode cX7_step 3 = .ok (.invokevirtual 159, 3) := by decide +kernel
theorem dX7_step_6 : decode cX7_step 6 = .ok (.ifCond .eq 12, 3) := by decide +kernel
theorem dX7_step_9 : decode cX7_step 9 = .ok (.iload_n 3, 1) := by decide +kernel
theorem dX7_step_10 : decode cX7_step 10 = .ok (.bipush 20, 2) := by decide +kernel
theorem dX7_step_12 : decode cX7_step 12 = .ok (.invokestatic 69, 3) := by decide +kernel
theorem dX7_step_15 : decode cX7_step 15 = .ok (.ifCond .ne 9, 3) := by decide +kernel
theorem dX7_step_18 : decode cX7_step 18 = .ok (.aload_n 0, 1) := by decide +kernel
theorem dX7_step_19 : decode cX7_step 19 = .ok (.iconst 1, 1) := by decide +kernel
theorem dX7_step_20 : decode cX7_step 20 = .ok (.invokevirtual 96, 3) := by decide +kernel
theorem dX7_step_23 : decode cX7_step 23 = .ok (.ireturn, 1) := by decide +kernel
theorem dX7_step_24 : decode cX7_step 24 = .ok (.aload_n 0, 1) := by decide +kernel
theorem dX7_step_25 : decode cX7_step 25 = .ok (.getfield 33, 3) := by decide +kernel
theorem dX7_step_28 : decode cX7_step 28 = .ok (.aload_n 0, 1) := by decide +kernel
theorem dX7_step_29 : decode cX7_step 29 = .ok (.getfield 19, 3) := by decide +kernel
theorem dX7_step_32 : decode cX7_step 32 = .ok (.iload_n 1, 1) := by decide +kernel
theorem dX7_step_33 : decode cX7_step 33 = .ok (.iload_n 2, 1) := by decide +kernel
theorem dX7_step_34 : decode cX7_step 34 = .ok (.invokevirtual 191, 3) := by decide +kernel
theorem dX7_step_37 : decode cX7_step 37 = .ok (.aload_n 0, 1) := by decide +kernel
theorem dX7_step_38 : decode cX7_step 38 = .ok (.getfield 33, 3) := by decide +kernel
theorem dX7_step_41 : decode cX7_step 41 = .ok (.invokevirtual 192, 3) := by decide +kernel
theorem dX7_step_44 : decode cX7_step 44 = .ok (.aload_n 0, 1) := by decide +kernel
theorem dX7_step_45 : decode cX7_step 45 = .ok (.getfield 33, 3) := by decide +kernel
theorem dX7_step_48 : decode cX7_step 48 = .ok (.iload_n 3, 1) := by decide +kernel
theorem dX7_step_49 : decode cX7_step 49 = .ok (.invokevirtual 195, 3) := by decide +kernel
theorem dX7_step_52 : decode cX7_step 52 = .ok (.istore 4, 2) := by decide +kernel
theorem dX7_step_54 : decode cX7_step 54 = .ok (.iload 4, 2) := by decide +kernel
theorem dX7_step_56 : decode cX7_step 56 = .ok (.iconst (-1), 1) := by decide +kernel
theorem dX7_step_57 : decode cX7_step 57 = .ok (.if_icmp .ne 10, 3) := by decide +kernel
theorem dX7_step_60 : decode cX7_step 60 = .ok (.aload_n 0, 1) := by decide +kernel
theorem dX7_step_61 : decode cX7_step 61 = .ok (.bipush 6, 2) := by decide +kernel
theorem dX7_step_63 : decode cX7_step 63 = .ok (.invokevirtual 96, 3) := by decide +kernel
theorem dX7_step_66 : decode cX7_step 66 = .ok (.ireturn, 1) := by decide +kernel
theorem dX7_step_67 : decode cX7_step 67 = .ok (.aload_n 0, 1) := by decide +kernel
theorem dX7_step_68 : decode cX7_step 68 = .ok (.aload_n 0, 1) := by decide +kernel
theorem dX7_step_69 : decode cX7_step 69 = .ok (.getfield 33, 3) := by decide +kernel
theorem dX7_step_72 : decode cX7_step 72 = .ok (.getfield 198, 3) := by decide +kernel
theorem dX7_step_75 : decode cX7_step 75 = .ok (.iload 4, 2) := by decide +kernel
theorem dX7_step_77 : decode cX7_step 77 = .ok (.iaload, 1) := by decide +kernel
theorem dX7_step_78 : decode cX7_step 78 = .ok (.aload_n 0, 1) := by decide +kernel
theorem dX7_step_79 : decode cX7_step 79 = .ok (.getfield 33, 3) := by decide +kernel
theorem dX7_step_82 : decode cX7_step 82 = .ok (.getfield 201, 3) := by decide +kernel
theorem dX7_step_85 : decode cX7_step 85 = .ok (.iload 4, 2) := by decide +kernel
theorem dX7_step_87 : decode cX7_step 87 = .ok (.iaload, 1) := by decide +kernel
theorem dX7_step_88 : decode cX7_step 88 = .ok (.invokevirtual 188, 3) := by decide +kernel
theorem dX7_step_91 : decode cX7_step 91 = .ok (.ireturn, 1) := by decide +kernel
set_option maxRecDepth 20000 in
theorem ggX7_blind_X7_arePair : GoodIn wsX7_blind wsX7_arePair := goodIn_r _ [6, 7, 8, 9, 5, 10, 1, 43, 44, 45, 46, 47, 48, 49, 50, 51, 52, 53, 54, 55] (by decide +kernel) (by decide +kernel)
set_option maxRecDepth 20000 in
theorem gX7_blind_X7_arePair : GoodIn wsX7_blind (wsV RX7 159 RX7 yX7_arePair wsX7_arePair) := goodIn_app (goodIn_of _ (by decide +kernel)) ggX7_blind_X7_arePair
set_option maxRecDepth 20000 in
theorem ggX7_blind_X7_lack : GoodIn wsX7_blind wsX7_lack := goodIn_r _ [14, 15, 43, 44, 45, 46, 47, 48, 49, 50] (by decide +kernel) (by decide +kernel)
set_option maxRecDepth 20000 in
theorem gX7_blind_X7_lack : GoodIn wsX7_blind (wsV RX7 96 RX7 yX7_lack wsX7_lack) := goodIn_app (goodIn_of _ (by decide +kernel)) ggX7_blind_X7_lack
set_option maxRecDepth 20000 in
theorem ggX7_blind_X5_countBoth : GoodIn wsX7_blind wsX5_countBoth := goodIn_r _ [20, 21, 51, 52, 53, 54, 55] (by decide +kernel) (by decide +kernel)
set_option maxRecDepth 20000 in
theorem gX7_blind_X5_countBoth : GoodIn wsX7_blind (wsV RX7 162 RX5 yX5_countBoth wsX5_countBoth) := goodIn_app (goodIn_of _ (by decide +kernel)) ggX7_blind_X5_countBoth
set_option maxRecDepth 20000 in
theorem ggX7_blind_X5_countBothAbove : GoodIn wsX7_blind wsX5_countBothAbove := goodIn_r _ [25, 26, 27, 28, 19, 29, 30, 31, 32, 33, 34, 35, 36, 37, 38, 51, 52, 53, 54, 55] (by decide +kernel) (by decide +kernel)
set_option maxRecDepth 20000 in
theorem gX7_blind_X5_countBothAbove : GoodIn wsX7_blind (wsV RX7 204 RX5 yX5_countBothAbove wsX5_countBothAbove) := goodIn_app (goodIn_of _ (by decide +kernel)) ggX7_blind_X5_countBothAbove
set_option maxRecDepth 20000 in
theorem ggX7_blind_X7_answer : GoodIn wsX7_blind wsX7_answer := goodIn_r _ [42, 15, 43, 44, 45, 46, 47, 48, 49, 50] (by decide +kernel) (by decide +kernel)
set_option maxRecDepth 20000 in
theorem gX7_blind_X7_answer : GoodIn wsX7_blind (wsV RX7 119 RX7 yX7_answer wsX7_answer) := goodIn_app (goodIn_of _ (by decide +kernel)) ggX7_blind_X7_answer
theorem dX7_blind_0 : decode cX7_blind 0 = .ok (.aload_n 0, 1) := by decide +kernel
theorem dX7_blind_1 : decode cX7_blind 1 = .ok (.iload_n 1, 1) := by decide +kernel
theorem dX7_blind_2 : decode cX7_blind 2 = .ok (.iload_n 2, 1) := by decide +kernel
theorem dX7_blind_3 : decode cX7_blind 3 = .ok (.invokevirtual 159, 3) := by decide +kernel
theorem dX7_blind_6 : decode cX7_blind 6 = .ok (.ifCond .ne 9, 3) := by decide +kernel
theorem dX7_blind_9 : decode cX7_blind 9 = .ok (.aload_n 0, 1) := by decide +kernel
theorem dX7_blind_10 : decode cX7_blind 10 = .ok (.iconst 1, 1) := by decide +kernel
theorem dX7_blind_11 : decode cX7_blind 11 = .ok (.invokevirtual 96, 3) := by decide +kernel
theorem dX7_blind_14 : decode cX7_blind 14 = .ok (.ireturn, 1) := by decide +kernel
theorem dX7_blind_15 : decode cX7_blind 15 = .ok (.aload_n 0, 1) := by decide +kernel
theorem dX7_blind_16 : decode cX7_blind 16 = .ok (.getfield 19, 3) := by decide +kernel
theorem dX7_blind_19 : decode cX7_blind 19 = .ok (.iload_n 1, 1) := by decide +kernel
theorem dX7_blind_20 : decode cX7_blind 20 = .ok (.iload_n 2, 1) := by decide +kernel
theorem dX7_blind_21 : decode cX7_blind 21 = .ok (.invokevirtual 162, 3) := by decide +kernel
theorem dX7_blind_24 : decode cX7_blind 24 = .ok (.ifCond .ne 10, 3) := by decide +kernel
theorem dX7_blind_27 : decode cX7_blind 27 = .ok (.aload_n 0, 1) := by decide +kernel
theorem dX7_blind_28 : decode cX7_blind 28 = .ok (.bipush 6, 2) := by decide +kernel
theorem dX7_blind_30 : decode cX7_blind 30 = .ok (.invokevirtual 96, 3) := by decide +kernel
theorem dX7_blind_33 : decode cX7_blind 33 = .ok (.ireturn, 1) := by decide +kernel
theorem dX7_blind_34 : decode cX7_blind 34 = .ok (.aload_n 0, 1) := by decide +kernel
theorem dX7_blind_35 : decode cX7_blind 35 = .ok (.getfield 19, 3) := by decide +kernel
theorem dX7_blind_38 : decode cX7_blind 38 = .ok (.iload_n 1, 1) := by decide +kernel
theorem dX7_blind_39 : decode cX7_blind 39 = .ok (.iload_n 2, 1) := by decide +kernel
theorem dX7_blind_40 : decode cX7_blind 40 = .ok (.iconst 0, 1) := by decide +kernel
theorem dX7_blind_41 : decode cX7_blind 41 = .ok (.invokevirtual 204, 3) := by decide +kernel
theorem dX7_blind_44 : decode cX7_blind 44 = .ok (.istore_n 3, 1) := by decide +kernel
theorem dX7_blind_45 : decode cX7_blind 45 = .ok (.iconst 0, 1) := by decide +kernel
theorem dX7_blind_46 : decode cX7_blind 46 = .ok (.istore 4, 2) := by decide +kernel
theorem dX7_blind_48 : decode cX7_blind 48 = .ok (.iload 4, 2) := by decide +kernel
theorem dX7_blind_50 : decode cX7_blind 50 = .ok (.bipush 20, 2) := by decide +kernel
theorem dX7_blind_52 : decode cX7_blind 52 = .ok (.if_icmp .ge 24, 3) := by decide +kernel
theorem dX7_blind_55 : decode cX7_blind 55 = .ok (.aload_n 0, 1) := by decide +kernel
theorem dX7_blind_56 : decode cX7_blind 56 = .ok (.getfield 19, 3) := by decide +kernel
theorem dX7_blind_59 : decode cX7_blind 59 = .ok (.iload_n 2, 1) := by decide +kernel
theorem dX7_blind_60 : decode cX7_blind 60 = .ok (.iload_n 1, 1) := by decide +kernel
theorem dX7_blind_61 : decode cX7_blind 61 = .ok (.iload 4, 2) := by decide +kernel
theorem dX7_blind_63 : decode cX7_blind 63 = .ok (.invokevirtual 204, 3) := by decide +kernel
theorem dX7_blind_66 : decode cX7_blind 66 = .ok (.iload_n 3, 1) := by decide +kernel
theorem dX7_blind_67 : decode cX7_blind 67 = .ok (.if_icmp .le 9, 3) := by decide +kernel
theorem dX7_blind_70 : decode cX7_blind 70 = .ok (.iinc 4 1, 3) := by decide +kernel
theorem dX7_blind_73 : decode cX7_blind 73 = .ok (.goto (-25), 3) := by decide +kernel
theorem dX7_blind_76 : decode cX7_blind 76 = .ok (.aload_n 0, 1) := by decide +kernel
theorem dX7_blind_77 : decode cX7_blind 77 = .ok (.iload 4, 2) := by decide +kernel
theorem dX7_blind_79 : decode cX7_blind 79 = .ok (.invokevirtual 119, 3) := by decide +kernel
theorem dX7_blind_82 : decode cX7_blind 82 = .ok (.ireturn, 1) := by decide +kernel
set_option maxRecDepth 20000 in
theorem ggX7_active_X7_isEye : GoodIn wsX7_active wsX7_isEye := goodIn_r _ [6, 1, 55, 56, 57, 58, 59, 60, 61, 62, 63, 64, 65, 66, 67] (by decide +kernel) (by decide +kernel)
set_option maxRecDepth 20000 in
theorem gX7_active_X7_isEye : GoodIn wsX7_active (wsV RX7 122 RX7 yX7_isEye wsX7_isEye) := goodIn_app (goodIn_of _ (by decide +kernel)) ggX7_active_X7_isEye
set_option maxRecDepth 20000 in
theorem ggX7_active_X7_isDay : GoodIn wsX7_active wsX7_isDay := goodIn_r _ [9, 10, 11, 5, 12] (by decide +kernel) (by decide +kernel)
set_option maxRecDepth 20000 in
theorem gX7_active_X7_isDay : GoodIn wsX7_active (va_wsS RX7 125 yX7_isDay wsX7_isDay) := goodIn_app (goodIn_of _ (by decide +kernel)) ggX7_active_X7_isDay
set_option maxRecDepth 20000 in
theorem ggX7_active_X7_lack : GoodIn wsX7_active wsX7_lack := goodIn_r _ [16, 17, 55, 56, 57, 58, 59, 60, 61, 62] (by decide +kernel) (by decide +kernel)
set_option maxRecDepth 20000 in
theorem gX7_active_X7_lack : GoodIn wsX7_active (wsV RX7 96 RX7 yX7_lack wsX7_lack) := goodIn_app (goodIn_of _ (by decide +kernel)) ggX7_active_X7_lack
set_option maxRecDepth 20000 in
theorem ggX7_active_X5_countDays : GoodIn wsX7_active wsX5_countDays := goodIn_r _ [22, 23, 24, 25, 21, 26, 27, 63, 64, 65, 66, 67] (by decide +kernel) (by decide +kernel)
set_option maxRecDepth 20000 in
theorem gX7_active_X5_countDays : GoodIn wsX7_active (wsV RX7 149 RX5 yX5_countDays wsX5_countDays) := goodIn_app (goodIn_of _ (by decide +kernel)) ggX7_active_X5_countDays
set_option maxRecDepth 20000 in
theorem ggX7_active_X5_countActive : GoodIn wsX7_active wsX5_countActive := goodIn_r _ [31, 23, 24, 25, 21, 26, 27, 32, 33, 34, 35, 63, 64, 65, 66, 67] (by decide +kernel) (by decide +kernel)
set_option maxRecDepth 20000 in
theorem gX7_active_X5_countActive : GoodIn wsX7_active (wsV RX7 207 RX5 yX5_countActive wsX5_countActive) := goodIn_app (goodIn_of _ (by decide +kernel)) ggX7_active_X5_countActive
set_option maxRecDepth 20000 in
theorem ggX7_active_X7_tellFraction : GoodIn wsX7_active wsX7_tellFraction := goodIn_r _ [39, 40, 41, 42, 43, 44, 45, 46, 47, 48, 49, 50, 51, 52, 53, 5, 54, 17, 55, 56, 57, 58, 59, 60, 61, 62, 68, 69] (by decide +kernel) (by decide +kernel)
set_option maxRecDepth 20000 in
theorem gX7_active_X7_tellFraction : GoodIn wsX7_active (wsV RX7 188 RX7 yX7_tellFraction wsX7_tellFraction) := goodIn_app (goodIn_of _ (by decide +kernel)) ggX7_active_X7_tellFraction
theorem dX7_active_0 : decode cX7_active 0 = .ok (.aload_n 0, 1) := by decide +kernel
theorem dX7_active_1 : decode cX7_active 1 = .ok (.iload_n 1, 1) := by decide +kernel
theorem dX7_active_2 : decode cX7_active 2 = .ok (.invokevirtual 122, 3) := by decide +kernel
theorem dX7_active_5 : decode cX7_active 5 = .ok (.ifCond .eq 22, 3) := by decide +kernel
theorem dX7_active_8 : decode cX7_active 8 = .ok (.iload_n 2, 1) := by decide +kernel
theorem dX7_active_9 : decode cX7_active 9 = .ok (.invokestatic 125, 3) := by decide +kernel
theorem dX7_active_12 : decode cX7_active 12 = .ok (.ifCond .eq 15, 3) := by decide +kernel
theorem dX7_active_15 : decode cX7_active 15 = .ok (.iload_n 3, 1) := by decide +kernel
theorem dX7_active_16 : decode cX7_active 16 = .ok (.invokestatic 125, 3) := by decide +kernel
theorem dX7_active_19 : decode cX7_active 19 = .ok (.ifCond .eq 8, 3) := by decide +kernel
theorem dX7_active_22 : decode cX7_active 22 = .ok (.iload_n 2, 1) := by decide +kernel
theorem dX7_active_23 : decode cX7_active 23 = .ok (.iload_n 3, 1) := by decide +kernel
theorem dX7_active_24 : decode cX7_active 24 = .ok (.if_icmp .le 9, 3) := by decide +kernel
theorem dX7_active_27 : decode cX7_active 27 = .ok (.aload_n 0, 1) := by decide +kernel
theorem dX7_active_28 : decode cX7_active 28 = .ok (.iconst 1, 1) := by decide +kernel
theorem dX7_active_29 : decode cX7_active 29 = .ok (.invokevirtual 96, 3) := by decide +kernel
theorem dX7_active_32 : decode cX7_active 32 = .ok (.ireturn, 1) := by decide +kernel
theorem dX7_active_33 : decode cX7_active 33 = .ok (.aload_n 0, 1) := by decide +kernel
theorem dX7_active_34 : decode cX7_active 34 = .ok (.getfield 19, 3) := by decide +kernel
theorem dX7_active_37 : decode cX7_active 37 = .ok (.iload_n 1, 1) := by decide +kernel
theorem dX7_active_38 : decode cX7_active 38 = .ok (.iload_n 2, 1) := by decide +kernel
theorem dX7_active_39 : decode cX7_active 39 = .ok (.iload_n 3, 1) := by decide +kernel
theorem dX7_active_40 : decode cX7_active 40 = .ok (.invokevirtual 149, 3) := by decide +kernel
theorem dX7_active_43 : decode cX7_active 43 = .ok (.istore 4, 2) := by decide +kernel
theorem dX7_active_45 : decode cX7_active 45 = .ok (.iload 4, 2) := by decide +kernel
theorem dX7_active_47 : decode cX7_active 47 = .ok (.ifCond .ne 9, 3) := by decide +kernel
theorem dX7_active_50 : decode cX7_active 50 = .ok (.aload_n 0, 1) := by decide +kernel
theorem dX7_active_51 : decode cX7_active 51 = .ok (.iconst 5, 1) := by decide +kernel
theorem dX7_active_52 : decode cX7_active 52 = .ok (.invokevirtual 96, 3) := by decide +kernel
theorem dX7_active_55 : decode cX7_active 55 = .ok (.ireturn, 1) := by decide +kernel
theorem dX7_active_56 : decode cX7_active 56 = .ok (.aload_n 0, 1) := by decide +kernel
theorem dX7_active_57 : decode cX7_active 57 = .ok (.aload_n 0, 1) := by decide +kernel
theorem dX7_active_58 : decode cX7_active 58 = .ok (.getfield 19, 3) := by decide +kernel
theorem dX7_active_61 : decode cX7_active 61 = .ok (.iload_n 1, 1) := by decide +kernel
theorem dX7_active_62 : decode cX7_active 62 = .ok (.iload_n 2, 1) := by decide +kernel
theorem dX7_active_63 : decode cX7_active 63 = .ok (.iload_n 3, 1) := by decide +kernel
theorem dX7_active_64 : decode cX7_active 64 = .ok (.invokevirtual 207, 3) := by decide +kernel
theorem dX7_active_67 : decode cX7_active 67 = .ok (.iload 4, 2) := by decide +kernel
theorem dX7_active_69 : decode cX7_active 69 = .ok (.invokevirtual 188, 3) := by decide +kernel
theorem dX7_active_72 : decode cX7_active 72 = .ok (.ireturn, 1) := by decide +kernel
set_option maxRecDepth 20000 in
theorem ggX7_chain_X7_isEye : GoodIn wsX7_chain wsX7_isEye := goodIn_r _ [7, 2, 72, 73, 74, 75, 76, 77, 78, 79, 84, 85, 86, 87, 88] (by decide +kernel) (by decide +kernel)
end
section
set_option maxRecDepth 20000 in
theorem gX7_chain_X7_isEye : GoodIn wsX7_chain (wsV RX7 122 RX7 yX7_isEye wsX7_isEye) := goodIn_app (goodIn_of _ (by decide +kernel)) ggX7_chain_X7_isEye
set_option maxRecDepth 20000 in
theorem ggX7_chain_X7_lack : GoodIn wsX7_chain wsX7_lack := goodIn_r _ [11, 12, 72, 73, 74, 75, 76, 77, 78, 79] (by decide +kernel) (by decide +kernel)
set_option maxRecDepth 20000 in
theorem gX7_chain_X7_lack : GoodIn wsX7_chain (wsV RX7 96 RX7 yX7_lack wsX7_lack) := goodIn_app (goodIn_of _ (by decide +kernel)) ggX7_chain_X7_lack
set_option maxRecDepth 20000 in
theorem ggX7_chain_X0_reckon : GoodIn wsX7_chain wsX0_reckon := goodIn_r _ [17, 18, 19, 20, 21, 22, 23, 24, 25, 26, 27, 16, 28, 29, 30, 31, 32, 33, 34, 35, 36, 37, 38, 39, 40, 41, 42, 43, 44, 45, 46, 47, 48, 49, 50, 51, 52, 53, 54, 55, 56, 57, 58, 59, 60, 61, 62, 63, 64, 65, 66, 80, 81, 82, 83, 84, 85, 86, 87, 88] (by decide +kernel) (by decide +kernel)
set_option maxRecDepth 20000 in
theorem gX7_chain_X0_reckon : GoodIn wsX7_chain (wsV RX7 210 RX0 yX0_reckon wsX0_reckon) := goodIn_app (goodIn_of _ (by decide +kernel)) ggX7_chain_X0_reckon
set_option maxRecDepth 20000 in
theorem ggX7_chain_X0_walk : GoodIn wsX7_chain wsX0_walk := goodIn_r _ [62, 54, 18, 19, 63, 64, 65, 16, 66, 45, 46, 47, 39, 48, 42, 36, 37, 38, 40, 41, 43, 44, 80, 81, 82, 83, 84, 85, 86, 87, 88] (by decide +kernel) (by decide +kernel)
set_option maxRecDepth 20000 in
theorem gX7_chain_X0_walk : GoodIn wsX7_chain (wsV RX7 217 RX0 yX0_walk wsX0_walk) := goodIn_app (goodIn_of _ (by decide +kernel)) ggX7_chain_X0_walk
set_option maxRecDepth 20000 in
theorem ggX7_chain_X7_answer : GoodIn wsX7_chain wsX7_answer := goodIn_r _ [71, 12, 72, 73, 74, 75, 76, 77, 78, 79] (by decide +kernel) (by decide +kernel)
set_option maxRecDepth 20000 in
theorem gX7_chain_X7_answer : GoodIn wsX7_chain (wsV RX7 119 RX7 yX7_answer wsX7_answer) := goodIn_app (goodIn_of _ (by decide +kernel)) ggX7_chain_X7_answer
theorem dX7_chain_0 : decode cX7_chain 0 = .ok (.aload_n 0, 1) := by decide +kernel
theorem dX7_chain_1 : decode cX7_chain 1 = .ok (.iload_n 1, 1) := by decide +kernel
theorem dX7_chain_2 : decode cX7_chain 2 = .ok (.invokevirtual 122, 3) := by decide +kernel
theorem dX7_chain_5 : decode cX7_chain 5 = .ok (.ifCond .ne 9, 3) := by decide +kernel
theorem dX7_chain_8 : decode cX7_chain 8 = .ok (.aload_n 0, 1) := by decide +kernel
theorem dX7_chain_9 : decode cX7_chain 9 = .ok (.iconst 1, 1) := by decide +kernel
theorem dX7_chain_10 : decode cX7_chain 10 = .ok (.invokevirtual 96, 3) := by decide +kernel
theorem dX7_chain_13 : decode cX7_chain 13 = .ok (.ireturn, 1) := by decide +kernel
theorem dX7_chain_14 : decode cX7_chain 14 = .ok (.aload_n 0, 1) := by decide +kernel
theorem dX7_chain_15 : decode cX7_chain 15 = .ok (.getfield 40, 3) := by decide +kernel
theorem dX7_chain_18 : decode cX7_chain 18 = .ok (.aload_n 0, 1) := by decide +kernel
theorem dX7_chain_19 : decode cX7_chain 19 = .ok (.getfield 19, 3) := by decide +kernel
theorem dX7_chain_22 : decode cX7_chain 22 = .ok (.iconst (-1), 1) := by decide +kernel
theorem dX7_chain_23 : decode cX7_chain 23 = .ok (.invokevirtual 210, 3) := by decide +kernel
theorem dX7_chain_26 : decode cX7_chain 26 = .ok (.iload_n 2, 1) := by decide +kernel
theorem dX7_chain_27 : decode cX7_chain 27 = .ok (.ifCond .lt 16, 3) := by decide +kernel
theorem dX7_chain_30 : decode cX7_chain 30 = .ok (.iload_n 2, 1) := by decide +kernel
theorem dX7_chain_31 : decode cX7_chain 31 = .ok (.aload_n 0, 1) := by decide +kernel
theorem dX7_chain_32 : decode cX7_chain 32 = .ok (.getfield 40, 3) := by decide +kernel
theorem dX7_chain_35 : decode cX7_chain 35 = .ok (.getfield 214, 3) := by decide +kernel
theorem dX7_chain_38 : decode cX7_chain 38 = .ok (.iload_n 1, 1) := by decide +kernel
theorem dX7_chain_39 : decode cX7_chain 39 = .ok (.iaload, 1) := by decide +kernel
theorem dX7_chain_40 : decode cX7_chain 40 = .ok (.if_icmp .le 10, 3) := by decide +kernel
theorem dX7_chain_43 : decode cX7_chain 43 = .ok (.aload_n 0, 1) := by decide +kernel
theorem dX7_chain_44 : decode cX7_chain 44 = .ok (.bipush 6, 2) := by decide +kernel
theorem dX7_chain_46 : decode cX7_chain 46 = .ok (.invokevirtual 96, 3) := by decide +kernel
theorem dX7_chain_49 : decode cX7_chain 49 = .ok (.ireturn, 1) := by decide +kernel
theorem dX7_chain_50 : decode cX7_chain 50 = .ok (.aload_n 0, 1) := by decide +kernel
theorem dX7_chain_51 : decode cX7_chain 51 = .ok (.getfield 40, 3) := by decide +kernel
theorem dX7_chain_54 : decode cX7_chain 54 = .ok (.aload_n 0, 1) := by decide +kernel
theorem dX7_chain_55 : decode cX7_chain 55 = .ok (.getfield 19, 3) := by decide +kernel
theorem dX7_chain_58 : decode cX7_chain 58 = .ok (.iload_n 1, 1) := by decide +kernel
theorem dX7_chain_59 : decode cX7_chain 59 = .ok (.invokevirtual 217, 3) := by decide +kernel
theorem dX7_chain_62 : decode cX7_chain 62 = .ok (.aload_n 0, 1) := by decide +kernel
theorem dX7_chain_63 : decode cX7_chain 63 = .ok (.aload_n 0, 1) := by decide +kernel
theorem dX7_chain_64 : decode cX7_chain 64 = .ok (.getfield 40, 3) := by decide +kernel
theorem dX7_chain_67 : decode cX7_chain 67 = .ok (.getfield 220, 3) := by decide +kernel
theorem dX7_chain_70 : decode cX7_chain 70 = .ok (.iload_n 2, 1) := by decide +kernel
theorem dX7_chain_71 : decode cX7_chain 71 = .ok (.iaload, 1) := by decide +kernel
theorem dX7_chain_72 : decode cX7_chain 72 = .ok (.invokevirtual 119, 3) := by decide +kernel
theorem dX7_chain_75 : decode cX7_chain 75 = .ok (.ireturn, 1) := by decide +kernel
set_option maxRecDepth 20000 in
theorem ggX7_weight_X7_isEye : GoodIn wsX7_weight wsX7_isEye := goodIn_r _ [7, 2, 75, 76, 77, 78, 79, 80, 81, 82, 87, 88, 89, 90, 91] (by decide +kernel) (by decide +kernel)
set_option maxRecDepth 20000 in
theorem gX7_weight_X7_isEye : GoodIn wsX7_weight (wsV RX7 122 RX7 yX7_isEye wsX7_isEye) := goodIn_app (goodIn_of _ (by decide +kernel)) ggX7_weight_X7_isEye
set_option maxRecDepth 20000 in
theorem ggX7_weight_X7_lack : GoodIn wsX7_weight wsX7_lack := goodIn_r _ [11, 12, 75, 76, 77, 78, 79, 80, 81, 82] (by decide +kernel) (by decide +kernel)
set_option maxRecDepth 20000 in
theorem gX7_weight_X7_lack : GoodIn wsX7_weight (wsV RX7 96 RX7 yX7_lack wsX7_lack) := goodIn_app (goodIn_of _ (by decide +kernel)) ggX7_weight_X7_lack
set_option maxRecDepth 20000 in
theorem ggX7_weight_X0_reckon : GoodIn wsX7_weight wsX0_reckon := goodIn_r _ [17, 18, 19, 20, 21, 22, 23, 24, 25, 26, 27, 16, 28, 29, 30, 31, 32, 33, 34, 35, 36, 37, 38, 39, 40, 41, 42, 43, 44, 45, 46, 47, 48, 49, 50, 51, 52, 53, 54, 55, 56, 57, 58, 59, 60, 61, 62, 63, 64, 65, 66, 83, 84, 85, 86, 87, 88, 89, 90, 91] (by decide +kernel) (by decide +kernel)
set_option maxRecDepth 20000 in
theorem gX7_weight_X0_reckon : GoodIn wsX7_weight (wsV RX7 210 RX0 yX0_reckon wsX0_reckon) := goodIn_app (goodIn_of _ (by decide +kernel)) ggX7_weight_X0_reckon
set_option maxRecDepth 20000 in
theorem ggX7_weight_X7_answerOr : GoodIn wsX7_weight wsX7_answerOr := goodIn_r _ [70, 8, 9, 10, 6, 11, 12, 71, 72, 73, 74, 75, 76, 77, 78, 79, 80, 81, 82] (by decide +kernel) (by decide +kernel)
set_option maxRecDepth 20000 in
theorem gX7_weight_X7_answerOr : GoodIn wsX7_weight (wsV RX7 168 RX7 yX7_answerOr wsX7_answerOr) := goodIn_app (goodIn_of _ (by decide +kernel)) ggX7_weight_X7_answerOr
theorem dX7_weight_0 : decode cX7_weight 0 = .ok (.aload_n 0, 1) := by decide +kernel
theorem dX7_weight_1 : decode cX7_weight 1 = .ok (.iload_n 1, 1) := by decide +kernel
theorem dX7_weight_2 : decode cX7_weight 2 = .ok (.invokevirtual 122, 3) := by decide +kernel
theorem dX7_weight_5 : decode cX7_weight 5 = .ok (.ifCond .ne 9, 3) := by decide +kernel
theorem dX7_weight_8 : decode cX7_weight 8 = .ok (.aload_n 0, 1) := by decide +kernel
theorem dX7_weight_9 : decode cX7_weight 9 = .ok (.iconst 1, 1) := by decide +kernel
theorem dX7_weight_10 : decode cX7_weight 10 = .ok (.invokevirtual 96, 3) := by decide +kernel
theorem dX7_weight_13 : decode cX7_weight 13 = .ok (.ireturn, 1) := by decide +kernel
theorem dX7_weight_14 : decode cX7_weight 14 = .ok (.aload_n 0, 1) := by decide +kernel
theorem dX7_weight_15 : decode cX7_weight 15 = .ok (.getfield 40, 3) := by decide +kernel
theorem dX7_weight_18 : decode cX7_weight 18 = .ok (.aload_n 0, 1) := by decide +kernel
theorem dX7_weight_19 : decode cX7_weight 19 = .ok (.getfield 19, 3) := by decide +kernel
theorem dX7_weight_22 : decode cX7_weight 22 = .ok (.iconst (-1), 1) := by decide +kernel
theorem dX7_weight_23 : decode cX7_weight 23 = .ok (.invokevirtual 210, 3) := by decide +kernel
theorem dX7_weight_26 : decode cX7_weight 26 = .ok (.aload_n 0, 1) := by decide +kernel
theorem dX7_weight_27 : decode cX7_weight 27 = .ok (.bipush 6, 2) := by decide +kernel
theorem dX7_weight_29 : decode cX7_weight 29 = .ok (.aload_n 0, 1) := by decide +kernel
theorem dX7_weight_30 : decode cX7_weight 30 = .ok (.getfield 40, 3) := by decide +kernel
theorem dX7_weight_33 : decode cX7_weight 33 = .ok (.getfield 223, 3) := by decide +kernel
theorem dX7_weight_36 : decode cX7_weight 36 = .ok (.iload_n 1, 1) := by decide +kernel
theorem dX7_weight_37 : decode cX7_weight 37 = .ok (.iaload, 1) := by decide +kernel
theorem dX7_weight_38 : decode cX7_weight 38 = .ok (.invokevirtual 168, 3) := by decide +kernel
theorem dX7_weight_41 : decode cX7_weight 41 = .ok (.ireturn, 1) := by decide +kernel
set_option maxRecDepth 20000 in
theorem ggX7_loop_X7_arePair : GoodIn wsX7_loop wsX7_arePair := goodIn_r _ [8, 9, 10, 11, 7, 12, 1, 31, 32, 33, 34, 35, 36, 37, 38, 39, 40, 41, 42, 43] (by decide +kernel) (by decide +kernel)
set_option maxRecDepth 20000 in
theorem gX7_loop_X7_arePair : GoodIn wsX7_loop (wsV RX7 159 RX7 yX7_arePair wsX7_arePair) := goodIn_app (goodIn_of _ (by decide +kernel)) ggX7_loop_X7_arePair
set_option maxRecDepth 20000 in
theorem ggX7_loop_X7_lack : GoodIn wsX7_loop wsX7_lack := goodIn_r _ [16, 17, 31, 32, 33, 34, 35, 36, 37, 38] (by decide +kernel) (by decide +kernel)
set_option maxRecDepth 20000 in
theorem gX7_loop_X7_lack : GoodIn wsX7_loop (wsV RX7 96 RX7 yX7_lack wsX7_lack) := goodIn_app (goodIn_of _ (by decide +kernel)) ggX7_loop_X7_lack
set_option maxRecDepth 20000 in
theorem ggX7_loop_X5_factorOf : GoodIn wsX7_loop wsX5_factorOf := goodIn_r _ [22, 23, 24, 25, 26, 39, 40, 41, 42, 43] (by decide +kernel) (by decide +kernel)
set_option maxRecDepth 20000 in
theorem gX7_loop_X5_factorOf : GoodIn wsX7_loop (wsV RX7 165 RX5 yX5_factorOf wsX5_factorOf) := goodIn_app (goodIn_of _ (by decide +kernel)) ggX7_loop_X5_factorOf
set_option maxRecDepth 20000 in
theorem ggX7_loop_X7_answer : GoodIn wsX7_loop wsX7_answer := goodIn_r _ [30, 17, 31, 32, 33, 34, 35, 36, 37, 38] (by decide +kernel) (by decide +kernel)
set_option maxRecDepth 20000 in
theorem gX7_loop_X7_answer : GoodIn wsX7_loop (wsV RX7 119 RX7 yX7_answer wsX7_answer) := goodIn_app (goodIn_of _ (by decide +kernel)) ggX7_loop_X7_answer
theorem dX7_loop_0 : decode cX7_loop 0 = .ok (.aload_n 0, 1) := by decide +kernel
theorem dX7_loop_1 : decode cX7_loop 1 = .ok (.iload_n 1, 1) := by decide +kernel
theorem dX7_loop_2 : decode cX7_loop 2 = .ok (.iload_n 2, 1) := by decide +kernel
theorem dX7_loop_3 : decode cX7_loop 3 = .ok (.invokevirtual 159, 3) := by decide +kernel
theorem dX7_loop_6 : decode cX7_loop 6 = .ok (.ifCond .eq 17, 3) := by decide +kernel
theorem dX7_loop_9 : decode cX7_loop 9 = .ok (.aload_n 0, 1) := by decide +kernel
theorem dX7_loop_10 : decode cX7_loop 10 = .ok (.iload_n 2, 1) := by decide +kernel
theorem dX7_loop_11 : decode cX7_loop 11 = .ok (.iload_n 3, 1) := by decide +kernel
theorem dX7_loop_12 : decode cX7_loop 12 = .ok (.invokevirtual 159, 3) := by decide +kernel
theorem dX7_loop_15 : decode cX7_loop 15 = .ok (.ifCond .eq 8, 3) := by decide +kernel
theorem dX7_loop_18 : decode cX7_loop 18 = .ok (.iload_n 1, 1) := by decide +kernel
theorem dX7_loop_19 : decode cX7_loop 19 = .ok (.iload_n 3, 1) := by decide +kernel
theorem dX7_loop_20 : decode cX7_loop 20 = .ok (.if_icmp .ne 9, 3) := by decide +kernel
theorem dX7_loop_23 : decode cX7_loop 23 = .ok (.aload_n 0, 1) := by decide +kernel
theorem dX7_loop_24 : decode cX7_loop 24 = .ok (.iconst 1, 1) := by decide +kernel
theorem dX7_loop_25 : decode cX7_loop 25 = .ok (.invokevirtual 96, 3) := by decide +kernel
theorem dX7_loop_28 : decode cX7_loop 28 = .ok (.ireturn, 1) := by decide +kernel
theorem dX7_loop_29 : decode cX7_loop 29 = .ok (.aload_n 0, 1) := by decide +kernel
theorem dX7_loop_30 : decode cX7_loop 30 = .ok (.getfield 19, 3) := by decide +kernel
theorem dX7_loop_33 : decode cX7_loop 33 = .ok (.iload_n 1, 1) := by decide +kernel
theorem dX7_loop_34 : decode cX7_loop 34 = .ok (.iload_n 2, 1) := by decide +kernel
theorem dX7_loop_35 : decode cX7_loop 35 = .ok (.invokevirtual 165, 3) := by decide +kernel
theorem dX7_loop_38 : decode cX7_loop 38 = .ok (.i2l, 1) := by decide +kernel
theorem dX7_loop_39 : decode cX7_loop 39 = .ok (.lstore 4, 2) := by decide +kernel
theorem dX7_loop_41 : decode cX7_loop 41 = .ok (.aload_n 0, 1) := by decide +kernel
theorem dX7_loop_42 : decode cX7_loop 42 = .ok (.getfield 19, 3) := by decide +kernel
theorem dX7_loop_45 : decode cX7_loop 45 = .ok (.iload_n 2, 1) := by decide +kernel
theorem dX7_loop_46 : decode cX7_loop 46 = .ok (.iload_n 3, 1) := by decide +kernel
theorem dX7_loop_47 : decode cX7_loop 47 = .ok (.invokevirtual 165, 3) := by decide +kernel
theorem dX7_loop_50 : decode cX7_loop 50 = .ok (.i2l, 1) := by decide +kernel
theorem dX7_loop_51 : decode cX7_loop 51 = .ok (.lstore 6, 2) := by decide +kernel
theorem dX7_loop_53 : decode cX7_loop 53 = .ok (.aload_n 0, 1) := by decide +kernel
theorem dX7_loop_54 : decode cX7_loop 54 = .ok (.getfield 19, 3) := by decide +kernel
theorem dX7_loop_57 : decode cX7_loop 57 = .ok (.iload_n 3, 1) := by decide +kernel
theorem dX7_loop_58 : decode cX7_loop 58 = .ok (.iload_n 1, 1) := by decide +kernel
theorem dX7_loop_59 : decode cX7_loop 59 = .ok (.invokevirtual 165, 3) := by decide +kernel
theorem dX7_loop_62 : decode cX7_loop 62 = .ok (.i2l, 1) := by decide +kernel
theorem dX7_loop_63 : decode cX7_loop 63 = .ok (.lstore 8, 2) := by decide +kernel
theorem dX7_loop_65 : decode cX7_loop 65 = .ok (.lload 4, 2) := by decide +kernel
theorem dX7_loop_67 : decode cX7_loop 67 = .ok (.ldc2_w 226, 3) := by decide +kernel
theorem dX7_loop_70 : decode cX7_loop 70 = .ok (.lcmp, 1) := by decide +kernel
theorem dX7_loop_71 : decode cX7_loop 71 = .ok (.ifCond .eq 21, 3) := by decide +kernel
theorem dX7_loop_74 : decode cX7_loop 74 = .ok (.lload 6, 2) := by decide +kernel
theorem dX7_loop_76 : decode cX7_loop 76 = .ok (.ldc2_w 226, 3) := by decide +kernel
theorem dX7_loop_79 : decode cX7_loop 79 = .ok (.lcmp, 1) := by decide +kernel
theorem dX7_loop_80 : decode cX7_loop 80 = .ok (.ifCond .eq 12, 3) := by decide +kernel
theorem dX7_loop_83 : decode cX7_loop 83 = .ok (.lload 8, 2) := by decide +kernel
theorem dX7_loop_85 : decode cX7_loop 85 = .ok (.ldc2_w 226, 3) := by decide +kernel
theorem dX7_loop_88 : decode cX7_loop 88 = .ok (.lcmp, 1) := by decide +kernel
theorem dX7_loop_89 : decode cX7_loop 89 = .ok (.ifCond .ne 10, 3) := by decide +kernel
theorem dX7_loop_92 : decode cX7_loop 92 = .ok (.aload_n 0, 1) := by decide +kernel
theorem dX7_loop_93 : decode cX7_loop 93 = .ok (.bipush 6, 2) := by decide +kernel
theorem dX7_loop_95 : decode cX7_loop 95 = .ok (.invokevirtual 96, 3) := by decide +kernel
theorem dX7_loop_98 : decode cX7_loop 98 = .ok (.ireturn, 1) := by decide +kernel
theorem dX7_loop_99 : decode cX7_loop 99 = .ok (.aload_n 0, 1) := by decide +kernel
theorem dX7_loop_100 : decode cX7_loop 100 = .ok (.lload 4, 2) := by decide +kernel
theorem dX7_loop_102 : decode cX7_loop 102 = .ok (.lload 6, 2) := by decide +kernel
theorem dX7_loop_104 : decode cX7_loop 104 = .ok (.lmul, 1) := by decide +kernel
theorem dX7_loop_105 : decode cX7_loop 105 = .ok (.lload 8, 2) := by decide +kernel
theorem dX7_loop_107 : decode cX7_loop 107 = .ok (.lmul, 1) := by decide +kernel
theorem dX7_loop_108 : decode cX7_loop 108 = .ok (.ldc2_w 228, 3) := by decide +kernel
theorem dX7_loop_111 : decode cX7_loop 111 = .ok (.ldiv, 1) := by decide +kernel
theorem dX7_loop_112 : decode cX7_loop 112 = .ok (.l2i, 1) := by decide +kernel
theorem dX7_loop_113 : decode cX7_loop 113 = .ok (.invokevirtual 119, 3) := by decide +kernel
theorem dX7_loop_116 : decode cX7_loop 116 = .ok (.ireturn, 1) := by decide +kernel
set_option maxRecDepth 20000 in
theorem ggX7_day_X7_isDay : GoodIn wsX7_day wsX7_isDay := goodIn_r _ [7, 8, 9, 6, 10] (by decide +kernel) (by decide +kernel)
set_option maxRecDepth 20000 in
theorem gX7_day_X7_isDay : GoodIn wsX7_day (va_wsS RX7 125 yX7_isDay wsX7_isDay) := goodIn_app (goodIn_of _ (by decide +kernel)) ggX7_day_X7_isDay
set_option maxRecDepth 20000 in
theorem ggX7_day_X7_lack : GoodIn wsX7_day wsX7_lack := goodIn_r _ [14, 15, 100, 101, 102, 103, 104, 105, 106, 107] (by decide +kernel) (by decide +kernel)
set_option maxRecDepth 20000 in
theorem gX7_day_X7_lack : GoodIn wsX7_day (wsV RX7 96 RX7 yX7_lack wsX7_lack) := goodIn_app (goodIn_of _ (by decide +kernel)) ggX7_day_X7_lack
set_option maxRecDepth 20000 in
theorem ggX7_day_X0_reckon : GoodIn wsX7_day wsX0_reckon := goodIn_r _ [20, 21, 22, 23, 24, 25, 26, 27, 28, 29, 30, 19, 31, 32, 33, 34, 35, 36, 37, 38, 39, 40, 41, 42, 43, 44, 45, 46, 47, 48, 49, 50, 51, 52, 53, 54, 55, 56, 57, 58, 59, 60, 61, 62, 63, 64, 65, 66, 67, 68, 69, 108, 109, 110, 111, 112, 113, 114, 115, 116] (by decide +kernel) (by decide +kernel)
set_option maxRecDepth 20000 in
theorem gX7_day_X0_reckon : GoodIn wsX7_day (wsV RX7 210 RX0 yX0_reckon wsX0_reckon) := goodIn_app (goodIn_of _ (by decide +kernel)) ggX7_day_X0_reckon
set_option maxRecDepth 20000 in
theorem ggX7_day_X3_valueOfDay : GoodIn wsX7_day wsX3_valueOfDay := goodIn_r _ [74, 75, 76, 77, 42, 78, 79, 80, 81, 82, 83, 84, 85, 86, 87, 88, 89, 90, 91, 112, 113, 114, 115, 116, 108, 109, 110, 111] (by decide +kernel) (by decide +kernel)
set_option maxRecDepth 20000 in
theorem gX7_day_X3_valueOfDay : GoodIn wsX7_day (wsV RX7 230 RX3 yX3_valueOfDay wsX3_valueOfDay) := goodIn_app (goodIn_of _ (by decide +kernel)) ggX7_day_X3_valueOfDay
set_option maxRecDepth 20000 in
theorem ggX7_day_X7_answerOr : GoodIn wsX7_day wsX7_answerOr := goodIn_r _ [95, 11, 12, 13, 6, 14, 15, 96, 97, 98, 99, 100, 101, 102, 103, 104, 105, 106, 107] (by decide +kernel) (by decide +kernel)
set_option maxRecDepth 20000 in
theorem gX7_day_X7_answerOr : GoodIn wsX7_day (wsV RX7 168 RX7 yX7_answerOr wsX7_answerOr) := goodIn_app (goodIn_of _ (by decide +kernel)) ggX7_day_X7_answerOr
theorem dX7_day_0 : decode cX7_day 0 = .ok (.iload_n 1, 1) := by decide +kernel
theorem dX7_day_1 : decode cX7_day 1 = .ok (.invokestatic 125, 3) := by decide +kernel
theorem dX7_day_4 : decode cX7_day 4 = .ok (.ifCond .ne 9, 3) := by decide +kernel
theorem dX7_day_7 : decode cX7_day 7 = .ok (.aload_n 0, 1) := by decide +kernel
theorem dX7_day_8 : decode cX7_day 8 = .ok (.iconst 1, 1) := by decide +kernel
theorem dX7_day_9 : decode cX7_day 9 = .ok (.invokevirtual 96, 3) := by decide +kernel
theorem dX7_day_12 : decode cX7_day 12 = .ok (.ireturn, 1) := by decide +kernel
theorem dX7_day_13 : decode cX7_day 13 = .ok (.aload_n 0, 1) := by decide +kernel
theorem dX7_day_14 : decode cX7_day 14 = .ok (.getfield 40, 3) := by decide +kernel
theorem dX7_day_17 : decode cX7_day 17 = .ok (.aload_n 0, 1) := by decide +kernel
theorem dX7_day_18 : decode cX7_day 18 = .ok (.getfield 19, 3) := by decide +kernel
theorem dX7_day_21 : decode cX7_day 21 = .ok (.iconst (-1), 1) := by decide +kernel
theorem dX7_day_22 : decode cX7_day 22 = .ok (.invokevirtual 210, 3) := by decide +kernel
theorem dX7_day_25 : decode cX7_day 25 = .ok (.aload_n 0, 1) := by decide +kernel
theorem dX7_day_26 : decode cX7_day 26 = .ok (.iconst 5, 1) := by decide +kernel
theorem dX7_day_27 : decode cX7_day 27 = .ok (.aload_n 0, 1) := by decide +kernel
theorem dX7_day_28 : decode cX7_day 28 = .ok (.getfield 47, 3) := by decide +kernel
theorem dX7_day_31 : decode cX7_day 31 = .ok (.aload_n 0, 1) := by decide +kernel
theorem dX7_day_32 : decode cX7_day 32 = .ok (.getfield 19, 3) := by decide +kernel
theorem dX7_day_35 : decode cX7_day 35 = .ok (.aload_n 0, 1) := by decide +kernel
theorem dX7_day_36 : decode cX7_day 36 = .ok (.getfield 40, 3) := by decide +kernel
theorem dX7_day_39 : decode cX7_day 39 = .ok (.iload_n 1, 1) := by decide +kernel
theorem dX7_day_40 : decode cX7_day 40 = .ok (.invokevirtual 230, 3) := by decide +kernel
theorem dX7_day_43 : decode cX7_day 43 = .ok (.invokevirtual 168, 3) := by decide +kernel
theorem dX7_day_46 : decode cX7_day 46 = .ok (.ireturn, 1) := by decide +kernel
set_option maxRecDepth 20000 in
theorem ggX7_month_X7_isMonth : GoodIn wsX7_month wsX7_isMonth := goodIn_r _ [4, 5, 6, 3, 7] (by decide +kernel) (by decide +kernel)
set_option maxRecDepth 20000 in
theorem gX7_month_X7_isMonth : GoodIn wsX7_month (va_wsS RX7 234 yX7_isMonth wsX7_isMonth) := goodIn_app (goodIn_of _ (by decide +kernel)) ggX7_month_X7_isMonth
set_option maxRecDepth 20000 in
theorem ggX7_month_X7_lack : GoodIn wsX7_month wsX7_lack := goodIn_r _ [11, 12, 109, 110, 111, 112, 113, 114, 115, 116] (by decide +kernel) (by decide +kernel)
set_option maxRecDepth 20000 in
theorem gX7_month_X7_lack : GoodIn wsX7_month (wsV RX7 96 RX7 yX7_lack wsX7_lack) := goodIn_app (goodIn_of _ (by decide +kernel)) ggX7_month_X7_lack
set_option maxRecDepth 20000 in
theorem ggX7_month_X7_monthWithout : GoodIn wsX7_month wsX7_monthWithout := goodIn_r _ [16, 17, 18, 19, 20, 21, 22, 23, 24, 25, 26, 27, 28, 29, 30, 31, 32, 33, 34, 35, 36, 37, 38, 39, 40, 41, 42, 43, 44, 45, 46, 47, 48, 49, 50, 51, 52, 53, 54, 55, 56, 57, 58, 59, 60, 61, 62, 63, 64, 65, 66, 67, 68, 69, 70, 71, 72, 73, 74, 75, 76, 77, 78, 79, 80, 81, 82, 83, 84, 85, 86, 87, 88, 89, 90, 91, 92, 93, 94, 95, 96, 97, 98, 99, 100, 109, 110, 111, 112, 113, 114, 115, 116, 117, 118, 119, 120, 121, 122, 123, 124, 125, 126, 127, 128] (by decide +kernel) (by decide +kernel)
set_option maxRecDepth 20000 in
theorem gX7_month_X7_monthWithout : GoodIn wsX7_month (wsV RX7 237 RX7 yX7_monthWithout wsX7_monthWithout) := goodIn_app (goodIn_of _ (by decide +kernel)) ggX7_month_X7_monthWithout
set_option maxRecDepth 20000 in
theorem ggX7_month_X7_answerOr : GoodIn wsX7_month wsX7_answerOr := goodIn_r _ [104, 8, 9, 10, 3, 11, 12, 105, 106, 107, 108, 109, 110, 111, 112, 113, 114, 115, 116] (by decide +kernel) (by decide +kernel)
set_option maxRecDepth 20000 in
theorem gX7_month_X7_answerOr : GoodIn wsX7_month (wsV RX7 168 RX7 yX7_answerOr wsX7_answerOr) := goodIn_app (goodIn_of _ (by decide +kernel)) ggX7_month_X7_answerOr
theorem dX7_month_0 : decode cX7_month 0 = .ok (.iload_n 1, 1) := by decide +kernel
theorem dX7_month_1 : decode cX7_month 1 = .ok (.invokestatic 234, 3) := by decide +kernel
theorem dX7_month_4 : decode cX7_month 4 = .ok (.ifCond .ne 9, 3) := by decide +kernel
theorem dX7_month_7 : decode cX7_month 7 = .ok (.aload_n 0, 1) := by decide +kernel
theorem dX7_month_8 : decode cX7_month 8 = .ok (.iconst 1, 1) := by decide +kernel
theorem dX7_month_9 : decode cX7_month 9 = .ok (.invokevirtual 96, 3) := by decide +kernel
theorem dX7_month_12 : decode cX7_month 12 = .ok (.ireturn, 1) := by decide +kernel
theorem dX7_month_13 : decode cX7_month 13 = .ok (.aload_n 0, 1) := by decide +kernel
theorem dX7_month_14 : decode cX7_month 14 = .ok (.iconst 5, 1) := by decide +kernel
theorem dX7_month_15 : decode cX7_month 15 = .ok (.aload_n 0, 1) := by decide +kernel
theorem dX7_month_16 : decode cX7_month 16 = .ok (.iload_n 1, 1) := by decide +kernel
theorem dX7_month_17 : decode cX7_month 17 = .ok (.iconst (-1), 1) := by decide +kernel
theorem dX7_month_18 : decode cX7_month 18 = .ok (.invokevirtual 237, 3) := by decide +kernel
theorem dX7_month_21 : decode cX7_month 21 = .ok (.invokevirtual 168, 3) := by decide +kernel
theorem dX7_month_24 : decode cX7_month 24 = .ok (.ireturn, 1) := by decide +kernel
set_option maxRecDepth 20000 in
theorem ggX7_smooth_X7_isMonth : GoodIn wsX7_smooth wsX7_isMonth := goodIn_r _ [7, 8, 9, 6, 10] (by decide +kernel) (by decide +kernel)
set_option maxRecDepth 20000 in
theorem gX7_smooth_X7_isMonth : GoodIn wsX7_smooth (va_wsS RX7 234 yX7_isMonth wsX7_isMonth) := goodIn_app (goodIn_of _ (by decide +kernel)) ggX7_smooth_X7_isMonth
set_option maxRecDepth 20000 in
theorem ggX7_smooth_X3_isSmoothWidth : GoodIn wsX7_smooth wsX3_isSmoothWidth := goodIn_r _ [14] (by decide +kernel) (by decide +kernel)
set_option maxRecDepth 20000 in
theorem gX7_smooth_X3_isSmoothWidth : GoodIn wsX7_smooth (va_wsS RX7 240 yX3_isSmoothWidth wsX3_isSmoothWidth) := goodIn_app (goodIn_of _ (by decide +kernel)) ggX7_smooth_X3_isSmoothWidth
end
section
set_option maxRecDepth 20000 in
theorem ggX7_smooth_X7_lack : GoodIn wsX7_smooth wsX7_lack := goodIn_r _ [18, 19, 119, 120, 121, 122, 123, 124, 125, 126] (by decide +kernel) (by decide +kernel)
set_option maxRecDepth 20000 in
theorem gX7_smooth_X7_lack : GoodIn wsX7_smooth (wsV RX7 96 RX7 yX7_lack wsX7_lack) := goodIn_app (goodIn_of _ (by decide +kernel)) ggX7_smooth_X7_lack
set_option maxRecDepth 20000 in
theorem ggX7_smooth_X0_reckon : GoodIn wsX7_smooth wsX0_reckon := goodIn_r _ [24, 25, 26, 27, 28, 29, 30, 31, 32, 33, 34, 23, 35, 36, 37, 38, 39, 40, 41, 42, 43, 44, 45, 46, 47, 48, 49, 50, 51, 52, 53, 54, 55, 56, 57, 58, 59, 60, 61, 62, 63, 64, 65, 66, 67, 68, 69, 70, 71, 72, 73, 127, 128, 129, 130, 131, 132, 133, 134, 135] (by decide +kernel) (by decide +kernel)
set_option maxRecDepth 20000 in
theorem gX7_smooth_X0_reckon : GoodIn wsX7_smooth (wsV RX7 210 RX0 yX0_reckon wsX0_reckon) := goodIn_app (goodIn_of _ (by decide +kernel)) ggX7_smooth_X0_reckon
set_option maxRecDepth 20000 in
theorem ggX7_smooth_X3_reckonMonths : GoodIn wsX7_smooth wsX3_reckonMonths := goodIn_r _ [77, 78, 79, 80, 81, 13, 82, 83, 84, 85, 86, 87, 88, 89, 90, 46, 91, 92, 93, 94, 95, 96, 97, 98, 99, 100, 101, 102, 103, 104, 136, 137, 138, 131, 132, 133, 134, 135, 127, 128, 129, 130] (by decide +kernel) (by decide +kernel)
set_option maxRecDepth 20000 in
theorem gX7_smooth_X3_reckonMonths : GoodIn wsX7_smooth (wsV RX7 243 RX3 yX3_reckonMonths wsX3_reckonMonths) := goodIn_app (goodIn_of _ (by decide +kernel)) ggX7_smooth_X3_reckonMonths
set_option maxRecDepth 20000 in
theorem ggX7_smooth_X3_smoothOf : GoodIn wsX7_smooth wsX3_smoothOf := goodIn_r _ [108, 78, 109, 37, 38, 39, 110, 41, 42, 136, 137, 138] (by decide +kernel) (by decide +kernel)
set_option maxRecDepth 20000 in
theorem gX7_smooth_X3_smoothOf : GoodIn wsX7_smooth (wsV RX7 247 RX3 yX3_smoothOf wsX3_smoothOf) := goodIn_app (goodIn_of _ (by decide +kernel)) ggX7_smooth_X3_smoothOf
set_option maxRecDepth 20000 in
theorem ggX7_smooth_X7_answerOr : GoodIn wsX7_smooth wsX7_answerOr := goodIn_r _ [114, 15, 16, 17, 6, 18, 19, 115, 116, 117, 118, 119, 120, 121, 122, 123, 124, 125, 126] (by decide +kernel) (by decide +kernel)
set_option maxRecDepth 20000 in
theorem gX7_smooth_X7_answerOr : GoodIn wsX7_smooth (wsV RX7 168 RX7 yX7_answerOr wsX7_answerOr) := goodIn_app (goodIn_of _ (by decide +kernel)) ggX7_smooth_X7_answerOr
theorem dX7_smooth_0 : decode cX7_smooth 0 = .ok (.iload_n 1, 1) := by decide +kernel
theorem dX7_smooth_1 : decode cX7_smooth 1 = .ok (.invokestatic 234, 3) := by decide +kernel
theorem dX7_smooth_4 : decode cX7_smooth 4 = .ok (.ifCond .eq 10, 3) := by decide +kernel
theorem dX7_smooth_7 : decode cX7_smooth 7 = .ok (.iload_n 2, 1) := by decide +kernel
theorem dX7_smooth_8 : decode cX7_smooth 8 = .ok (.invokestatic 240, 3) := by decide +kernel
theorem dX7_smooth_11 : decode cX7_smooth 11 = .ok (.ifCond .ne 9, 3) := by decide +kernel
theorem dX7_smooth_14 : decode cX7_smooth 14 = .ok (.aload_n 0, 1) := by decide +kernel
theorem dX7_smooth_15 : decode cX7_smooth 15 = .ok (.iconst 1, 1) := by decide +kernel
theorem dX7_smooth_16 : decode cX7_smooth 16 = .ok (.invokevirtual 96, 3) := by decide +kernel
theorem dX7_smooth_19 : decode cX7_smooth 19 = .ok (.ireturn, 1) := by decide +kernel
theorem dX7_smooth_20 : decode cX7_smooth 20 = .ok (.aload_n 0, 1) := by decide +kernel
theorem dX7_smooth_21 : decode cX7_smooth 21 = .ok (.getfield 40, 3) := by decide +kernel
theorem dX7_smooth_24 : decode cX7_smooth 24 = .ok (.aload_n 0, 1) := by decide +kernel
theorem dX7_smooth_25 : decode cX7_smooth 25 = .ok (.getfield 19, 3) := by decide +kernel
theorem dX7_smooth_28 : decode cX7_smooth 28 = .ok (.iconst (-1), 1) := by decide +kernel
theorem dX7_smooth_29 : decode cX7_smooth 29 = .ok (.invokevirtual 210, 3) := by decide +kernel
theorem dX7_smooth_32 : decode cX7_smooth 32 = .ok (.aload_n 0, 1) := by decide +kernel
theorem dX7_smooth_33 : decode cX7_smooth 33 = .ok (.getfield 47, 3) := by decide +kernel
theorem dX7_smooth_36 : decode cX7_smooth 36 = .ok (.aload_n 0, 1) := by decide +kernel
theorem dX7_smooth_37 : decode cX7_smooth 37 = .ok (.getfield 19, 3) := by decide +kernel
theorem dX7_smooth_40 : decode cX7_smooth 40 = .ok (.aload_n 0, 1) := by decide +kernel
theorem dX7_smooth_41 : decode cX7_smooth 41 = .ok (.getfield 40, 3) := by decide +kernel
theorem dX7_smooth_44 : decode cX7_smooth 44 = .ok (.invokevirtual 243, 3) := by decide +kernel
theorem dX7_smooth_47 : decode cX7_smooth 47 = .ok (.aload_n 0, 1) := by decide +kernel
theorem dX7_smooth_48 : decode cX7_smooth 48 = .ok (.iconst 5, 1) := by decide +kernel
theorem dX7_smooth_49 : decode cX7_smooth 49 = .ok (.aload_n 0, 1) := by decide +kernel
theorem dX7_smooth_50 : decode cX7_smooth 50 = .ok (.getfield 47, 3) := by decide +kernel
theorem dX7_smooth_53 : decode cX7_smooth 53 = .ok (.iload_n 1, 1) := by decide +kernel
theorem dX7_smooth_54 : decode cX7_smooth 54 = .ok (.iload_n 2, 1) := by decide +kernel
theorem dX7_smooth_55 : decode cX7_smooth 55 = .ok (.invokevirtual 247, 3) := by decide +kernel
theorem dX7_smooth_58 : decode cX7_smooth 58 = .ok (.invokevirtual 168, 3) := by decide +kernel
theorem dX7_smooth_61 : decode cX7_smooth 61 = .ok (.ireturn, 1) := by decide +kernel
set_option maxRecDepth 20000 in
theorem ggX7_turn_X3_isSmoothWidth : GoodIn wsX7_turn wsX3_isSmoothWidth := goodIn_r _ [7] (by decide +kernel) (by decide +kernel)
set_option maxRecDepth 20000 in
theorem gX7_turn_X3_isSmoothWidth : GoodIn wsX7_turn (va_wsS RX7 240 yX3_isSmoothWidth wsX3_isSmoothWidth) := goodIn_app (goodIn_of _ (by decide +kernel)) ggX7_turn_X3_isSmoothWidth
set_option maxRecDepth 20000 in
theorem ggX7_turn_X7_lack : GoodIn wsX7_turn wsX7_lack := goodIn_r _ [12, 13, 130, 131, 132, 133, 134, 135, 136, 137] (by decide +kernel) (by decide +kernel)
set_option maxRecDepth 20000 in
theorem gX7_turn_X7_lack : GoodIn wsX7_turn (wsV RX7 96 RX7 yX7_lack wsX7_lack) := goodIn_app (goodIn_of _ (by decide +kernel)) ggX7_turn_X7_lack
set_option maxRecDepth 20000 in
theorem ggX7_turn_X0_reckon : GoodIn wsX7_turn wsX0_reckon := goodIn_r _ [18, 19, 20, 21, 22, 23, 24, 25, 26, 27, 28, 17, 29, 30, 31, 32, 33, 34, 35, 36, 37, 38, 39, 40, 41, 42, 43, 44, 45, 46, 47, 48, 49, 50, 51, 52, 53, 54, 55, 56, 57, 58, 59, 60, 61, 62, 63, 64, 65, 66, 67, 138, 139, 140, 141, 142, 143, 144, 145, 146] (by decide +kernel) (by decide +kernel)
set_option maxRecDepth 20000 in
theorem gX7_turn_X0_reckon : GoodIn wsX7_turn (wsV RX7 210 RX0 yX0_reckon wsX0_reckon) := goodIn_app (goodIn_of _ (by decide +kernel)) ggX7_turn_X0_reckon
set_option maxRecDepth 20000 in
theorem ggX7_turn_X3_reckonMonths : GoodIn wsX7_turn wsX3_reckonMonths := goodIn_r _ [71, 72, 73, 74, 75, 6, 76, 77, 78, 79, 80, 81, 82, 83, 84, 40, 85, 86, 87, 88, 89, 90, 91, 92, 93, 94, 95, 96, 97, 98, 147, 148, 149, 142, 143, 144, 145, 146, 138, 139, 140, 141] (by decide +kernel) (by decide +kernel)
set_option maxRecDepth 20000 in
theorem gX7_turn_X3_reckonMonths : GoodIn wsX7_turn (wsV RX7 243 RX3 yX3_reckonMonths wsX3_reckonMonths) := goodIn_app (goodIn_of _ (by decide +kernel)) ggX7_turn_X3_reckonMonths
set_option maxRecDepth 20000 in
theorem ggX7_turn_X3_reckonSmooths : GoodIn wsX7_turn wsX3_reckonSmooths := goodIn_r _ [102, 103, 104, 105, 106, 6, 107, 72, 108, 31, 32, 33, 109, 35, 36, 147, 148, 149] (by decide +kernel) (by decide +kernel)
set_option maxRecDepth 20000 in
theorem gX7_turn_X3_reckonSmooths : GoodIn wsX7_turn (wsV RX7 250 RX3 yX3_reckonSmooths wsX3_reckonSmooths) := goodIn_app (goodIn_of _ (by decide +kernel)) ggX7_turn_X3_reckonSmooths
set_option maxRecDepth 20000 in
theorem ggX7_turn_X3_findTurn : GoodIn wsX7_turn wsX3_findTurn := goodIn_r _ [113, 114, 115, 116, 6, 117, 103, 108, 31, 32, 33, 109, 35, 36, 118, 119, 120, 121, 147, 148, 149] (by decide +kernel) (by decide +kernel)
set_option maxRecDepth 20000 in
theorem gX7_turn_X3_findTurn : GoodIn wsX7_turn (wsV RX7 254 RX3 yX3_findTurn wsX3_findTurn) := goodIn_app (goodIn_of _ (by decide +kernel)) ggX7_turn_X3_findTurn
set_option maxRecDepth 20000 in
theorem ggX7_turn_X7_answerOr : GoodIn wsX7_turn wsX7_answerOr := goodIn_r _ [125, 8, 9, 10, 11, 12, 13, 126, 127, 128, 129, 130, 131, 132, 133, 134, 135, 136, 137] (by decide +kernel) (by decide +kernel)
set_option maxRecDepth 20000 in
theorem gX7_turn_X7_answerOr : GoodIn wsX7_turn (wsV RX7 168 RX7 yX7_answerOr wsX7_answerOr) := goodIn_app (goodIn_of _ (by decide +kernel)) ggX7_turn_X7_answerOr
theorem dX7_turn_0 : decode cX7_turn 0 = .ok (.iload_n 2, 1) := by decide +kernel
theorem dX7_turn_1 : decode cX7_turn 1 = .ok (.invokestatic 240, 3) := by decide +kernel
theorem dX7_turn_4 : decode cX7_turn 4 = .ok (.ifCond .eq 14, 3) := by decide +kernel
theorem dX7_turn_7 : decode cX7_turn 7 = .ok (.iload_n 3, 1) := by decide +kernel
theorem dX7_turn_8 : decode cX7_turn 8 = .ok (.iconst 1, 1) := by decide +kernel
theorem dX7_turn_9 : decode cX7_turn 9 = .ok (.if_icmp .lt 9, 3) := by decide +kernel
theorem dX7_turn_12 : decode cX7_turn 12 = .ok (.iload_n 3, 1) := by decide +kernel
theorem dX7_turn_13 : decode cX7_turn 13 = .ok (.bipush 8, 2) := by decide +kernel
theorem dX7_turn_15 : decode cX7_turn 15 = .ok (.if_icmp .le 9, 3) := by decide +kernel
theorem dX7_turn_18 : decode cX7_turn 18 = .ok (.aload_n 0, 1) := by decide +kernel
theorem dX7_turn_19 : decode cX7_turn 19 = .ok (.iconst 1, 1) := by decide +kernel
theorem dX7_turn_20 : decode cX7_turn 20 = .ok (.invokevirtual 96, 3) := by decide +kernel
theorem dX7_turn_23 : decode cX7_turn 23 = .ok (.ireturn, 1) := by decide +kernel
theorem dX7_turn_24 : decode cX7_turn 24 = .ok (.iload_n 1, 1) := by decide +kernel
theorem dX7_turn_25 : decode cX7_turn 25 = .ok (.ifCond .ge 10, 3) := by decide +kernel
theorem dX7_turn_28 : decode cX7_turn 28 = .ok (.aload_n 0, 1) := by decide +kernel
theorem dX7_turn_29 : decode cX7_turn 29 = .ok (.bipush 6, 2) := by decide +kernel
theorem dX7_turn_31 : decode cX7_turn 31 = .ok (.invokevirtual 96, 3) := by decide +kernel
theorem dX7_turn_34 : decode cX7_turn 34 = .ok (.ireturn, 1) := by decide +kernel
theorem dX7_turn_35 : decode cX7_turn 35 = .ok (.aload_n 0, 1) := by decide +kernel
theorem dX7_turn_36 : decode cX7_turn 36 = .ok (.getfield 40, 3) := by decide +kernel
theorem dX7_turn_39 : decode cX7_turn 39 = .ok (.aload_n 0, 1) := by decide +kernel
theorem dX7_turn_40 : decode cX7_turn 40 = .ok (.getfield 19, 3) := by decide +kernel
theorem dX7_turn_43 : decode cX7_turn 43 = .ok (.iconst (-1), 1) := by decide +kernel
theorem dX7_turn_44 : decode cX7_turn 44 = .ok (.invokevirtual 210, 3) := by decide +kernel
theorem dX7_turn_47 : decode cX7_turn 47 = .ok (.aload_n 0, 1) := by decide +kernel
theorem dX7_turn_48 : decode cX7_turn 48 = .ok (.getfield 47, 3) := by decide +kernel
theorem dX7_turn_51 : decode cX7_turn 51 = .ok (.aload_n 0, 1) := by decide +kernel
theorem dX7_turn_52 : decode cX7_turn 52 = .ok (.getfield 19, 3) := by decide +kernel
theorem dX7_turn_55 : decode cX7_turn 55 = .ok (.aload_n 0, 1) := by decide +kernel
theorem dX7_turn_56 : decode cX7_turn 56 = .ok (.getfield 40, 3) := by decide +kernel
theorem dX7_turn_59 : decode cX7_turn 59 = .ok (.invokevirtual 243, 3) := by decide +kernel
theorem dX7_turn_62 : decode cX7_turn 62 = .ok (.aload_n 0, 1) := by decide +kernel
theorem dX7_turn_63 : decode cX7_turn 63 = .ok (.getfield 47, 3) := by decide +kernel
theorem dX7_turn_66 : decode cX7_turn 66 = .ok (.iload_n 2, 1) := by decide +kernel
theorem dX7_turn_67 : decode cX7_turn 67 = .ok (.invokevirtual 250, 3) := by decide +kernel
theorem dX7_turn_70 : decode cX7_turn 70 = .ok (.aload_n 0, 1) := by decide +kernel
theorem dX7_turn_71 : decode cX7_turn 71 = .ok (.bipush 6, 2) := by decide +kernel
theorem dX7_turn_73 : decode cX7_turn 73 = .ok (.aload_n 0, 1) := by decide +kernel
theorem dX7_turn_74 : decode cX7_turn 74 = .ok (.getfield 47, 3) := by decide +kernel
theorem dX7_turn_77 : decode cX7_turn 77 = .ok (.iload_n 1, 1) := by decide +kernel
theorem dX7_turn_78 : decode cX7_turn 78 = .ok (.iload_n 3, 1) := by decide +kernel
theorem dX7_turn_79 : decode cX7_turn 79 = .ok (.iload 4, 2) := by decide +kernel
theorem dX7_turn_81 : decode cX7_turn 81 = .ok (.invokevirtual 254, 3) := by decide +kernel
theorem dX7_turn_84 : decode cX7_turn 84 = .ok (.invokevirtual 168, 3) := by decide +kernel
theorem dX7_turn_87 : decode cX7_turn 87 = .ok (.ireturn, 1) := by decide +kernel
set_option maxRecDepth 20000 in
theorem ggX7_change_X7_isMonth : GoodIn wsX7_change wsX7_isMonth := goodIn_r _ [4, 5, 6, 3, 7] (by decide +kernel) (by decide +kernel)
set_option maxRecDepth 20000 in
theorem gX7_change_X7_isMonth : GoodIn wsX7_change (va_wsS RX7 234 yX7_isMonth wsX7_isMonth) := goodIn_app (goodIn_of _ (by decide +kernel)) ggX7_change_X7_isMonth
set_option maxRecDepth 20000 in
theorem ggX7_change_X7_isEye : GoodIn wsX7_change wsX7_isEye := goodIn_r _ [11, 12, 109, 110, 111, 112, 113, 114, 115, 116, 117, 118, 119, 120, 121] (by decide +kernel) (by decide +kernel)
set_option maxRecDepth 20000 in
theorem gX7_change_X7_isEye : GoodIn wsX7_change (wsV RX7 122 RX7 yX7_isEye wsX7_isEye) := goodIn_app (goodIn_of _ (by decide +kernel)) ggX7_change_X7_isEye
set_option maxRecDepth 20000 in
theorem ggX7_change_X7_lack : GoodIn wsX7_change wsX7_lack := goodIn_r _ [16, 17, 109, 110, 111, 112, 113, 114, 115, 116] (by decide +kernel) (by decide +kernel)
set_option maxRecDepth 20000 in
theorem gX7_change_X7_lack : GoodIn wsX7_change (wsV RX7 96 RX7 yX7_lack wsX7_lack) := goodIn_app (goodIn_of _ (by decide +kernel)) ggX7_change_X7_lack
set_option maxRecDepth 20000 in
theorem ggX7_change_X7_monthWithout : GoodIn wsX7_change wsX7_monthWithout := goodIn_r _ [21, 22, 12, 23, 24, 25, 26, 27, 28, 29, 30, 31, 32, 33, 34, 35, 36, 37, 38, 39, 40, 41, 42, 43, 44, 45, 46, 47, 48, 49, 50, 51, 52, 53, 54, 55, 56, 57, 58, 59, 60, 61, 62, 63, 64, 65, 66, 67, 68, 69, 70, 71, 72, 73, 74, 75, 76, 77, 78, 79, 80, 81, 82, 83, 84, 85, 86, 87, 88, 89, 90, 91, 92, 93, 94, 95, 96, 97, 98, 99, 100, 101, 102, 103, 104, 109, 110, 111, 112, 113, 114, 115, 116, 122, 123, 124, 125, 117, 118, 119, 120, 121, 126, 127, 128] (by decide +kernel) (by decide +kernel)
set_option maxRecDepth 20000 in
theorem gX7_change_X7_monthWithout : GoodIn wsX7_change (wsV RX7 237 RX7 yX7_monthWithout wsX7_monthWithout) := goodIn_app (goodIn_of _ (by decide +kernel)) ggX7_change_X7_monthWithout
set_option maxRecDepth 20000 in
theorem ggX7_change_X7_answer : GoodIn wsX7_change wsX7_answer := goodIn_r _ [108, 17, 109, 110, 111, 112, 113, 114, 115, 116] (by decide +kernel) (by decide +kernel)
set_option maxRecDepth 20000 in
theorem gX7_change_X7_answer : GoodIn wsX7_change (wsV RX7 119 RX7 yX7_answer wsX7_answer) := goodIn_app (goodIn_of _ (by decide +kernel)) ggX7_change_X7_answer
theorem dX7_change_0 : decode cX7_change 0 = .ok (.iload_n 1, 1) := by decide +kernel
theorem dX7_change_1 : decode cX7_change 1 = .ok (.invokestatic 234, 3) := by decide +kernel
theorem dX7_change_4 : decode cX7_change 4 = .ok (.ifCond .eq 15, 3) := by decide +kernel
theorem dX7_change_7 : decode cX7_change 7 = .ok (.aload_n 0, 1) := by decide +kernel
theorem dX7_change_8 : decode cX7_change 8 = .ok (.iload_n 2, 1) := by decide +kernel
theorem dX7_change_9 : decode cX7_change 9 = .ok (.invokevirtual 122, 3) := by decide +kernel
theorem dX7_change_12 : decode cX7_change 12 = .ok (.ifCond .eq 7, 3) := by decide +kernel
theorem dX7_change_15 : decode cX7_change 15 = .ok (.iload_n 2, 1) := by decide +kernel
theorem dX7_change_16 : decode cX7_change 16 = .ok (.ifCond .ne 9, 3) := by decide +kernel
theorem dX7_change_19 : decode cX7_change 19 = .ok (.aload_n 0, 1) := by decide +kernel
theorem dX7_change_20 : decode cX7_change 20 = .ok (.iconst 1, 1) := by decide +kernel
theorem dX7_change_21 : decode cX7_change 21 = .ok (.invokevirtual 96, 3) := by decide +kernel
theorem dX7_change_24 : decode cX7_change 24 = .ok (.ireturn, 1) := by decide +kernel
theorem dX7_change_25 : decode cX7_change 25 = .ok (.aload_n 0, 1) := by decide +kernel
theorem dX7_change_26 : decode cX7_change 26 = .ok (.iload_n 1, 1) := by decide +kernel
theorem dX7_change_27 : decode cX7_change 27 = .ok (.iconst (-1), 1) := by decide +kernel
theorem dX7_change_28 : decode cX7_change 28 = .ok (.invokevirtual 237, 3) := by decide +kernel
theorem dX7_change_31 : decode cX7_change 31 = .ok (.istore_n 3, 1) := by decide +kernel
theorem dX7_change_32 : decode cX7_change 32 = .ok (.aload_n 0, 1) := by decide +kernel
theorem dX7_change_33 : decode cX7_change 33 = .ok (.iload_n 1, 1) := by decide +kernel
theorem dX7_change_34 : decode cX7_change 34 = .ok (.iload_n 2, 1) := by decide +kernel
theorem dX7_change_35 : decode cX7_change 35 = .ok (.invokevirtual 237, 3) := by decide +kernel
theorem dX7_change_38 : decode cX7_change 38 = .ok (.istore 4, 2) := by decide +kernel
theorem dX7_change_40 : decode cX7_change 40 = .ok (.iload_n 3, 1) := by decide +kernel
theorem dX7_change_41 : decode cX7_change 41 = .ok (.iconst (-1), 1) := by decide +kernel
theorem dX7_change_42 : decode cX7_change 42 = .ok (.if_icmp .eq 9, 3) := by decide +kernel
theorem dX7_change_45 : decode cX7_change 45 = .ok (.iload 4, 2) := by decide +kernel
theorem dX7_change_47 : decode cX7_change 47 = .ok (.iconst (-1), 1) := by decide +kernel
theorem dX7_change_48 : decode cX7_change 48 = .ok (.if_icmp .ne 9, 3) := by decide +kernel
theorem dX7_change_51 : decode cX7_change 51 = .ok (.aload_n 0, 1) := by decide +kernel
theorem dX7_change_52 : decode cX7_change 52 = .ok (.iconst 5, 1) := by decide +kernel
theorem dX7_change_53 : decode cX7_change 53 = .ok (.invokevirtual 96, 3) := by decide +kernel
theorem dX7_change_56 : decode cX7_change 56 = .ok (.ireturn, 1) := by decide +kernel
theorem dX7_change_57 : decode cX7_change 57 = .ok (.aload_n 0, 1) := by decide +kernel
theorem dX7_change_58 : decode cX7_change 58 = .ok (.iload_n 3, 1) := by decide +kernel
theorem dX7_change_59 : decode cX7_change 59 = .ok (.iload 4, 2) := by decide +kernel
theorem dX7_change_61 : decode cX7_change 61 = .ok (.isub, 1) := by decide +kernel
theorem dX7_change_62 : decode cX7_change 62 = .ok (.invokevirtual 119, 3) := by decide +kernel
theorem dX7_change_65 : decode cX7_change 65 = .ok (.ireturn, 1) := by decide +kernel
theorem dX7_isWithin_0 : decode cX7_isWithin 0 = .ok (.iload_n 0, 1) := by decide +kernel
theorem dX7_isWithin_1 : decode cX7_isWithin 1 = .ok (.ifCond .lt 12, 3) := by decide +kernel
theorem dX7_isWithin_4 : decode cX7_isWithin 4 = .ok (.iload_n 0, 1) := by decide +kernel
theorem dX7_isWithin_5 : decode cX7_isWithin 5 = .ok (.iload_n 1, 1) := by decide +kernel
theorem dX7_isWithin_6 : decode cX7_isWithin 6 = .ok (.if_icmp .gt 7, 3) := by decide +kernel
theorem dX7_isWithin_9 : decode cX7_isWithin 9 = .ok (.iconst 1, 1) := by decide +kernel
theorem dX7_isWithin_10 : decode cX7_isWithin 10 = .ok (.goto 4, 3) := by decide +kernel
theorem dX7_isWithin_13 : decode cX7_isWithin 13 = .ok (.iconst 0, 1) := by decide +kernel
theorem dX7_isWithin_14 : decode cX7_isWithin 14 = .ok (.ireturn, 1) := by decide +kernel
set_option maxRecDepth 20000 in
theorem ggX7_isDay_X7_isWithin : GoodIn wsX7_isDay wsX7_isWithin := goodIn_r _ [4] (by decide +kernel) (by decide +kernel)
set_option maxRecDepth 20000 in
theorem gX7_isDay_X7_isWithin : GoodIn wsX7_isDay (va_wsS RX7 69 yX7_isWithin wsX7_isWithin) := goodIn_app (goodIn_of _ (by decide +kernel)) ggX7_isDay_X7_isWithin
theorem dX7_isDay_0 : decode cX7_isDay 0 = .ok (.iload_n 0, 1) := by decide +kernel
theorem dX7_isDay_1 : decode cX7_isDay 1 = .ok (.sipush 239, 3) := by decide +kernel
theorem dX7_isDay_4 : decode cX7_isDay 4 = .ok (.invokestatic 69, 3) := by decide +kernel
theorem dX7_isDay_7 : decode cX7_isDay 7 = .ok (.ireturn, 1) := by decide +kernel
set_option maxRecDepth 20000 in
theorem ggX7_isMonth_X7_isWithin : GoodIn wsX7_isMonth wsX7_isWithin := goodIn_r _ [4] (by decide +kernel) (by decide +kernel)
set_option maxRecDepth 20000 in
theorem gX7_isMonth_X7_isWithin : GoodIn wsX7_isMonth (va_wsS RX7 69 yX7_isWithin wsX7_isWithin) := goodIn_app (goodIn_of _ (by decide +kernel)) ggX7_isMonth_X7_isWithin
theorem dX7_isMonth_0 : decode cX7_isMonth 0 = .ok (.iload_n 0, 1) := by decide +kernel
theorem dX7_isMonth_1 : decode cX7_isMonth 1 = .ok (.bipush 23, 2) := by decide +kernel
theorem dX7_isMonth_3 : decode cX7_isMonth 3 = .ok (.invokestatic 69, 3) := by decide +kernel
theorem dX7_isMonth_6 : decode cX7_isMonth 6 = .ok (.ireturn, 1) := by decide +kernel
theorem dX7_isEye_0 : decode cX7_isEye 0 = .ok (.iload_n 1, 1) := by decide +kernel
theorem dX7_isEye_1 : decode cX7_isEye 1 = .ok (.ifCond .lt 18, 3) := by decide +kernel
theorem dX7_isEye_4 : decode cX7_isEye 4 = .ok (.iload_n 1, 1) := by decide +kernel
theorem dX7_isEye_5 : decode cX7_isEye 5 = .ok (.aload_n 0, 1) := by decide +kernel
theorem dX7_isEye_6 : decode cX7_isEye 6 = .ok (.getfield 19, 3) := by decide +kernel
theorem dX7_isEye_9 : decode cX7_isEye 9 = .ok (.getfield 112, 3) := by decide +kernel
theorem dX7_isEye_12 : decode cX7_isEye 12 = .ok (.if_icmp .ge 7, 3) := by decide +kernel
theorem dX7_isEye_15 : decode cX7_isEye 15 = .ok (.iconst 1, 1) := by decide +kernel
theorem dX7_isEye_16 : decode cX7_isEye 16 = .ok (.goto 4, 3) := by decide +kernel
theorem dX7_isEye_19 : decode cX7_isEye 19 = .ok (.iconst 0, 1) := by decide +kernel
theorem dX7_isEye_20 : decode cX7_isEye 20 = .ok (.ireturn, 1) := by decide +kernel
set_option maxRecDepth 20000 in
theorem ggX7_arePair_X7_isEye : GoodIn wsX7_arePair wsX7_isEye := goodIn_r _ [5, 6, 7, 8, 9, 10, 11, 12, 13, 14, 15, 16, 17, 18, 19] (by decide +kernel) (by decide +kernel)
set_option maxRecDepth 20000 in
theorem gX7_arePair_X7_isEye : GoodIn wsX7_arePair (wsV RX7 122 RX7 yX7_isEye wsX7_isEye) := goodIn_app (goodIn_of _ (by decide +kernel)) ggX7_arePair_X7_isEye
theorem dX7_arePair_0 : decode cX7_arePair 0 = .ok (.aload_n 0, 1) := by decide +kernel
theorem dX7_arePair_1 : decode cX7_arePair 1 = .ok (.iload_n 1, 1) := by decide +kernel
theorem dX7_arePair_2 : decode cX7_arePair 2 = .ok (.invokevirtual 122, 3) := by decide +kernel
theorem dX7_arePair_5 : decode cX7_arePair 5 = .ok (.ifCond .eq 20, 3) := by decide +kernel
theorem dX7_arePair_8 : decode cX7_arePair 8 = .ok (.aload_n 0, 1) := by decide +kernel
theorem dX7_arePair_9 : decode cX7_arePair 9 = .ok (.iload_n 2, 1) := by decide +kernel
theorem dX7_arePair_10 : decode cX7_arePair 10 = .ok (.invokevirtual 122, 3) := by decide +kernel
theorem dX7_arePair_13 : decode cX7_arePair 13 = .ok (.ifCond .eq 12, 3) := by decide +kernel
theorem dX7_arePair_16 : decode cX7_arePair 16 = .ok (.iload_n 1, 1) := by decide +kernel
theorem dX7_arePair_17 : decode cX7_arePair 17 = .ok (.iload_n 2, 1) := by decide +kernel
theorem dX7_arePair_18 : decode cX7_arePair 18 = .ok (.if_icmp .eq 7, 3) := by decide +kernel
theorem dX7_arePair_21 : decode cX7_arePair 21 = .ok (.iconst 1, 1) := by decide +kernel
theorem dX7_arePair_22 : decode cX7_arePair 22 = .ok (.goto 4, 3) := by decide +kernel
theorem dX7_arePair_25 : decode cX7_arePair 25 = .ok (.iconst 0, 1) := by decide +kernel
theorem dX7_arePair_26 : decode cX7_arePair 26 = .ok (.ireturn, 1) := by decide +kernel
theorem dX7_agree_0 : decode cX7_agree 0 = .ok (.aload_n 0, 1) := by decide +kernel
theorem dX7_agree_1 : decode cX7_agree 1 = .ok (.iconst 0, 1) := by decide +kernel
theorem dX7_agree_2 : decode cX7_agree 2 = .ok (.putfield 58, 3) := by decide +kernel
theorem dX7_agree_5 : decode cX7_agree 5 = .ok (.iconst 1, 1) := by decide +kernel
theorem dX7_agree_6 : decode cX7_agree 6 = .ok (.ireturn, 1) := by decide +kernel
theorem dX7_refuse_0 : decode cX7_refuse 0 = .ok (.aload_n 0, 1) := by decide +kernel
theorem dX7_refuse_1 : decode cX7_refuse 1 = .ok (.iload_n 1, 1) := by decide +kernel
theorem dX7_refuse_2 : decode cX7_refuse 2 = .ok (.putfield 58, 3) := by decide +kernel
theorem dX7_refuse_5 : decode cX7_refuse 5 = .ok (.iconst 0, 1) := by decide +kernel
theorem dX7_refuse_6 : decode cX7_refuse 6 = .ok (.ireturn, 1) := by decide +kernel
theorem dX7_answer_0 : decode cX7_answer 0 = .ok (.aload_n 0, 1) := by decide +kernel
theorem dX7_answer_1 : decode cX7_answer 1 = .ok (.iconst 0, 1) := by decide +kernel
theorem dX7_answer_2 : decode cX7_answer 2 = .ok (.putfield 58, 3) := by decide +kernel
theorem dX7_answer_5 : decode cX7_answer 5 = .ok (.iload_n 1, 1) := by decide +kernel
theorem dX7_answer_6 : decode cX7_answer 6 = .ok (.ireturn, 1) := by decide +kernel
theorem dX7_lack_0 : decode cX7_lack 0 = .ok (.aload_n 0, 1) := by decide +kernel
theorem dX7_lack_1 : decode cX7_lack 1 = .ok (.iload_n 1, 1) := by decide +kernel
theorem dX7_lack_2 : decode cX7_lack 2 = .ok (.putfield 58, 3) := by decide +kernel
theorem dX7_lack_5 : decode cX7_lack 5 = .ok (.iconst (-1), 1) := by decide +kernel
theorem dX7_lack_6 : decode cX7_lack 6 = .ok (.ireturn, 1) := by decide +kernel
set_option maxRecDepth 20000 in
theorem ggX7_answerOr_X7_lack : GoodIn wsX7_answerOr wsX7_lack := goodIn_r _ [5, 6, 11, 12, 13, 14, 15, 16, 17, 18] (by decide +kernel) (by decide +kernel)
set_option maxRecDepth 20000 in
theorem gX7_answerOr_X7_lack : GoodIn wsX7_answerOr (wsV RX7 96 RX7 yX7_lack wsX7_lack) := goodIn_app (goodIn_of _ (by decide +kernel)) ggX7_answerOr_X7_lack
set_option maxRecDepth 20000 in
theorem ggX7_answerOr_X7_answer : GoodIn wsX7_answerOr wsX7_answer := goodIn_r _ [10, 6, 11, 12, 13, 14, 15, 16, 17, 18] (by decide +kernel) (by decide +kernel)
set_option maxRecDepth 20000 in
theorem gX7_answerOr_X7_answer : GoodIn wsX7_answerOr (wsV RX7 119 RX7 yX7_answer wsX7_answer) := goodIn_app (goodIn_of _ (by decide +kernel)) ggX7_answerOr_X7_answer
theorem dX7_answerOr_0 : decode cX7_answerOr 0 = .ok (.iload_n 2, 1) := by decide +kernel
theorem dX7_answerOr_1 : decode cX7_answerOr 1 = .ok (.iconst (-1), 1) := by decide +kernel
theorem dX7_answerOr_2 : decode cX7_answerOr 2 = .ok (.if_icmp .ne 11, 3) := by decide +kernel
theorem dX7_answerOr_5 : decode cX7_answerOr 5 = .ok (.aload_n 0, 1) := by decide +kernel
theorem dX7_answerOr_6 : decode cX7_answerOr 6 = .ok (.iload_n 1, 1) := by decide +kernel
theorem dX7_answerOr_7 : decode cX7_answerOr 7 = .ok (.invokevirtual 96, 3) := by decide +kernel
theorem dX7_answerOr_10 : decode cX7_answerOr 10 = .ok (.goto 8, 3) := by decide +kernel
theorem dX7_answerOr_13 : decode cX7_answerOr 13 = .ok (.aload_n 0, 1) := by decide +kernel
theorem dX7_answerOr_14 : decode cX7_answerOr 14 = .ok (.iload_n 2, 1) := by decide +kernel
theorem dX7_answerOr_15 : decode cX7_answerOr 15 = .ok (.invokevirtual 119, 3) := by decide +kernel
theorem dX7_answerOr_18 : decode cX7_answerOr 18 = .ok (.ireturn, 1) := by decide +kernel
set_option maxRecDepth 20000 in
theorem ggX7_tellFraction_X1_put : GoodIn wsX7_tellFraction wsX1_put := goodIn_r _ [6, 7, 8, 9, 10, 5, 11, 26, 27] (by decide +kernel) (by decide +kernel)
end
section
set_option maxRecDepth 20000 in
theorem gX7_tellFraction_X1_put : GoodIn wsX7_tellFraction (wsV RX7 258 RX1 yX1_put wsX1_put) := goodIn_app (goodIn_of _ (by decide +kernel)) ggX7_tellFraction_X1_put
set_option maxRecDepth 20000 in
theorem ggX7_tellFraction_X7_answer : GoodIn wsX7_tellFraction wsX7_answer := goodIn_r _ [16, 17, 18, 19, 20, 21, 22, 23, 24, 25] (by decide +kernel) (by decide +kernel)
set_option maxRecDepth 20000 in
theorem gX7_tellFraction_X7_answer : GoodIn wsX7_tellFraction (wsV RX7 119 RX7 yX7_answer wsX7_answer) := goodIn_app (goodIn_of _ (by decide +kernel)) ggX7_tellFraction_X7_answer
theorem dX7_tellFraction_0 : decode cX7_tellFraction 0 = .ok (.aload_n 0, 1) := by decide +kernel
theorem dX7_tellFraction_1 : decode cX7_tellFraction 1 = .ok (.getfield 54, 3) := by decide +kernel
theorem dX7_tellFraction_4 : decode cX7_tellFraction 4 = .ok (.iload_n 1, 1) := by decide +kernel
theorem dX7_tellFraction_5 : decode cX7_tellFraction 5 = .ok (.iload_n 2, 1) := by decide +kernel
theorem dX7_tellFraction_6 : decode cX7_tellFraction 6 = .ok (.invokevirtual 258, 3) := by decide +kernel
theorem dX7_tellFraction_9 : decode cX7_tellFraction 9 = .ok (.aload_n 0, 1) := by decide +kernel
theorem dX7_tellFraction_10 : decode cX7_tellFraction 10 = .ok (.iload_n 1, 1) := by decide +kernel
theorem dX7_tellFraction_11 : decode cX7_tellFraction 11 = .ok (.ifCond .le 7, 3) := by decide +kernel
theorem dX7_tellFraction_14 : decode cX7_tellFraction 14 = .ok (.iconst 1, 1) := by decide +kernel
theorem dX7_tellFraction_15 : decode cX7_tellFraction 15 = .ok (.goto 4, 3) := by decide +kernel
theorem dX7_tellFraction_18 : decode cX7_tellFraction 18 = .ok (.iconst 0, 1) := by decide +kernel
theorem dX7_tellFraction_19 : decode cX7_tellFraction 19 = .ok (.invokevirtual 119, 3) := by decide +kernel
theorem dX7_tellFraction_22 : decode cX7_tellFraction 22 = .ok (.ireturn, 1) := by decide +kernel
set_option maxRecDepth 20000 in
theorem ggX7_whyNoPour_X7_isWithin : GoodIn wsX7_whyNoPour wsX7_isWithin := goodIn_r _ [5] (by decide +kernel) (by decide +kernel)
set_option maxRecDepth 20000 in
theorem gX7_whyNoPour_X7_isWithin : GoodIn wsX7_whyNoPour (va_wsS RX7 69 yX7_isWithin wsX7_isWithin) := goodIn_app (goodIn_of _ (by decide +kernel)) ggX7_whyNoPour_X7_isWithin
set_option maxRecDepth 20000 in
theorem ggX7_whyNoPour_X6_isMissing : GoodIn wsX7_whyNoPour wsX6_isMissing := goodIn_r _ [10, 11, 29, 30, 31] (by decide +kernel) (by decide +kernel)
set_option maxRecDepth 20000 in
theorem gX7_whyNoPour_X6_isMissing : GoodIn wsX7_whyNoPour (wsV RX7 261 RX6 yX6_isMissing wsX6_isMissing) := goodIn_app (goodIn_of _ (by decide +kernel)) ggX7_whyNoPour_X6_isMissing
set_option maxRecDepth 20000 in
theorem ggX7_whyNoPour_X6_areAlike : GoodIn wsX7_whyNoPour wsX6_areAlike := goodIn_r _ [15, 11, 29, 30, 31] (by decide +kernel) (by decide +kernel)
set_option maxRecDepth 20000 in
theorem gX7_whyNoPour_X6_areAlike : GoodIn wsX7_whyNoPour (wsV RX7 264 RX6 yX6_areAlike wsX6_areAlike) := goodIn_app (goodIn_of _ (by decide +kernel)) ggX7_whyNoPour_X6_areAlike
set_option maxRecDepth 20000 in
theorem ggX7_whyNoPour_X6_holds : GoodIn wsX7_whyNoPour wsX6_holds := goodIn_r _ [19, 20, 29, 30, 31] (by decide +kernel) (by decide +kernel)
set_option maxRecDepth 20000 in
theorem gX7_whyNoPour_X6_holds : GoodIn wsX7_whyNoPour (wsV RX7 267 RX6 yX6_holds wsX6_holds) := goodIn_app (goodIn_of _ (by decide +kernel)) ggX7_whyNoPour_X6_holds
theorem dX7_whyNoPour_0 : decode cX7_whyNoPour 0 = .ok (.iload_n 1, 1) := by decide +kernel
theorem dX7_whyNoPour_1 : decode cX7_whyNoPour 1 = .ok (.iconst 3, 1) := by decide +kernel
theorem dX7_whyNoPour_2 : decode cX7_whyNoPour 2 = .ok (.invokestatic 69, 3) := by decide +kernel
theorem dX7_whyNoPour_5 : decode cX7_whyNoPour 5 = .ok (.ifCond .eq 11, 3) := by decide +kernel
theorem dX7_whyNoPour_8 : decode cX7_whyNoPour 8 = .ok (.iload_n 3, 1) := by decide +kernel
theorem dX7_whyNoPour_9 : decode cX7_whyNoPour 9 = .ok (.iconst 3, 1) := by decide +kernel
theorem dX7_whyNoPour_10 : decode cX7_whyNoPour 10 = .ok (.invokestatic 69, 3) := by decide +kernel
theorem dX7_whyNoPour_13 : decode cX7_whyNoPour 13 = .ok (.ifCond .ne 5, 3) := by decide +kernel
theorem dX7_whyNoPour_16 : decode cX7_whyNoPour 16 = .ok (.iconst 1, 1) := by decide +kernel
theorem dX7_whyNoPour_17 : decode cX7_whyNoPour 17 = .ok (.ireturn, 1) := by decide +kernel
theorem dX7_whyNoPour_18 : decode cX7_whyNoPour 18 = .ok (.iload_n 2, 1) := by decide +kernel
theorem dX7_whyNoPour_19 : decode cX7_whyNoPour 19 = .ok (.ifCond .lt 13, 3) := by decide +kernel
theorem dX7_whyNoPour_22 : decode cX7_whyNoPour 22 = .ok (.iload 4, 2) := by decide +kernel
theorem dX7_whyNoPour_24 : decode cX7_whyNoPour 24 = .ok (.ifCond .lt 8, 3) := by decide +kernel
theorem dX7_whyNoPour_27 : decode cX7_whyNoPour 27 = .ok (.iload 5, 2) := by decide +kernel
theorem dX7_whyNoPour_29 : decode cX7_whyNoPour 29 = .ok (.ifCond .ge 5, 3) := by decide +kernel
theorem dX7_whyNoPour_32 : decode cX7_whyNoPour 32 = .ok (.iconst 1, 1) := by decide +kernel
theorem dX7_whyNoPour_33 : decode cX7_whyNoPour 33 = .ok (.ireturn, 1) := by decide +kernel
theorem dX7_whyNoPour_34 : decode cX7_whyNoPour 34 = .ok (.aload_n 0, 1) := by decide +kernel
theorem dX7_whyNoPour_35 : decode cX7_whyNoPour 35 = .ok (.getfield 10, 3) := by decide +kernel
theorem dX7_whyNoPour_38 : decode cX7_whyNoPour 38 = .ok (.iload_n 1, 1) := by decide +kernel
theorem dX7_whyNoPour_39 : decode cX7_whyNoPour 39 = .ok (.invokevirtual 261, 3) := by decide +kernel
theorem dX7_whyNoPour_42 : decode cX7_whyNoPour 42 = .ok (.ifCond .ne 14, 3) := by decide +kernel
theorem dX7_whyNoPour_45 : decode cX7_whyNoPour 45 = .ok (.aload_n 0, 1) := by decide +kernel
theorem dX7_whyNoPour_46 : decode cX7_whyNoPour 46 = .ok (.getfield 10, 3) := by decide +kernel
theorem dX7_whyNoPour_49 : decode cX7_whyNoPour 49 = .ok (.iload_n 3, 1) := by decide +kernel
theorem dX7_whyNoPour_50 : decode cX7_whyNoPour 50 = .ok (.invokevirtual 261, 3) := by decide +kernel
theorem dX7_whyNoPour_53 : decode cX7_whyNoPour 53 = .ok (.ifCond .eq 5, 3) := by decide +kernel
theorem dX7_whyNoPour_56 : decode cX7_whyNoPour 56 = .ok (.iconst 2, 1) := by decide +kernel
theorem dX7_whyNoPour_57 : decode cX7_whyNoPour 57 = .ok (.ireturn, 1) := by decide +kernel
theorem dX7_whyNoPour_58 : decode cX7_whyNoPour 58 = .ok (.aload_n 0, 1) := by decide +kernel
theorem dX7_whyNoPour_59 : decode cX7_whyNoPour 59 = .ok (.getfield 10, 3) := by decide +kernel
theorem dX7_whyNoPour_62 : decode cX7_whyNoPour 62 = .ok (.iload_n 1, 1) := by decide +kernel
theorem dX7_whyNoPour_63 : decode cX7_whyNoPour 63 = .ok (.iload_n 3, 1) := by decide +kernel
theorem dX7_whyNoPour_64 : decode cX7_whyNoPour 64 = .ok (.invokevirtual 264, 3) := by decide +kernel
theorem dX7_whyNoPour_67 : decode cX7_whyNoPour 67 = .ok (.ifCond .ne 6, 3) := by decide +kernel
theorem dX7_whyNoPour_70 : decode cX7_whyNoPour 70 = .ok (.bipush 7, 2) := by decide +kernel
theorem dX7_whyNoPour_72 : decode cX7_whyNoPour 72 = .ok (.ireturn, 1) := by decide +kernel
theorem dX7_whyNoPour_73 : decode cX7_whyNoPour 73 = .ok (.aload_n 0, 1) := by decide +kernel
theorem dX7_whyNoPour_74 : decode cX7_whyNoPour 74 = .ok (.getfield 10, 3) := by decide +kernel
theorem dX7_whyNoPour_77 : decode cX7_whyNoPour 77 = .ok (.iload_n 1, 1) := by decide +kernel
theorem dX7_whyNoPour_78 : decode cX7_whyNoPour 78 = .ok (.iload_n 2, 1) := by decide +kernel
theorem dX7_whyNoPour_79 : decode cX7_whyNoPour 79 = .ok (.iload 5, 2) := by decide +kernel
theorem dX7_whyNoPour_81 : decode cX7_whyNoPour 81 = .ok (.invokevirtual 267, 3) := by decide +kernel
theorem dX7_whyNoPour_84 : decode cX7_whyNoPour 84 = .ok (.ifCond .eq 22, 3) := by decide +kernel
theorem dX7_whyNoPour_87 : decode cX7_whyNoPour 87 = .ok (.aload_n 0, 1) := by decide +kernel
theorem dX7_whyNoPour_88 : decode cX7_whyNoPour 88 = .ok (.getfield 10, 3) := by decide +kernel
theorem dX7_whyNoPour_91 : decode cX7_whyNoPour 91 = .ok (.iload_n 3, 1) := by decide +kernel
theorem dX7_whyNoPour_92 : decode cX7_whyNoPour 92 = .ok (.iload 4, 2) := by decide +kernel
theorem dX7_whyNoPour_94 : decode cX7_whyNoPour 94 = .ok (.iload 5, 2) := by decide +kernel
theorem dX7_whyNoPour_96 : decode cX7_whyNoPour 96 = .ok (.invokevirtual 267, 3) := by decide +kernel
theorem dX7_whyNoPour_99 : decode cX7_whyNoPour 99 = .ok (.ifCond .eq 7, 3) := by decide +kernel
theorem dX7_whyNoPour_102 : decode cX7_whyNoPour 102 = .ok (.iconst 0, 1) := by decide +kernel
theorem dX7_whyNoPour_103 : decode cX7_whyNoPour 103 = .ok (.goto 4, 3) := by decide +kernel
theorem dX7_whyNoPour_106 : decode cX7_whyNoPour 106 = .ok (.iconst 3, 1) := by decide +kernel
theorem dX7_whyNoPour_107 : decode cX7_whyNoPour 107 = .ok (.ireturn, 1) := by decide +kernel
set_option maxRecDepth 20000 in
theorem ggX7_whyNoBook_X7_isEye : GoodIn wsX7_whyNoBook wsX7_isEye := goodIn_r _ [6, 7, 39, 40, 41, 42, 43, 44, 45, 46, 47, 48, 49, 50, 51] (by decide +kernel) (by decide +kernel)
set_option maxRecDepth 20000 in
theorem gX7_whyNoBook_X7_isEye : GoodIn wsX7_whyNoBook (wsV RX7 122 RX7 yX7_isEye wsX7_isEye) := goodIn_app (goodIn_of _ (by decide +kernel)) ggX7_whyNoBook_X7_isEye
set_option maxRecDepth 20000 in
theorem ggX7_whyNoBook_X7_isDay : GoodIn wsX7_whyNoBook wsX7_isDay := goodIn_r _ [10, 11, 12, 5, 13] (by decide +kernel) (by decide +kernel)
set_option maxRecDepth 20000 in
theorem gX7_whyNoBook_X7_isDay : GoodIn wsX7_whyNoBook (va_wsS RX7 125 yX7_isDay wsX7_isDay) := goodIn_app (goodIn_of _ (by decide +kernel)) ggX7_whyNoBook_X7_isDay
set_option maxRecDepth 20000 in
theorem ggX7_whyNoBook_X7_isWithin : GoodIn wsX7_whyNoBook wsX7_isWithin := goodIn_r _ [13] (by decide +kernel) (by decide +kernel)
set_option maxRecDepth 20000 in
theorem gX7_whyNoBook_X7_isWithin : GoodIn wsX7_whyNoBook (va_wsS RX7 69 yX7_isWithin wsX7_isWithin) := goodIn_app (goodIn_of _ (by decide +kernel)) ggX7_whyNoBook_X7_isWithin
set_option maxRecDepth 20000 in
theorem ggX7_whyNoBook_X6_isMissing : GoodIn wsX7_whyNoBook wsX6_isMissing := goodIn_r _ [18, 19, 52, 53, 54] (by decide +kernel) (by decide +kernel)
set_option maxRecDepth 20000 in
theorem gX7_whyNoBook_X6_isMissing : GoodIn wsX7_whyNoBook (wsV RX7 261 RX6 yX6_isMissing wsX6_isMissing) := goodIn_app (goodIn_of _ (by decide +kernel)) ggX7_whyNoBook_X6_isMissing
set_option maxRecDepth 20000 in
theorem ggX7_whyNoBook_X6_holds : GoodIn wsX7_whyNoBook wsX6_holds := goodIn_r _ [23, 24, 52, 53, 54] (by decide +kernel) (by decide +kernel)
set_option maxRecDepth 20000 in
theorem gX7_whyNoBook_X6_holds : GoodIn wsX7_whyNoBook (wsV RX7 267 RX6 yX6_holds wsX6_holds) := goodIn_app (goodIn_of _ (by decide +kernel)) ggX7_whyNoBook_X6_holds
set_option maxRecDepth 20000 in
theorem ggX7_whyNoBook_X6_numberAt : GoodIn wsX7_whyNoBook wsX6_numberAt := goodIn_r _ [28, 29, 52, 53, 54] (by decide +kernel) (by decide +kernel)
set_option maxRecDepth 20000 in
theorem gX7_whyNoBook_X6_numberAt : GoodIn wsX7_whyNoBook (wsV RX7 100 RX6 yX6_numberAt wsX6_numberAt) := goodIn_app (goodIn_of _ (by decide +kernel)) ggX7_whyNoBook_X6_numberAt
set_option maxRecDepth 20000 in
theorem ggX7_whyNoBook_X5_isCode : GoodIn wsX7_whyNoBook wsX5_isCode := goodIn_r _ [33, 34, 35, 36, 37, 32, 38, 12, 5, 13] (by decide +kernel) (by decide +kernel)
set_option maxRecDepth 20000 in
theorem gX7_whyNoBook_X5_isCode : GoodIn wsX7_whyNoBook (va_wsS RX7 271 yX5_isCode wsX5_isCode) := goodIn_app (goodIn_of _ (by decide +kernel)) ggX7_whyNoBook_X5_isCode
theorem dX7_whyNoBook_0 : decode cX7_whyNoBook 0 = .ok (.aload_n 0, 1) := by decide +kernel
theorem dX7_whyNoBook_1 : decode cX7_whyNoBook 1 = .ok (.iload_n 1, 1) := by decide +kernel
theorem dX7_whyNoBook_2 : decode cX7_whyNoBook 2 = .ok (.invokevirtual 122, 3) := by decide +kernel
theorem dX7_whyNoBook_5 : decode cX7_whyNoBook 5 = .ok (.ifCond .eq 18, 3) := by decide +kernel
theorem dX7_whyNoBook_8 : decode cX7_whyNoBook 8 = .ok (.iload_n 2, 1) := by decide +kernel
theorem dX7_whyNoBook_9 : decode cX7_whyNoBook 9 = .ok (.invokestatic 125, 3) := by decide +kernel
theorem dX7_whyNoBook_12 : decode cX7_whyNoBook 12 = .ok (.ifCond .eq 11, 3) := by decide +kernel
theorem dX7_whyNoBook_15 : decode cX7_whyNoBook 15 = .ok (.iload_n 3, 1) := by decide +kernel
theorem dX7_whyNoBook_16 : decode cX7_whyNoBook 16 = .ok (.iconst 3, 1) := by decide +kernel
theorem dX7_whyNoBook_17 : decode cX7_whyNoBook 17 = .ok (.invokestatic 69, 3) := by decide +kernel
theorem dX7_whyNoBook_20 : decode cX7_whyNoBook 20 = .ok (.ifCond .ne 5, 3) := by decide +kernel
theorem dX7_whyNoBook_23 : decode cX7_whyNoBook 23 = .ok (.iconst 1, 1) := by decide +kernel
theorem dX7_whyNoBook_24 : decode cX7_whyNoBook 24 = .ok (.ireturn, 1) := by decide +kernel
theorem dX7_whyNoBook_25 : decode cX7_whyNoBook 25 = .ok (.iload 4, 2) := by decide +kernel
theorem dX7_whyNoBook_27 : decode cX7_whyNoBook 27 = .ok (.iconst 1, 1) := by decide +kernel
theorem dX7_whyNoBook_28 : decode cX7_whyNoBook 28 = .ok (.if_icmp .lt 22, 3) := by decide +kernel
theorem dX7_whyNoBook_31 : decode cX7_whyNoBook 31 = .ok (.iload 4, 2) := by decide +kernel
theorem dX7_whyNoBook_33 : decode cX7_whyNoBook 33 = .ok (.bipush 60, 2) := by decide +kernel
theorem dX7_whyNoBook_35 : decode cX7_whyNoBook 35 = .ok (.if_icmp .gt 15, 3) := by decide +kernel
theorem dX7_whyNoBook_38 : decode cX7_whyNoBook 38 = .ok (.iload_n 2, 1) := by decide +kernel
theorem dX7_whyNoBook_39 : decode cX7_whyNoBook 39 = .ok (.iload 4, 2) := by decide +kernel
theorem dX7_whyNoBook_41 : decode cX7_whyNoBook 41 = .ok (.iadd, 1) := by decide +kernel
theorem dX7_whyNoBook_42 : decode cX7_whyNoBook 42 = .ok (.iconst 1, 1) := by decide +kernel
theorem dX7_whyNoBook_43 : decode cX7_whyNoBook 43 = .ok (.isub, 1) := by decide +kernel
theorem dX7_whyNoBook_44 : decode cX7_whyNoBook 44 = .ok (.invokestatic 125, 3) := by decide +kernel
theorem dX7_whyNoBook_47 : decode cX7_whyNoBook 47 = .ok (.ifCond .ne 5, 3) := by decide +kernel
theorem dX7_whyNoBook_50 : decode cX7_whyNoBook 50 = .ok (.iconst 1, 1) := by decide +kernel
theorem dX7_whyNoBook_51 : decode cX7_whyNoBook 51 = .ok (.ireturn, 1) := by decide +kernel
theorem dX7_whyNoBook_52 : decode cX7_whyNoBook 52 = .ok (.aload_n 0, 1) := by decide +kernel
theorem dX7_whyNoBook_53 : decode cX7_whyNoBook 53 = .ok (.getfield 10, 3) := by decide +kernel
theorem dX7_whyNoBook_56 : decode cX7_whyNoBook 56 = .ok (.iload_n 3, 1) := by decide +kernel
theorem dX7_whyNoBook_57 : decode cX7_whyNoBook 57 = .ok (.invokevirtual 261, 3) := by decide +kernel
theorem dX7_whyNoBook_60 : decode cX7_whyNoBook 60 = .ok (.ifCond .eq 5, 3) := by decide +kernel
theorem dX7_whyNoBook_63 : decode cX7_whyNoBook 63 = .ok (.iconst 2, 1) := by decide +kernel
theorem dX7_whyNoBook_64 : decode cX7_whyNoBook 64 = .ok (.ireturn, 1) := by decide +kernel
theorem dX7_whyNoBook_65 : decode cX7_whyNoBook 65 = .ok (.aload_n 0, 1) := by decide +kernel
theorem dX7_whyNoBook_66 : decode cX7_whyNoBook 66 = .ok (.getfield 10, 3) := by decide +kernel
theorem dX7_whyNoBook_69 : decode cX7_whyNoBook 69 = .ok (.iload_n 3, 1) := by decide +kernel
theorem dX7_whyNoBook_70 : decode cX7_whyNoBook 70 = .ok (.iconst 0, 1) := by decide +kernel
theorem dX7_whyNoBook_71 : decode cX7_whyNoBook 71 = .ok (.iload 4, 2) := by decide +kernel
theorem dX7_whyNoBook_73 : decode cX7_whyNoBook 73 = .ok (.invokevirtual 267, 3) := by decide +kernel
theorem dX7_whyNoBook_76 : decode cX7_whyNoBook 76 = .ok (.ifCond .ne 5, 3) := by decide +kernel
theorem dX7_whyNoBook_79 : decode cX7_whyNoBook 79 = .ok (.iconst 3, 1) := by decide +kernel
theorem dX7_whyNoBook_80 : decode cX7_whyNoBook 80 = .ok (.ireturn, 1) := by decide +kernel
theorem dX7_whyNoBook_81 : decode cX7_whyNoBook 81 = .ok (.iconst 0, 1) := by decide +kernel
theorem dX7_whyNoBook_82 : decode cX7_whyNoBook 82 = .ok (.istore 5, 2) := by decide +kernel
theorem dX7_whyNoBook_84 : decode cX7_whyNoBook 84 = .ok (.iload 5, 2) := by decide +kernel
theorem dX7_whyNoBook_86 : decode cX7_whyNoBook 86 = .ok (.iload 4, 2) := by decide +kernel
theorem dX7_whyNoBook_88 : decode cX7_whyNoBook 88 = .ok (.if_icmp .ge 27, 3) := by decide +kernel
theorem dX7_whyNoBook_91 : decode cX7_whyNoBook 91 = .ok (.aload_n 0, 1) := by decide +kernel
theorem dX7_whyNoBook_92 : decode cX7_whyNoBook 92 = .ok (.getfield 10, 3) := by decide +kernel
theorem dX7_whyNoBook_95 : decode cX7_whyNoBook 95 = .ok (.iload_n 3, 1) := by decide +kernel
theorem dX7_whyNoBook_96 : decode cX7_whyNoBook 96 = .ok (.iload 5, 2) := by decide +kernel
theorem dX7_whyNoBook_98 : decode cX7_whyNoBook 98 = .ok (.invokevirtual 100, 3) := by decide +kernel
theorem dX7_whyNoBook_101 : decode cX7_whyNoBook 101 = .ok (.invokestatic 271, 3) := by decide +kernel
theorem dX7_whyNoBook_104 : decode cX7_whyNoBook 104 = .ok (.ifCond .ne 5, 3) := by decide +kernel
theorem dX7_whyNoBook_107 : decode cX7_whyNoBook 107 = .ok (.iconst 1, 1) := by decide +kernel
theorem dX7_whyNoBook_108 : decode cX7_whyNoBook 108 = .ok (.ireturn, 1) := by decide +kernel
theorem dX7_whyNoBook_109 : decode cX7_whyNoBook 109 = .ok (.iinc 5 1, 3) := by decide +kernel
theorem dX7_whyNoBook_112 : decode cX7_whyNoBook 112 = .ok (.goto (-28), 3) := by decide +kernel
theorem dX7_whyNoBook_115 : decode cX7_whyNoBook 115 = .ok (.iconst 0, 1) := by decide +kernel
theorem dX7_whyNoBook_116 : decode cX7_whyNoBook 116 = .ok (.ireturn, 1) := by decide +kernel
set_option maxRecDepth 20000 in
theorem ggX7_monthWithout_X0_reckon : GoodIn wsX7_monthWithout wsX0_reckon := goodIn_r _ [8, 9, 10, 11, 12, 13, 14, 15, 16, 17, 18, 7, 19, 20, 21, 22, 23, 24, 25, 26, 27, 28, 29, 30, 31, 32, 33, 34, 35, 36, 37, 38, 39, 40, 41, 42, 43, 44, 45, 46, 47, 48, 49, 50, 51, 52, 53, 54, 55, 56, 57, 93, 94, 95, 96, 97, 98, 99, 100, 101] (by decide +kernel) (by decide +kernel)
set_option maxRecDepth 20000 in
theorem gX7_monthWithout_X0_reckon : GoodIn wsX7_monthWithout (wsV RX7 210 RX0 yX0_reckon wsX0_reckon) := goodIn_app (goodIn_of _ (by decide +kernel)) ggX7_monthWithout_X0_reckon
set_option maxRecDepth 20000 in
theorem ggX7_monthWithout_X3_valueOfMonth : GoodIn wsX7_monthWithout wsX3_valueOfMonth := goodIn_r _ [62, 63, 64, 65, 66, 61, 67, 68, 69, 70, 30, 71, 72, 73, 74, 75, 76, 77, 78, 79, 80, 81, 82, 83, 84, 102, 103, 104, 97, 98, 99, 100, 101, 93, 94, 95, 96] (by decide +kernel) (by decide +kernel)
set_option maxRecDepth 20000 in
theorem gX7_monthWithout_X3_valueOfMonth : GoodIn wsX7_monthWithout (wsV RX7 275 RX3 yX3_valueOfMonth wsX3_valueOfMonth) := goodIn_app (goodIn_of _ (by decide +kernel)) ggX7_monthWithout_X3_valueOfMonth
theorem dX7_monthWithout_0 : decode cX7_monthWithout 0 = .ok (.aload_n 0, 1) := by decide +kernel
theorem dX7_monthWithout_1 : decode cX7_monthWithout 1 = .ok (.getfield 40, 3) := by decide +kernel
theorem dX7_monthWithout_4 : decode cX7_monthWithout 4 = .ok (.aload_n 0, 1) := by decide +kernel
theorem dX7_monthWithout_5 : decode cX7_monthWithout 5 = .ok (.getfield 19, 3) := by decide +kernel
theorem dX7_monthWithout_8 : decode cX7_monthWithout 8 = .ok (.iload_n 2, 1) := by decide +kernel
theorem dX7_monthWithout_9 : decode cX7_monthWithout 9 = .ok (.invokevirtual 210, 3) := by decide +kernel
theorem dX7_monthWithout_12 : decode cX7_monthWithout 12 = .ok (.aload_n 0, 1) := by decide +kernel
theorem dX7_monthWithout_13 : decode cX7_monthWithout 13 = .ok (.getfield 47, 3) := by decide +kernel
theorem dX7_monthWithout_16 : decode cX7_monthWithout 16 = .ok (.aload_n 0, 1) := by decide +kernel
theorem dX7_monthWithout_17 : decode cX7_monthWithout 17 = .ok (.getfield 19, 3) := by decide +kernel
theorem dX7_monthWithout_20 : decode cX7_monthWithout 20 = .ok (.aload_n 0, 1) := by decide +kernel
theorem dX7_monthWithout_21 : decode cX7_monthWithout 21 = .ok (.getfield 40, 3) := by decide +kernel
theorem dX7_monthWithout_24 : decode cX7_monthWithout 24 = .ok (.iload_n 1, 1) := by decide +kernel
theorem dX7_monthWithout_25 : decode cX7_monthWithout 25 = .ok (.invokevirtual 275, 3) := by decide +kernel
theorem dX7_monthWithout_28 : decode cX7_monthWithout 28 = .ok (.ireturn, 1) := by decide +kernel
theorem dX8_init_0 : decode cX8_init 0 = .ok (.aload_n 0, 1) := by decide +kernel
theorem dX8_init_1 : decode cX8_init 1 = .ok (.invokespecial 1, 3) := by decide +kernel
theorem dX8_init_4 : decode cX8_init 4 = .ok (.aload_n 0, 1) := by decide +kernel
theorem dX8_init_5 : decode cX8_init 5 = .ok (.lconst 1, 1) := by decide +kernel
theorem dX8_init_6 : decode cX8_init 6 = .ok (.putfield 7, 3) := by decide +kernel
theorem dX8_init_9 : decode cX8_init 9 = .ok (.aload_n 0, 1) := by decide +kernel
theorem dX8_init_10 : decode cX8_init 10 = .ok (.iconst 4, 1) := by decide +kernel
theorem dX8_init_11 : decode cX8_init 11 = .ok (.newarray .int, 2) := by decide +kernel
theorem dX8_init_13 : decode cX8_init 13 = .ok (.putfield 13, 3) := by decide +kernel
theorem dX8_init_16 : decode cX8_init 16 = .ok (.aload_n 0, 1) := by decide +kernel
theorem dX8_init_17 : decode cX8_init 17 = .ok (.iconst 4, 1) := by decide +kernel
theorem dX8_init_18 : decode cX8_init 18 = .ok (.newarray .int, 2) := by decide +kernel
theorem dX8_init_20 : decode cX8_init 20 = .ok (.dup, 1) := by decide +kernel
theorem dX8_init_21 : decode cX8_init 21 = .ok (.iconst 0, 1) := by decide +kernel
theorem dX8_init_22 : decode cX8_init 22 = .ok (.iconst (-1), 1) := by decide +kernel
theorem dX8_init_23 : decode cX8_init 23 = .ok (.iastore, 1) := by decide +kernel
theorem dX8_init_24 : decode cX8_init 24 = .ok (.dup, 1) := by decide +kernel
theorem dX8_init_25 : decode cX8_init 25 = .ok (.iconst 1, 1) := by decide +kernel
theorem dX8_init_26 : decode cX8_init 26 = .ok (.iconst (-1), 1) := by decide +kernel
theorem dX8_init_27 : decode cX8_init 27 = .ok (.iastore, 1) := by decide +kernel
theorem dX8_init_28 : decode cX8_init 28 = .ok (.dup, 1) := by decide +kernel
theorem dX8_init_29 : decode cX8_init 29 = .ok (.iconst 2, 1) := by decide +kernel
theorem dX8_init_30 : decode cX8_init 30 = .ok (.iconst (-1), 1) := by decide +kernel
theorem dX8_init_31 : decode cX8_init 31 = .ok (.iastore, 1) := by decide +kernel
theorem dX8_init_32 : decode cX8_init 32 = .ok (.dup, 1) := by decide +kernel
theorem dX8_init_33 : decode cX8_init 33 = .ok (.iconst 3, 1) := by decide +kernel
theorem dX8_init_34 : decode cX8_init 34 = .ok (.iconst (-1), 1) := by decide +kernel
theorem dX8_init_35 : decode cX8_init 35 = .ok (.iastore, 1) := by decide +kernel
theorem dX8_init_36 : decode cX8_init 36 = .ok (.putfield 17, 3) := by decide +kernel
theorem dX8_init_39 : decode cX8_init 39 = .ok (.aload_n 0, 1) := by decide +kernel
theorem dX8_init_40 : decode cX8_init 40 = .ok (.sipush 240, 3) := by decide +kernel
theorem dX8_init_43 : decode cX8_init 43 = .ok (.newarray .long, 2) := by decide +kernel
theorem dX8_init_45 : decode cX8_init 45 = .ok (.putfield 20, 3) := by decide +kernel
theorem dX8_init_48 : decode cX8_init 48 = .ok (.aload_n 0, 1) := by decide +kernel
theorem dX8_init_49 : decode cX8_init 49 = .ok (.bipush 10, 2) := by decide +kernel
theorem dX8_init_51 : decode cX8_init 51 = .ok (.putfield 24, 3) := by decide +kernel
theorem dX8_init_54 : decode cX8_init 54 = .ok (.aload_n 0, 1) := by decide +kernel
theorem dX8_init_55 : decode cX8_init 55 = .ok (.iconst 3, 1) := by decide +kernel
theorem dX8_init_56 : decode cX8_init 56 = .ok (.putfield 28, 3) := by decide +kernel
theorem dX8_init_59 : decode cX8_init 59 = .ok (.aload_n 0, 1) := by decide +kernel
theorem dX8_init_60 : decode cX8_init 60 = .ok (.sipush 1920, 3) := by decide +kernel
theorem dX8_init_63 : decode cX8_init 63 = .ok (.newarray .int, 2) := by decide +kernel
theorem dX8_init_65 : decode cX8_init 65 = .ok (.putfield 31, 3) := by decide +kernel
theorem dX8_init_68 : decode cX8_init 68 = .ok (.aload_n 0, 1) := by decide +kernel
theorem dX8_init_69 : decode cX8_init 69 = .ok (.sipush 1920, 3) := by decide +kernel
theorem dX8_init_72 : decode cX8_init 72 = .ok (.newarray .int, 2) := by decide +kernel
theorem dX8_init_74 : decode cX8_init 74 = .ok (.putfield 34, 3) := by decide +kernel
theorem dX8_init_77 : decode cX8_init 77 = .ok (.aload_n 0, 1) := by decide +kernel
theorem dX8_init_78 : decode cX8_init 78 = .ok (.iconst (-1), 1) := by decide +kernel
theorem dX8_init_79 : decode cX8_init 79 = .ok (.putfield 37, 3) := by decide +kernel
theorem dX8_init_82 : decode cX8_init 82 = .ok (.aload_n 0, 1) := by decide +kernel
theorem dX8_init_83 : decode cX8_init 83 = .ok (.bipush 21, 2) := by decide +kernel
theorem dX8_init_85 : decode cX8_init 85 = .ok (.newarray .int, 2) := by decide +kernel
theorem dX8_init_87 : decode cX8_init 87 = .ok (.putfield 40, 3) := by decide +kernel
theorem dX8_init_90 : decode cX8_init 90 = .ok (.aload_n 0, 1) := by decide +kernel
theorem dX8_init_91 : decode cX8_init 91 = .ok (.bipush 21, 2) := by decide +kernel
theorem dX8_init_93 : decode cX8_init 93 = .ok (.newarray .int, 2) := by decide +kernel
theorem dX8_init_95 : decode cX8_init 95 = .ok (.putfield 43, 3) := by decide +kernel
theorem dX8_init_98 : decode cX8_init 98 = .ok (.aload_n 0, 1) := by decide +kernel
theorem dX8_init_99 : decode cX8_init 99 = .ok (.bipush 8, 2) := by decide +kernel
theorem dX8_init_101 : decode cX8_init 101 = .ok (.newarray .int, 2) := by decide +kernel
theorem dX8_init_103 : decode cX8_init 103 = .ok (.putfield 46, 3) := by decide +kernel
theorem dX8_init_106 : decode cX8_init 106 = .ok (.aload_n 0, 1) := by decide +kernel
theorem dX8_init_107 : decode cX8_init 107 = .ok (.bipush 8, 2) := by decide +kernel
theorem dX8_init_109 : decode cX8_init 109 = .ok (.newarray .int, 2) := by decide +kernel
theorem dX8_init_111 : decode cX8_init 111 = .ok (.putfield 49, 3) := by decide +kernel
theorem dX8_init_114 : decode cX8_init 114 = .ok (.aload_n 0, 1) := by decide +kernel
theorem dX8_init_115 : decode cX8_init 115 = .ok (.bipush 8, 2) := by decide +kernel
theorem dX8_init_117 : decode cX8_init 117 = .ok (.newarray .int, 2) := by decide +kernel
theorem dX8_init_119 : decode cX8_init 119 = .ok (.putfield 52, 3) := by decide +kernel
theorem dX8_init_122 : decode cX8_init 122 = .ok (.aload_n 0, 1) := by decide +kernel
theorem dX8_init_123 : decode cX8_init 123 = .ok (.bipush 64, 2) := by decide +kernel
theorem dX8_init_125 : decode cX8_init 125 = .ok (.newarray .int, 2) := by decide +kernel
theorem dX8_init_127 : decode cX8_init 127 = .ok (.putfield 55, 3) := by decide +kernel
theorem dX8_init_130 : decode cX8_init 130 = .ok (.aload_n 0, 1) := by decide +kernel
theorem dX8_init_131 : decode cX8_init 131 = .ok (.bipush 64, 2) := by decide +kernel
theorem dX8_init_133 : decode cX8_init 133 = .ok (.newarray .int, 2) := by decide +kernel
theorem dX8_init_135 : decode cX8_init 135 = .ok (.putfield 58, 3) := by decide +kernel
theorem dX8_init_138 : decode cX8_init 138 = .ok (.aload_n 0, 1) := by decide +kernel
theorem dX8_init_139 : decode cX8_init 139 = .ok (.bipush 8, 2) := by decide +kernel
theorem dX8_init_141 : decode cX8_init 141 = .ok (.newarray .int, 2) := by decide +kernel
theorem dX8_init_143 : decode cX8_init 143 = .ok (.putfield 61, 3) := by decide +kernel
theorem dX8_init_146 : decode cX8_init 146 = .ok (.aload_n 0, 1) := by decide +kernel
theorem dX8_init_147 : decode cX8_init 147 = .ok (.bipush 8, 2) := by decide +kernel
theorem dX8_init_149 : decode cX8_init 149 = .ok (.newarray .int, 2) := by decide +kernel
theorem dX8_init_151 : decode cX8_init 151 = .ok (.putfield 64, 3) := by decide +kernel
theorem dX8_init_154 : decode cX8_init 154 = .ok (.aload_n 0, 1) := by decide +kernel
theorem dX8_init_155 : decode cX8_init 155 = .ok (.bipush 24, 2) := by decide +kernel
theorem dX8_init_157 : decode cX8_init 157 = .ok (.newarray .int, 2) := by decide +kernel
theorem dX8_init_159 : decode cX8_init 159 = .ok (.putfield 67, 3) := by decide +kernel
theorem dX8_init_162 : decode cX8_init 162 = .ok (.aload_n 0, 1) := by decide +kernel
theorem dX8_init_163 : decode cX8_init 163 = .ok (.bipush 24, 2) := by decide +kernel
theorem dX8_init_165 : decode cX8_init 165 = .ok (.newarray .int, 2) := by decide +kernel
theorem dX8_init_167 : decode cX8_init 167 = .ok (.putfield 70, 3) := by decide +kernel
theorem dX8_init_170 : decode cX8_init 170 = .ok (.return_, 1) := by decide +kernel
theorem dX8_status_0 : decode cX8_status 0 = .ok (.aload_n 0, 1) := by decide +kernel
theorem dX8_status_1 : decode cX8_status 1 = .ok (.getfield 73, 3) := by decide +kernel
theorem dX8_status_4 : decode cX8_status 4 = .ok (.ireturn, 1) := by decide +kernel
theorem dX8_top_0 : decode cX8_top 0 = .ok (.aload_n 0, 1) := by decide +kernel
theorem dX8_top_1 : decode cX8_top 1 = .ok (.getfield 76, 3) := by decide +kernel
theorem dX8_top_4 : decode cX8_top 4 = .ok (.lreturn, 1) := by decide +kernel
theorem dX8_bottom_0 : decode cX8_bottom 0 = .ok (.aload_n 0, 1) := by decide +kernel
theorem dX8_bottom_1 : decode cX8_bottom 1 = .ok (.getfield 7, 3) := by decide +kernel
theorem dX8_bottom_4 : decode cX8_bottom 4 = .ok (.lreturn, 1) := by decide +kernel
theorem dX8_is_0 : decode cX8_is 0 = .ok (.aload_n 0, 1) := by decide +kernel
theorem dX8_is_1 : decode cX8_is 1 = .ok (.iload_n 1, 1) := by decide +kernel
theorem dX8_is_2 : decode cX8_is 2 = .ok (.putfield 73, 3) := by decide +kernel
theorem dX8_is_5 : decode cX8_is 5 = .ok (.iload_n 1, 1) := by decide +kernel
theorem dX8_is_6 : decode cX8_is 6 = .ok (.ifCond .ne 7, 3) := by decide +kernel
theorem dX8_is_9 : decode cX8_is 9 = .ok (.iconst 1, 1) := by decide +kernel
theorem dX8_is_10 : decode cX8_is 10 = .ok (.goto 4, 3) := by decide +kernel
theorem dX8_is_13 : decode cX8_is 13 = .ok (.iconst 0, 1) := by decide +kernel
theorem dX8_is_14 : decode cX8_is 14 = .ok (.ireturn, 1) := by decide +kernel
theorem dX8_refuse_0 : decode cX8_refuse 0 = .ok (.aload_n 0, 1) := by decide +kernel
theorem dX8_refuse_1 : decode cX8_refuse 1 = .ok (.iload_n 1, 1) := by decide +kernel
theorem dX8_refuse_2 : decode cX8_refuse 2 = .ok (.putfield 73, 3) := by decide +kernel
theorem dX8_refuse_5 : decode cX8_refuse 5 = .ok (.iconst (-1), 1) := by decide +kernel
theorem dX8_refuse_6 : decode cX8_refuse 6 = .ok (.ireturn, 1) := by decide +kernel
theorem dX8_isTray_0 : decode cX8_isTray 0 = .ok (.iload_n 0, 1) := by decide +kernel
theorem dX8_isTray_1 : decode cX8_isTray 1 = .ok (.ifCond .lt 12, 3) := by decide +kernel
theorem dX8_isTray_4 : decode cX8_isTray 4 = .ok (.iload_n 0, 1) := by decide +kernel
theorem dX8_isTray_5 : decode cX8_isTray 5 = .ok (.iconst 4, 1) := by decide +kernel
theorem dX8_isTray_6 : decode cX8_isTray 6 = .ok (.if_icmp .ge 7, 3) := by decide +kernel
theorem dX8_isTray_9 : decode cX8_isTray 9 = .ok (.iconst 1, 1) := by decide +kernel
theorem dX8_isTray_10 : decode cX8_isTray 10 = .ok (.goto 4, 3) := by decide +kernel
theorem dX8_isTray_13 : decode cX8_isTray 13 = .ok (.iconst 0, 1) := by decide +kernel
theorem dX8_isTray_14 : decode cX8_isTray 14 = .ok (.ireturn, 1) := by decide +kernel
theorem dX8_cut_0 : decode cX8_cut 0 = .ok (.iload_n 2, 1) := by decide +kernel
theorem dX8_cut_1 : decode cX8_cut 1 = .ok (.ifCond .ne 10, 3) := by decide +kernel
theorem dX8_cut_4 : decode cX8_cut 4 = .ok (.lload_n 0, 1) := by decide +kernel
theorem dX8_cut_5 : decode cX8_cut 5 = .ok (.l2i, 1) := by decide +kernel
theorem dX8_cut_6 : decode cX8_cut 6 = .ok (.i2b, 1) := by decide +kernel
theorem dX8_cut_7 : decode cX8_cut 7 = .ok (.i2l, 1) := by decide +kernel
theorem dX8_cut_8 : decode cX8_cut 8 = .ok (.goto 27, 3) := by decide +kernel
theorem dX8_cut_11 : decode cX8_cut 11 = .ok (.iload_n 2, 1) := by decide +kernel
theorem dX8_cut_12 : decode cX8_cut 12 = .ok (.iconst 1, 1) := by decide +kernel
theorem dX8_cut_13 : decode cX8_cut 13 = .ok (.if_icmp .ne 10, 3) := by decide +kernel
theorem dX8_cut_16 : decode cX8_cut 16 = .ok (.lload_n 0, 1) := by decide +kernel
theorem dX8_cut_17 : decode cX8_cut 17 = .ok (.l2i, 1) := by decide +kernel
theorem dX8_cut_18 : decode cX8_cut 18 = .ok (.i2s, 1) := by decide +kernel
theorem dX8_cut_19 : decode cX8_cut 19 = .ok (.i2l, 1) := by decide +kernel
theorem dX8_cut_20 : decode cX8_cut 20 = .ok (.goto 15, 3) := by decide +kernel
theorem dX8_cut_23 : decode cX8_cut 23 = .ok (.iload_n 2, 1) := by decide +kernel
theorem dX8_cut_24 : decode cX8_cut 24 = .ok (.iconst 2, 1) := by decide +kernel
theorem dX8_cut_25 : decode cX8_cut 25 = .ok (.if_icmp .ne 9, 3) := by decide +kernel
theorem dX8_cut_28 : decode cX8_cut 28 = .ok (.lload_n 0, 1) := by decide +kernel
theorem dX8_cut_29 : decode cX8_cut 29 = .ok (.l2i, 1) := by decide +kernel
theorem dX8_cut_30 : decode cX8_cut 30 = .ok (.i2l, 1) := by decide +kernel
theorem dX8_cut_31 : decode cX8_cut 31 = .ok (.goto 4, 3) := by decide +kernel
theorem dX8_cut_34 : decode cX8_cut 34 = .ok (.lload_n 0, 1) := by decide +kernel
theorem dX8_cut_35 : decode cX8_cut 35 = .ok (.lreturn, 1) := by decide +kernel
set_option maxRecDepth 20000 in
theorem ggX8_tray_X8_isTray : GoodIn wsX8_tray wsX8_isTray := goodIn_r _ [7] (by decide +kernel) (by decide +kernel)
set_option maxRecDepth 20000 in
theorem gX8_tray_X8_isTray : GoodIn wsX8_tray (va_wsS RX8 79 yX8_isTray wsX8_isTray) := goodIn_app (goodIn_of _ (by decide +kernel)) ggX8_tray_X8_isTray
set_option maxRecDepth 20000 in
theorem ggX8_tray_X8_is : GoodIn wsX8_tray wsX8_is := goodIn_r _ [11, 12, 13, 14, 15, 16, 17, 18, 19, 20, 21, 22, 23, 24, 25, 26, 27, 28, 29, 30, 31, 32, 33, 34, 35] (by decide +kernel) (by decide +kernel)
set_option maxRecDepth 20000 in
theorem gX8_tray_X8_is : GoodIn wsX8_tray (wsV RX8 83 RX8 yX8_is wsX8_is) := goodIn_app (goodIn_of _ (by decide +kernel)) ggX8_tray_X8_is
theorem dX8_tray_0 : decode cX8_tray 0 = .ok (.iload_n 1, 1) := by decide +kernel
theorem dX8_tray_1 : decode cX8_tray 1 = .ok (.invokestatic 79, 3) := by decide +kernel
theorem dX8_tray_4 : decode cX8_tray 4 = .ok (.ifCond .eq 22, 3) := by decide +kernel
theorem dX8_tray_7 : decode cX8_tray 7 = .ok (.iload_n 2, 1) := by decide +kernel
theorem dX8_tray_8 : decode cX8_tray 8 = .ok (.ifCond .lt 18, 3) := by decide +kernel
theorem dX8_tray_11 : decode cX8_tray 11 = .ok (.iload_n 2, 1) := by decide +kernel
end
section
theorem dX8_tray_12 : decode cX8_tray 12 = .ok (.iconst 3, 1) := by decide +kernel
theorem dX8_tray_13 : decode cX8_tray 13 = .ok (.if_icmp .gt 13, 3) := by decide +kernel
theorem dX8_tray_16 : decode cX8_tray 16 = .ok (.iload_n 3, 1) := by decide +kernel
theorem dX8_tray_17 : decode cX8_tray 17 = .ok (.ifCond .lt 9, 3) := by decide +kernel
theorem dX8_tray_20 : decode cX8_tray 20 = .ok (.iload_n 3, 1) := by decide +kernel
theorem dX8_tray_21 : decode cX8_tray 21 = .ok (.bipush 60, 2) := by decide +kernel
theorem dX8_tray_23 : decode cX8_tray 23 = .ok (.if_icmp .le 9, 3) := by decide +kernel
theorem dX8_tray_26 : decode cX8_tray 26 = .ok (.aload_n 0, 1) := by decide +kernel
theorem dX8_tray_27 : decode cX8_tray 27 = .ok (.iconst 1, 1) := by decide +kernel
theorem dX8_tray_28 : decode cX8_tray 28 = .ok (.invokevirtual 83, 3) := by decide +kernel
theorem dX8_tray_31 : decode cX8_tray 31 = .ok (.ireturn, 1) := by decide +kernel
theorem dX8_tray_32 : decode cX8_tray 32 = .ok (.aload_n 0, 1) := by decide +kernel
theorem dX8_tray_33 : decode cX8_tray 33 = .ok (.getfield 13, 3) := by decide +kernel
theorem dX8_tray_36 : decode cX8_tray 36 = .ok (.iload_n 1, 1) := by decide +kernel
theorem dX8_tray_37 : decode cX8_tray 37 = .ok (.iload_n 2, 1) := by decide +kernel
theorem dX8_tray_38 : decode cX8_tray 38 = .ok (.iastore, 1) := by decide +kernel
theorem dX8_tray_39 : decode cX8_tray 39 = .ok (.aload_n 0, 1) := by decide +kernel
theorem dX8_tray_40 : decode cX8_tray 40 = .ok (.getfield 17, 3) := by decide +kernel
theorem dX8_tray_43 : decode cX8_tray 43 = .ok (.iload_n 1, 1) := by decide +kernel
theorem dX8_tray_44 : decode cX8_tray 44 = .ok (.iload_n 3, 1) := by decide +kernel
theorem dX8_tray_45 : decode cX8_tray 45 = .ok (.iastore, 1) := by decide +kernel
theorem dX8_tray_46 : decode cX8_tray 46 = .ok (.iconst 0, 1) := by decide +kernel
theorem dX8_tray_47 : decode cX8_tray 47 = .ok (.istore 4, 2) := by decide +kernel
theorem dX8_tray_49 : decode cX8_tray 49 = .ok (.iload 4, 2) := by decide +kernel
theorem dX8_tray_51 : decode cX8_tray 51 = .ok (.iload_n 3, 1) := by decide +kernel
theorem dX8_tray_52 : decode cX8_tray 52 = .ok (.if_icmp .ge 22, 3) := by decide +kernel
theorem dX8_tray_55 : decode cX8_tray 55 = .ok (.aload_n 0, 1) := by decide +kernel
theorem dX8_tray_56 : decode cX8_tray 56 = .ok (.getfield 20, 3) := by decide +kernel
theorem dX8_tray_59 : decode cX8_tray 59 = .ok (.bipush 60, 2) := by decide +kernel
theorem dX8_tray_61 : decode cX8_tray 61 = .ok (.iload_n 1, 1) := by decide +kernel
theorem dX8_tray_62 : decode cX8_tray 62 = .ok (.imul, 1) := by decide +kernel
theorem dX8_tray_63 : decode cX8_tray 63 = .ok (.iload 4, 2) := by decide +kernel
theorem dX8_tray_65 : decode cX8_tray 65 = .ok (.iadd, 1) := by decide +kernel
theorem dX8_tray_66 : decode cX8_tray 66 = .ok (.lconst 0, 1) := by decide +kernel
theorem dX8_tray_67 : decode cX8_tray 67 = .ok (.lastore, 1) := by decide +kernel
theorem dX8_tray_68 : decode cX8_tray 68 = .ok (.iinc 4 1, 3) := by decide +kernel
theorem dX8_tray_71 : decode cX8_tray 71 = .ok (.goto (-22), 3) := by decide +kernel
theorem dX8_tray_74 : decode cX8_tray 74 = .ok (.aload_n 0, 1) := by decide +kernel
theorem dX8_tray_75 : decode cX8_tray 75 = .ok (.iconst 0, 1) := by decide +kernel
theorem dX8_tray_76 : decode cX8_tray 76 = .ok (.invokevirtual 83, 3) := by decide +kernel
theorem dX8_tray_79 : decode cX8_tray 79 = .ok (.ireturn, 1) := by decide +kernel
set_option maxRecDepth 20000 in
theorem ggX8_wrongPlace_X8_isTray : GoodIn wsX8_wrongPlace wsX8_isTray := goodIn_r _ [5] (by decide +kernel) (by decide +kernel)
set_option maxRecDepth 20000 in
theorem gX8_wrongPlace_X8_isTray : GoodIn wsX8_wrongPlace (va_wsS RX8 79 yX8_isTray wsX8_isTray) := goodIn_app (goodIn_of _ (by decide +kernel)) ggX8_wrongPlace_X8_isTray
theorem dX8_wrongPlace_0 : decode cX8_wrongPlace 0 = .ok (.iload_n 1, 1) := by decide +kernel
theorem dX8_wrongPlace_1 : decode cX8_wrongPlace 1 = .ok (.invokestatic 79, 3) := by decide +kernel
theorem dX8_wrongPlace_4 : decode cX8_wrongPlace 4 = .ok (.ifCond .ne 7, 3) := by decide +kernel
theorem dX8_wrongPlace_7 : decode cX8_wrongPlace 7 = .ok (.iconst 1, 1) := by decide +kernel
theorem dX8_wrongPlace_8 : decode cX8_wrongPlace 8 = .ok (.goto 36, 3) := by decide +kernel
theorem dX8_wrongPlace_11 : decode cX8_wrongPlace 11 = .ok (.aload_n 0, 1) := by decide +kernel
theorem dX8_wrongPlace_12 : decode cX8_wrongPlace 12 = .ok (.getfield 17, 3) := by decide +kernel
theorem dX8_wrongPlace_15 : decode cX8_wrongPlace 15 = .ok (.iload_n 1, 1) := by decide +kernel
theorem dX8_wrongPlace_16 : decode cX8_wrongPlace 16 = .ok (.iaload, 1) := by decide +kernel
theorem dX8_wrongPlace_17 : decode cX8_wrongPlace 17 = .ok (.iconst (-1), 1) := by decide +kernel
theorem dX8_wrongPlace_18 : decode cX8_wrongPlace 18 = .ok (.if_icmp .ne 7, 3) := by decide +kernel
theorem dX8_wrongPlace_21 : decode cX8_wrongPlace 21 = .ok (.iconst 2, 1) := by decide +kernel
theorem dX8_wrongPlace_22 : decode cX8_wrongPlace 22 = .ok (.goto 22, 3) := by decide +kernel
theorem dX8_wrongPlace_25 : decode cX8_wrongPlace 25 = .ok (.iload_n 2, 1) := by decide +kernel
theorem dX8_wrongPlace_26 : decode cX8_wrongPlace 26 = .ok (.ifCond .lt 13, 3) := by decide +kernel
theorem dX8_wrongPlace_29 : decode cX8_wrongPlace 29 = .ok (.iload_n 2, 1) := by decide +kernel
theorem dX8_wrongPlace_30 : decode cX8_wrongPlace 30 = .ok (.aload_n 0, 1) := by decide +kernel
theorem dX8_wrongPlace_31 : decode cX8_wrongPlace 31 = .ok (.getfield 17, 3) := by decide +kernel
theorem dX8_wrongPlace_34 : decode cX8_wrongPlace 34 = .ok (.iload_n 1, 1) := by decide +kernel
theorem dX8_wrongPlace_35 : decode cX8_wrongPlace 35 = .ok (.iaload, 1) := by decide +kernel
theorem dX8_wrongPlace_36 : decode cX8_wrongPlace 36 = .ok (.if_icmp .lt 7, 3) := by decide +kernel
theorem dX8_wrongPlace_39 : decode cX8_wrongPlace 39 = .ok (.iconst 3, 1) := by decide +kernel
theorem dX8_wrongPlace_40 : decode cX8_wrongPlace 40 = .ok (.goto 4, 3) := by decide +kernel
theorem dX8_wrongPlace_43 : decode cX8_wrongPlace 43 = .ok (.iconst 0, 1) := by decide +kernel
theorem dX8_wrongPlace_44 : decode cX8_wrongPlace 44 = .ok (.ireturn, 1) := by decide +kernel
set_option maxRecDepth 20000 in
theorem ggX8_write_X8_wrongPlace : GoodIn wsX8_write wsX8_wrongPlace := goodIn_r _ [7, 8, 9, 10, 6, 11, 20, 21, 22, 23, 24, 25, 26, 27, 28, 29, 30, 31, 32, 33, 34, 35, 36, 37, 38, 39, 40, 41, 42] (by decide +kernel) (by decide +kernel)
set_option maxRecDepth 20000 in
theorem gX8_write_X8_wrongPlace : GoodIn wsX8_write (wsV RX8 86 RX8 yX8_wrongPlace wsX8_wrongPlace) := goodIn_app (goodIn_of _ (by decide +kernel)) ggX8_write_X8_wrongPlace
set_option maxRecDepth 20000 in
theorem ggX8_write_X8_cut : GoodIn wsX8_write wsX8_cut := goodIn_r _ [14] (by decide +kernel) (by decide +kernel)
set_option maxRecDepth 20000 in
theorem gX8_write_X8_cut : GoodIn wsX8_write (va_wsS RX8 90 yX8_cut wsX8_cut) := goodIn_app (goodIn_of _ (by decide +kernel)) ggX8_write_X8_cut
set_option maxRecDepth 20000 in
theorem ggX8_write_X8_is : GoodIn wsX8_write wsX8_is := goodIn_r _ [18, 19, 20, 21, 22, 23, 24, 25, 26, 27, 28, 29, 30, 31, 32, 33, 34, 35, 36, 37, 38, 39, 40, 41, 42] (by decide +kernel) (by decide +kernel)
set_option maxRecDepth 20000 in
theorem gX8_write_X8_is : GoodIn wsX8_write (wsV RX8 83 RX8 yX8_is wsX8_is) := goodIn_app (goodIn_of _ (by decide +kernel)) ggX8_write_X8_is
theorem dX8_write_0 : decode cX8_write 0 = .ok (.aload_n 0, 1) := by decide +kernel
theorem dX8_write_1 : decode cX8_write 1 = .ok (.iload_n 1, 1) := by decide +kernel
theorem dX8_write_2 : decode cX8_write 2 = .ok (.iload_n 2, 1) := by decide +kernel
theorem dX8_write_3 : decode cX8_write 3 = .ok (.invokevirtual 86, 3) := by decide +kernel
theorem dX8_write_6 : decode cX8_write 6 = .ok (.istore 5, 2) := by decide +kernel
theorem dX8_write_8 : decode cX8_write 8 = .ok (.iload 5, 2) := by decide +kernel
theorem dX8_write_10 : decode cX8_write 10 = .ok (.ifCond .ne 24, 3) := by decide +kernel
theorem dX8_write_13 : decode cX8_write 13 = .ok (.aload_n 0, 1) := by decide +kernel
theorem dX8_write_14 : decode cX8_write 14 = .ok (.getfield 20, 3) := by decide +kernel
theorem dX8_write_17 : decode cX8_write 17 = .ok (.bipush 60, 2) := by decide +kernel
theorem dX8_write_19 : decode cX8_write 19 = .ok (.iload_n 1, 1) := by decide +kernel
theorem dX8_write_20 : decode cX8_write 20 = .ok (.imul, 1) := by decide +kernel
theorem dX8_write_21 : decode cX8_write 21 = .ok (.iload_n 2, 1) := by decide +kernel
theorem dX8_write_22 : decode cX8_write 22 = .ok (.iadd, 1) := by decide +kernel
theorem dX8_write_23 : decode cX8_write 23 = .ok (.lload_n 3, 1) := by decide +kernel
theorem dX8_write_24 : decode cX8_write 24 = .ok (.aload_n 0, 1) := by decide +kernel
theorem dX8_write_25 : decode cX8_write 25 = .ok (.getfield 13, 3) := by decide +kernel
theorem dX8_write_28 : decode cX8_write 28 = .ok (.iload_n 1, 1) := by decide +kernel
theorem dX8_write_29 : decode cX8_write 29 = .ok (.iaload, 1) := by decide +kernel
theorem dX8_write_30 : decode cX8_write 30 = .ok (.invokestatic 90, 3) := by decide +kernel
theorem dX8_write_33 : decode cX8_write 33 = .ok (.lastore, 1) := by decide +kernel
theorem dX8_write_34 : decode cX8_write 34 = .ok (.aload_n 0, 1) := by decide +kernel
theorem dX8_write_35 : decode cX8_write 35 = .ok (.iload 5, 2) := by decide +kernel
theorem dX8_write_37 : decode cX8_write 37 = .ok (.invokevirtual 83, 3) := by decide +kernel
theorem dX8_write_40 : decode cX8_write 40 = .ok (.ireturn, 1) := by decide +kernel
set_option maxRecDepth 20000 in
theorem ggX8_read_X8_wrongPlace : GoodIn wsX8_read wsX8_wrongPlace := goodIn_r _ [8, 9, 10, 11, 7, 12, 13, 14, 15, 16, 17, 18, 19, 20, 21, 22, 23, 24, 25, 26, 27, 28, 29, 30, 31, 32, 33, 34, 35] (by decide +kernel) (by decide +kernel)
set_option maxRecDepth 20000 in
theorem gX8_read_X8_wrongPlace : GoodIn wsX8_read (wsV RX8 86 RX8 yX8_wrongPlace wsX8_wrongPlace) := goodIn_app (goodIn_of _ (by decide +kernel)) ggX8_read_X8_wrongPlace
theorem dX8_read_0 : decode cX8_read 0 = .ok (.aload_n 0, 1) := by decide +kernel
theorem dX8_read_1 : decode cX8_read 1 = .ok (.aload_n 0, 1) := by decide +kernel
theorem dX8_read_2 : decode cX8_read 2 = .ok (.iload_n 1, 1) := by decide +kernel
theorem dX8_read_3 : decode cX8_read 3 = .ok (.iload_n 2, 1) := by decide +kernel
theorem dX8_read_4 : decode cX8_read 4 = .ok (.invokevirtual 86, 3) := by decide +kernel
theorem dX8_read_7 : decode cX8_read 7 = .ok (.putfield 73, 3) := by decide +kernel
theorem dX8_read_10 : decode cX8_read 10 = .ok (.aload_n 0, 1) := by decide +kernel
theorem dX8_read_11 : decode cX8_read 11 = .ok (.getfield 73, 3) := by decide +kernel
theorem dX8_read_14 : decode cX8_read 14 = .ok (.ifCond .le 9, 3) := by decide +kernel
theorem dX8_read_17 : decode cX8_read 17 = .ok (.ldc2_w 94, 3) := by decide +kernel
theorem dX8_read_20 : decode cX8_read 20 = .ok (.goto 14, 3) := by decide +kernel
theorem dX8_read_23 : decode cX8_read 23 = .ok (.aload_n 0, 1) := by decide +kernel
theorem dX8_read_24 : decode cX8_read 24 = .ok (.getfield 20, 3) := by decide +kernel
theorem dX8_read_27 : decode cX8_read 27 = .ok (.bipush 60, 2) := by decide +kernel
theorem dX8_read_29 : decode cX8_read 29 = .ok (.iload_n 1, 1) := by decide +kernel
theorem dX8_read_30 : decode cX8_read 30 = .ok (.imul, 1) := by decide +kernel
theorem dX8_read_31 : decode cX8_read 31 = .ok (.iload_n 2, 1) := by decide +kernel
theorem dX8_read_32 : decode cX8_read 32 = .ok (.iadd, 1) := by decide +kernel
theorem dX8_read_33 : decode cX8_read 33 = .ok (.laload, 1) := by decide +kernel
theorem dX8_read_34 : decode cX8_read 34 = .ok (.lreturn, 1) := by decide +kernel
set_option maxRecDepth 20000 in
theorem ggX8_pour_X8_isTray : GoodIn wsX8_pour wsX8_isTray := goodIn_r _ [7] (by decide +kernel) (by decide +kernel)
set_option maxRecDepth 20000 in
theorem gX8_pour_X8_isTray : GoodIn wsX8_pour (va_wsS RX8 79 yX8_isTray wsX8_isTray) := goodIn_app (goodIn_of _ (by decide +kernel)) ggX8_pour_X8_isTray
set_option maxRecDepth 20000 in
theorem ggX8_pour_X8_is : GoodIn wsX8_pour wsX8_is := goodIn_r _ [11, 12, 13, 14, 15, 16, 17, 18, 19, 20, 21, 22, 23, 24, 25, 26, 27, 28, 29, 30, 31, 32, 33, 34, 35] (by decide +kernel) (by decide +kernel)
set_option maxRecDepth 20000 in
theorem gX8_pour_X8_is : GoodIn wsX8_pour (wsV RX8 83 RX8 yX8_is wsX8_is) := goodIn_app (goodIn_of _ (by decide +kernel)) ggX8_pour_X8_is
theorem dX8_pour_0 : decode cX8_pour 0 = .ok (.iload_n 1, 1) := by decide +kernel
theorem dX8_pour_1 : decode cX8_pour 1 = .ok (.invokestatic 79, 3) := by decide +kernel
theorem dX8_pour_4 : decode cX8_pour 4 = .ok (.ifCond .eq 24, 3) := by decide +kernel
theorem dX8_pour_7 : decode cX8_pour 7 = .ok (.iload_n 3, 1) := by decide +kernel
theorem dX8_pour_8 : decode cX8_pour 8 = .ok (.invokestatic 79, 3) := by decide +kernel
theorem dX8_pour_11 : decode cX8_pour 11 = .ok (.ifCond .eq 17, 3) := by decide +kernel
theorem dX8_pour_14 : decode cX8_pour 14 = .ok (.iload_n 2, 1) := by decide +kernel
theorem dX8_pour_15 : decode cX8_pour 15 = .ok (.ifCond .lt 13, 3) := by decide +kernel
theorem dX8_pour_18 : decode cX8_pour 18 = .ok (.iload 4, 2) := by decide +kernel
theorem dX8_pour_20 : decode cX8_pour 20 = .ok (.ifCond .lt 8, 3) := by decide +kernel
theorem dX8_pour_23 : decode cX8_pour 23 = .ok (.iload 5, 2) := by decide +kernel
theorem dX8_pour_25 : decode cX8_pour 25 = .ok (.ifCond .ge 9, 3) := by decide +kernel
theorem dX8_pour_28 : decode cX8_pour 28 = .ok (.aload_n 0, 1) := by decide +kernel
theorem dX8_pour_29 : decode cX8_pour 29 = .ok (.iconst 1, 1) := by decide +kernel
theorem dX8_pour_30 : decode cX8_pour 30 = .ok (.invokevirtual 83, 3) := by decide +kernel
theorem dX8_pour_33 : decode cX8_pour 33 = .ok (.ireturn, 1) := by decide +kernel
theorem dX8_pour_34 : decode cX8_pour 34 = .ok (.aload_n 0, 1) := by decide +kernel
theorem dX8_pour_35 : decode cX8_pour 35 = .ok (.getfield 17, 3) := by decide +kernel
theorem dX8_pour_38 : decode cX8_pour 38 = .ok (.iload_n 1, 1) := by decide +kernel
theorem dX8_pour_39 : decode cX8_pour 39 = .ok (.iaload, 1) := by decide +kernel
theorem dX8_pour_40 : decode cX8_pour 40 = .ok (.iconst (-1), 1) := by decide +kernel
theorem dX8_pour_41 : decode cX8_pour 41 = .ok (.if_icmp .eq 13, 3) := by decide +kernel
theorem dX8_pour_44 : decode cX8_pour 44 = .ok (.aload_n 0, 1) := by decide +kernel
theorem dX8_pour_45 : decode cX8_pour 45 = .ok (.getfield 17, 3) := by decide +kernel
theorem dX8_pour_48 : decode cX8_pour 48 = .ok (.iload_n 3, 1) := by decide +kernel
theorem dX8_pour_49 : decode cX8_pour 49 = .ok (.iaload, 1) := by decide +kernel
theorem dX8_pour_50 : decode cX8_pour 50 = .ok (.iconst (-1), 1) := by decide +kernel
theorem dX8_pour_51 : decode cX8_pour 51 = .ok (.if_icmp .ne 9, 3) := by decide +kernel
theorem dX8_pour_54 : decode cX8_pour 54 = .ok (.aload_n 0, 1) := by decide +kernel
theorem dX8_pour_55 : decode cX8_pour 55 = .ok (.iconst 2, 1) := by decide +kernel
theorem dX8_pour_56 : decode cX8_pour 56 = .ok (.invokevirtual 83, 3) := by decide +kernel
theorem dX8_pour_59 : decode cX8_pour 59 = .ok (.ireturn, 1) := by decide +kernel
theorem dX8_pour_60 : decode cX8_pour 60 = .ok (.aload_n 0, 1) := by decide +kernel
theorem dX8_pour_61 : decode cX8_pour 61 = .ok (.getfield 13, 3) := by decide +kernel
theorem dX8_pour_64 : decode cX8_pour 64 = .ok (.iload_n 1, 1) := by decide +kernel
theorem dX8_pour_65 : decode cX8_pour 65 = .ok (.iaload, 1) := by decide +kernel
theorem dX8_pour_66 : decode cX8_pour 66 = .ok (.aload_n 0, 1) := by decide +kernel
theorem dX8_pour_67 : decode cX8_pour 67 = .ok (.getfield 13, 3) := by decide +kernel
theorem dX8_pour_70 : decode cX8_pour 70 = .ok (.iload_n 3, 1) := by decide +kernel
theorem dX8_pour_71 : decode cX8_pour 71 = .ok (.iaload, 1) := by decide +kernel
theorem dX8_pour_72 : decode cX8_pour 72 = .ok (.if_icmp .eq 10, 3) := by decide +kernel
theorem dX8_pour_75 : decode cX8_pour 75 = .ok (.aload_n 0, 1) := by decide +kernel
theorem dX8_pour_76 : decode cX8_pour 76 = .ok (.bipush 7, 2) := by decide +kernel
theorem dX8_pour_78 : decode cX8_pour 78 = .ok (.invokevirtual 83, 3) := by decide +kernel
theorem dX8_pour_81 : decode cX8_pour 81 = .ok (.ireturn, 1) := by decide +kernel
theorem dX8_pour_82 : decode cX8_pour 82 = .ok (.iload 5, 2) := by decide +kernel
theorem dX8_pour_84 : decode cX8_pour 84 = .ok (.aload_n 0, 1) := by decide +kernel
theorem dX8_pour_85 : decode cX8_pour 85 = .ok (.getfield 17, 3) := by decide +kernel
theorem dX8_pour_88 : decode cX8_pour 88 = .ok (.iload_n 1, 1) := by decide +kernel
theorem dX8_pour_89 : decode cX8_pour 89 = .ok (.iaload, 1) := by decide +kernel
theorem dX8_pour_90 : decode cX8_pour 90 = .ok (.iload_n 2, 1) := by decide +kernel
theorem dX8_pour_91 : decode cX8_pour 91 = .ok (.isub, 1) := by decide +kernel
theorem dX8_pour_92 : decode cX8_pour 92 = .ok (.if_icmp .gt 17, 3) := by decide +kernel
theorem dX8_pour_95 : decode cX8_pour 95 = .ok (.iload 5, 2) := by decide +kernel
theorem dX8_pour_97 : decode cX8_pour 97 = .ok (.aload_n 0, 1) := by decide +kernel
theorem dX8_pour_98 : decode cX8_pour 98 = .ok (.getfield 17, 3) := by decide +kernel
theorem dX8_pour_101 : decode cX8_pour 101 = .ok (.iload_n 3, 1) := by decide +kernel
theorem dX8_pour_102 : decode cX8_pour 102 = .ok (.iaload, 1) := by decide +kernel
theorem dX8_pour_103 : decode cX8_pour 103 = .ok (.iload 4, 2) := by decide +kernel
theorem dX8_pour_105 : decode cX8_pour 105 = .ok (.isub, 1) := by decide +kernel
theorem dX8_pour_106 : decode cX8_pour 106 = .ok (.if_icmp .le 9, 3) := by decide +kernel
theorem dX8_pour_109 : decode cX8_pour 109 = .ok (.aload_n 0, 1) := by decide +kernel
theorem dX8_pour_110 : decode cX8_pour 110 = .ok (.iconst 3, 1) := by decide +kernel
theorem dX8_pour_111 : decode cX8_pour 111 = .ok (.invokevirtual 83, 3) := by decide +kernel
theorem dX8_pour_114 : decode cX8_pour 114 = .ok (.ireturn, 1) := by decide +kernel
theorem dX8_pour_115 : decode cX8_pour 115 = .ok (.iconst 0, 1) := by decide +kernel
theorem dX8_pour_116 : decode cX8_pour 116 = .ok (.istore 6, 2) := by decide +kernel
theorem dX8_pour_118 : decode cX8_pour 118 = .ok (.iload 6, 2) := by decide +kernel
theorem dX8_pour_120 : decode cX8_pour 120 = .ok (.iload 5, 2) := by decide +kernel
theorem dX8_pour_122 : decode cX8_pour 122 = .ok (.if_icmp .ge 58, 3) := by decide +kernel
theorem dX8_pour_125 : decode cX8_pour 125 = .ok (.iload_n 2, 1) := by decide +kernel
theorem dX8_pour_126 : decode cX8_pour 126 = .ok (.iload 4, 2) := by decide +kernel
theorem dX8_pour_128 : decode cX8_pour 128 = .ok (.if_icmp .ge 13, 3) := by decide +kernel
theorem dX8_pour_131 : decode cX8_pour 131 = .ok (.iload 5, 2) := by decide +kernel
theorem dX8_pour_133 : decode cX8_pour 133 = .ok (.iconst 1, 1) := by decide +kernel
theorem dX8_pour_134 : decode cX8_pour 134 = .ok (.isub, 1) := by decide +kernel
theorem dX8_pour_135 : decode cX8_pour 135 = .ok (.iload 6, 2) := by decide +kernel
theorem dX8_pour_137 : decode cX8_pour 137 = .ok (.isub, 1) := by decide +kernel
theorem dX8_pour_138 : decode cX8_pour 138 = .ok (.goto 5, 3) := by decide +kernel
theorem dX8_pour_141 : decode cX8_pour 141 = .ok (.iload 6, 2) := by decide +kernel
theorem dX8_pour_143 : decode cX8_pour 143 = .ok (.istore 7, 2) := by decide +kernel
theorem dX8_pour_145 : decode cX8_pour 145 = .ok (.aload_n 0, 1) := by decide +kernel
theorem dX8_pour_146 : decode cX8_pour 146 = .ok (.getfield 20, 3) := by decide +kernel
theorem dX8_pour_149 : decode cX8_pour 149 = .ok (.bipush 60, 2) := by decide +kernel
theorem dX8_pour_151 : decode cX8_pour 151 = .ok (.iload_n 3, 1) := by decide +kernel
theorem dX8_pour_152 : decode cX8_pour 152 = .ok (.imul, 1) := by decide +kernel
theorem dX8_pour_153 : decode cX8_pour 153 = .ok (.iload 4, 2) := by decide +kernel
theorem dX8_pour_155 : decode cX8_pour 155 = .ok (.iadd, 1) := by decide +kernel
theorem dX8_pour_156 : decode cX8_pour 156 = .ok (.iload 7, 2) := by decide +kernel
theorem dX8_pour_158 : decode cX8_pour 158 = .ok (.iadd, 1) := by decide +kernel
theorem dX8_pour_159 : decode cX8_pour 159 = .ok (.aload_n 0, 1) := by decide +kernel
theorem dX8_pour_160 : decode cX8_pour 160 = .ok (.getfield 20, 3) := by decide +kernel
theorem dX8_pour_163 : decode cX8_pour 163 = .ok (.bipush 60, 2) := by decide +kernel
theorem dX8_pour_165 : decode cX8_pour 165 = .ok (.iload_n 1, 1) := by decide +kernel
theorem dX8_pour_166 : decode cX8_pour 166 = .ok (.imul, 1) := by decide +kernel
theorem dX8_pour_167 : decode cX8_pour 167 = .ok (.iload_n 2, 1) := by decide +kernel
theorem dX8_pour_168 : decode cX8_pour 168 = .ok (.iadd, 1) := by decide +kernel
theorem dX8_pour_169 : decode cX8_pour 169 = .ok (.iload 7, 2) := by decide +kernel
theorem dX8_pour_171 : decode cX8_pour 171 = .ok (.iadd, 1) := by decide +kernel
theorem dX8_pour_172 : decode cX8_pour 172 = .ok (.laload, 1) := by decide +kernel
theorem dX8_pour_173 : decode cX8_pour 173 = .ok (.lastore, 1) := by decide +kernel
theorem dX8_pour_174 : decode cX8_pour 174 = .ok (.iinc 6 1, 3) := by decide +kernel
theorem dX8_pour_177 : decode cX8_pour 177 = .ok (.goto (-59), 3) := by decide +kernel
theorem dX8_pour_180 : decode cX8_pour 180 = .ok (.aload_n 0, 1) := by decide +kernel
theorem dX8_pour_181 : decode cX8_pour 181 = .ok (.iconst 0, 1) := by decide +kernel
theorem dX8_pour_182 : decode cX8_pour 182 = .ok (.invokevirtual 83, 3) := by decide +kernel
theorem dX8_pour_185 : decode cX8_pour 185 = .ok (.ireturn, 1) := by decide +kernel
theorem dX8_isEye_0 : decode cX8_isEye 0 = .ok (.iload_n 1, 1) := by decide +kernel
theorem dX8_isEye_1 : decode cX8_isEye 1 = .ok (.ifCond .lt 15, 3) := by decide +kernel
theorem dX8_isEye_4 : decode cX8_isEye 4 = .ok (.iload_n 1, 1) := by decide +kernel
theorem dX8_isEye_5 : decode cX8_isEye 5 = .ok (.aload_n 0, 1) := by decide +kernel
theorem dX8_isEye_6 : decode cX8_isEye 6 = .ok (.getfield 96, 3) := by decide +kernel
theorem dX8_isEye_9 : decode cX8_isEye 9 = .ok (.if_icmp .ge 7, 3) := by decide +kernel
theorem dX8_isEye_12 : decode cX8_isEye 12 = .ok (.iconst 1, 1) := by decide +kernel
theorem dX8_isEye_13 : decode cX8_isEye 13 = .ok (.goto 4, 3) := by decide +kernel
theorem dX8_isEye_16 : decode cX8_isEye 16 = .ok (.iconst 0, 1) := by decide +kernel
theorem dX8_isEye_17 : decode cX8_isEye 17 = .ok (.ireturn, 1) := by decide +kernel
theorem dX8_isDay_0 : decode cX8_isDay 0 = .ok (.iload_n 0, 1) := by decide +kernel
theorem dX8_isDay_1 : decode cX8_isDay 1 = .ok (.ifCond .lt 14, 3) := by decide +kernel
theorem dX8_isDay_4 : decode cX8_isDay 4 = .ok (.iload_n 0, 1) := by decide +kernel
theorem dX8_isDay_5 : decode cX8_isDay 5 = .ok (.sipush 240, 3) := by decide +kernel
theorem dX8_isDay_8 : decode cX8_isDay 8 = .ok (.if_icmp .ge 7, 3) := by decide +kernel
theorem dX8_isDay_11 : decode cX8_isDay 11 = .ok (.iconst 1, 1) := by decide +kernel
theorem dX8_isDay_12 : decode cX8_isDay 12 = .ok (.goto 4, 3) := by decide +kernel
theorem dX8_isDay_15 : decode cX8_isDay 15 = .ok (.iconst 0, 1) := by decide +kernel
theorem dX8_isDay_16 : decode cX8_isDay 16 = .ok (.ireturn, 1) := by decide +kernel
theorem dX8_isMonth_0 : decode cX8_isMonth 0 = .ok (.iload_n 0, 1) := by decide +kernel
theorem dX8_isMonth_1 : decode cX8_isMonth 1 = .ok (.ifCond .lt 13, 3) := by decide +kernel
theorem dX8_isMonth_4 : decode cX8_isMonth 4 = .ok (.iload_n 0, 1) := by decide +kernel
theorem dX8_isMonth_5 : decode cX8_isMonth 5 = .ok (.bipush 24, 2) := by decide +kernel
theorem dX8_isMonth_7 : decode cX8_isMonth 7 = .ok (.if_icmp .ge 7, 3) := by decide +kernel
theorem dX8_isMonth_10 : decode cX8_isMonth 10 = .ok (.iconst 1, 1) := by decide +kernel
theorem dX8_isMonth_11 : decode cX8_isMonth 11 = .ok (.goto 4, 3) := by decide +kernel
theorem dX8_isMonth_14 : decode cX8_isMonth 14 = .ok (.iconst 0, 1) := by decide +kernel
theorem dX8_isMonth_15 : decode cX8_isMonth 15 = .ok (.ireturn, 1) := by decide +kernel
theorem dX8_at_0 : decode cX8_at 0 = .ok (.sipush 240, 3) := by decide +kernel
theorem dX8_at_3 : decode cX8_at 3 = .ok (.iload_n 0, 1) := by decide +kernel
theorem dX8_at_4 : decode cX8_at 4 = .ok (.imul, 1) := by decide +kernel
theorem dX8_at_5 : decode cX8_at 5 = .ok (.iload_n 1, 1) := by decide +kernel
theorem dX8_at_6 : decode cX8_at 6 = .ok (.iadd, 1) := by decide +kernel
theorem dX8_at_7 : decode cX8_at 7 = .ok (.ireturn, 1) := by decide +kernel
set_option maxRecDepth 20000 in
theorem ggX8_eye_X8_refuse : GoodIn wsX8_eye wsX8_refuse := goodIn_r _ [8, 3, 12, 13, 14, 15, 16, 17, 18, 19, 20, 21, 22, 23, 24, 25, 26, 27, 28, 29, 30, 31, 32, 33, 34] (by decide +kernel) (by decide +kernel)
set_option maxRecDepth 20000 in
theorem gX8_eye_X8_refuse : GoodIn wsX8_eye (wsV RX8 99 RX8 yX8_refuse wsX8_refuse) := goodIn_app (goodIn_of _ (by decide +kernel)) ggX8_eye_X8_refuse
set_option maxRecDepth 20000 in
theorem ggX8_eye_X8_at : GoodIn wsX8_eye wsX8_at := goodIn_r _ [11] (by decide +kernel) (by decide +kernel)
set_option maxRecDepth 20000 in
theorem gX8_eye_X8_at : GoodIn wsX8_eye (va_wsS RX8 103 yX8_at wsX8_at) := goodIn_app (goodIn_of _ (by decide +kernel)) ggX8_eye_X8_at
theorem dX8_eye_0 : decode cX8_eye 0 = .ok (.aload_n 0, 1) := by decide +kernel
theorem dX8_eye_1 : decode cX8_eye 1 = .ok (.getfield 96, 3) := by decide +kernel
theorem dX8_eye_4 : decode cX8_eye 4 = .ok (.bipush 8, 2) := by decide +kernel
theorem dX8_eye_6 : decode cX8_eye 6 = .ok (.if_icmp .ne 9, 3) := by decide +kernel
theorem dX8_eye_9 : decode cX8_eye 9 = .ok (.aload_n 0, 1) := by decide +kernel
theorem dX8_eye_10 : decode cX8_eye 10 = .ok (.iconst 4, 1) := by decide +kernel
theorem dX8_eye_11 : decode cX8_eye 11 = .ok (.invokevirtual 99, 3) := by decide +kernel
theorem dX8_eye_14 : decode cX8_eye 14 = .ok (.ireturn, 1) := by decide +kernel
theorem dX8_eye_15 : decode cX8_eye 15 = .ok (.iconst 0, 1) := by decide +kernel
theorem dX8_eye_16 : decode cX8_eye 16 = .ok (.istore_n 1, 1) := by decide +kernel
theorem dX8_eye_17 : decode cX8_eye 17 = .ok (.iload_n 1, 1) := by decide +kernel
theorem dX8_eye_18 : decode cX8_eye 18 = .ok (.sipush 240, 3) := by decide +kernel
theorem dX8_eye_21 : decode cX8_eye 21 = .ok (.if_icmp .ge 23, 3) := by decide +kernel
theorem dX8_eye_24 : decode cX8_eye 24 = .ok (.aload_n 0, 1) := by decide +kernel
theorem dX8_eye_25 : decode cX8_eye 25 = .ok (.getfield 31, 3) := by decide +kernel
theorem dX8_eye_28 : decode cX8_eye 28 = .ok (.aload_n 0, 1) := by decide +kernel
theorem dX8_eye_29 : decode cX8_eye 29 = .ok (.getfield 96, 3) := by decide +kernel
theorem dX8_eye_32 : decode cX8_eye 32 = .ok (.iload_n 1, 1) := by decide +kernel
theorem dX8_eye_33 : decode cX8_eye 33 = .ok (.invokestatic 103, 3) := by decide +kernel
theorem dX8_eye_36 : decode cX8_eye 36 = .ok (.iconst (-1), 1) := by decide +kernel
theorem dX8_eye_37 : decode cX8_eye 37 = .ok (.iastore, 1) := by decide +kernel
theorem dX8_eye_38 : decode cX8_eye 38 = .ok (.iinc 1 1, 3) := by decide +kernel
theorem dX8_eye_41 : decode cX8_eye 41 = .ok (.goto (-24), 3) := by decide +kernel
theorem dX8_eye_44 : decode cX8_eye 44 = .ok (.aload_n 0, 1) := by decide +kernel
theorem dX8_eye_45 : decode cX8_eye 45 = .ok (.dup, 1) := by decide +kernel
theorem dX8_eye_46 : decode cX8_eye 46 = .ok (.getfield 96, 3) := by decide +kernel
theorem dX8_eye_49 : decode cX8_eye 49 = .ok (.iconst 1, 1) := by decide +kernel
theorem dX8_eye_50 : decode cX8_eye 50 = .ok (.iadd, 1) := by decide +kernel
theorem dX8_eye_51 : decode cX8_eye 51 = .ok (.putfield 96, 3) := by decide +kernel
theorem dX8_eye_54 : decode cX8_eye 54 = .ok (.aload_n 0, 1) := by decide +kernel
theorem dX8_eye_55 : decode cX8_eye 55 = .ok (.iconst 0, 1) := by decide +kernel
theorem dX8_eye_56 : decode cX8_eye 56 = .ok (.putfield 73, 3) := by decide +kernel
theorem dX8_eye_59 : decode cX8_eye 59 = .ok (.aload_n 0, 1) := by decide +kernel
theorem dX8_eye_60 : decode cX8_eye 60 = .ok (.getfield 96, 3) := by decide +kernel
theorem dX8_eye_63 : decode cX8_eye 63 = .ok (.iconst 1, 1) := by decide +kernel
theorem dX8_eye_64 : decode cX8_eye 64 = .ok (.isub, 1) := by decide +kernel
theorem dX8_eye_65 : decode cX8_eye 65 = .ok (.ireturn, 1) := by decide +kernel
theorem dX8_areTold_0 : decode cX8_areTold 0 = .ok (.lload_n 0, 1) := by decide +kernel
theorem dX8_areTold_1 : decode cX8_areTold 1 = .ok (.lconst 0, 1) := by decide +kernel
theorem dX8_areTold_2 : decode cX8_areTold 2 = .ok (.lcmp, 1) := by decide +kernel
theorem dX8_areTold_3 : decode cX8_areTold 3 = .ok (.ifCond .lt 29, 3) := by decide +kernel
theorem dX8_areTold_6 : decode cX8_areTold 6 = .ok (.lload_n 0, 1) := by decide +kernel
theorem dX8_areTold_7 : decode cX8_areTold 7 = .ok (.ldc2_w 106, 3) := by decide +kernel
theorem dX8_areTold_10 : decode cX8_areTold 10 = .ok (.lcmp, 1) := by decide +kernel
theorem dX8_areTold_11 : decode cX8_areTold 11 = .ok (.ifCond .gt 21, 3) := by decide +kernel
theorem dX8_areTold_14 : decode cX8_areTold 14 = .ok (.lload_n 2, 1) := by decide +kernel
theorem dX8_areTold_15 : decode cX8_areTold 15 = .ok (.lload_n 0, 1) := by decide +kernel
theorem dX8_areTold_16 : decode cX8_areTold 16 = .ok (.lcmp, 1) := by decide +kernel
theorem dX8_areTold_17 : decode cX8_areTold 17 = .ok (.ifCond .lt 15, 3) := by decide +kernel
theorem dX8_areTold_20 : decode cX8_areTold 20 = .ok (.lload_n 2, 1) := by decide +kernel
theorem dX8_areTold_21 : decode cX8_areTold 21 = .ok (.ldc2_w 108, 3) := by decide +kernel
theorem dX8_areTold_24 : decode cX8_areTold 24 = .ok (.lcmp, 1) := by decide +kernel
theorem dX8_areTold_25 : decode cX8_areTold 25 = .ok (.ifCond .gt 7, 3) := by decide +kernel
theorem dX8_areTold_28 : decode cX8_areTold 28 = .ok (.iconst 1, 1) := by decide +kernel
theorem dX8_areTold_29 : decode cX8_areTold 29 = .ok (.goto 4, 3) := by decide +kernel
theorem dX8_areTold_32 : decode cX8_areTold 32 = .ok (.iconst 0, 1) := by decide +kernel
theorem dX8_areTold_33 : decode cX8_areTold 33 = .ok (.ireturn, 1) := by decide +kernel
set_option maxRecDepth 20000 in
theorem ggX8_tell_X8_isEye : GoodIn wsX8_tell wsX8_isEye := goodIn_r _ [7, 8, 25, 26, 27, 28, 29, 30, 31, 32, 33, 34, 35, 36, 37, 38, 39, 40, 41, 42, 43, 44, 45, 46, 47] (by decide +kernel) (by decide +kernel)
set_option maxRecDepth 20000 in
theorem gX8_tell_X8_isEye : GoodIn wsX8_tell (wsV RX8 110 RX8 yX8_isEye wsX8_isEye) := goodIn_app (goodIn_of _ (by decide +kernel)) ggX8_tell_X8_isEye
set_option maxRecDepth 20000 in
theorem ggX8_tell_X8_isDay : GoodIn wsX8_tell wsX8_isDay := goodIn_r _ [11] (by decide +kernel) (by decide +kernel)
set_option maxRecDepth 20000 in
theorem gX8_tell_X8_isDay : GoodIn wsX8_tell (va_wsS RX8 113 yX8_isDay wsX8_isDay) := goodIn_app (goodIn_of _ (by decide +kernel)) ggX8_tell_X8_isDay
set_option maxRecDepth 20000 in
theorem ggX8_tell_X8_areTold : GoodIn wsX8_tell wsX8_areTold := goodIn_r _ [14, 15, 16] (by decide +kernel) (by decide +kernel)
set_option maxRecDepth 20000 in
theorem gX8_tell_X8_areTold : GoodIn wsX8_tell (va_wsS RX8 116 yX8_areTold wsX8_areTold) := goodIn_app (goodIn_of _ (by decide +kernel)) ggX8_tell_X8_areTold
set_option maxRecDepth 20000 in
theorem ggX8_tell_X8_is : GoodIn wsX8_tell wsX8_is := goodIn_r _ [20, 21, 25, 26, 27, 28, 29, 30, 31, 32, 33, 34, 35, 36, 37, 38, 39, 40, 41, 42, 43, 44, 45, 46, 47] (by decide +kernel) (by decide +kernel)
set_option maxRecDepth 20000 in
theorem gX8_tell_X8_is : GoodIn wsX8_tell (wsV RX8 83 RX8 yX8_is wsX8_is) := goodIn_app (goodIn_of _ (by decide +kernel)) ggX8_tell_X8_is
set_option maxRecDepth 20000 in
theorem ggX8_tell_X8_at : GoodIn wsX8_tell wsX8_at := goodIn_r _ [24] (by decide +kernel) (by decide +kernel)
set_option maxRecDepth 20000 in
theorem gX8_tell_X8_at : GoodIn wsX8_tell (va_wsS RX8 103 yX8_at wsX8_at) := goodIn_app (goodIn_of _ (by decide +kernel)) ggX8_tell_X8_at
theorem dX8_tell_0 : decode cX8_tell 0 = .ok (.aload_n 0, 1) := by decide +kernel
theorem dX8_tell_1 : decode cX8_tell 1 = .ok (.iload_n 1, 1) := by decide +kernel
theorem dX8_tell_2 : decode cX8_tell 2 = .ok (.invokevirtual 110, 3) := by decide +kernel
theorem dX8_tell_5 : decode cX8_tell 5 = .ok (.ifCond .eq 21, 3) := by decide +kernel
theorem dX8_tell_8 : decode cX8_tell 8 = .ok (.iload_n 2, 1) := by decide +kernel
theorem dX8_tell_9 : decode cX8_tell 9 = .ok (.invokestatic 113, 3) := by decide +kernel
theorem dX8_tell_12 : decode cX8_tell 12 = .ok (.ifCond .eq 14, 3) := by decide +kernel
theorem dX8_tell_15 : decode cX8_tell 15 = .ok (.iload_n 3, 1) := by decide +kernel
theorem dX8_tell_16 : decode cX8_tell 16 = .ok (.i2l, 1) := by decide +kernel
theorem dX8_tell_17 : decode cX8_tell 17 = .ok (.iload 4, 2) := by decide +kernel
theorem dX8_tell_19 : decode cX8_tell 19 = .ok (.i2l, 1) := by decide +kernel
theorem dX8_tell_20 : decode cX8_tell 20 = .ok (.invokestatic 116, 3) := by decide +kernel
theorem dX8_tell_23 : decode cX8_tell 23 = .ok (.ifCond .ne 9, 3) := by decide +kernel
theorem dX8_tell_26 : decode cX8_tell 26 = .ok (.aload_n 0, 1) := by decide +kernel
theorem dX8_tell_27 : decode cX8_tell 27 = .ok (.iconst 1, 1) := by decide +kernel
theorem dX8_tell_28 : decode cX8_tell 28 = .ok (.invokevirtual 83, 3) := by decide +kernel
theorem dX8_tell_31 : decode cX8_tell 31 = .ok (.ireturn, 1) := by decide +kernel
theorem dX8_tell_32 : decode cX8_tell 32 = .ok (.aload_n 0, 1) := by decide +kernel
theorem dX8_tell_33 : decode cX8_tell 33 = .ok (.getfield 31, 3) := by decide +kernel
theorem dX8_tell_36 : decode cX8_tell 36 = .ok (.iload_n 1, 1) := by decide +kernel
theorem dX8_tell_37 : decode cX8_tell 37 = .ok (.iload_n 2, 1) := by decide +kernel
theorem dX8_tell_38 : decode cX8_tell 38 = .ok (.invokestatic 103, 3) := by decide +kernel
theorem dX8_tell_41 : decode cX8_tell 41 = .ok (.iload_n 3, 1) := by decide +kernel
theorem dX8_tell_42 : decode cX8_tell 42 = .ok (.iastore, 1) := by decide +kernel
theorem dX8_tell_43 : decode cX8_tell 43 = .ok (.aload_n 0, 1) := by decide +kernel
theorem dX8_tell_44 : decode cX8_tell 44 = .ok (.getfield 34, 3) := by decide +kernel
theorem dX8_tell_47 : decode cX8_tell 47 = .ok (.iload_n 1, 1) := by decide +kernel
theorem dX8_tell_48 : decode cX8_tell 48 = .ok (.iload_n 2, 1) := by decide +kernel
theorem dX8_tell_49 : decode cX8_tell 49 = .ok (.invokestatic 103, 3) := by decide +kernel
theorem dX8_tell_52 : decode cX8_tell 52 = .ok (.iload 4, 2) := by decide +kernel
theorem dX8_tell_54 : decode cX8_tell 54 = .ok (.iastore, 1) := by decide +kernel
theorem dX8_tell_55 : decode cX8_tell 55 = .ok (.aload_n 0, 1) := by decide +kernel
theorem dX8_tell_56 : decode cX8_tell 56 = .ok (.iconst 0, 1) := by decide +kernel
theorem dX8_tell_57 : decode cX8_tell 57 = .ok (.invokevirtual 83, 3) := by decide +kernel
theorem dX8_tell_60 : decode cX8_tell 60 = .ok (.ireturn, 1) := by decide +kernel
end
section
set_option maxRecDepth 20000 in
theorem ggX8_unsay_X8_isEye : GoodIn wsX8_unsay wsX8_isEye := goodIn_r _ [6, 7, 19, 20, 21, 22, 23, 24, 25, 26, 27, 28, 29, 30, 31, 32, 33, 34, 35, 36, 37, 38, 39, 40, 41] (by decide +kernel) (by decide +kernel)
set_option maxRecDepth 20000 in
theorem gX8_unsay_X8_isEye : GoodIn wsX8_unsay (wsV RX8 110 RX8 yX8_isEye wsX8_isEye) := goodIn_app (goodIn_of _ (by decide +kernel)) ggX8_unsay_X8_isEye
set_option maxRecDepth 20000 in
theorem ggX8_unsay_X8_isDay : GoodIn wsX8_unsay wsX8_isDay := goodIn_r _ [10] (by decide +kernel) (by decide +kernel)
set_option maxRecDepth 20000 in
theorem gX8_unsay_X8_isDay : GoodIn wsX8_unsay (va_wsS RX8 113 yX8_isDay wsX8_isDay) := goodIn_app (goodIn_of _ (by decide +kernel)) ggX8_unsay_X8_isDay
set_option maxRecDepth 20000 in
theorem ggX8_unsay_X8_is : GoodIn wsX8_unsay wsX8_is := goodIn_r _ [14, 15, 19, 20, 21, 22, 23, 24, 25, 26, 27, 28, 29, 30, 31, 32, 33, 34, 35, 36, 37, 38, 39, 40, 41] (by decide +kernel) (by decide +kernel)
set_option maxRecDepth 20000 in
theorem gX8_unsay_X8_is : GoodIn wsX8_unsay (wsV RX8 83 RX8 yX8_is wsX8_is) := goodIn_app (goodIn_of _ (by decide +kernel)) ggX8_unsay_X8_is
set_option maxRecDepth 20000 in
theorem ggX8_unsay_X8_at : GoodIn wsX8_unsay wsX8_at := goodIn_r _ [18] (by decide +kernel) (by decide +kernel)
set_option maxRecDepth 20000 in
theorem gX8_unsay_X8_at : GoodIn wsX8_unsay (va_wsS RX8 103 yX8_at wsX8_at) := goodIn_app (goodIn_of _ (by decide +kernel)) ggX8_unsay_X8_at
theorem dX8_unsay_0 : decode cX8_unsay 0 = .ok (.aload_n 0, 1) := by decide +kernel
theorem dX8_unsay_1 : decode cX8_unsay 1 = .ok (.iload_n 1, 1) := by decide +kernel
theorem dX8_unsay_2 : decode cX8_unsay 2 = .ok (.invokevirtual 110, 3) := by decide +kernel
theorem dX8_unsay_5 : decode cX8_unsay 5 = .ok (.ifCond .eq 10, 3) := by decide +kernel
theorem dX8_unsay_8 : decode cX8_unsay 8 = .ok (.iload_n 2, 1) := by decide +kernel
theorem dX8_unsay_9 : decode cX8_unsay 9 = .ok (.invokestatic 113, 3) := by decide +kernel
theorem dX8_unsay_12 : decode cX8_unsay 12 = .ok (.ifCond .ne 9, 3) := by decide +kernel
theorem dX8_unsay_15 : decode cX8_unsay 15 = .ok (.aload_n 0, 1) := by decide +kernel
theorem dX8_unsay_16 : decode cX8_unsay 16 = .ok (.iconst 1, 1) := by decide +kernel
theorem dX8_unsay_17 : decode cX8_unsay 17 = .ok (.invokevirtual 83, 3) := by decide +kernel
theorem dX8_unsay_20 : decode cX8_unsay 20 = .ok (.ireturn, 1) := by decide +kernel
theorem dX8_unsay_21 : decode cX8_unsay 21 = .ok (.aload_n 0, 1) := by decide +kernel
theorem dX8_unsay_22 : decode cX8_unsay 22 = .ok (.getfield 31, 3) := by decide +kernel
theorem dX8_unsay_25 : decode cX8_unsay 25 = .ok (.iload_n 1, 1) := by decide +kernel
theorem dX8_unsay_26 : decode cX8_unsay 26 = .ok (.iload_n 2, 1) := by decide +kernel
theorem dX8_unsay_27 : decode cX8_unsay 27 = .ok (.invokestatic 103, 3) := by decide +kernel
theorem dX8_unsay_30 : decode cX8_unsay 30 = .ok (.iaload, 1) := by decide +kernel
theorem dX8_unsay_31 : decode cX8_unsay 31 = .ok (.iconst (-1), 1) := by decide +kernel
theorem dX8_unsay_32 : decode cX8_unsay 32 = .ok (.if_icmp .ne 9, 3) := by decide +kernel
theorem dX8_unsay_35 : decode cX8_unsay 35 = .ok (.aload_n 0, 1) := by decide +kernel
theorem dX8_unsay_36 : decode cX8_unsay 36 = .ok (.iconst 5, 1) := by decide +kernel
theorem dX8_unsay_37 : decode cX8_unsay 37 = .ok (.invokevirtual 83, 3) := by decide +kernel
theorem dX8_unsay_40 : decode cX8_unsay 40 = .ok (.ireturn, 1) := by decide +kernel
theorem dX8_unsay_41 : decode cX8_unsay 41 = .ok (.aload_n 0, 1) := by decide +kernel
theorem dX8_unsay_42 : decode cX8_unsay 42 = .ok (.getfield 31, 3) := by decide +kernel
theorem dX8_unsay_45 : decode cX8_unsay 45 = .ok (.iload_n 1, 1) := by decide +kernel
theorem dX8_unsay_46 : decode cX8_unsay 46 = .ok (.iload_n 2, 1) := by decide +kernel
theorem dX8_unsay_47 : decode cX8_unsay 47 = .ok (.invokestatic 103, 3) := by decide +kernel
theorem dX8_unsay_50 : decode cX8_unsay 50 = .ok (.iconst (-1), 1) := by decide +kernel
theorem dX8_unsay_51 : decode cX8_unsay 51 = .ok (.iastore, 1) := by decide +kernel
theorem dX8_unsay_52 : decode cX8_unsay 52 = .ok (.aload_n 0, 1) := by decide +kernel
theorem dX8_unsay_53 : decode cX8_unsay 53 = .ok (.iconst 0, 1) := by decide +kernel
theorem dX8_unsay_54 : decode cX8_unsay 54 = .ok (.invokevirtual 83, 3) := by decide +kernel
theorem dX8_unsay_57 : decode cX8_unsay 57 = .ok (.ireturn, 1) := by decide +kernel
set_option maxRecDepth 20000 in
theorem ggX8_book_X8_isEye : GoodIn wsX8_book wsX8_isEye := goodIn_r _ [11, 12, 32, 33, 34, 35, 36, 37, 38, 39, 40, 41, 42, 43, 44, 45, 46, 47, 48, 49, 50, 51, 52, 53, 54] (by decide +kernel) (by decide +kernel)
set_option maxRecDepth 20000 in
theorem gX8_book_X8_isEye : GoodIn wsX8_book (wsV RX8 110 RX8 yX8_isEye wsX8_isEye) := goodIn_app (goodIn_of _ (by decide +kernel)) ggX8_book_X8_isEye
set_option maxRecDepth 20000 in
theorem ggX8_book_X8_isDay : GoodIn wsX8_book wsX8_isDay := goodIn_r _ [15] (by decide +kernel) (by decide +kernel)
set_option maxRecDepth 20000 in
theorem gX8_book_X8_isDay : GoodIn wsX8_book (va_wsS RX8 113 yX8_isDay wsX8_isDay) := goodIn_app (goodIn_of _ (by decide +kernel)) ggX8_book_X8_isDay
set_option maxRecDepth 20000 in
theorem ggX8_book_X8_isTray : GoodIn wsX8_book wsX8_isTray := goodIn_r _ [18] (by decide +kernel) (by decide +kernel)
set_option maxRecDepth 20000 in
theorem gX8_book_X8_isTray : GoodIn wsX8_book (va_wsS RX8 79 yX8_isTray wsX8_isTray) := goodIn_app (goodIn_of _ (by decide +kernel)) ggX8_book_X8_isTray
set_option maxRecDepth 20000 in
theorem ggX8_book_X8_is : GoodIn wsX8_book wsX8_is := goodIn_r _ [22, 23, 32, 33, 34, 35, 36, 37, 38, 39, 40, 41, 42, 43, 44, 45, 46, 47, 48, 49, 50, 51, 52, 53, 54] (by decide +kernel) (by decide +kernel)
set_option maxRecDepth 20000 in
theorem gX8_book_X8_is : GoodIn wsX8_book (wsV RX8 83 RX8 yX8_is wsX8_is) := goodIn_app (goodIn_of _ (by decide +kernel)) ggX8_book_X8_is
set_option maxRecDepth 20000 in
theorem ggX8_book_X8_areTold : GoodIn wsX8_book wsX8_areTold := goodIn_r _ [26, 27, 28] (by decide +kernel) (by decide +kernel)
set_option maxRecDepth 20000 in
theorem gX8_book_X8_areTold : GoodIn wsX8_book (va_wsS RX8 116 yX8_areTold wsX8_areTold) := goodIn_app (goodIn_of _ (by decide +kernel)) ggX8_book_X8_areTold
set_option maxRecDepth 20000 in
theorem ggX8_book_X8_at : GoodIn wsX8_book wsX8_at := goodIn_r _ [31] (by decide +kernel) (by decide +kernel)
set_option maxRecDepth 20000 in
theorem gX8_book_X8_at : GoodIn wsX8_book (va_wsS RX8 103 yX8_at wsX8_at) := goodIn_app (goodIn_of _ (by decide +kernel)) ggX8_book_X8_at
theorem dX8_book_0 : decode cX8_book 0 = .ok (.aload_n 0, 1) := by decide +kernel
theorem dX8_book_1 : decode cX8_book 1 = .ok (.iload_n 1, 1) := by decide +kernel
theorem dX8_book_2 : decode cX8_book 2 = .ok (.invokevirtual 110, 3) := by decide +kernel
theorem dX8_book_5 : decode cX8_book 5 = .ok (.ifCond .eq 40, 3) := by decide +kernel
theorem dX8_book_8 : decode cX8_book 8 = .ok (.iload_n 2, 1) := by decide +kernel
theorem dX8_book_9 : decode cX8_book 9 = .ok (.invokestatic 113, 3) := by decide +kernel
theorem dX8_book_12 : decode cX8_book 12 = .ok (.ifCond .eq 33, 3) := by decide +kernel
theorem dX8_book_15 : decode cX8_book 15 = .ok (.iload_n 3, 1) := by decide +kernel
theorem dX8_book_16 : decode cX8_book 16 = .ok (.invokestatic 79, 3) := by decide +kernel
theorem dX8_book_19 : decode cX8_book 19 = .ok (.ifCond .eq 26, 3) := by decide +kernel
theorem dX8_book_22 : decode cX8_book 22 = .ok (.iload 4, 2) := by decide +kernel
theorem dX8_book_24 : decode cX8_book 24 = .ok (.iconst 1, 1) := by decide +kernel
theorem dX8_book_25 : decode cX8_book 25 = .ok (.if_icmp .lt 20, 3) := by decide +kernel
theorem dX8_book_28 : decode cX8_book 28 = .ok (.iload 4, 2) := by decide +kernel
theorem dX8_book_30 : decode cX8_book 30 = .ok (.bipush 60, 2) := by decide +kernel
theorem dX8_book_32 : decode cX8_book 32 = .ok (.if_icmp .gt 13, 3) := by decide +kernel
theorem dX8_book_35 : decode cX8_book 35 = .ok (.iload 4, 2) := by decide +kernel
theorem dX8_book_37 : decode cX8_book 37 = .ok (.sipush 240, 3) := by decide +kernel
theorem dX8_book_40 : decode cX8_book 40 = .ok (.iload_n 2, 1) := by decide +kernel
theorem dX8_book_41 : decode cX8_book 41 = .ok (.isub, 1) := by decide +kernel
theorem dX8_book_42 : decode cX8_book 42 = .ok (.if_icmp .le 9, 3) := by decide +kernel
theorem dX8_book_45 : decode cX8_book 45 = .ok (.aload_n 0, 1) := by decide +kernel
theorem dX8_book_46 : decode cX8_book 46 = .ok (.iconst 1, 1) := by decide +kernel
theorem dX8_book_47 : decode cX8_book 47 = .ok (.invokevirtual 83, 3) := by decide +kernel
theorem dX8_book_50 : decode cX8_book 50 = .ok (.ireturn, 1) := by decide +kernel
theorem dX8_book_51 : decode cX8_book 51 = .ok (.aload_n 0, 1) := by decide +kernel
theorem dX8_book_52 : decode cX8_book 52 = .ok (.getfield 17, 3) := by decide +kernel
theorem dX8_book_55 : decode cX8_book 55 = .ok (.iload_n 3, 1) := by decide +kernel
theorem dX8_book_56 : decode cX8_book 56 = .ok (.iaload, 1) := by decide +kernel
theorem dX8_book_57 : decode cX8_book 57 = .ok (.iconst (-1), 1) := by decide +kernel
theorem dX8_book_58 : decode cX8_book 58 = .ok (.if_icmp .ne 9, 3) := by decide +kernel
theorem dX8_book_61 : decode cX8_book 61 = .ok (.aload_n 0, 1) := by decide +kernel
theorem dX8_book_62 : decode cX8_book 62 = .ok (.iconst 2, 1) := by decide +kernel
theorem dX8_book_63 : decode cX8_book 63 = .ok (.invokevirtual 83, 3) := by decide +kernel
theorem dX8_book_66 : decode cX8_book 66 = .ok (.ireturn, 1) := by decide +kernel
theorem dX8_book_67 : decode cX8_book 67 = .ok (.iload 4, 2) := by decide +kernel
theorem dX8_book_69 : decode cX8_book 69 = .ok (.aload_n 0, 1) := by decide +kernel
theorem dX8_book_70 : decode cX8_book 70 = .ok (.getfield 17, 3) := by decide +kernel
theorem dX8_book_73 : decode cX8_book 73 = .ok (.iload_n 3, 1) := by decide +kernel
theorem dX8_book_74 : decode cX8_book 74 = .ok (.iaload, 1) := by decide +kernel
theorem dX8_book_75 : decode cX8_book 75 = .ok (.if_icmp .le 9, 3) := by decide +kernel
theorem dX8_book_78 : decode cX8_book 78 = .ok (.aload_n 0, 1) := by decide +kernel
theorem dX8_book_79 : decode cX8_book 79 = .ok (.iconst 3, 1) := by decide +kernel
theorem dX8_book_80 : decode cX8_book 80 = .ok (.invokevirtual 83, 3) := by decide +kernel
theorem dX8_book_83 : decode cX8_book 83 = .ok (.ireturn, 1) := by decide +kernel
theorem dX8_book_84 : decode cX8_book 84 = .ok (.iconst 0, 1) := by decide +kernel
theorem dX8_book_85 : decode cX8_book 85 = .ok (.istore 5, 2) := by decide +kernel
theorem dX8_book_87 : decode cX8_book 87 = .ok (.iload 5, 2) := by decide +kernel
theorem dX8_book_89 : decode cX8_book 89 = .ok (.iload 4, 2) := by decide +kernel
theorem dX8_book_91 : decode cX8_book 91 = .ok (.if_icmp .ge 63, 3) := by decide +kernel
theorem dX8_book_94 : decode cX8_book 94 = .ok (.aload_n 0, 1) := by decide +kernel
theorem dX8_book_95 : decode cX8_book 95 = .ok (.getfield 20, 3) := by decide +kernel
theorem dX8_book_98 : decode cX8_book 98 = .ok (.bipush 60, 2) := by decide +kernel
theorem dX8_book_100 : decode cX8_book 100 = .ok (.iload_n 3, 1) := by decide +kernel
theorem dX8_book_101 : decode cX8_book 101 = .ok (.imul, 1) := by decide +kernel
theorem dX8_book_102 : decode cX8_book 102 = .ok (.iload 5, 2) := by decide +kernel
theorem dX8_book_104 : decode cX8_book 104 = .ok (.iadd, 1) := by decide +kernel
theorem dX8_book_105 : decode cX8_book 105 = .ok (.laload, 1) := by decide +kernel
theorem dX8_book_106 : decode cX8_book 106 = .ok (.lstore 6, 2) := by decide +kernel
theorem dX8_book_108 : decode cX8_book 108 = .ok (.lload 6, 2) := by decide +kernel
theorem dX8_book_110 : decode cX8_book 110 = .ok (.ldc2_w 94, 3) := by decide +kernel
theorem dX8_book_113 : decode cX8_book 113 = .ok (.lcmp, 1) := by decide +kernel
theorem dX8_book_114 : decode cX8_book 114 = .ok (.ifCond .eq 34, 3) := by decide +kernel
theorem dX8_book_117 : decode cX8_book 117 = .ok (.lload 6, 2) := by decide +kernel
theorem dX8_book_119 : decode cX8_book 119 = .ok (.lconst 0, 1) := by decide +kernel
theorem dX8_book_120 : decode cX8_book 120 = .ok (.lcmp, 1) := by decide +kernel
theorem dX8_book_121 : decode cX8_book 121 = .ok (.ifCond .lt 21, 3) := by decide +kernel
theorem dX8_book_124 : decode cX8_book 124 = .ok (.lload 6, 2) := by decide +kernel
theorem dX8_book_126 : decode cX8_book 126 = .ok (.ldc2_w 120, 3) := by decide +kernel
theorem dX8_book_129 : decode cX8_book 129 = .ok (.ldiv, 1) := by decide +kernel
theorem dX8_book_130 : decode cX8_book 130 = .ok (.lload 6, 2) := by decide +kernel
theorem dX8_book_132 : decode cX8_book 132 = .ok (.ldc2_w 120, 3) := by decide +kernel
theorem dX8_book_135 : decode cX8_book 135 = .ok (.lrem, 1) := by decide +kernel
theorem dX8_book_136 : decode cX8_book 136 = .ok (.invokestatic 116, 3) := by decide +kernel
theorem dX8_book_139 : decode cX8_book 139 = .ok (.ifCond .ne 9, 3) := by decide +kernel
theorem dX8_book_142 : decode cX8_book 142 = .ok (.aload_n 0, 1) := by decide +kernel
theorem dX8_book_143 : decode cX8_book 143 = .ok (.iconst 1, 1) := by decide +kernel
theorem dX8_book_144 : decode cX8_book 144 = .ok (.invokevirtual 83, 3) := by decide +kernel
theorem dX8_book_147 : decode cX8_book 147 = .ok (.ireturn, 1) := by decide +kernel
theorem dX8_book_148 : decode cX8_book 148 = .ok (.iinc 5 1, 3) := by decide +kernel
theorem dX8_book_151 : decode cX8_book 151 = .ok (.goto (-64), 3) := by decide +kernel
theorem dX8_book_154 : decode cX8_book 154 = .ok (.iconst 0, 1) := by decide +kernel
theorem dX8_book_155 : decode cX8_book 155 = .ok (.istore 5, 2) := by decide +kernel
theorem dX8_book_157 : decode cX8_book 157 = .ok (.iload 5, 2) := by decide +kernel
theorem dX8_book_159 : decode cX8_book 159 = .ok (.iload 4, 2) := by decide +kernel
theorem dX8_book_161 : decode cX8_book 161 = .ok (.if_icmp .ge 85, 3) := by decide +kernel
theorem dX8_book_164 : decode cX8_book 164 = .ok (.aload_n 0, 1) := by decide +kernel
theorem dX8_book_165 : decode cX8_book 165 = .ok (.getfield 20, 3) := by decide +kernel
theorem dX8_book_168 : decode cX8_book 168 = .ok (.bipush 60, 2) := by decide +kernel
theorem dX8_book_170 : decode cX8_book 170 = .ok (.iload_n 3, 1) := by decide +kernel
theorem dX8_book_171 : decode cX8_book 171 = .ok (.imul, 1) := by decide +kernel
theorem dX8_book_172 : decode cX8_book 172 = .ok (.iload 5, 2) := by decide +kernel
theorem dX8_book_174 : decode cX8_book 174 = .ok (.iadd, 1) := by decide +kernel
theorem dX8_book_175 : decode cX8_book 175 = .ok (.laload, 1) := by decide +kernel
theorem dX8_book_176 : decode cX8_book 176 = .ok (.lstore 6, 2) := by decide +kernel
theorem dX8_book_178 : decode cX8_book 178 = .ok (.aload_n 0, 1) := by decide +kernel
theorem dX8_book_179 : decode cX8_book 179 = .ok (.getfield 31, 3) := by decide +kernel
theorem dX8_book_182 : decode cX8_book 182 = .ok (.iload_n 1, 1) := by decide +kernel
theorem dX8_book_183 : decode cX8_book 183 = .ok (.iload_n 2, 1) := by decide +kernel
theorem dX8_book_184 : decode cX8_book 184 = .ok (.iload 5, 2) := by decide +kernel
theorem dX8_book_186 : decode cX8_book 186 = .ok (.iadd, 1) := by decide +kernel
theorem dX8_book_187 : decode cX8_book 187 = .ok (.invokestatic 103, 3) := by decide +kernel
theorem dX8_book_190 : decode cX8_book 190 = .ok (.lload 6, 2) := by decide +kernel
theorem dX8_book_192 : decode cX8_book 192 = .ok (.ldc2_w 94, 3) := by decide +kernel
theorem dX8_book_195 : decode cX8_book 195 = .ok (.lcmp, 1) := by decide +kernel
theorem dX8_book_196 : decode cX8_book 196 = .ok (.ifCond .ne 7, 3) := by decide +kernel
theorem dX8_book_199 : decode cX8_book 199 = .ok (.iconst (-1), 1) := by decide +kernel
theorem dX8_book_200 : decode cX8_book 200 = .ok (.goto 10, 3) := by decide +kernel
theorem dX8_book_203 : decode cX8_book 203 = .ok (.lload 6, 2) := by decide +kernel
theorem dX8_book_205 : decode cX8_book 205 = .ok (.ldc2_w 120, 3) := by decide +kernel
theorem dX8_book_208 : decode cX8_book 208 = .ok (.ldiv, 1) := by decide +kernel
theorem dX8_book_209 : decode cX8_book 209 = .ok (.l2i, 1) := by decide +kernel
theorem dX8_book_210 : decode cX8_book 210 = .ok (.iastore, 1) := by decide +kernel
theorem dX8_book_211 : decode cX8_book 211 = .ok (.lload 6, 2) := by decide +kernel
theorem dX8_book_213 : decode cX8_book 213 = .ok (.ldc2_w 94, 3) := by decide +kernel
theorem dX8_book_216 : decode cX8_book 216 = .ok (.lcmp, 1) := by decide +kernel
theorem dX8_book_217 : decode cX8_book 217 = .ok (.ifCond .eq 23, 3) := by decide +kernel
theorem dX8_book_220 : decode cX8_book 220 = .ok (.aload_n 0, 1) := by decide +kernel
theorem dX8_book_221 : decode cX8_book 221 = .ok (.getfield 34, 3) := by decide +kernel
theorem dX8_book_224 : decode cX8_book 224 = .ok (.iload_n 1, 1) := by decide +kernel
theorem dX8_book_225 : decode cX8_book 225 = .ok (.iload_n 2, 1) := by decide +kernel
theorem dX8_book_226 : decode cX8_book 226 = .ok (.iload 5, 2) := by decide +kernel
theorem dX8_book_228 : decode cX8_book 228 = .ok (.iadd, 1) := by decide +kernel
theorem dX8_book_229 : decode cX8_book 229 = .ok (.invokestatic 103, 3) := by decide +kernel
theorem dX8_book_232 : decode cX8_book 232 = .ok (.lload 6, 2) := by decide +kernel
theorem dX8_book_234 : decode cX8_book 234 = .ok (.ldc2_w 120, 3) := by decide +kernel
theorem dX8_book_237 : decode cX8_book 237 = .ok (.lrem, 1) := by decide +kernel
theorem dX8_book_238 : decode cX8_book 238 = .ok (.l2i, 1) := by decide +kernel
theorem dX8_book_239 : decode cX8_book 239 = .ok (.iastore, 1) := by decide +kernel
theorem dX8_book_240 : decode cX8_book 240 = .ok (.iinc 5 1, 3) := by decide +kernel
theorem dX8_book_243 : decode cX8_book 243 = .ok (.goto (-86), 3) := by decide +kernel
theorem dX8_book_246 : decode cX8_book 246 = .ok (.aload_n 0, 1) := by decide +kernel
theorem dX8_book_247 : decode cX8_book 247 = .ok (.iconst 0, 1) := by decide +kernel
theorem dX8_book_248 : decode cX8_book 248 = .ok (.invokevirtual 83, 3) := by decide +kernel
theorem dX8_book_251 : decode cX8_book 251 = .ok (.ireturn, 1) := by decide +kernel
set_option maxRecDepth 20000 in
theorem ggX8_number_X8_at : GoodIn wsX8_number wsX8_at := goodIn_r _ [6] (by decide +kernel) (by decide +kernel)
set_option maxRecDepth 20000 in
theorem gX8_number_X8_at : GoodIn wsX8_number (va_wsS RX8 103 yX8_at wsX8_at) := goodIn_app (goodIn_of _ (by decide +kernel)) ggX8_number_X8_at
theorem dX8_number_0 : decode cX8_number 0 = .ok (.bipush 10, 2) := by decide +kernel
theorem dX8_number_2 : decode cX8_number 2 = .ok (.aload_n 0, 1) := by decide +kernel
theorem dX8_number_3 : decode cX8_number 3 = .ok (.getfield 31, 3) := by decide +kernel
theorem dX8_number_6 : decode cX8_number 6 = .ok (.iload_n 1, 1) := by decide +kernel
theorem dX8_number_7 : decode cX8_number 7 = .ok (.iload_n 2, 1) := by decide +kernel
theorem dX8_number_8 : decode cX8_number 8 = .ok (.invokestatic 103, 3) := by decide +kernel
theorem dX8_number_11 : decode cX8_number 11 = .ok (.iaload, 1) := by decide +kernel
theorem dX8_number_12 : decode cX8_number 12 = .ok (.imul, 1) := by decide +kernel
theorem dX8_number_13 : decode cX8_number 13 = .ok (.aload_n 0, 1) := by decide +kernel
theorem dX8_number_14 : decode cX8_number 14 = .ok (.getfield 34, 3) := by decide +kernel
theorem dX8_number_17 : decode cX8_number 17 = .ok (.iload_n 1, 1) := by decide +kernel
theorem dX8_number_18 : decode cX8_number 18 = .ok (.iload_n 2, 1) := by decide +kernel
theorem dX8_number_19 : decode cX8_number 19 = .ok (.invokestatic 103, 3) := by decide +kernel
theorem dX8_number_22 : decode cX8_number 22 = .ok (.iaload, 1) := by decide +kernel
theorem dX8_number_23 : decode cX8_number 23 = .ok (.iadd, 1) := by decide +kernel
theorem dX8_number_24 : decode cX8_number 24 = .ok (.ireturn, 1) := by decide +kernel
set_option maxRecDepth 20000 in
theorem ggX8_told_X8_isEye : GoodIn wsX8_told wsX8_isEye := goodIn_r _ [8, 9, 24, 25, 26, 27, 28, 29, 30, 31, 32, 33, 34, 35, 36, 37, 38, 39, 40, 41, 42, 43, 44, 45, 46] (by decide +kernel) (by decide +kernel)
set_option maxRecDepth 20000 in
theorem gX8_told_X8_isEye : GoodIn wsX8_told (wsV RX8 110 RX8 yX8_isEye wsX8_isEye) := goodIn_app (goodIn_of _ (by decide +kernel)) ggX8_told_X8_isEye
set_option maxRecDepth 20000 in
theorem ggX8_told_X8_isDay : GoodIn wsX8_told wsX8_isDay := goodIn_r _ [12] (by decide +kernel) (by decide +kernel)
set_option maxRecDepth 20000 in
theorem gX8_told_X8_isDay : GoodIn wsX8_told (va_wsS RX8 113 yX8_isDay wsX8_isDay) := goodIn_app (goodIn_of _ (by decide +kernel)) ggX8_told_X8_isDay
set_option maxRecDepth 20000 in
theorem ggX8_told_X8_refuse : GoodIn wsX8_told wsX8_refuse := goodIn_r _ [16, 2, 24, 25, 26, 27, 28, 29, 30, 31, 32, 33, 34, 35, 36, 37, 38, 39, 40, 41, 42, 43, 44, 45, 46] (by decide +kernel) (by decide +kernel)
set_option maxRecDepth 20000 in
theorem gX8_told_X8_refuse : GoodIn wsX8_told (wsV RX8 99 RX8 yX8_refuse wsX8_refuse) := goodIn_app (goodIn_of _ (by decide +kernel)) ggX8_told_X8_refuse
set_option maxRecDepth 20000 in
theorem ggX8_told_X8_at : GoodIn wsX8_told wsX8_at := goodIn_r _ [19] (by decide +kernel) (by decide +kernel)
set_option maxRecDepth 20000 in
theorem gX8_told_X8_at : GoodIn wsX8_told (va_wsS RX8 103 yX8_at wsX8_at) := goodIn_app (goodIn_of _ (by decide +kernel)) ggX8_told_X8_at
set_option maxRecDepth 20000 in
theorem ggX8_told_X8_number : GoodIn wsX8_told wsX8_number := goodIn_r _ [23, 1, 3, 17, 18, 7, 19, 24, 25, 26, 27, 28, 29, 30, 31, 32, 33, 34, 35, 36, 37, 38, 39, 40, 41, 42, 43, 44, 45, 46] (by decide +kernel) (by decide +kernel)
set_option maxRecDepth 20000 in
theorem gX8_told_X8_number : GoodIn wsX8_told (wsV RX8 122 RX8 yX8_number wsX8_number) := goodIn_app (goodIn_of _ (by decide +kernel)) ggX8_told_X8_number
theorem dX8_told_0 : decode cX8_told 0 = .ok (.aload_n 0, 1) := by decide +kernel
theorem dX8_told_1 : decode cX8_told 1 = .ok (.iload_n 1, 1) := by decide +kernel
theorem dX8_told_2 : decode cX8_told 2 = .ok (.invokevirtual 110, 3) := by decide +kernel
theorem dX8_told_5 : decode cX8_told 5 = .ok (.ifCond .eq 19, 3) := by decide +kernel
theorem dX8_told_8 : decode cX8_told 8 = .ok (.iload_n 2, 1) := by decide +kernel
theorem dX8_told_9 : decode cX8_told 9 = .ok (.invokestatic 113, 3) := by decide +kernel
theorem dX8_told_12 : decode cX8_told 12 = .ok (.ifCond .eq 12, 3) := by decide +kernel
theorem dX8_told_15 : decode cX8_told 15 = .ok (.iload_n 3, 1) := by decide +kernel
theorem dX8_told_16 : decode cX8_told 16 = .ok (.ifCond .lt 8, 3) := by decide +kernel
theorem dX8_told_19 : decode cX8_told 19 = .ok (.iload_n 3, 1) := by decide +kernel
theorem dX8_told_20 : decode cX8_told 20 = .ok (.iconst 2, 1) := by decide +kernel
theorem dX8_told_21 : decode cX8_told 21 = .ok (.if_icmp .le 9, 3) := by decide +kernel
theorem dX8_told_24 : decode cX8_told 24 = .ok (.aload_n 0, 1) := by decide +kernel
theorem dX8_told_25 : decode cX8_told 25 = .ok (.iconst 1, 1) := by decide +kernel
theorem dX8_told_26 : decode cX8_told 26 = .ok (.invokevirtual 99, 3) := by decide +kernel
theorem dX8_told_29 : decode cX8_told 29 = .ok (.ireturn, 1) := by decide +kernel
theorem dX8_told_30 : decode cX8_told 30 = .ok (.aload_n 0, 1) := by decide +kernel
theorem dX8_told_31 : decode cX8_told 31 = .ok (.getfield 31, 3) := by decide +kernel
theorem dX8_told_34 : decode cX8_told 34 = .ok (.iload_n 1, 1) := by decide +kernel
theorem dX8_told_35 : decode cX8_told 35 = .ok (.iload_n 2, 1) := by decide +kernel
theorem dX8_told_36 : decode cX8_told 36 = .ok (.invokestatic 103, 3) := by decide +kernel
theorem dX8_told_39 : decode cX8_told 39 = .ok (.iaload, 1) := by decide +kernel
theorem dX8_told_40 : decode cX8_told 40 = .ok (.iconst (-1), 1) := by decide +kernel
theorem dX8_told_41 : decode cX8_told 41 = .ok (.if_icmp .ne 9, 3) := by decide +kernel
theorem dX8_told_44 : decode cX8_told 44 = .ok (.aload_n 0, 1) := by decide +kernel
theorem dX8_told_45 : decode cX8_told 45 = .ok (.iconst 5, 1) := by decide +kernel
theorem dX8_told_46 : decode cX8_told 46 = .ok (.invokevirtual 99, 3) := by decide +kernel
theorem dX8_told_49 : decode cX8_told 49 = .ok (.ireturn, 1) := by decide +kernel
theorem dX8_told_50 : decode cX8_told 50 = .ok (.aload_n 0, 1) := by decide +kernel
theorem dX8_told_51 : decode cX8_told 51 = .ok (.iconst 0, 1) := by decide +kernel
theorem dX8_told_52 : decode cX8_told 52 = .ok (.putfield 73, 3) := by decide +kernel
theorem dX8_told_55 : decode cX8_told 55 = .ok (.iload_n 3, 1) := by decide +kernel
theorem dX8_told_56 : decode cX8_told 56 = .ok (.ifCond .ne 16, 3) := by decide +kernel
theorem dX8_told_59 : decode cX8_told 59 = .ok (.aload_n 0, 1) := by decide +kernel
theorem dX8_told_60 : decode cX8_told 60 = .ok (.getfield 31, 3) := by decide +kernel
theorem dX8_told_63 : decode cX8_told 63 = .ok (.iload_n 1, 1) := by decide +kernel
theorem dX8_told_64 : decode cX8_told 64 = .ok (.iload_n 2, 1) := by decide +kernel
theorem dX8_told_65 : decode cX8_told 65 = .ok (.invokestatic 103, 3) := by decide +kernel
theorem dX8_told_68 : decode cX8_told 68 = .ok (.iaload, 1) := by decide +kernel
theorem dX8_told_69 : decode cX8_told 69 = .ok (.goto 27, 3) := by decide +kernel
theorem dX8_told_72 : decode cX8_told 72 = .ok (.iload_n 3, 1) := by decide +kernel
theorem dX8_told_73 : decode cX8_told 73 = .ok (.iconst 1, 1) := by decide +kernel
theorem dX8_told_74 : decode cX8_told 74 = .ok (.if_icmp .ne 16, 3) := by decide +kernel
theorem dX8_told_77 : decode cX8_told 77 = .ok (.aload_n 0, 1) := by decide +kernel
theorem dX8_told_78 : decode cX8_told 78 = .ok (.getfield 34, 3) := by decide +kernel
theorem dX8_told_81 : decode cX8_told 81 = .ok (.iload_n 1, 1) := by decide +kernel
theorem dX8_told_82 : decode cX8_told 82 = .ok (.iload_n 2, 1) := by decide +kernel
theorem dX8_told_83 : decode cX8_told 83 = .ok (.invokestatic 103, 3) := by decide +kernel
theorem dX8_told_86 : decode cX8_told 86 = .ok (.iaload, 1) := by decide +kernel
theorem dX8_told_87 : decode cX8_told 87 = .ok (.goto 9, 3) := by decide +kernel
theorem dX8_told_90 : decode cX8_told 90 = .ok (.aload_n 0, 1) := by decide +kernel
theorem dX8_told_91 : decode cX8_told 91 = .ok (.iload_n 1, 1) := by decide +kernel
theorem dX8_told_92 : decode cX8_told 92 = .ok (.iload_n 2, 1) := by decide +kernel
theorem dX8_told_93 : decode cX8_told 93 = .ok (.invokevirtual 122, 3) := by decide +kernel
theorem dX8_told_96 : decode cX8_told 96 = .ok (.ireturn, 1) := by decide +kernel
set_option maxRecDepth 20000 in
theorem ggX8_days_X8_isEye : GoodIn wsX8_days wsX8_isEye := goodIn_r _ [7, 8, 16, 17, 18, 19, 20, 21, 22, 23, 24, 25, 26, 27, 28, 29, 30, 31, 32, 33, 34, 35, 36, 37, 38] (by decide +kernel) (by decide +kernel)
set_option maxRecDepth 20000 in
theorem gX8_days_X8_isEye : GoodIn wsX8_days (wsV RX8 110 RX8 yX8_isEye wsX8_isEye) := goodIn_app (goodIn_of _ (by decide +kernel)) ggX8_days_X8_isEye
set_option maxRecDepth 20000 in
theorem ggX8_days_X8_refuse : GoodIn wsX8_days wsX8_refuse := goodIn_r _ [12, 1, 16, 17, 18, 19, 20, 21, 22, 23, 24, 25, 26, 27, 28, 29, 30, 31, 32, 33, 34, 35, 36, 37, 38] (by decide +kernel) (by decide +kernel)
set_option maxRecDepth 20000 in
theorem gX8_days_X8_refuse : GoodIn wsX8_days (wsV RX8 99 RX8 yX8_refuse wsX8_refuse) := goodIn_app (goodIn_of _ (by decide +kernel)) ggX8_days_X8_refuse
set_option maxRecDepth 20000 in
theorem ggX8_days_X8_at : GoodIn wsX8_days wsX8_at := goodIn_r _ [15] (by decide +kernel) (by decide +kernel)
set_option maxRecDepth 20000 in
theorem gX8_days_X8_at : GoodIn wsX8_days (va_wsS RX8 103 yX8_at wsX8_at) := goodIn_app (goodIn_of _ (by decide +kernel)) ggX8_days_X8_at
theorem dX8_days_0 : decode cX8_days 0 = .ok (.aload_n 0, 1) := by decide +kernel
theorem dX8_days_1 : decode cX8_days 1 = .ok (.iload_n 1, 1) := by decide +kernel
theorem dX8_days_2 : decode cX8_days 2 = .ok (.invokevirtual 110, 3) := by decide +kernel
theorem dX8_days_5 : decode cX8_days 5 = .ok (.ifCond .ne 9, 3) := by decide +kernel
theorem dX8_days_8 : decode cX8_days 8 = .ok (.aload_n 0, 1) := by decide +kernel
theorem dX8_days_9 : decode cX8_days 9 = .ok (.iconst 1, 1) := by decide +kernel
theorem dX8_days_10 : decode cX8_days 10 = .ok (.invokevirtual 99, 3) := by decide +kernel
theorem dX8_days_13 : decode cX8_days 13 = .ok (.ireturn, 1) := by decide +kernel
theorem dX8_days_14 : decode cX8_days 14 = .ok (.aload_n 0, 1) := by decide +kernel
theorem dX8_days_15 : decode cX8_days 15 = .ok (.iconst 0, 1) := by decide +kernel
theorem dX8_days_16 : decode cX8_days 16 = .ok (.putfield 73, 3) := by decide +kernel
theorem dX8_days_19 : decode cX8_days 19 = .ok (.iconst 0, 1) := by decide +kernel
theorem dX8_days_20 : decode cX8_days 20 = .ok (.istore_n 2, 1) := by decide +kernel
theorem dX8_days_21 : decode cX8_days 21 = .ok (.iconst 0, 1) := by decide +kernel
theorem dX8_days_22 : decode cX8_days 22 = .ok (.istore_n 3, 1) := by decide +kernel
theorem dX8_days_23 : decode cX8_days 23 = .ok (.iload_n 3, 1) := by decide +kernel
theorem dX8_days_24 : decode cX8_days 24 = .ok (.sipush 240, 3) := by decide +kernel
theorem dX8_days_27 : decode cX8_days 27 = .ok (.if_icmp .ge 31, 3) := by decide +kernel
end
section
theorem dX8_days_30 : decode cX8_days 30 = .ok (.iload_n 2, 1) := by decide +kernel
theorem dX8_days_31 : decode cX8_days 31 = .ok (.aload_n 0, 1) := by decide +kernel
theorem dX8_days_32 : decode cX8_days 32 = .ok (.getfield 31, 3) := by decide +kernel
theorem dX8_days_35 : decode cX8_days 35 = .ok (.iload_n 1, 1) := by decide +kernel
theorem dX8_days_36 : decode cX8_days 36 = .ok (.iload_n 3, 1) := by decide +kernel
theorem dX8_days_37 : decode cX8_days 37 = .ok (.invokestatic 103, 3) := by decide +kernel
theorem dX8_days_40 : decode cX8_days 40 = .ok (.iaload, 1) := by decide +kernel
theorem dX8_days_41 : decode cX8_days 41 = .ok (.iconst (-1), 1) := by decide +kernel
theorem dX8_days_42 : decode cX8_days 42 = .ok (.if_icmp .ne 7, 3) := by decide +kernel
theorem dX8_days_45 : decode cX8_days 45 = .ok (.iconst 0, 1) := by decide +kernel
theorem dX8_days_46 : decode cX8_days 46 = .ok (.goto 4, 3) := by decide +kernel
theorem dX8_days_49 : decode cX8_days 49 = .ok (.iconst 1, 1) := by decide +kernel
theorem dX8_days_50 : decode cX8_days 50 = .ok (.iadd, 1) := by decide +kernel
theorem dX8_days_51 : decode cX8_days 51 = .ok (.istore_n 2, 1) := by decide +kernel
theorem dX8_days_52 : decode cX8_days 52 = .ok (.iinc 3 1, 3) := by decide +kernel
theorem dX8_days_55 : decode cX8_days 55 = .ok (.goto (-32), 3) := by decide +kernel
theorem dX8_days_58 : decode cX8_days 58 = .ok (.iload_n 2, 1) := by decide +kernel
theorem dX8_days_59 : decode cX8_days 59 = .ok (.ireturn, 1) := by decide +kernel
set_option maxRecDepth 20000 in
theorem ggX8_rules_X8_is : GoodIn wsX8_rules wsX8_is := goodIn_r _ [7, 8, 9, 10, 11, 12, 13, 14, 15, 16, 17, 18, 19, 20, 21, 22, 23, 24, 25, 26, 27, 28, 29, 30, 31] (by decide +kernel) (by decide +kernel)
set_option maxRecDepth 20000 in
theorem gX8_rules_X8_is : GoodIn wsX8_rules (wsV RX8 83 RX8 yX8_is wsX8_is) := goodIn_app (goodIn_of _ (by decide +kernel)) ggX8_rules_X8_is
theorem dX8_rules_0 : decode cX8_rules 0 = .ok (.iload_n 1, 1) := by decide +kernel
theorem dX8_rules_1 : decode cX8_rules 1 = .ok (.iconst 1, 1) := by decide +kernel
theorem dX8_rules_2 : decode cX8_rules 2 = .ok (.if_icmp .lt 20, 3) := by decide +kernel
theorem dX8_rules_5 : decode cX8_rules 5 = .ok (.iload_n 1, 1) := by decide +kernel
theorem dX8_rules_6 : decode cX8_rules 6 = .ok (.bipush 100, 2) := by decide +kernel
theorem dX8_rules_8 : decode cX8_rules 8 = .ok (.if_icmp .gt 14, 3) := by decide +kernel
theorem dX8_rules_11 : decode cX8_rules 11 = .ok (.iload_n 2, 1) := by decide +kernel
theorem dX8_rules_12 : decode cX8_rules 12 = .ok (.iconst 1, 1) := by decide +kernel
theorem dX8_rules_13 : decode cX8_rules 13 = .ok (.if_icmp .lt 9, 3) := by decide +kernel
theorem dX8_rules_16 : decode cX8_rules 16 = .ok (.iload_n 2, 1) := by decide +kernel
theorem dX8_rules_17 : decode cX8_rules 17 = .ok (.bipush 10, 2) := by decide +kernel
theorem dX8_rules_19 : decode cX8_rules 19 = .ok (.if_icmp .le 9, 3) := by decide +kernel
theorem dX8_rules_22 : decode cX8_rules 22 = .ok (.aload_n 0, 1) := by decide +kernel
theorem dX8_rules_23 : decode cX8_rules 23 = .ok (.iconst 1, 1) := by decide +kernel
theorem dX8_rules_24 : decode cX8_rules 24 = .ok (.invokevirtual 83, 3) := by decide +kernel
theorem dX8_rules_27 : decode cX8_rules 27 = .ok (.ireturn, 1) := by decide +kernel
theorem dX8_rules_28 : decode cX8_rules 28 = .ok (.aload_n 0, 1) := by decide +kernel
theorem dX8_rules_29 : decode cX8_rules 29 = .ok (.iload_n 1, 1) := by decide +kernel
theorem dX8_rules_30 : decode cX8_rules 30 = .ok (.putfield 24, 3) := by decide +kernel
theorem dX8_rules_33 : decode cX8_rules 33 = .ok (.aload_n 0, 1) := by decide +kernel
theorem dX8_rules_34 : decode cX8_rules 34 = .ok (.iload_n 2, 1) := by decide +kernel
theorem dX8_rules_35 : decode cX8_rules 35 = .ok (.putfield 28, 3) := by decide +kernel
theorem dX8_rules_38 : decode cX8_rules 38 = .ok (.aload_n 0, 1) := by decide +kernel
theorem dX8_rules_39 : decode cX8_rules 39 = .ok (.iconst 0, 1) := by decide +kernel
theorem dX8_rules_40 : decode cX8_rules 40 = .ok (.invokevirtual 83, 3) := by decide +kernel
theorem dX8_rules_43 : decode cX8_rules 43 = .ok (.ireturn, 1) := by decide +kernel
set_option maxRecDepth 20000 in
theorem ggX8_tells_X8_at : GoodIn wsX8_tells wsX8_at := goodIn_r _ [6] (by decide +kernel) (by decide +kernel)
set_option maxRecDepth 20000 in
theorem gX8_tells_X8_at : GoodIn wsX8_tells (va_wsS RX8 103 yX8_at wsX8_at) := goodIn_app (goodIn_of _ (by decide +kernel)) ggX8_tells_X8_at
theorem dX8_tells_0 : decode cX8_tells 0 = .ok (.iload_n 1, 1) := by decide +kernel
theorem dX8_tells_1 : decode cX8_tells 1 = .ok (.aload_n 0, 1) := by decide +kernel
theorem dX8_tells_2 : decode cX8_tells 2 = .ok (.getfield 37, 3) := by decide +kernel
theorem dX8_tells_5 : decode cX8_tells 5 = .ok (.if_icmp .eq 21, 3) := by decide +kernel
theorem dX8_tells_8 : decode cX8_tells 8 = .ok (.aload_n 0, 1) := by decide +kernel
theorem dX8_tells_9 : decode cX8_tells 9 = .ok (.getfield 31, 3) := by decide +kernel
theorem dX8_tells_12 : decode cX8_tells 12 = .ok (.iload_n 1, 1) := by decide +kernel
theorem dX8_tells_13 : decode cX8_tells 13 = .ok (.iload_n 2, 1) := by decide +kernel
theorem dX8_tells_14 : decode cX8_tells 14 = .ok (.invokestatic 103, 3) := by decide +kernel
theorem dX8_tells_17 : decode cX8_tells 17 = .ok (.iaload, 1) := by decide +kernel
theorem dX8_tells_18 : decode cX8_tells 18 = .ok (.iconst (-1), 1) := by decide +kernel
theorem dX8_tells_19 : decode cX8_tells 19 = .ok (.if_icmp .eq 7, 3) := by decide +kernel
theorem dX8_tells_22 : decode cX8_tells 22 = .ok (.iconst 1, 1) := by decide +kernel
theorem dX8_tells_23 : decode cX8_tells 23 = .ok (.goto 4, 3) := by decide +kernel
theorem dX8_tells_26 : decode cX8_tells 26 = .ok (.iconst 0, 1) := by decide +kernel
theorem dX8_tells_27 : decode cX8_tells 27 = .ok (.ireturn, 1) := by decide +kernel
set_option maxRecDepth 20000 in
theorem ggX8_areBoth_X8_tells : GoodIn wsX8_areBoth wsX8_tells := goodIn_r _ [5, 6, 7, 8, 9, 4, 10, 11, 12, 13, 14, 15, 16, 17, 18, 19, 20, 21, 22, 23, 24, 25, 26, 27, 28, 29, 30, 31, 32, 33] (by decide +kernel) (by decide +kernel)
set_option maxRecDepth 20000 in
theorem gX8_areBoth_X8_tells : GoodIn wsX8_areBoth (wsV RX8 125 RX8 yX8_tells wsX8_tells) := goodIn_app (goodIn_of _ (by decide +kernel)) ggX8_areBoth_X8_tells
theorem dX8_areBoth_0 : decode cX8_areBoth 0 = .ok (.aload_n 0, 1) := by decide +kernel
theorem dX8_areBoth_1 : decode cX8_areBoth 1 = .ok (.iload_n 1, 1) := by decide +kernel
theorem dX8_areBoth_2 : decode cX8_areBoth 2 = .ok (.iload_n 3, 1) := by decide +kernel
theorem dX8_areBoth_3 : decode cX8_areBoth 3 = .ok (.invokevirtual 125, 3) := by decide +kernel
theorem dX8_areBoth_6 : decode cX8_areBoth 6 = .ok (.ifCond .eq 16, 3) := by decide +kernel
theorem dX8_areBoth_9 : decode cX8_areBoth 9 = .ok (.aload_n 0, 1) := by decide +kernel
theorem dX8_areBoth_10 : decode cX8_areBoth 10 = .ok (.iload_n 2, 1) := by decide +kernel
theorem dX8_areBoth_11 : decode cX8_areBoth 11 = .ok (.iload_n 3, 1) := by decide +kernel
theorem dX8_areBoth_12 : decode cX8_areBoth 12 = .ok (.invokevirtual 125, 3) := by decide +kernel
theorem dX8_areBoth_15 : decode cX8_areBoth 15 = .ok (.ifCond .eq 7, 3) := by decide +kernel
theorem dX8_areBoth_18 : decode cX8_areBoth 18 = .ok (.iconst 1, 1) := by decide +kernel
theorem dX8_areBoth_19 : decode cX8_areBoth 19 = .ok (.goto 4, 3) := by decide +kernel
theorem dX8_areBoth_22 : decode cX8_areBoth 22 = .ok (.iconst 0, 1) := by decide +kernel
theorem dX8_areBoth_23 : decode cX8_areBoth 23 = .ok (.ireturn, 1) := by decide +kernel
set_option maxRecDepth 20000 in
theorem ggX8_bothOf_X8_areBoth : GoodIn wsX8_bothOf wsX8_areBoth := goodIn_r _ [5, 6, 7, 8, 4, 9, 10, 11, 12, 13, 14, 15, 16, 17, 18, 19, 20, 21, 22, 23, 24, 25, 26, 27, 28, 29, 30, 31, 32, 33, 34, 35, 36, 37] (by decide +kernel) (by decide +kernel)
set_option maxRecDepth 20000 in
theorem gX8_bothOf_X8_areBoth : GoodIn wsX8_bothOf (wsV RX8 129 RX8 yX8_areBoth wsX8_areBoth) := goodIn_app (goodIn_of _ (by decide +kernel)) ggX8_bothOf_X8_areBoth
theorem dX8_bothOf_0 : decode cX8_bothOf 0 = .ok (.iconst 0, 1) := by decide +kernel
theorem dX8_bothOf_1 : decode cX8_bothOf 1 = .ok (.istore_n 3, 1) := by decide +kernel
theorem dX8_bothOf_2 : decode cX8_bothOf 2 = .ok (.iconst 0, 1) := by decide +kernel
theorem dX8_bothOf_3 : decode cX8_bothOf 3 = .ok (.istore 4, 2) := by decide +kernel
theorem dX8_bothOf_5 : decode cX8_bothOf 5 = .ok (.iload 4, 2) := by decide +kernel
theorem dX8_bothOf_7 : decode cX8_bothOf 7 = .ok (.sipush 240, 3) := by decide +kernel
theorem dX8_bothOf_10 : decode cX8_bothOf 10 = .ok (.if_icmp .ge 28, 3) := by decide +kernel
theorem dX8_bothOf_13 : decode cX8_bothOf 13 = .ok (.iload_n 3, 1) := by decide +kernel
theorem dX8_bothOf_14 : decode cX8_bothOf 14 = .ok (.aload_n 0, 1) := by decide +kernel
theorem dX8_bothOf_15 : decode cX8_bothOf 15 = .ok (.iload_n 1, 1) := by decide +kernel
theorem dX8_bothOf_16 : decode cX8_bothOf 16 = .ok (.iload_n 2, 1) := by decide +kernel
theorem dX8_bothOf_17 : decode cX8_bothOf 17 = .ok (.iload 4, 2) := by decide +kernel
theorem dX8_bothOf_19 : decode cX8_bothOf 19 = .ok (.invokevirtual 129, 3) := by decide +kernel
theorem dX8_bothOf_22 : decode cX8_bothOf 22 = .ok (.ifCond .eq 7, 3) := by decide +kernel
theorem dX8_bothOf_25 : decode cX8_bothOf 25 = .ok (.iconst 1, 1) := by decide +kernel
theorem dX8_bothOf_26 : decode cX8_bothOf 26 = .ok (.goto 4, 3) := by decide +kernel
theorem dX8_bothOf_29 : decode cX8_bothOf 29 = .ok (.iconst 0, 1) := by decide +kernel
theorem dX8_bothOf_30 : decode cX8_bothOf 30 = .ok (.iadd, 1) := by decide +kernel
theorem dX8_bothOf_31 : decode cX8_bothOf 31 = .ok (.istore_n 3, 1) := by decide +kernel
theorem dX8_bothOf_32 : decode cX8_bothOf 32 = .ok (.iinc 4 1, 3) := by decide +kernel
theorem dX8_bothOf_35 : decode cX8_bothOf 35 = .ok (.goto (-30), 3) := by decide +kernel
theorem dX8_bothOf_38 : decode cX8_bothOf 38 = .ok (.iload_n 3, 1) := by decide +kernel
theorem dX8_bothOf_39 : decode cX8_bothOf 39 = .ok (.ireturn, 1) := by decide +kernel
set_option maxRecDepth 20000 in
theorem ggX8_areTwo_X8_isEye : GoodIn wsX8_areTwo wsX8_isEye := goodIn_r _ [5, 6, 7, 8, 9, 10, 11, 12, 13, 14, 15, 16, 17, 18, 19, 20, 21, 22, 23, 24, 25, 26, 27, 28, 29] (by decide +kernel) (by decide +kernel)
set_option maxRecDepth 20000 in
theorem gX8_areTwo_X8_isEye : GoodIn wsX8_areTwo (wsV RX8 110 RX8 yX8_isEye wsX8_isEye) := goodIn_app (goodIn_of _ (by decide +kernel)) ggX8_areTwo_X8_isEye
theorem dX8_areTwo_0 : decode cX8_areTwo 0 = .ok (.aload_n 0, 1) := by decide +kernel
theorem dX8_areTwo_1 : decode cX8_areTwo 1 = .ok (.iload_n 1, 1) := by decide +kernel
theorem dX8_areTwo_2 : decode cX8_areTwo 2 = .ok (.invokevirtual 110, 3) := by decide +kernel
theorem dX8_areTwo_5 : decode cX8_areTwo 5 = .ok (.ifCond .eq 20, 3) := by decide +kernel
theorem dX8_areTwo_8 : decode cX8_areTwo 8 = .ok (.aload_n 0, 1) := by decide +kernel
theorem dX8_areTwo_9 : decode cX8_areTwo 9 = .ok (.iload_n 2, 1) := by decide +kernel
theorem dX8_areTwo_10 : decode cX8_areTwo 10 = .ok (.invokevirtual 110, 3) := by decide +kernel
theorem dX8_areTwo_13 : decode cX8_areTwo 13 = .ok (.ifCond .eq 12, 3) := by decide +kernel
theorem dX8_areTwo_16 : decode cX8_areTwo 16 = .ok (.iload_n 1, 1) := by decide +kernel
theorem dX8_areTwo_17 : decode cX8_areTwo 17 = .ok (.iload_n 2, 1) := by decide +kernel
theorem dX8_areTwo_18 : decode cX8_areTwo 18 = .ok (.if_icmp .eq 7, 3) := by decide +kernel
theorem dX8_areTwo_21 : decode cX8_areTwo 21 = .ok (.iconst 1, 1) := by decide +kernel
theorem dX8_areTwo_22 : decode cX8_areTwo 22 = .ok (.goto 4, 3) := by decide +kernel
theorem dX8_areTwo_25 : decode cX8_areTwo 25 = .ok (.iconst 0, 1) := by decide +kernel
theorem dX8_areTwo_26 : decode cX8_areTwo 26 = .ok (.ireturn, 1) := by decide +kernel
set_option maxRecDepth 20000 in
theorem ggX8_both_X8_areTwo : GoodIn wsX8_both wsX8_areTwo := goodIn_r _ [6, 7, 8, 9, 5, 10, 11, 33, 34, 35, 36, 37, 38, 39, 40, 41, 42, 43, 44, 45, 46, 47, 48, 49, 50, 51, 52, 53, 54, 55] (by decide +kernel) (by decide +kernel)
set_option maxRecDepth 20000 in
theorem gX8_both_X8_areTwo : GoodIn wsX8_both (wsV RX8 133 RX8 yX8_areTwo wsX8_areTwo) := goodIn_app (goodIn_of _ (by decide +kernel)) ggX8_both_X8_areTwo
set_option maxRecDepth 20000 in
theorem ggX8_both_X8_refuse : GoodIn wsX8_both wsX8_refuse := goodIn_r _ [15, 1, 33, 34, 35, 36, 37, 38, 39, 40, 41, 42, 43, 44, 45, 46, 47, 48, 49, 50, 51, 52, 53, 54, 55] (by decide +kernel) (by decide +kernel)
set_option maxRecDepth 20000 in
theorem gX8_both_X8_refuse : GoodIn wsX8_both (wsV RX8 99 RX8 yX8_refuse wsX8_refuse) := goodIn_app (goodIn_of _ (by decide +kernel)) ggX8_both_X8_refuse
set_option maxRecDepth 20000 in
theorem ggX8_both_X8_bothOf : GoodIn wsX8_both wsX8_bothOf := goodIn_r _ [19, 20, 21, 22, 5, 23, 24, 25, 26, 27, 28, 29, 30, 31, 32, 33, 34, 35, 36, 37, 38, 39, 40, 41, 42, 43, 44, 45, 46, 47, 48, 49, 50, 51, 52, 53, 54, 55] (by decide +kernel) (by decide +kernel)
set_option maxRecDepth 20000 in
theorem gX8_both_X8_bothOf : GoodIn wsX8_both (wsV RX8 136 RX8 yX8_bothOf wsX8_bothOf) := goodIn_app (goodIn_of _ (by decide +kernel)) ggX8_both_X8_bothOf
theorem dX8_both_0 : decode cX8_both 0 = .ok (.aload_n 0, 1) := by decide +kernel
theorem dX8_both_1 : decode cX8_both 1 = .ok (.iload_n 1, 1) := by decide +kernel
theorem dX8_both_2 : decode cX8_both 2 = .ok (.iload_n 2, 1) := by decide +kernel
theorem dX8_both_3 : decode cX8_both 3 = .ok (.invokevirtual 133, 3) := by decide +kernel
theorem dX8_both_6 : decode cX8_both 6 = .ok (.ifCond .ne 9, 3) := by decide +kernel
theorem dX8_both_9 : decode cX8_both 9 = .ok (.aload_n 0, 1) := by decide +kernel
theorem dX8_both_10 : decode cX8_both 10 = .ok (.iconst 1, 1) := by decide +kernel
theorem dX8_both_11 : decode cX8_both 11 = .ok (.invokevirtual 99, 3) := by decide +kernel
theorem dX8_both_14 : decode cX8_both 14 = .ok (.ireturn, 1) := by decide +kernel
theorem dX8_both_15 : decode cX8_both 15 = .ok (.aload_n 0, 1) := by decide +kernel
theorem dX8_both_16 : decode cX8_both 16 = .ok (.iconst 0, 1) := by decide +kernel
theorem dX8_both_17 : decode cX8_both 17 = .ok (.putfield 73, 3) := by decide +kernel
theorem dX8_both_20 : decode cX8_both 20 = .ok (.aload_n 0, 1) := by decide +kernel
theorem dX8_both_21 : decode cX8_both 21 = .ok (.iload_n 1, 1) := by decide +kernel
theorem dX8_both_22 : decode cX8_both 22 = .ok (.iload_n 2, 1) := by decide +kernel
theorem dX8_both_23 : decode cX8_both 23 = .ok (.invokevirtual 136, 3) := by decide +kernel
theorem dX8_both_26 : decode cX8_both 26 = .ok (.ireturn, 1) := by decide +kernel
set_option maxRecDepth 20000 in
theorem ggX8_factorOf_X8_areBoth : GoodIn wsX8_factorOf wsX8_areBoth := goodIn_r _ [9, 10, 11, 12, 8, 13, 14, 15, 16, 17, 18, 24, 25, 26, 27, 28, 29, 30, 31, 32, 33, 34, 35, 36, 37, 38, 39, 40, 41, 42, 43, 44, 45, 46] (by decide +kernel) (by decide +kernel)
set_option maxRecDepth 20000 in
theorem gX8_factorOf_X8_areBoth : GoodIn wsX8_factorOf (wsV RX8 129 RX8 yX8_areBoth wsX8_areBoth) := goodIn_app (goodIn_of _ (by decide +kernel)) ggX8_factorOf_X8_areBoth
set_option maxRecDepth 20000 in
theorem ggX8_factorOf_X8_number : GoodIn wsX8_factorOf wsX8_number := goodIn_r _ [22, 15, 23, 16, 17, 8, 18, 24, 25, 26, 27, 28, 29, 30, 31, 32, 33, 34, 35, 36, 37, 38, 39, 40, 41, 42, 43, 44, 45, 46] (by decide +kernel) (by decide +kernel)
set_option maxRecDepth 20000 in
theorem gX8_factorOf_X8_number : GoodIn wsX8_factorOf (wsV RX8 122 RX8 yX8_number wsX8_number) := goodIn_app (goodIn_of _ (by decide +kernel)) ggX8_factorOf_X8_number
theorem dX8_factorOf_0 : decode cX8_factorOf 0 = .ok (.lconst 0, 1) := by decide +kernel
theorem dX8_factorOf_1 : decode cX8_factorOf 1 = .ok (.lstore_n 3, 1) := by decide +kernel
theorem dX8_factorOf_2 : decode cX8_factorOf 2 = .ok (.lconst 0, 1) := by decide +kernel
theorem dX8_factorOf_3 : decode cX8_factorOf 3 = .ok (.lstore 5, 2) := by decide +kernel
theorem dX8_factorOf_5 : decode cX8_factorOf 5 = .ok (.iconst 0, 1) := by decide +kernel
theorem dX8_factorOf_6 : decode cX8_factorOf 6 = .ok (.istore 7, 2) := by decide +kernel
theorem dX8_factorOf_8 : decode cX8_factorOf 8 = .ok (.iconst 0, 1) := by decide +kernel
theorem dX8_factorOf_9 : decode cX8_factorOf 9 = .ok (.istore 8, 2) := by decide +kernel
theorem dX8_factorOf_11 : decode cX8_factorOf 11 = .ok (.iload 8, 2) := by decide +kernel
theorem dX8_factorOf_13 : decode cX8_factorOf 13 = .ok (.sipush 240, 3) := by decide +kernel
theorem dX8_factorOf_16 : decode cX8_factorOf 16 = .ok (.if_icmp .ge 50, 3) := by decide +kernel
theorem dX8_factorOf_19 : decode cX8_factorOf 19 = .ok (.aload_n 0, 1) := by decide +kernel
theorem dX8_factorOf_20 : decode cX8_factorOf 20 = .ok (.iload_n 1, 1) := by decide +kernel
theorem dX8_factorOf_21 : decode cX8_factorOf 21 = .ok (.iload_n 2, 1) := by decide +kernel
theorem dX8_factorOf_22 : decode cX8_factorOf 22 = .ok (.iload 8, 2) := by decide +kernel
theorem dX8_factorOf_24 : decode cX8_factorOf 24 = .ok (.invokevirtual 129, 3) := by decide +kernel
theorem dX8_factorOf_27 : decode cX8_factorOf 27 = .ok (.ifCond .ne 6, 3) := by decide +kernel
theorem dX8_factorOf_30 : decode cX8_factorOf 30 = .ok (.goto 30, 3) := by decide +kernel
theorem dX8_factorOf_33 : decode cX8_factorOf 33 = .ok (.lload_n 3, 1) := by decide +kernel
theorem dX8_factorOf_34 : decode cX8_factorOf 34 = .ok (.aload_n 0, 1) := by decide +kernel
theorem dX8_factorOf_35 : decode cX8_factorOf 35 = .ok (.iload_n 1, 1) := by decide +kernel
theorem dX8_factorOf_36 : decode cX8_factorOf 36 = .ok (.iload 8, 2) := by decide +kernel
theorem dX8_factorOf_38 : decode cX8_factorOf 38 = .ok (.invokevirtual 122, 3) := by decide +kernel
theorem dX8_factorOf_41 : decode cX8_factorOf 41 = .ok (.i2l, 1) := by decide +kernel
theorem dX8_factorOf_42 : decode cX8_factorOf 42 = .ok (.ladd, 1) := by decide +kernel
theorem dX8_factorOf_43 : decode cX8_factorOf 43 = .ok (.lstore_n 3, 1) := by decide +kernel
theorem dX8_factorOf_44 : decode cX8_factorOf 44 = .ok (.lload 5, 2) := by decide +kernel
theorem dX8_factorOf_46 : decode cX8_factorOf 46 = .ok (.aload_n 0, 1) := by decide +kernel
theorem dX8_factorOf_47 : decode cX8_factorOf 47 = .ok (.iload_n 2, 1) := by decide +kernel
theorem dX8_factorOf_48 : decode cX8_factorOf 48 = .ok (.iload 8, 2) := by decide +kernel
theorem dX8_factorOf_50 : decode cX8_factorOf 50 = .ok (.invokevirtual 122, 3) := by decide +kernel
theorem dX8_factorOf_53 : decode cX8_factorOf 53 = .ok (.i2l, 1) := by decide +kernel
theorem dX8_factorOf_54 : decode cX8_factorOf 54 = .ok (.ladd, 1) := by decide +kernel
theorem dX8_factorOf_55 : decode cX8_factorOf 55 = .ok (.lstore 5, 2) := by decide +kernel
theorem dX8_factorOf_57 : decode cX8_factorOf 57 = .ok (.iinc 7 1, 3) := by decide +kernel
theorem dX8_factorOf_60 : decode cX8_factorOf 60 = .ok (.iinc 8 1, 3) := by decide +kernel
theorem dX8_factorOf_63 : decode cX8_factorOf 63 = .ok (.goto (-52), 3) := by decide +kernel
theorem dX8_factorOf_66 : decode cX8_factorOf 66 = .ok (.iload 7, 2) := by decide +kernel
theorem dX8_factorOf_68 : decode cX8_factorOf 68 = .ok (.aload_n 0, 1) := by decide +kernel
theorem dX8_factorOf_69 : decode cX8_factorOf 69 = .ok (.getfield 24, 3) := by decide +kernel
theorem dX8_factorOf_72 : decode cX8_factorOf 72 = .ok (.if_icmp .lt 16, 3) := by decide +kernel
theorem dX8_factorOf_75 : decode cX8_factorOf 75 = .ok (.lload_n 3, 1) := by decide +kernel
theorem dX8_factorOf_76 : decode cX8_factorOf 76 = .ok (.lconst 0, 1) := by decide +kernel
theorem dX8_factorOf_77 : decode cX8_factorOf 77 = .ok (.lcmp, 1) := by decide +kernel
theorem dX8_factorOf_78 : decode cX8_factorOf 78 = .ok (.ifCond .eq 10, 3) := by decide +kernel
theorem dX8_factorOf_81 : decode cX8_factorOf 81 = .ok (.lload 5, 2) := by decide +kernel
theorem dX8_factorOf_83 : decode cX8_factorOf 83 = .ok (.lconst 0, 1) := by decide +kernel
theorem dX8_factorOf_84 : decode cX8_factorOf 84 = .ok (.lcmp, 1) := by decide +kernel
theorem dX8_factorOf_85 : decode cX8_factorOf 85 = .ok (.ifCond .ne 5, 3) := by decide +kernel
theorem dX8_factorOf_88 : decode cX8_factorOf 88 = .ok (.iconst (-1), 1) := by decide +kernel
theorem dX8_factorOf_89 : decode cX8_factorOf 89 = .ok (.ireturn, 1) := by decide +kernel
theorem dX8_factorOf_90 : decode cX8_factorOf 90 = .ok (.lload 5, 2) := by decide +kernel
theorem dX8_factorOf_92 : decode cX8_factorOf 92 = .ok (.ldc2_w 120, 3) := by decide +kernel
theorem dX8_factorOf_95 : decode cX8_factorOf 95 = .ok (.lmul, 1) := by decide +kernel
theorem dX8_factorOf_96 : decode cX8_factorOf 96 = .ok (.lload_n 3, 1) := by decide +kernel
theorem dX8_factorOf_97 : decode cX8_factorOf 97 = .ok (.ldiv, 1) := by decide +kernel
theorem dX8_factorOf_98 : decode cX8_factorOf 98 = .ok (.lstore 8, 2) := by decide +kernel
theorem dX8_factorOf_100 : decode cX8_factorOf 100 = .ok (.lload 8, 2) := by decide +kernel
theorem dX8_factorOf_102 : decode cX8_factorOf 102 = .ok (.ldc2_w 139, 3) := by decide +kernel
theorem dX8_factorOf_105 : decode cX8_factorOf 105 = .ok (.lcmp, 1) := by decide +kernel
theorem dX8_factorOf_106 : decode cX8_factorOf 106 = .ok (.ifCond .lt 12, 3) := by decide +kernel
theorem dX8_factorOf_109 : decode cX8_factorOf 109 = .ok (.lload 8, 2) := by decide +kernel
theorem dX8_factorOf_111 : decode cX8_factorOf 111 = .ok (.ldc2_w 141, 3) := by decide +kernel
theorem dX8_factorOf_114 : decode cX8_factorOf 114 = .ok (.lcmp, 1) := by decide +kernel
theorem dX8_factorOf_115 : decode cX8_factorOf 115 = .ok (.ifCond .le 7, 3) := by decide +kernel
theorem dX8_factorOf_118 : decode cX8_factorOf 118 = .ok (.iconst (-1), 1) := by decide +kernel
theorem dX8_factorOf_119 : decode cX8_factorOf 119 = .ok (.goto 6, 3) := by decide +kernel
theorem dX8_factorOf_122 : decode cX8_factorOf 122 = .ok (.lload 8, 2) := by decide +kernel
theorem dX8_factorOf_124 : decode cX8_factorOf 124 = .ok (.l2i, 1) := by decide +kernel
theorem dX8_factorOf_125 : decode cX8_factorOf 125 = .ok (.ireturn, 1) := by decide +kernel
set_option maxRecDepth 20000 in
theorem ggX8_factor_X8_areTwo : GoodIn wsX8_factor wsX8_areTwo := goodIn_r _ [6, 7, 8, 9, 5, 10, 11, 42, 43, 44, 45, 46, 47, 48, 49, 50, 51, 52, 53, 54, 55, 56, 57, 58, 59, 60, 61, 62, 63, 64] (by decide +kernel) (by decide +kernel)
set_option maxRecDepth 20000 in
theorem gX8_factor_X8_areTwo : GoodIn wsX8_factor (wsV RX8 133 RX8 yX8_areTwo wsX8_areTwo) := goodIn_app (goodIn_of _ (by decide +kernel)) ggX8_factor_X8_areTwo
set_option maxRecDepth 20000 in
theorem ggX8_factor_X8_refuse : GoodIn wsX8_factor wsX8_refuse := goodIn_r _ [15, 1, 42, 43, 44, 45, 46, 47, 48, 49, 50, 51, 52, 53, 54, 55, 56, 57, 58, 59, 60, 61, 62, 63, 64] (by decide +kernel) (by decide +kernel)
set_option maxRecDepth 20000 in
theorem gX8_factor_X8_refuse : GoodIn wsX8_factor (wsV RX8 99 RX8 yX8_refuse wsX8_refuse) := goodIn_app (goodIn_of _ (by decide +kernel)) ggX8_factor_X8_refuse
set_option maxRecDepth 20000 in
theorem ggX8_factor_X8_factorOf : GoodIn wsX8_factor wsX8_factorOf := goodIn_r _ [19, 20, 21, 22, 23, 24, 25, 26, 5, 27, 28, 29, 30, 31, 32, 33, 34, 35, 36, 37, 38, 39, 40, 41, 42, 43, 44, 45, 46, 47, 48, 49, 50, 51, 52, 53, 54, 55, 56, 57, 58, 59, 60, 61, 62, 63, 64] (by decide +kernel) (by decide +kernel)
set_option maxRecDepth 20000 in
theorem gX8_factor_X8_factorOf : GoodIn wsX8_factor (wsV RX8 143 RX8 yX8_factorOf wsX8_factorOf) := goodIn_app (goodIn_of _ (by decide +kernel)) ggX8_factor_X8_factorOf
theorem dX8_factor_0 : decode cX8_factor 0 = .ok (.aload_n 0, 1) := by decide +kernel
theorem dX8_factor_1 : decode cX8_factor 1 = .ok (.iload_n 1, 1) := by decide +kernel
theorem dX8_factor_2 : decode cX8_factor 2 = .ok (.iload_n 2, 1) := by decide +kernel
theorem dX8_factor_3 : decode cX8_factor 3 = .ok (.invokevirtual 133, 3) := by decide +kernel
theorem dX8_factor_6 : decode cX8_factor 6 = .ok (.ifCond .ne 9, 3) := by decide +kernel
theorem dX8_factor_9 : decode cX8_factor 9 = .ok (.aload_n 0, 1) := by decide +kernel
theorem dX8_factor_10 : decode cX8_factor 10 = .ok (.iconst 1, 1) := by decide +kernel
theorem dX8_factor_11 : decode cX8_factor 11 = .ok (.invokevirtual 99, 3) := by decide +kernel
theorem dX8_factor_14 : decode cX8_factor 14 = .ok (.ireturn, 1) := by decide +kernel
theorem dX8_factor_15 : decode cX8_factor 15 = .ok (.aload_n 0, 1) := by decide +kernel
theorem dX8_factor_16 : decode cX8_factor 16 = .ok (.iload_n 1, 1) := by decide +kernel
theorem dX8_factor_17 : decode cX8_factor 17 = .ok (.iload_n 2, 1) := by decide +kernel
theorem dX8_factor_18 : decode cX8_factor 18 = .ok (.invokevirtual 143, 3) := by decide +kernel
theorem dX8_factor_21 : decode cX8_factor 21 = .ok (.istore_n 3, 1) := by decide +kernel
theorem dX8_factor_22 : decode cX8_factor 22 = .ok (.iload_n 3, 1) := by decide +kernel
theorem dX8_factor_23 : decode cX8_factor 23 = .ok (.iconst (-1), 1) := by decide +kernel
theorem dX8_factor_24 : decode cX8_factor 24 = .ok (.if_icmp .ne 10, 3) := by decide +kernel
theorem dX8_factor_27 : decode cX8_factor 27 = .ok (.aload_n 0, 1) := by decide +kernel
theorem dX8_factor_28 : decode cX8_factor 28 = .ok (.bipush 6, 2) := by decide +kernel
theorem dX8_factor_30 : decode cX8_factor 30 = .ok (.invokevirtual 99, 3) := by decide +kernel
theorem dX8_factor_33 : decode cX8_factor 33 = .ok (.ireturn, 1) := by decide +kernel
theorem dX8_factor_34 : decode cX8_factor 34 = .ok (.aload_n 0, 1) := by decide +kernel
theorem dX8_factor_35 : decode cX8_factor 35 = .ok (.iconst 0, 1) := by decide +kernel
theorem dX8_factor_36 : decode cX8_factor 36 = .ok (.putfield 73, 3) := by decide +kernel
theorem dX8_factor_39 : decode cX8_factor 39 = .ok (.iload_n 3, 1) := by decide +kernel
theorem dX8_factor_40 : decode cX8_factor 40 = .ok (.ireturn, 1) := by decide +kernel
theorem dX8_fraction_0 : decode cX8_fraction 0 = .ok (.lload_n 1, 1) := by decide +kernel
theorem dX8_fraction_1 : decode cX8_fraction 1 = .ok (.lstore 5, 2) := by decide +kernel
theorem dX8_fraction_3 : decode cX8_fraction 3 = .ok (.lload_n 3, 1) := by decide +kernel
theorem dX8_fraction_4 : decode cX8_fraction 4 = .ok (.lstore 7, 2) := by decide +kernel
theorem dX8_fraction_6 : decode cX8_fraction 6 = .ok (.lload 7, 2) := by decide +kernel
theorem dX8_fraction_8 : decode cX8_fraction 8 = .ok (.lconst 0, 1) := by decide +kernel
theorem dX8_fraction_9 : decode cX8_fraction 9 = .ok (.lcmp, 1) := by decide +kernel
theorem dX8_fraction_10 : decode cX8_fraction 10 = .ok (.ifCond .eq 21, 3) := by decide +kernel
theorem dX8_fraction_13 : decode cX8_fraction 13 = .ok (.lload 5, 2) := by decide +kernel
theorem dX8_fraction_15 : decode cX8_fraction 15 = .ok (.lload 7, 2) := by decide +kernel
theorem dX8_fraction_17 : decode cX8_fraction 17 = .ok (.lrem, 1) := by decide +kernel
theorem dX8_fraction_18 : decode cX8_fraction 18 = .ok (.lstore 9, 2) := by decide +kernel
theorem dX8_fraction_20 : decode cX8_fraction 20 = .ok (.lload 7, 2) := by decide +kernel
theorem dX8_fraction_22 : decode cX8_fraction 22 = .ok (.lstore 5, 2) := by decide +kernel
theorem dX8_fraction_24 : decode cX8_fraction 24 = .ok (.lload 9, 2) := by decide +kernel
theorem dX8_fraction_26 : decode cX8_fraction 26 = .ok (.lstore 7, 2) := by decide +kernel
theorem dX8_fraction_28 : decode cX8_fraction 28 = .ok (.goto (-22), 3) := by decide +kernel
theorem dX8_fraction_31 : decode cX8_fraction 31 = .ok (.aload_n 0, 1) := by decide +kernel
theorem dX8_fraction_32 : decode cX8_fraction 32 = .ok (.lload_n 1, 1) := by decide +kernel
theorem dX8_fraction_33 : decode cX8_fraction 33 = .ok (.lload 5, 2) := by decide +kernel
theorem dX8_fraction_35 : decode cX8_fraction 35 = .ok (.ldiv, 1) := by decide +kernel
theorem dX8_fraction_36 : decode cX8_fraction 36 = .ok (.putfield 76, 3) := by decide +kernel
theorem dX8_fraction_39 : decode cX8_fraction 39 = .ok (.aload_n 0, 1) := by decide +kernel
theorem dX8_fraction_40 : decode cX8_fraction 40 = .ok (.lload_n 3, 1) := by decide +kernel
theorem dX8_fraction_41 : decode cX8_fraction 41 = .ok (.lload 5, 2) := by decide +kernel
theorem dX8_fraction_43 : decode cX8_fraction 43 = .ok (.ldiv, 1) := by decide +kernel
theorem dX8_fraction_44 : decode cX8_fraction 44 = .ok (.putfield 7, 3) := by decide +kernel
theorem dX8_fraction_47 : decode cX8_fraction 47 = .ok (.aload_n 0, 1) := by decide +kernel
theorem dX8_fraction_48 : decode cX8_fraction 48 = .ok (.iconst 0, 1) := by decide +kernel
theorem dX8_fraction_49 : decode cX8_fraction 49 = .ok (.putfield 73, 3) := by decide +kernel
theorem dX8_fraction_52 : decode cX8_fraction 52 = .ok (.lload_n 1, 1) := by decide +kernel
theorem dX8_fraction_53 : decode cX8_fraction 53 = .ok (.lconst 0, 1) := by decide +kernel
theorem dX8_fraction_54 : decode cX8_fraction 54 = .ok (.lcmp, 1) := by decide +kernel
theorem dX8_fraction_55 : decode cX8_fraction 55 = .ok (.ifCond .le 7, 3) := by decide +kernel
theorem dX8_fraction_58 : decode cX8_fraction 58 = .ok (.iconst 1, 1) := by decide +kernel
theorem dX8_fraction_59 : decode cX8_fraction 59 = .ok (.goto 4, 3) := by decide +kernel
theorem dX8_fraction_62 : decode cX8_fraction 62 = .ok (.iconst 0, 1) := by decide +kernel
theorem dX8_fraction_63 : decode cX8_fraction 63 = .ok (.ireturn, 1) := by decide +kernel
set_option maxRecDepth 20000 in
theorem ggX8_middle_X8_areTwo : GoodIn wsX8_middle wsX8_areTwo := goodIn_r _ [5, 6, 7, 8, 4, 9, 10, 40, 41, 42, 43, 44, 45, 46, 47, 48, 49, 50, 51, 52, 53, 54, 55, 56, 57, 58, 59, 60, 61, 62] (by decide +kernel) (by decide +kernel)
set_option maxRecDepth 20000 in
theorem gX8_middle_X8_areTwo : GoodIn wsX8_middle (wsV RX8 133 RX8 yX8_areTwo wsX8_areTwo) := goodIn_app (goodIn_of _ (by decide +kernel)) ggX8_middle_X8_areTwo
set_option maxRecDepth 20000 in
theorem ggX8_middle_X8_refuse : GoodIn wsX8_middle wsX8_refuse := goodIn_r _ [14, 15, 40, 41, 42, 43, 44, 45, 46, 47, 48, 49, 50, 51, 52, 53, 54, 55, 56, 57, 58, 59, 60, 61, 62] (by decide +kernel) (by decide +kernel)
set_option maxRecDepth 20000 in
theorem gX8_middle_X8_refuse : GoodIn wsX8_middle (wsV RX8 99 RX8 yX8_refuse wsX8_refuse) := goodIn_app (goodIn_of _ (by decide +kernel)) ggX8_middle_X8_refuse
set_option maxRecDepth 20000 in
theorem ggX8_middle_X8_areBoth : GoodIn wsX8_middle wsX8_areBoth := goodIn_r _ [19, 20, 21, 22, 4, 23, 24, 25, 26, 27, 28, 40, 41, 42, 43, 44, 45, 46, 47, 48, 49, 50, 51, 52, 53, 54, 55, 56, 57, 58, 59, 60, 61, 62] (by decide +kernel) (by decide +kernel)
set_option maxRecDepth 20000 in
theorem gX8_middle_X8_areBoth : GoodIn wsX8_middle (wsV RX8 129 RX8 yX8_areBoth wsX8_areBoth) := goodIn_app (goodIn_of _ (by decide +kernel)) ggX8_middle_X8_areBoth
set_option maxRecDepth 20000 in
theorem ggX8_middle_X8_number : GoodIn wsX8_middle wsX8_number := goodIn_r _ [32, 25, 33, 26, 27, 4, 28, 40, 41, 42, 43, 44, 45, 46, 47, 48, 49, 50, 51, 52, 53, 54, 55, 56, 57, 58, 59, 60, 61, 62] (by decide +kernel) (by decide +kernel)
set_option maxRecDepth 20000 in
theorem gX8_middle_X8_number : GoodIn wsX8_middle (wsV RX8 122 RX8 yX8_number wsX8_number) := goodIn_app (goodIn_of _ (by decide +kernel)) ggX8_middle_X8_number
set_option maxRecDepth 20000 in
theorem ggX8_middle_X8_fraction : GoodIn wsX8_middle wsX8_fraction := goodIn_r _ [37, 38, 39, 15, 40, 41, 42, 43, 44, 45, 46, 47, 48, 49, 50, 51, 52, 53, 54, 55, 56, 57, 58, 59, 60, 61, 62] (by decide +kernel) (by decide +kernel)
set_option maxRecDepth 20000 in
theorem gX8_middle_X8_fraction : GoodIn wsX8_middle (wsV RX8 146 RX8 yX8_fraction wsX8_fraction) := goodIn_app (goodIn_of _ (by decide +kernel)) ggX8_middle_X8_fraction
theorem dX8_middle_0 : decode cX8_middle 0 = .ok (.aload_n 0, 1) := by decide +kernel
theorem dX8_middle_1 : decode cX8_middle 1 = .ok (.iload_n 1, 1) := by decide +kernel
theorem dX8_middle_2 : decode cX8_middle 2 = .ok (.iload_n 2, 1) := by decide +kernel
theorem dX8_middle_3 : decode cX8_middle 3 = .ok (.invokevirtual 133, 3) := by decide +kernel
theorem dX8_middle_6 : decode cX8_middle 6 = .ok (.ifCond .ne 9, 3) := by decide +kernel
theorem dX8_middle_9 : decode cX8_middle 9 = .ok (.aload_n 0, 1) := by decide +kernel
theorem dX8_middle_10 : decode cX8_middle 10 = .ok (.iconst 1, 1) := by decide +kernel
theorem dX8_middle_11 : decode cX8_middle 11 = .ok (.invokevirtual 99, 3) := by decide +kernel
theorem dX8_middle_14 : decode cX8_middle 14 = .ok (.ireturn, 1) := by decide +kernel
theorem dX8_middle_15 : decode cX8_middle 15 = .ok (.iconst 0, 1) := by decide +kernel
theorem dX8_middle_16 : decode cX8_middle 16 = .ok (.istore_n 3, 1) := by decide +kernel
theorem dX8_middle_17 : decode cX8_middle 17 = .ok (.iconst 0, 1) := by decide +kernel
theorem dX8_middle_18 : decode cX8_middle 18 = .ok (.istore 4, 2) := by decide +kernel
end
section
theorem dX8_middle_20 : decode cX8_middle 20 = .ok (.iload 4, 2) := by decide +kernel
theorem dX8_middle_22 : decode cX8_middle 22 = .ok (.sipush 240, 3) := by decide +kernel
theorem dX8_middle_25 : decode cX8_middle 25 = .ok (.if_icmp .ge 38, 3) := by decide +kernel
theorem dX8_middle_28 : decode cX8_middle 28 = .ok (.iload_n 3, 1) := by decide +kernel
theorem dX8_middle_29 : decode cX8_middle 29 = .ok (.aload_n 0, 1) := by decide +kernel
theorem dX8_middle_30 : decode cX8_middle 30 = .ok (.iload_n 1, 1) := by decide +kernel
theorem dX8_middle_31 : decode cX8_middle 31 = .ok (.iload_n 2, 1) := by decide +kernel
theorem dX8_middle_32 : decode cX8_middle 32 = .ok (.iload 4, 2) := by decide +kernel
theorem dX8_middle_34 : decode cX8_middle 34 = .ok (.invokevirtual 129, 3) := by decide +kernel
theorem dX8_middle_37 : decode cX8_middle 37 = .ok (.ifCond .eq 17, 3) := by decide +kernel
theorem dX8_middle_40 : decode cX8_middle 40 = .ok (.aload_n 0, 1) := by decide +kernel
theorem dX8_middle_41 : decode cX8_middle 41 = .ok (.iload_n 1, 1) := by decide +kernel
theorem dX8_middle_42 : decode cX8_middle 42 = .ok (.iload 4, 2) := by decide +kernel
theorem dX8_middle_44 : decode cX8_middle 44 = .ok (.invokevirtual 122, 3) := by decide +kernel
theorem dX8_middle_47 : decode cX8_middle 47 = .ok (.ifCond .le 7, 3) := by decide +kernel
theorem dX8_middle_50 : decode cX8_middle 50 = .ok (.iconst 1, 1) := by decide +kernel
theorem dX8_middle_51 : decode cX8_middle 51 = .ok (.goto 4, 3) := by decide +kernel
theorem dX8_middle_54 : decode cX8_middle 54 = .ok (.iconst 0, 1) := by decide +kernel
theorem dX8_middle_55 : decode cX8_middle 55 = .ok (.iadd, 1) := by decide +kernel
theorem dX8_middle_56 : decode cX8_middle 56 = .ok (.istore_n 3, 1) := by decide +kernel
theorem dX8_middle_57 : decode cX8_middle 57 = .ok (.iinc 4 1, 3) := by decide +kernel
theorem dX8_middle_60 : decode cX8_middle 60 = .ok (.goto (-40), 3) := by decide +kernel
theorem dX8_middle_63 : decode cX8_middle 63 = .ok (.iload_n 3, 1) := by decide +kernel
theorem dX8_middle_64 : decode cX8_middle 64 = .ok (.ifCond .ne 10, 3) := by decide +kernel
theorem dX8_middle_67 : decode cX8_middle 67 = .ok (.aload_n 0, 1) := by decide +kernel
theorem dX8_middle_68 : decode cX8_middle 68 = .ok (.bipush 6, 2) := by decide +kernel
theorem dX8_middle_70 : decode cX8_middle 70 = .ok (.invokevirtual 99, 3) := by decide +kernel
theorem dX8_middle_73 : decode cX8_middle 73 = .ok (.ireturn, 1) := by decide +kernel
theorem dX8_middle_74 : decode cX8_middle 74 = .ok (.iconst (-1), 1) := by decide +kernel
theorem dX8_middle_75 : decode cX8_middle 75 = .ok (.istore 4, 2) := by decide +kernel
theorem dX8_middle_77 : decode cX8_middle 77 = .ok (.iconst 0, 1) := by decide +kernel
theorem dX8_middle_78 : decode cX8_middle 78 = .ok (.istore 5, 2) := by decide +kernel
theorem dX8_middle_80 : decode cX8_middle 80 = .ok (.iload 5, 2) := by decide +kernel
theorem dX8_middle_82 : decode cX8_middle 82 = .ok (.sipush 240, 3) := by decide +kernel
theorem dX8_middle_85 : decode cX8_middle 85 = .ok (.if_icmp .ge 166, 3) := by decide +kernel
theorem dX8_middle_88 : decode cX8_middle 88 = .ok (.aload_n 0, 1) := by decide +kernel
theorem dX8_middle_89 : decode cX8_middle 89 = .ok (.iload_n 1, 1) := by decide +kernel
theorem dX8_middle_90 : decode cX8_middle 90 = .ok (.iload_n 2, 1) := by decide +kernel
theorem dX8_middle_91 : decode cX8_middle 91 = .ok (.iload 5, 2) := by decide +kernel
theorem dX8_middle_93 : decode cX8_middle 93 = .ok (.invokevirtual 129, 3) := by decide +kernel
theorem dX8_middle_96 : decode cX8_middle 96 = .ok (.ifCond .eq 149, 3) := by decide +kernel
theorem dX8_middle_99 : decode cX8_middle 99 = .ok (.aload_n 0, 1) := by decide +kernel
theorem dX8_middle_100 : decode cX8_middle 100 = .ok (.iload_n 1, 1) := by decide +kernel
theorem dX8_middle_101 : decode cX8_middle 101 = .ok (.iload 5, 2) := by decide +kernel
theorem dX8_middle_103 : decode cX8_middle 103 = .ok (.invokevirtual 122, 3) := by decide +kernel
theorem dX8_middle_106 : decode cX8_middle 106 = .ok (.ifCond .ne 6, 3) := by decide +kernel
theorem dX8_middle_109 : decode cX8_middle 109 = .ok (.goto 136, 3) := by decide +kernel
theorem dX8_middle_112 : decode cX8_middle 112 = .ok (.iconst 0, 1) := by decide +kernel
theorem dX8_middle_113 : decode cX8_middle 113 = .ok (.istore 6, 2) := by decide +kernel
theorem dX8_middle_115 : decode cX8_middle 115 = .ok (.iconst 0, 1) := by decide +kernel
theorem dX8_middle_116 : decode cX8_middle 116 = .ok (.istore 7, 2) := by decide +kernel
theorem dX8_middle_118 : decode cX8_middle 118 = .ok (.iload 7, 2) := by decide +kernel
theorem dX8_middle_120 : decode cX8_middle 120 = .ok (.sipush 240, 3) := by decide +kernel
theorem dX8_middle_123 : decode cX8_middle 123 = .ok (.if_icmp .ge 66, 3) := by decide +kernel
theorem dX8_middle_126 : decode cX8_middle 126 = .ok (.aload_n 0, 1) := by decide +kernel
theorem dX8_middle_127 : decode cX8_middle 127 = .ok (.iload_n 1, 1) := by decide +kernel
theorem dX8_middle_128 : decode cX8_middle 128 = .ok (.iload_n 2, 1) := by decide +kernel
theorem dX8_middle_129 : decode cX8_middle 129 = .ok (.iload 7, 2) := by decide +kernel
theorem dX8_middle_131 : decode cX8_middle 131 = .ok (.invokevirtual 129, 3) := by decide +kernel
theorem dX8_middle_134 : decode cX8_middle 134 = .ok (.ifCond .eq 49, 3) := by decide +kernel
theorem dX8_middle_137 : decode cX8_middle 137 = .ok (.aload_n 0, 1) := by decide +kernel
theorem dX8_middle_138 : decode cX8_middle 138 = .ok (.iload_n 1, 1) := by decide +kernel
theorem dX8_middle_139 : decode cX8_middle 139 = .ok (.iload 7, 2) := by decide +kernel
theorem dX8_middle_141 : decode cX8_middle 141 = .ok (.invokevirtual 122, 3) := by decide +kernel
theorem dX8_middle_144 : decode cX8_middle 144 = .ok (.ifCond .le 39, 3) := by decide +kernel
theorem dX8_middle_147 : decode cX8_middle 147 = .ok (.aload_n 0, 1) := by decide +kernel
theorem dX8_middle_148 : decode cX8_middle 148 = .ok (.iload_n 2, 1) := by decide +kernel
theorem dX8_middle_149 : decode cX8_middle 149 = .ok (.iload 7, 2) := by decide +kernel
theorem dX8_middle_151 : decode cX8_middle 151 = .ok (.invokevirtual 122, 3) := by decide +kernel
theorem dX8_middle_154 : decode cX8_middle 154 = .ok (.aload_n 0, 1) := by decide +kernel
theorem dX8_middle_155 : decode cX8_middle 155 = .ok (.iload_n 1, 1) := by decide +kernel
theorem dX8_middle_156 : decode cX8_middle 156 = .ok (.iload 5, 2) := by decide +kernel
theorem dX8_middle_158 : decode cX8_middle 158 = .ok (.invokevirtual 122, 3) := by decide +kernel
theorem dX8_middle_161 : decode cX8_middle 161 = .ok (.imul, 1) := by decide +kernel
theorem dX8_middle_162 : decode cX8_middle 162 = .ok (.aload_n 0, 1) := by decide +kernel
theorem dX8_middle_163 : decode cX8_middle 163 = .ok (.iload_n 2, 1) := by decide +kernel
theorem dX8_middle_164 : decode cX8_middle 164 = .ok (.iload 5, 2) := by decide +kernel
theorem dX8_middle_166 : decode cX8_middle 166 = .ok (.invokevirtual 122, 3) := by decide +kernel
theorem dX8_middle_169 : decode cX8_middle 169 = .ok (.aload_n 0, 1) := by decide +kernel
theorem dX8_middle_170 : decode cX8_middle 170 = .ok (.iload_n 1, 1) := by decide +kernel
theorem dX8_middle_171 : decode cX8_middle 171 = .ok (.iload 7, 2) := by decide +kernel
theorem dX8_middle_173 : decode cX8_middle 173 = .ok (.invokevirtual 122, 3) := by decide +kernel
theorem dX8_middle_176 : decode cX8_middle 176 = .ok (.imul, 1) := by decide +kernel
theorem dX8_middle_177 : decode cX8_middle 177 = .ok (.if_icmp .gt 6, 3) := by decide +kernel
theorem dX8_middle_180 : decode cX8_middle 180 = .ok (.iinc 6 1, 3) := by decide +kernel
theorem dX8_middle_183 : decode cX8_middle 183 = .ok (.iinc 7 1, 3) := by decide +kernel
theorem dX8_middle_186 : decode cX8_middle 186 = .ok (.goto (-68), 3) := by decide +kernel
theorem dX8_middle_189 : decode cX8_middle 189 = .ok (.iload 6, 2) := by decide +kernel
theorem dX8_middle_191 : decode cX8_middle 191 = .ok (.iload_n 3, 1) := by decide +kernel
theorem dX8_middle_192 : decode cX8_middle 192 = .ok (.iconst 1, 1) := by decide +kernel
theorem dX8_middle_193 : decode cX8_middle 193 = .ok (.iadd, 1) := by decide +kernel
theorem dX8_middle_194 : decode cX8_middle 194 = .ok (.iconst 2, 1) := by decide +kernel
theorem dX8_middle_195 : decode cX8_middle 195 = .ok (.idiv, 1) := by decide +kernel
theorem dX8_middle_196 : decode cX8_middle 196 = .ok (.if_icmp .ge 6, 3) := by decide +kernel
theorem dX8_middle_199 : decode cX8_middle 199 = .ok (.goto 46, 3) := by decide +kernel
theorem dX8_middle_202 : decode cX8_middle 202 = .ok (.iload 4, 2) := by decide +kernel
theorem dX8_middle_204 : decode cX8_middle 204 = .ok (.iconst (-1), 1) := by decide +kernel
theorem dX8_middle_205 : decode cX8_middle 205 = .ok (.if_icmp .eq 36, 3) := by decide +kernel
theorem dX8_middle_208 : decode cX8_middle 208 = .ok (.aload_n 0, 1) := by decide +kernel
theorem dX8_middle_209 : decode cX8_middle 209 = .ok (.iload_n 2, 1) := by decide +kernel
theorem dX8_middle_210 : decode cX8_middle 210 = .ok (.iload 5, 2) := by decide +kernel
theorem dX8_middle_212 : decode cX8_middle 212 = .ok (.invokevirtual 122, 3) := by decide +kernel
theorem dX8_middle_215 : decode cX8_middle 215 = .ok (.aload_n 0, 1) := by decide +kernel
theorem dX8_middle_216 : decode cX8_middle 216 = .ok (.iload_n 1, 1) := by decide +kernel
theorem dX8_middle_217 : decode cX8_middle 217 = .ok (.iload 4, 2) := by decide +kernel
theorem dX8_middle_219 : decode cX8_middle 219 = .ok (.invokevirtual 122, 3) := by decide +kernel
theorem dX8_middle_222 : decode cX8_middle 222 = .ok (.imul, 1) := by decide +kernel
theorem dX8_middle_223 : decode cX8_middle 223 = .ok (.aload_n 0, 1) := by decide +kernel
theorem dX8_middle_224 : decode cX8_middle 224 = .ok (.iload_n 2, 1) := by decide +kernel
theorem dX8_middle_225 : decode cX8_middle 225 = .ok (.iload 4, 2) := by decide +kernel
theorem dX8_middle_227 : decode cX8_middle 227 = .ok (.invokevirtual 122, 3) := by decide +kernel
theorem dX8_middle_230 : decode cX8_middle 230 = .ok (.aload_n 0, 1) := by decide +kernel
theorem dX8_middle_231 : decode cX8_middle 231 = .ok (.iload_n 1, 1) := by decide +kernel
theorem dX8_middle_232 : decode cX8_middle 232 = .ok (.iload 5, 2) := by decide +kernel
theorem dX8_middle_234 : decode cX8_middle 234 = .ok (.invokevirtual 122, 3) := by decide +kernel
theorem dX8_middle_237 : decode cX8_middle 237 = .ok (.imul, 1) := by decide +kernel
theorem dX8_middle_238 : decode cX8_middle 238 = .ok (.if_icmp .ge 7, 3) := by decide +kernel
theorem dX8_middle_241 : decode cX8_middle 241 = .ok (.iload 5, 2) := by decide +kernel
theorem dX8_middle_243 : decode cX8_middle 243 = .ok (.istore 4, 2) := by decide +kernel
theorem dX8_middle_245 : decode cX8_middle 245 = .ok (.iinc 5 1, 3) := by decide +kernel
theorem dX8_middle_248 : decode cX8_middle 248 = .ok (.goto (-168), 3) := by decide +kernel
theorem dX8_middle_251 : decode cX8_middle 251 = .ok (.aload_n 0, 1) := by decide +kernel
theorem dX8_middle_252 : decode cX8_middle 252 = .ok (.aload_n 0, 1) := by decide +kernel
theorem dX8_middle_253 : decode cX8_middle 253 = .ok (.iload_n 2, 1) := by decide +kernel
theorem dX8_middle_254 : decode cX8_middle 254 = .ok (.iload 4, 2) := by decide +kernel
theorem dX8_middle_256 : decode cX8_middle 256 = .ok (.invokevirtual 122, 3) := by decide +kernel
theorem dX8_middle_259 : decode cX8_middle 259 = .ok (.i2l, 1) := by decide +kernel
theorem dX8_middle_260 : decode cX8_middle 260 = .ok (.aload_n 0, 1) := by decide +kernel
theorem dX8_middle_261 : decode cX8_middle 261 = .ok (.iload_n 1, 1) := by decide +kernel
theorem dX8_middle_262 : decode cX8_middle 262 = .ok (.iload 4, 2) := by decide +kernel
theorem dX8_middle_264 : decode cX8_middle 264 = .ok (.invokevirtual 122, 3) := by decide +kernel
theorem dX8_middle_267 : decode cX8_middle 267 = .ok (.i2l, 1) := by decide +kernel
theorem dX8_middle_268 : decode cX8_middle 268 = .ok (.invokevirtual 146, 3) := by decide +kernel
theorem dX8_middle_271 : decode cX8_middle 271 = .ok (.ireturn, 1) := by decide +kernel
set_option maxRecDepth 20000 in
theorem ggX8_step_X8_areTwo : GoodIn wsX8_step wsX8_areTwo := goodIn_r _ [9, 10, 11, 12, 8, 13, 14, 38, 39, 40, 41, 42, 43, 44, 45, 46, 47, 48, 49, 50, 51, 52, 53, 54, 55, 56, 57, 58, 59, 60] (by decide +kernel) (by decide +kernel)
set_option maxRecDepth 20000 in
theorem gX8_step_X8_areTwo : GoodIn wsX8_step (wsV RX8 133 RX8 yX8_areTwo wsX8_areTwo) := goodIn_app (goodIn_of _ (by decide +kernel)) ggX8_step_X8_areTwo
set_option maxRecDepth 20000 in
theorem ggX8_step_X8_refuse : GoodIn wsX8_step wsX8_refuse := goodIn_r _ [18, 19, 38, 39, 40, 41, 42, 43, 44, 45, 46, 47, 48, 49, 50, 51, 52, 53, 54, 55, 56, 57, 58, 59, 60] (by decide +kernel) (by decide +kernel)
set_option maxRecDepth 20000 in
theorem gX8_step_X8_refuse : GoodIn wsX8_step (wsV RX8 99 RX8 yX8_refuse wsX8_refuse) := goodIn_app (goodIn_of _ (by decide +kernel)) ggX8_step_X8_refuse
set_option maxRecDepth 20000 in
theorem ggX8_step_X8_areBoth : GoodIn wsX8_step wsX8_areBoth := goodIn_r _ [23, 24, 25, 26, 8, 27, 28, 3, 29, 30, 31, 38, 39, 40, 41, 42, 43, 44, 45, 46, 47, 48, 49, 50, 51, 52, 53, 54, 55, 56, 57, 58, 59, 60] (by decide +kernel) (by decide +kernel)
set_option maxRecDepth 20000 in
theorem gX8_step_X8_areBoth : GoodIn wsX8_step (wsV RX8 129 RX8 yX8_areBoth wsX8_areBoth) := goodIn_app (goodIn_of _ (by decide +kernel)) ggX8_step_X8_areBoth
set_option maxRecDepth 20000 in
theorem ggX8_step_X8_at : GoodIn wsX8_step wsX8_at := goodIn_r _ [31] (by decide +kernel) (by decide +kernel)
set_option maxRecDepth 20000 in
theorem gX8_step_X8_at : GoodIn wsX8_step (va_wsS RX8 103 yX8_at wsX8_at) := goodIn_app (goodIn_of _ (by decide +kernel)) ggX8_step_X8_at
set_option maxRecDepth 20000 in
theorem ggX8_step_X8_fraction : GoodIn wsX8_step wsX8_fraction := goodIn_r _ [35, 36, 37, 19, 38, 39, 40, 41, 42, 43, 44, 45, 46, 47, 48, 49, 50, 51, 52, 53, 54, 55, 56, 57, 58, 59, 60] (by decide +kernel) (by decide +kernel)
set_option maxRecDepth 20000 in
theorem gX8_step_X8_fraction : GoodIn wsX8_step (wsV RX8 146 RX8 yX8_fraction wsX8_fraction) := goodIn_app (goodIn_of _ (by decide +kernel)) ggX8_step_X8_fraction
theorem dX8_step_0 : decode cX8_step 0 = .ok (.aload_n 0, 1) := by decide +kernel
theorem dX8_step_1 : decode cX8_step 1 = .ok (.iload_n 1, 1) := by decide +kernel
theorem dX8_step_2 : decode cX8_step 2 = .ok (.iload_n 2, 1) := by decide +kernel
theorem dX8_step_3 : decode cX8_step 3 = .ok (.invokevirtual 133, 3) := by decide +kernel
theorem dX8_step_6 : decode cX8_step 6 = .ok (.ifCond .eq 13, 3) := by decide +kernel
theorem dX8_step_9 : decode cX8_step 9 = .ok (.iload_n 3, 1) := by decide +kernel
theorem dX8_step_10 : decode cX8_step 10 = .ok (.ifCond .lt 9, 3) := by decide +kernel
theorem dX8_step_13 : decode cX8_step 13 = .ok (.iload_n 3, 1) := by decide +kernel
theorem dX8_step_14 : decode cX8_step 14 = .ok (.bipush 20, 2) := by decide +kernel
theorem dX8_step_16 : decode cX8_step 16 = .ok (.if_icmp .le 9, 3) := by decide +kernel
theorem dX8_step_19 : decode cX8_step 19 = .ok (.aload_n 0, 1) := by decide +kernel
theorem dX8_step_20 : decode cX8_step 20 = .ok (.iconst 1, 1) := by decide +kernel
theorem dX8_step_21 : decode cX8_step 21 = .ok (.invokevirtual 99, 3) := by decide +kernel
theorem dX8_step_24 : decode cX8_step 24 = .ok (.ireturn, 1) := by decide +kernel
theorem dX8_step_25 : decode cX8_step 25 = .ok (.iconst 0, 1) := by decide +kernel
theorem dX8_step_26 : decode cX8_step 26 = .ok (.istore 4, 2) := by decide +kernel
theorem dX8_step_28 : decode cX8_step 28 = .ok (.iload 4, 2) := by decide +kernel
theorem dX8_step_30 : decode cX8_step 30 = .ok (.bipush 20, 2) := by decide +kernel
theorem dX8_step_32 : decode cX8_step 32 = .ok (.if_icmp .gt 25, 3) := by decide +kernel
theorem dX8_step_35 : decode cX8_step 35 = .ok (.aload_n 0, 1) := by decide +kernel
theorem dX8_step_36 : decode cX8_step 36 = .ok (.getfield 40, 3) := by decide +kernel
theorem dX8_step_39 : decode cX8_step 39 = .ok (.iload 4, 2) := by decide +kernel
theorem dX8_step_41 : decode cX8_step 41 = .ok (.iconst 0, 1) := by decide +kernel
theorem dX8_step_42 : decode cX8_step 42 = .ok (.iastore, 1) := by decide +kernel
theorem dX8_step_43 : decode cX8_step 43 = .ok (.aload_n 0, 1) := by decide +kernel
theorem dX8_step_44 : decode cX8_step 44 = .ok (.getfield 43, 3) := by decide +kernel
theorem dX8_step_47 : decode cX8_step 47 = .ok (.iload 4, 2) := by decide +kernel
theorem dX8_step_49 : decode cX8_step 49 = .ok (.iconst 0, 1) := by decide +kernel
theorem dX8_step_50 : decode cX8_step 50 = .ok (.iastore, 1) := by decide +kernel
theorem dX8_step_51 : decode cX8_step 51 = .ok (.iinc 4 1, 3) := by decide +kernel
theorem dX8_step_54 : decode cX8_step 54 = .ok (.goto (-26), 3) := by decide +kernel
theorem dX8_step_57 : decode cX8_step 57 = .ok (.iconst 0, 1) := by decide +kernel
theorem dX8_step_58 : decode cX8_step 58 = .ok (.istore 4, 2) := by decide +kernel
theorem dX8_step_60 : decode cX8_step 60 = .ok (.iload 4, 2) := by decide +kernel
theorem dX8_step_62 : decode cX8_step 62 = .ok (.sipush 240, 3) := by decide +kernel
theorem dX8_step_65 : decode cX8_step 65 = .ok (.if_icmp .ge 73, 3) := by decide +kernel
theorem dX8_step_68 : decode cX8_step 68 = .ok (.aload_n 0, 1) := by decide +kernel
theorem dX8_step_69 : decode cX8_step 69 = .ok (.iload_n 1, 1) := by decide +kernel
theorem dX8_step_70 : decode cX8_step 70 = .ok (.iload_n 2, 1) := by decide +kernel
theorem dX8_step_71 : decode cX8_step 71 = .ok (.iload 4, 2) := by decide +kernel
theorem dX8_step_73 : decode cX8_step 73 = .ok (.invokevirtual 129, 3) := by decide +kernel
theorem dX8_step_76 : decode cX8_step 76 = .ok (.ifCond .ne 6, 3) := by decide +kernel
theorem dX8_step_79 : decode cX8_step 79 = .ok (.goto 53, 3) := by decide +kernel
theorem dX8_step_82 : decode cX8_step 82 = .ok (.aload_n 0, 1) := by decide +kernel
theorem dX8_step_83 : decode cX8_step 83 = .ok (.getfield 40, 3) := by decide +kernel
theorem dX8_step_86 : decode cX8_step 86 = .ok (.aload_n 0, 1) := by decide +kernel
theorem dX8_step_87 : decode cX8_step 87 = .ok (.getfield 31, 3) := by decide +kernel
theorem dX8_step_90 : decode cX8_step 90 = .ok (.iload_n 1, 1) := by decide +kernel
theorem dX8_step_91 : decode cX8_step 91 = .ok (.iload 4, 2) := by decide +kernel
theorem dX8_step_93 : decode cX8_step 93 = .ok (.invokestatic 103, 3) := by decide +kernel
theorem dX8_step_96 : decode cX8_step 96 = .ok (.iaload, 1) := by decide +kernel
theorem dX8_step_97 : decode cX8_step 97 = .ok (.dup2, 1) := by decide +kernel
theorem dX8_step_98 : decode cX8_step 98 = .ok (.iaload, 1) := by decide +kernel
theorem dX8_step_99 : decode cX8_step 99 = .ok (.iconst 1, 1) := by decide +kernel
theorem dX8_step_100 : decode cX8_step 100 = .ok (.iadd, 1) := by decide +kernel
theorem dX8_step_101 : decode cX8_step 101 = .ok (.iastore, 1) := by decide +kernel
theorem dX8_step_102 : decode cX8_step 102 = .ok (.aload_n 0, 1) := by decide +kernel
theorem dX8_step_103 : decode cX8_step 103 = .ok (.getfield 43, 3) := by decide +kernel
theorem dX8_step_106 : decode cX8_step 106 = .ok (.aload_n 0, 1) := by decide +kernel
theorem dX8_step_107 : decode cX8_step 107 = .ok (.getfield 31, 3) := by decide +kernel
theorem dX8_step_110 : decode cX8_step 110 = .ok (.iload_n 1, 1) := by decide +kernel
theorem dX8_step_111 : decode cX8_step 111 = .ok (.iload 4, 2) := by decide +kernel
theorem dX8_step_113 : decode cX8_step 113 = .ok (.invokestatic 103, 3) := by decide +kernel
theorem dX8_step_116 : decode cX8_step 116 = .ok (.iaload, 1) := by decide +kernel
theorem dX8_step_117 : decode cX8_step 117 = .ok (.dup2, 1) := by decide +kernel
theorem dX8_step_118 : decode cX8_step 118 = .ok (.iaload, 1) := by decide +kernel
theorem dX8_step_119 : decode cX8_step 119 = .ok (.aload_n 0, 1) := by decide +kernel
theorem dX8_step_120 : decode cX8_step 120 = .ok (.getfield 31, 3) := by decide +kernel
theorem dX8_step_123 : decode cX8_step 123 = .ok (.iload_n 2, 1) := by decide +kernel
theorem dX8_step_124 : decode cX8_step 124 = .ok (.iload 4, 2) := by decide +kernel
theorem dX8_step_126 : decode cX8_step 126 = .ok (.invokestatic 103, 3) := by decide +kernel
theorem dX8_step_129 : decode cX8_step 129 = .ok (.iaload, 1) := by decide +kernel
theorem dX8_step_130 : decode cX8_step 130 = .ok (.iadd, 1) := by decide +kernel
theorem dX8_step_131 : decode cX8_step 131 = .ok (.iastore, 1) := by decide +kernel
theorem dX8_step_132 : decode cX8_step 132 = .ok (.iinc 4 1, 3) := by decide +kernel
theorem dX8_step_135 : decode cX8_step 135 = .ok (.goto (-75), 3) := by decide +kernel
theorem dX8_step_138 : decode cX8_step 138 = .ok (.iload_n 3, 1) := by decide +kernel
theorem dX8_step_139 : decode cX8_step 139 = .ok (.istore 4, 2) := by decide +kernel
theorem dX8_step_141 : decode cX8_step 141 = .ok (.iload 4, 2) := by decide +kernel
theorem dX8_step_143 : decode cX8_step 143 = .ok (.ifCond .lt 19, 3) := by decide +kernel
theorem dX8_step_146 : decode cX8_step 146 = .ok (.aload_n 0, 1) := by decide +kernel
theorem dX8_step_147 : decode cX8_step 147 = .ok (.getfield 40, 3) := by decide +kernel
theorem dX8_step_150 : decode cX8_step 150 = .ok (.iload 4, 2) := by decide +kernel
theorem dX8_step_152 : decode cX8_step 152 = .ok (.iaload, 1) := by decide +kernel
theorem dX8_step_153 : decode cX8_step 153 = .ok (.ifCond .ne 9, 3) := by decide +kernel
theorem dX8_step_156 : decode cX8_step 156 = .ok (.iinc 4 (-1), 3) := by decide +kernel
theorem dX8_step_159 : decode cX8_step 159 = .ok (.goto (-18), 3) := by decide +kernel
theorem dX8_step_162 : decode cX8_step 162 = .ok (.iload 4, 2) := by decide +kernel
theorem dX8_step_164 : decode cX8_step 164 = .ok (.ifCond .ge 10, 3) := by decide +kernel
theorem dX8_step_167 : decode cX8_step 167 = .ok (.aload_n 0, 1) := by decide +kernel
theorem dX8_step_168 : decode cX8_step 168 = .ok (.bipush 6, 2) := by decide +kernel
theorem dX8_step_170 : decode cX8_step 170 = .ok (.invokevirtual 99, 3) := by decide +kernel
theorem dX8_step_173 : decode cX8_step 173 = .ok (.ireturn, 1) := by decide +kernel
theorem dX8_step_174 : decode cX8_step 174 = .ok (.ldc2_w 94, 3) := by decide +kernel
theorem dX8_step_177 : decode cX8_step 177 = .ok (.lstore 5, 2) := by decide +kernel
theorem dX8_step_179 : decode cX8_step 179 = .ok (.lconst 1, 1) := by decide +kernel
theorem dX8_step_180 : decode cX8_step 180 = .ok (.lstore 7, 2) := by decide +kernel
theorem dX8_step_182 : decode cX8_step 182 = .ok (.iconst 0, 1) := by decide +kernel
theorem dX8_step_183 : decode cX8_step 183 = .ok (.istore 9, 2) := by decide +kernel
theorem dX8_step_185 : decode cX8_step 185 = .ok (.iload 9, 2) := by decide +kernel
theorem dX8_step_187 : decode cX8_step 187 = .ok (.iload 4, 2) := by decide +kernel
theorem dX8_step_189 : decode cX8_step 189 = .ok (.if_icmp .gt 157, 3) := by decide +kernel
theorem dX8_step_192 : decode cX8_step 192 = .ok (.aload_n 0, 1) := by decide +kernel
theorem dX8_step_193 : decode cX8_step 193 = .ok (.getfield 40, 3) := by decide +kernel
theorem dX8_step_196 : decode cX8_step 196 = .ok (.iload 9, 2) := by decide +kernel
theorem dX8_step_198 : decode cX8_step 198 = .ok (.iaload, 1) := by decide +kernel
theorem dX8_step_199 : decode cX8_step 199 = .ok (.ifCond .ne 6, 3) := by decide +kernel
theorem dX8_step_202 : decode cX8_step 202 = .ok (.goto 138, 3) := by decide +kernel
theorem dX8_step_205 : decode cX8_step 205 = .ok (.ldc2_w 94, 3) := by decide +kernel
theorem dX8_step_208 : decode cX8_step 208 = .ok (.lstore 10, 2) := by decide +kernel
theorem dX8_step_210 : decode cX8_step 210 = .ok (.lconst 1, 1) := by decide +kernel
theorem dX8_step_211 : decode cX8_step 211 = .ok (.lstore 12, 2) := by decide +kernel
theorem dX8_step_213 : decode cX8_step 213 = .ok (.lconst 0, 1) := by decide +kernel
theorem dX8_step_214 : decode cX8_step 214 = .ok (.lstore 14, 2) := by decide +kernel
theorem dX8_step_216 : decode cX8_step 216 = .ok (.lconst 0, 1) := by decide +kernel
theorem dX8_step_217 : decode cX8_step 217 = .ok (.lstore 16, 2) := by decide +kernel
theorem dX8_step_219 : decode cX8_step 219 = .ok (.iload 9, 2) := by decide +kernel
theorem dX8_step_221 : decode cX8_step 221 = .ok (.istore 18, 2) := by decide +kernel
theorem dX8_step_223 : decode cX8_step 223 = .ok (.iload 18, 2) := by decide +kernel
theorem dX8_step_225 : decode cX8_step 225 = .ok (.bipush 20, 2) := by decide +kernel
theorem dX8_step_227 : decode cX8_step 227 = .ok (.if_icmp .gt 84, 3) := by decide +kernel
theorem dX8_step_230 : decode cX8_step 230 = .ok (.lload 14, 2) := by decide +kernel
theorem dX8_step_232 : decode cX8_step 232 = .ok (.aload_n 0, 1) := by decide +kernel
theorem dX8_step_233 : decode cX8_step 233 = .ok (.getfield 43, 3) := by decide +kernel
theorem dX8_step_236 : decode cX8_step 236 = .ok (.iload 18, 2) := by decide +kernel
theorem dX8_step_238 : decode cX8_step 238 = .ok (.iaload, 1) := by decide +kernel
theorem dX8_step_239 : decode cX8_step 239 = .ok (.i2l, 1) := by decide +kernel
theorem dX8_step_240 : decode cX8_step 240 = .ok (.ladd, 1) := by decide +kernel
theorem dX8_step_241 : decode cX8_step 241 = .ok (.lstore 14, 2) := by decide +kernel
theorem dX8_step_243 : decode cX8_step 243 = .ok (.lload 16, 2) := by decide +kernel
theorem dX8_step_245 : decode cX8_step 245 = .ok (.aload_n 0, 1) := by decide +kernel
theorem dX8_step_246 : decode cX8_step 246 = .ok (.getfield 40, 3) := by decide +kernel
theorem dX8_step_249 : decode cX8_step 249 = .ok (.iload 18, 2) := by decide +kernel
theorem dX8_step_251 : decode cX8_step 251 = .ok (.iaload, 1) := by decide +kernel
theorem dX8_step_252 : decode cX8_step 252 = .ok (.i2l, 1) := by decide +kernel
theorem dX8_step_253 : decode cX8_step 253 = .ok (.ladd, 1) := by decide +kernel
theorem dX8_step_254 : decode cX8_step 254 = .ok (.lstore 16, 2) := by decide +kernel
theorem dX8_step_256 : decode cX8_step 256 = .ok (.iload 18, 2) := by decide +kernel
theorem dX8_step_258 : decode cX8_step 258 = .ok (.iload 4, 2) := by decide +kernel
theorem dX8_step_260 : decode cX8_step 260 = .ok (.if_icmp .lt 45, 3) := by decide +kernel
theorem dX8_step_263 : decode cX8_step 263 = .ok (.aload_n 0, 1) := by decide +kernel
theorem dX8_step_264 : decode cX8_step 264 = .ok (.getfield 40, 3) := by decide +kernel
theorem dX8_step_267 : decode cX8_step 267 = .ok (.iload 18, 2) := by decide +kernel
theorem dX8_step_269 : decode cX8_step 269 = .ok (.iaload, 1) := by decide +kernel
theorem dX8_step_270 : decode cX8_step 270 = .ok (.ifCond .ne 6, 3) := by decide +kernel
theorem dX8_step_273 : decode cX8_step 273 = .ok (.goto 32, 3) := by decide +kernel
theorem dX8_step_276 : decode cX8_step 276 = .ok (.lload 10, 2) := by decide +kernel
theorem dX8_step_278 : decode cX8_step 278 = .ok (.lconst 0, 1) := by decide +kernel
theorem dX8_step_279 : decode cX8_step 279 = .ok (.lcmp, 1) := by decide +kernel
theorem dX8_step_280 : decode cX8_step 280 = .ok (.ifCond .lt 17, 3) := by decide +kernel
theorem dX8_step_283 : decode cX8_step 283 = .ok (.lload 14, 2) := by decide +kernel
theorem dX8_step_285 : decode cX8_step 285 = .ok (.lload 12, 2) := by decide +kernel
theorem dX8_step_287 : decode cX8_step 287 = .ok (.lmul, 1) := by decide +kernel
theorem dX8_step_288 : decode cX8_step 288 = .ok (.lload 10, 2) := by decide +kernel
theorem dX8_step_290 : decode cX8_step 290 = .ok (.lload 16, 2) := by decide +kernel
theorem dX8_step_292 : decode cX8_step 292 = .ok (.lmul, 1) := by decide +kernel
theorem dX8_step_293 : decode cX8_step 293 = .ok (.lcmp, 1) := by decide +kernel
theorem dX8_step_294 : decode cX8_step 294 = .ok (.ifCond .ge 11, 3) := by decide +kernel
theorem dX8_step_297 : decode cX8_step 297 = .ok (.lload 14, 2) := by decide +kernel
theorem dX8_step_299 : decode cX8_step 299 = .ok (.lstore 10, 2) := by decide +kernel
theorem dX8_step_301 : decode cX8_step 301 = .ok (.lload 16, 2) := by decide +kernel
theorem dX8_step_303 : decode cX8_step 303 = .ok (.lstore 12, 2) := by decide +kernel
theorem dX8_step_305 : decode cX8_step 305 = .ok (.iinc 18 1, 3) := by decide +kernel
theorem dX8_step_308 : decode cX8_step 308 = .ok (.goto (-85), 3) := by decide +kernel
theorem dX8_step_311 : decode cX8_step 311 = .ok (.lload 5, 2) := by decide +kernel
theorem dX8_step_313 : decode cX8_step 313 = .ok (.lconst 0, 1) := by decide +kernel
theorem dX8_step_314 : decode cX8_step 314 = .ok (.lcmp, 1) := by decide +kernel
theorem dX8_step_315 : decode cX8_step 315 = .ok (.ifCond .lt 17, 3) := by decide +kernel
theorem dX8_step_318 : decode cX8_step 318 = .ok (.lload 10, 2) := by decide +kernel
theorem dX8_step_320 : decode cX8_step 320 = .ok (.lload 7, 2) := by decide +kernel
theorem dX8_step_322 : decode cX8_step 322 = .ok (.lmul, 1) := by decide +kernel
theorem dX8_step_323 : decode cX8_step 323 = .ok (.lload 5, 2) := by decide +kernel
theorem dX8_step_325 : decode cX8_step 325 = .ok (.lload 12, 2) := by decide +kernel
theorem dX8_step_327 : decode cX8_step 327 = .ok (.lmul, 1) := by decide +kernel
theorem dX8_step_328 : decode cX8_step 328 = .ok (.lcmp, 1) := by decide +kernel
theorem dX8_step_329 : decode cX8_step 329 = .ok (.ifCond .le 11, 3) := by decide +kernel
theorem dX8_step_332 : decode cX8_step 332 = .ok (.lload 10, 2) := by decide +kernel
theorem dX8_step_334 : decode cX8_step 334 = .ok (.lstore 5, 2) := by decide +kernel
theorem dX8_step_336 : decode cX8_step 336 = .ok (.lload 12, 2) := by decide +kernel
theorem dX8_step_338 : decode cX8_step 338 = .ok (.lstore 7, 2) := by decide +kernel
theorem dX8_step_340 : decode cX8_step 340 = .ok (.iinc 9 1, 3) := by decide +kernel
theorem dX8_step_343 : decode cX8_step 343 = .ok (.goto (-158), 3) := by decide +kernel
theorem dX8_step_346 : decode cX8_step 346 = .ok (.aload_n 0, 1) := by decide +kernel
theorem dX8_step_347 : decode cX8_step 347 = .ok (.lload 5, 2) := by decide +kernel
theorem dX8_step_349 : decode cX8_step 349 = .ok (.lload 7, 2) := by decide +kernel
theorem dX8_step_351 : decode cX8_step 351 = .ok (.invokevirtual 146, 3) := by decide +kernel
theorem dX8_step_354 : decode cX8_step 354 = .ok (.ireturn, 1) := by decide +kernel
set_option maxRecDepth 20000 in
theorem ggX8_blind_X8_areTwo : GoodIn wsX8_blind wsX8_areTwo := goodIn_r _ [7, 8, 9, 10, 6, 11, 12, 33, 34, 35, 36, 37, 38, 39, 40, 41, 42, 43, 44, 45, 46, 47, 48, 49, 50, 51, 52, 53, 54, 55] (by decide +kernel) (by decide +kernel)
set_option maxRecDepth 20000 in
theorem gX8_blind_X8_areTwo : GoodIn wsX8_blind (wsV RX8 133 RX8 yX8_areTwo wsX8_areTwo) := goodIn_app (goodIn_of _ (by decide +kernel)) ggX8_blind_X8_areTwo
set_option maxRecDepth 20000 in
theorem ggX8_blind_X8_refuse : GoodIn wsX8_blind wsX8_refuse := goodIn_r _ [16, 1, 33, 34, 35, 36, 37, 38, 39, 40, 41, 42, 43, 44, 45, 46, 47, 48, 49, 50, 51, 52, 53, 54, 55] (by decide +kernel) (by decide +kernel)
set_option maxRecDepth 20000 in
theorem gX8_blind_X8_refuse : GoodIn wsX8_blind (wsV RX8 99 RX8 yX8_refuse wsX8_refuse) := goodIn_app (goodIn_of _ (by decide +kernel)) ggX8_blind_X8_refuse
set_option maxRecDepth 20000 in
theorem ggX8_blind_X8_bothOf : GoodIn wsX8_blind wsX8_bothOf := goodIn_r _ [20, 21, 22, 23, 6, 24, 25, 26, 27, 28, 29, 2, 30, 31, 32, 33, 34, 35, 36, 37, 38, 39, 40, 41, 42, 43, 44, 45, 46, 47, 48, 49, 50, 51, 52, 53, 54, 55] (by decide +kernel) (by decide +kernel)
set_option maxRecDepth 20000 in
theorem gX8_blind_X8_bothOf : GoodIn wsX8_blind (wsV RX8 136 RX8 yX8_bothOf wsX8_bothOf) := goodIn_app (goodIn_of _ (by decide +kernel)) ggX8_blind_X8_bothOf
set_option maxRecDepth 20000 in
theorem ggX8_blind_X8_areBoth : GoodIn wsX8_blind wsX8_areBoth := goodIn_r _ [24, 25, 26, 27, 6, 28, 29, 2, 30, 31, 32, 33, 34, 35, 36, 37, 38, 39, 40, 41, 42, 43, 44, 45, 46, 47, 48, 49, 50, 51, 52, 53, 54, 55] (by decide +kernel) (by decide +kernel)
set_option maxRecDepth 20000 in
theorem gX8_blind_X8_areBoth : GoodIn wsX8_blind (wsV RX8 129 RX8 yX8_areBoth wsX8_areBoth) := goodIn_app (goodIn_of _ (by decide +kernel)) ggX8_blind_X8_areBoth
set_option maxRecDepth 20000 in
theorem ggX8_blind_X8_at : GoodIn wsX8_blind wsX8_at := goodIn_r _ [32] (by decide +kernel) (by decide +kernel)
set_option maxRecDepth 20000 in
theorem gX8_blind_X8_at : GoodIn wsX8_blind (va_wsS RX8 103 yX8_at wsX8_at) := goodIn_app (goodIn_of _ (by decide +kernel)) ggX8_blind_X8_at
theorem dX8_blind_0 : decode cX8_blind 0 = .ok (.aload_n 0, 1) := by decide +kernel
theorem dX8_blind_1 : decode cX8_blind 1 = .ok (.iload_n 1, 1) := by decide +kernel
theorem dX8_blind_2 : decode cX8_blind 2 = .ok (.iload_n 2, 1) := by decide +kernel
theorem dX8_blind_3 : decode cX8_blind 3 = .ok (.invokevirtual 133, 3) := by decide +kernel
theorem dX8_blind_6 : decode cX8_blind 6 = .ok (.ifCond .ne 9, 3) := by decide +kernel
theorem dX8_blind_9 : decode cX8_blind 9 = .ok (.aload_n 0, 1) := by decide +kernel
theorem dX8_blind_10 : decode cX8_blind 10 = .ok (.iconst 1, 1) := by decide +kernel
theorem dX8_blind_11 : decode cX8_blind 11 = .ok (.invokevirtual 99, 3) := by decide +kernel
theorem dX8_blind_14 : decode cX8_blind 14 = .ok (.ireturn, 1) := by decide +kernel
theorem dX8_blind_15 : decode cX8_blind 15 = .ok (.aload_n 0, 1) := by decide +kernel
theorem dX8_blind_16 : decode cX8_blind 16 = .ok (.iload_n 1, 1) := by decide +kernel
theorem dX8_blind_17 : decode cX8_blind 17 = .ok (.iload_n 2, 1) := by decide +kernel
theorem dX8_blind_18 : decode cX8_blind 18 = .ok (.invokevirtual 136, 3) := by decide +kernel
theorem dX8_blind_21 : decode cX8_blind 21 = .ok (.ifCond .ne 10, 3) := by decide +kernel
theorem dX8_blind_24 : decode cX8_blind 24 = .ok (.aload_n 0, 1) := by decide +kernel
theorem dX8_blind_25 : decode cX8_blind 25 = .ok (.bipush 6, 2) := by decide +kernel
theorem dX8_blind_27 : decode cX8_blind 27 = .ok (.invokevirtual 99, 3) := by decide +kernel
theorem dX8_blind_30 : decode cX8_blind 30 = .ok (.ireturn, 1) := by decide +kernel
theorem dX8_blind_31 : decode cX8_blind 31 = .ok (.aload_n 0, 1) := by decide +kernel
theorem dX8_blind_32 : decode cX8_blind 32 = .ok (.iconst 0, 1) := by decide +kernel
theorem dX8_blind_33 : decode cX8_blind 33 = .ok (.putfield 73, 3) := by decide +kernel
theorem dX8_blind_36 : decode cX8_blind 36 = .ok (.iconst 0, 1) := by decide +kernel
theorem dX8_blind_37 : decode cX8_blind 37 = .ok (.istore_n 3, 1) := by decide +kernel
theorem dX8_blind_38 : decode cX8_blind 38 = .ok (.iconst 0, 1) := by decide +kernel
theorem dX8_blind_39 : decode cX8_blind 39 = .ok (.istore 4, 2) := by decide +kernel
theorem dX8_blind_41 : decode cX8_blind 41 = .ok (.iload 4, 2) := by decide +kernel
theorem dX8_blind_43 : decode cX8_blind 43 = .ok (.sipush 240, 3) := by decide +kernel
theorem dX8_blind_46 : decode cX8_blind 46 = .ok (.if_icmp .ge 42, 3) := by decide +kernel
theorem dX8_blind_49 : decode cX8_blind 49 = .ok (.iload_n 3, 1) := by decide +kernel
theorem dX8_blind_50 : decode cX8_blind 50 = .ok (.aload_n 0, 1) := by decide +kernel
theorem dX8_blind_51 : decode cX8_blind 51 = .ok (.iload_n 1, 1) := by decide +kernel
theorem dX8_blind_52 : decode cX8_blind 52 = .ok (.iload_n 2, 1) := by decide +kernel
theorem dX8_blind_53 : decode cX8_blind 53 = .ok (.iload 4, 2) := by decide +kernel
theorem dX8_blind_55 : decode cX8_blind 55 = .ok (.invokevirtual 129, 3) := by decide +kernel
theorem dX8_blind_58 : decode cX8_blind 58 = .ok (.ifCond .eq 21, 3) := by decide +kernel
theorem dX8_blind_61 : decode cX8_blind 61 = .ok (.aload_n 0, 1) := by decide +kernel
theorem dX8_blind_62 : decode cX8_blind 62 = .ok (.getfield 31, 3) := by decide +kernel
theorem dX8_blind_65 : decode cX8_blind 65 = .ok (.iload_n 1, 1) := by decide +kernel
theorem dX8_blind_66 : decode cX8_blind 66 = .ok (.iload 4, 2) := by decide +kernel
theorem dX8_blind_68 : decode cX8_blind 68 = .ok (.invokestatic 103, 3) := by decide +kernel
theorem dX8_blind_71 : decode cX8_blind 71 = .ok (.iaload, 1) := by decide +kernel
theorem dX8_blind_72 : decode cX8_blind 72 = .ok (.ifCond .le 7, 3) := by decide +kernel
theorem dX8_blind_75 : decode cX8_blind 75 = .ok (.iconst 1, 1) := by decide +kernel
theorem dX8_blind_76 : decode cX8_blind 76 = .ok (.goto 4, 3) := by decide +kernel
theorem dX8_blind_79 : decode cX8_blind 79 = .ok (.iconst 0, 1) := by decide +kernel
theorem dX8_blind_80 : decode cX8_blind 80 = .ok (.iadd, 1) := by decide +kernel
theorem dX8_blind_81 : decode cX8_blind 81 = .ok (.istore_n 3, 1) := by decide +kernel
theorem dX8_blind_82 : decode cX8_blind 82 = .ok (.iinc 4 1, 3) := by decide +kernel
theorem dX8_blind_85 : decode cX8_blind 85 = .ok (.goto (-44), 3) := by decide +kernel
theorem dX8_blind_88 : decode cX8_blind 88 = .ok (.iconst 0, 1) := by decide +kernel
theorem dX8_blind_89 : decode cX8_blind 89 = .ok (.istore 4, 2) := by decide +kernel
theorem dX8_blind_91 : decode cX8_blind 91 = .ok (.iconst 1, 1) := by decide +kernel
theorem dX8_blind_92 : decode cX8_blind 92 = .ok (.istore 5, 2) := by decide +kernel
theorem dX8_blind_94 : decode cX8_blind 94 = .ok (.iload 5, 2) := by decide +kernel
theorem dX8_blind_96 : decode cX8_blind 96 = .ok (.ifCond .eq 84, 3) := by decide +kernel
theorem dX8_blind_99 : decode cX8_blind 99 = .ok (.iconst 0, 1) := by decide +kernel
theorem dX8_blind_100 : decode cX8_blind 100 = .ok (.istore 6, 2) := by decide +kernel
theorem dX8_blind_102 : decode cX8_blind 102 = .ok (.iconst 0, 1) := by decide +kernel
theorem dX8_blind_103 : decode cX8_blind 103 = .ok (.istore 7, 2) := by decide +kernel
theorem dX8_blind_105 : decode cX8_blind 105 = .ok (.iload 7, 2) := by decide +kernel
theorem dX8_blind_107 : decode cX8_blind 107 = .ok (.sipush 240, 3) := by decide +kernel
theorem dX8_blind_110 : decode cX8_blind 110 = .ok (.if_icmp .ge 46, 3) := by decide +kernel
theorem dX8_blind_113 : decode cX8_blind 113 = .ok (.iload 6, 2) := by decide +kernel
theorem dX8_blind_115 : decode cX8_blind 115 = .ok (.aload_n 0, 1) := by decide +kernel
theorem dX8_blind_116 : decode cX8_blind 116 = .ok (.iload_n 1, 1) := by decide +kernel
theorem dX8_blind_117 : decode cX8_blind 117 = .ok (.iload_n 2, 1) := by decide +kernel
theorem dX8_blind_118 : decode cX8_blind 118 = .ok (.iload 7, 2) := by decide +kernel
theorem dX8_blind_120 : decode cX8_blind 120 = .ok (.invokevirtual 129, 3) := by decide +kernel
theorem dX8_blind_123 : decode cX8_blind 123 = .ok (.ifCond .eq 23, 3) := by decide +kernel
theorem dX8_blind_126 : decode cX8_blind 126 = .ok (.aload_n 0, 1) := by decide +kernel
theorem dX8_blind_127 : decode cX8_blind 127 = .ok (.getfield 31, 3) := by decide +kernel
theorem dX8_blind_130 : decode cX8_blind 130 = .ok (.iload_n 2, 1) := by decide +kernel
theorem dX8_blind_131 : decode cX8_blind 131 = .ok (.iload 7, 2) := by decide +kernel
theorem dX8_blind_133 : decode cX8_blind 133 = .ok (.invokestatic 103, 3) := by decide +kernel
theorem dX8_blind_136 : decode cX8_blind 136 = .ok (.iaload, 1) := by decide +kernel
theorem dX8_blind_137 : decode cX8_blind 137 = .ok (.iload 4, 2) := by decide +kernel
theorem dX8_blind_139 : decode cX8_blind 139 = .ok (.if_icmp .le 7, 3) := by decide +kernel
theorem dX8_blind_142 : decode cX8_blind 142 = .ok (.iconst 1, 1) := by decide +kernel
theorem dX8_blind_143 : decode cX8_blind 143 = .ok (.goto 4, 3) := by decide +kernel
theorem dX8_blind_146 : decode cX8_blind 146 = .ok (.iconst 0, 1) := by decide +kernel
theorem dX8_blind_147 : decode cX8_blind 147 = .ok (.iadd, 1) := by decide +kernel
theorem dX8_blind_148 : decode cX8_blind 148 = .ok (.istore 6, 2) := by decide +kernel
theorem dX8_blind_150 : decode cX8_blind 150 = .ok (.iinc 7 1, 3) := by decide +kernel
theorem dX8_blind_153 : decode cX8_blind 153 = .ok (.goto (-48), 3) := by decide +kernel
theorem dX8_blind_156 : decode cX8_blind 156 = .ok (.iload 6, 2) := by decide +kernel
theorem dX8_blind_158 : decode cX8_blind 158 = .ok (.iload_n 3, 1) := by decide +kernel
theorem dX8_blind_159 : decode cX8_blind 159 = .ok (.if_icmp .le 7, 3) := by decide +kernel
theorem dX8_blind_162 : decode cX8_blind 162 = .ok (.iconst 1, 1) := by decide +kernel
theorem dX8_blind_163 : decode cX8_blind 163 = .ok (.goto 4, 3) := by decide +kernel
theorem dX8_blind_166 : decode cX8_blind 166 = .ok (.iconst 0, 1) := by decide +kernel
theorem dX8_blind_167 : decode cX8_blind 167 = .ok (.istore 5, 2) := by decide +kernel
theorem dX8_blind_169 : decode cX8_blind 169 = .ok (.iload 5, 2) := by decide +kernel
theorem dX8_blind_171 : decode cX8_blind 171 = .ok (.ifCond .eq 6, 3) := by decide +kernel
theorem dX8_blind_174 : decode cX8_blind 174 = .ok (.iinc 4 1, 3) := by decide +kernel
theorem dX8_blind_177 : decode cX8_blind 177 = .ok (.goto (-83), 3) := by decide +kernel
theorem dX8_blind_180 : decode cX8_blind 180 = .ok (.iload 4, 2) := by decide +kernel
theorem dX8_blind_182 : decode cX8_blind 182 = .ok (.ireturn, 1) := by decide +kernel
end
section
set_option maxRecDepth 20000 in
theorem ggX8_active_X8_isEye : GoodIn wsX8_active wsX8_isEye := goodIn_r _ [6, 7, 25, 26, 27, 28, 29, 30, 31, 32, 33, 34, 35, 36, 37, 38, 39, 40, 41, 42, 43, 44, 45, 46, 47] (by decide +kernel) (by decide +kernel)
set_option maxRecDepth 20000 in
theorem gX8_active_X8_isEye : GoodIn wsX8_active (wsV RX8 110 RX8 yX8_isEye wsX8_isEye) := goodIn_app (goodIn_of _ (by decide +kernel)) ggX8_active_X8_isEye
set_option maxRecDepth 20000 in
theorem ggX8_active_X8_isDay : GoodIn wsX8_active wsX8_isDay := goodIn_r _ [10] (by decide +kernel) (by decide +kernel)
set_option maxRecDepth 20000 in
theorem gX8_active_X8_isDay : GoodIn wsX8_active (va_wsS RX8 113 yX8_isDay wsX8_isDay) := goodIn_app (goodIn_of _ (by decide +kernel)) ggX8_active_X8_isDay
set_option maxRecDepth 20000 in
theorem ggX8_active_X8_refuse : GoodIn wsX8_active wsX8_refuse := goodIn_r _ [14, 15, 25, 26, 27, 28, 29, 30, 31, 32, 33, 34, 35, 36, 37, 38, 39, 40, 41, 42, 43, 44, 45, 46, 47] (by decide +kernel) (by decide +kernel)
set_option maxRecDepth 20000 in
theorem gX8_active_X8_refuse : GoodIn wsX8_active (wsV RX8 99 RX8 yX8_refuse wsX8_refuse) := goodIn_app (goodIn_of _ (by decide +kernel)) ggX8_active_X8_refuse
set_option maxRecDepth 20000 in
theorem ggX8_active_X8_at : GoodIn wsX8_active wsX8_at := goodIn_r _ [18] (by decide +kernel) (by decide +kernel)
set_option maxRecDepth 20000 in
theorem gX8_active_X8_at : GoodIn wsX8_active (va_wsS RX8 103 yX8_at wsX8_at) := goodIn_app (goodIn_of _ (by decide +kernel)) ggX8_active_X8_at
set_option maxRecDepth 20000 in
theorem ggX8_active_X8_fraction : GoodIn wsX8_active wsX8_fraction := goodIn_r _ [22, 23, 24, 15, 25, 26, 27, 28, 29, 30, 31, 32, 33, 34, 35, 36, 37, 38, 39, 40, 41, 42, 43, 44, 45, 46, 47] (by decide +kernel) (by decide +kernel)
set_option maxRecDepth 20000 in
theorem gX8_active_X8_fraction : GoodIn wsX8_active (wsV RX8 146 RX8 yX8_fraction wsX8_fraction) := goodIn_app (goodIn_of _ (by decide +kernel)) ggX8_active_X8_fraction
theorem dX8_active_0 : decode cX8_active 0 = .ok (.aload_n 0, 1) := by decide +kernel
theorem dX8_active_1 : decode cX8_active 1 = .ok (.iload_n 1, 1) := by decide +kernel
theorem dX8_active_2 : decode cX8_active 2 = .ok (.invokevirtual 110, 3) := by decide +kernel
theorem dX8_active_5 : decode cX8_active 5 = .ok (.ifCond .eq 22, 3) := by decide +kernel
theorem dX8_active_8 : decode cX8_active 8 = .ok (.iload_n 2, 1) := by decide +kernel
theorem dX8_active_9 : decode cX8_active 9 = .ok (.invokestatic 113, 3) := by decide +kernel
theorem dX8_active_12 : decode cX8_active 12 = .ok (.ifCond .eq 15, 3) := by decide +kernel
theorem dX8_active_15 : decode cX8_active 15 = .ok (.iload_n 3, 1) := by decide +kernel
theorem dX8_active_16 : decode cX8_active 16 = .ok (.invokestatic 113, 3) := by decide +kernel
theorem dX8_active_19 : decode cX8_active 19 = .ok (.ifCond .eq 8, 3) := by decide +kernel
theorem dX8_active_22 : decode cX8_active 22 = .ok (.iload_n 2, 1) := by decide +kernel
theorem dX8_active_23 : decode cX8_active 23 = .ok (.iload_n 3, 1) := by decide +kernel
theorem dX8_active_24 : decode cX8_active 24 = .ok (.if_icmp .le 9, 3) := by decide +kernel
theorem dX8_active_27 : decode cX8_active 27 = .ok (.aload_n 0, 1) := by decide +kernel
theorem dX8_active_28 : decode cX8_active 28 = .ok (.iconst 1, 1) := by decide +kernel
theorem dX8_active_29 : decode cX8_active 29 = .ok (.invokevirtual 99, 3) := by decide +kernel
theorem dX8_active_32 : decode cX8_active 32 = .ok (.ireturn, 1) := by decide +kernel
theorem dX8_active_33 : decode cX8_active 33 = .ok (.iconst 0, 1) := by decide +kernel
theorem dX8_active_34 : decode cX8_active 34 = .ok (.istore 4, 2) := by decide +kernel
theorem dX8_active_36 : decode cX8_active 36 = .ok (.iconst 0, 1) := by decide +kernel
theorem dX8_active_37 : decode cX8_active 37 = .ok (.istore 5, 2) := by decide +kernel
theorem dX8_active_39 : decode cX8_active 39 = .ok (.iload_n 2, 1) := by decide +kernel
theorem dX8_active_40 : decode cX8_active 40 = .ok (.istore 6, 2) := by decide +kernel
theorem dX8_active_42 : decode cX8_active 42 = .ok (.iload 6, 2) := by decide +kernel
theorem dX8_active_44 : decode cX8_active 44 = .ok (.iload_n 3, 1) := by decide +kernel
theorem dX8_active_45 : decode cX8_active 45 = .ok (.if_icmp .gt 54, 3) := by decide +kernel
theorem dX8_active_48 : decode cX8_active 48 = .ok (.aload_n 0, 1) := by decide +kernel
theorem dX8_active_49 : decode cX8_active 49 = .ok (.getfield 31, 3) := by decide +kernel
theorem dX8_active_52 : decode cX8_active 52 = .ok (.iload_n 1, 1) := by decide +kernel
theorem dX8_active_53 : decode cX8_active 53 = .ok (.iload 6, 2) := by decide +kernel
theorem dX8_active_55 : decode cX8_active 55 = .ok (.invokestatic 103, 3) := by decide +kernel
theorem dX8_active_58 : decode cX8_active 58 = .ok (.iaload, 1) := by decide +kernel
theorem dX8_active_59 : decode cX8_active 59 = .ok (.iconst (-1), 1) := by decide +kernel
theorem dX8_active_60 : decode cX8_active 60 = .ok (.if_icmp .ne 6, 3) := by decide +kernel
theorem dX8_active_63 : decode cX8_active 63 = .ok (.goto 30, 3) := by decide +kernel
theorem dX8_active_66 : decode cX8_active 66 = .ok (.iinc 4 1, 3) := by decide +kernel
theorem dX8_active_69 : decode cX8_active 69 = .ok (.iload 5, 2) := by decide +kernel
theorem dX8_active_71 : decode cX8_active 71 = .ok (.aload_n 0, 1) := by decide +kernel
theorem dX8_active_72 : decode cX8_active 72 = .ok (.getfield 31, 3) := by decide +kernel
theorem dX8_active_75 : decode cX8_active 75 = .ok (.iload_n 1, 1) := by decide +kernel
theorem dX8_active_76 : decode cX8_active 76 = .ok (.iload 6, 2) := by decide +kernel
theorem dX8_active_78 : decode cX8_active 78 = .ok (.invokestatic 103, 3) := by decide +kernel
theorem dX8_active_81 : decode cX8_active 81 = .ok (.iaload, 1) := by decide +kernel
theorem dX8_active_82 : decode cX8_active 82 = .ok (.ifCond .le 7, 3) := by decide +kernel
theorem dX8_active_85 : decode cX8_active 85 = .ok (.iconst 1, 1) := by decide +kernel
theorem dX8_active_86 : decode cX8_active 86 = .ok (.goto 4, 3) := by decide +kernel
theorem dX8_active_89 : decode cX8_active 89 = .ok (.iconst 0, 1) := by decide +kernel
theorem dX8_active_90 : decode cX8_active 90 = .ok (.iadd, 1) := by decide +kernel
theorem dX8_active_91 : decode cX8_active 91 = .ok (.istore 5, 2) := by decide +kernel
theorem dX8_active_93 : decode cX8_active 93 = .ok (.iinc 6 1, 3) := by decide +kernel
theorem dX8_active_96 : decode cX8_active 96 = .ok (.goto (-54), 3) := by decide +kernel
theorem dX8_active_99 : decode cX8_active 99 = .ok (.iload 4, 2) := by decide +kernel
theorem dX8_active_101 : decode cX8_active 101 = .ok (.ifCond .ne 11, 3) := by decide +kernel
theorem dX8_active_104 : decode cX8_active 104 = .ok (.aload_n 0, 1) := by decide +kernel
theorem dX8_active_105 : decode cX8_active 105 = .ok (.iconst 5, 1) := by decide +kernel
theorem dX8_active_106 : decode cX8_active 106 = .ok (.invokevirtual 99, 3) := by decide +kernel
theorem dX8_active_109 : decode cX8_active 109 = .ok (.goto 13, 3) := by decide +kernel
theorem dX8_active_112 : decode cX8_active 112 = .ok (.aload_n 0, 1) := by decide +kernel
theorem dX8_active_113 : decode cX8_active 113 = .ok (.iload 5, 2) := by decide +kernel
theorem dX8_active_115 : decode cX8_active 115 = .ok (.i2l, 1) := by decide +kernel
theorem dX8_active_116 : decode cX8_active 116 = .ok (.iload 4, 2) := by decide +kernel
theorem dX8_active_118 : decode cX8_active 118 = .ok (.i2l, 1) := by decide +kernel
theorem dX8_active_119 : decode cX8_active 119 = .ok (.invokevirtual 146, 3) := by decide +kernel
theorem dX8_active_122 : decode cX8_active 122 = .ok (.ireturn, 1) := by decide +kernel
theorem dX8_pair_0 : decode cX8_pair 0 = .ok (.bipush 8, 2) := by decide +kernel
theorem dX8_pair_2 : decode cX8_pair 2 = .ok (.iload_n 0, 1) := by decide +kernel
theorem dX8_pair_3 : decode cX8_pair 3 = .ok (.imul, 1) := by decide +kernel
theorem dX8_pair_4 : decode cX8_pair 4 = .ok (.iload_n 1, 1) := by decide +kernel
theorem dX8_pair_5 : decode cX8_pair 5 = .ok (.iadd, 1) := by decide +kernel
theorem dX8_pair_6 : decode cX8_pair 6 = .ok (.ireturn, 1) := by decide +kernel
set_option maxRecDepth 20000 in
theorem ggX8_look_X8_pair : GoodIn wsX8_look wsX8_pair := goodIn_r _ [14] (by decide +kernel) (by decide +kernel)
set_option maxRecDepth 20000 in
theorem gX8_look_X8_pair : GoodIn wsX8_look (va_wsS RX8 150 yX8_pair wsX8_pair) := goodIn_app (goodIn_of _ (by decide +kernel)) ggX8_look_X8_pair
set_option maxRecDepth 20000 in
theorem ggX8_look_X8_factorOf : GoodIn wsX8_look wsX8_factorOf := goodIn_r _ [18, 19, 20, 21, 22, 23, 24, 25, 13, 26, 27, 28, 29, 30, 31, 32, 33, 34, 35, 36, 37, 38, 39, 40, 45, 46, 47, 48, 49, 50, 51, 52, 53, 54, 55, 56, 57, 58, 59, 60, 61, 62, 63, 64, 65, 66, 67] (by decide +kernel) (by decide +kernel)
set_option maxRecDepth 20000 in
theorem gX8_look_X8_factorOf : GoodIn wsX8_look (wsV RX8 143 RX8 yX8_factorOf wsX8_factorOf) := goodIn_app (goodIn_of _ (by decide +kernel)) ggX8_look_X8_factorOf
set_option maxRecDepth 20000 in
theorem ggX8_look_X8_bothOf : GoodIn wsX8_look wsX8_bothOf := goodIn_r _ [44, 23, 24, 25, 13, 26, 27, 28, 29, 30, 31, 32, 33, 34, 35, 45, 46, 47, 48, 49, 50, 51, 52, 53, 54, 55, 56, 57, 58, 59, 60, 61, 62, 63, 64, 65, 66, 67] (by decide +kernel) (by decide +kernel)
set_option maxRecDepth 20000 in
theorem gX8_look_X8_bothOf : GoodIn wsX8_look (wsV RX8 136 RX8 yX8_bothOf wsX8_bothOf) := goodIn_app (goodIn_of _ (by decide +kernel)) ggX8_look_X8_bothOf
theorem dX8_look_0 : decode cX8_look 0 = .ok (.iconst 0, 1) := by decide +kernel
theorem dX8_look_1 : decode cX8_look 1 = .ok (.istore_n 1, 1) := by decide +kernel
theorem dX8_look_2 : decode cX8_look 2 = .ok (.iload_n 1, 1) := by decide +kernel
theorem dX8_look_3 : decode cX8_look 3 = .ok (.aload_n 0, 1) := by decide +kernel
theorem dX8_look_4 : decode cX8_look 4 = .ok (.getfield 96, 3) := by decide +kernel
theorem dX8_look_7 : decode cX8_look 7 = .ok (.if_icmp .ge 106, 3) := by decide +kernel
theorem dX8_look_10 : decode cX8_look 10 = .ok (.iconst 0, 1) := by decide +kernel
theorem dX8_look_11 : decode cX8_look 11 = .ok (.istore_n 2, 1) := by decide +kernel
theorem dX8_look_12 : decode cX8_look 12 = .ok (.iload_n 2, 1) := by decide +kernel
theorem dX8_look_13 : decode cX8_look 13 = .ok (.aload_n 0, 1) := by decide +kernel
theorem dX8_look_14 : decode cX8_look 14 = .ok (.getfield 96, 3) := by decide +kernel
theorem dX8_look_17 : decode cX8_look 17 = .ok (.if_icmp .ge 59, 3) := by decide +kernel
theorem dX8_look_20 : decode cX8_look 20 = .ok (.aload_n 0, 1) := by decide +kernel
theorem dX8_look_21 : decode cX8_look 21 = .ok (.getfield 58, 3) := by decide +kernel
theorem dX8_look_24 : decode cX8_look 24 = .ok (.iload_n 1, 1) := by decide +kernel
theorem dX8_look_25 : decode cX8_look 25 = .ok (.iload_n 2, 1) := by decide +kernel
theorem dX8_look_26 : decode cX8_look 26 = .ok (.invokestatic 150, 3) := by decide +kernel
theorem dX8_look_29 : decode cX8_look 29 = .ok (.iload_n 1, 1) := by decide +kernel
theorem dX8_look_30 : decode cX8_look 30 = .ok (.iload_n 2, 1) := by decide +kernel
theorem dX8_look_31 : decode cX8_look 31 = .ok (.if_icmp .ne 7, 3) := by decide +kernel
theorem dX8_look_34 : decode cX8_look 34 = .ok (.iconst (-1), 1) := by decide +kernel
theorem dX8_look_35 : decode cX8_look 35 = .ok (.goto 9, 3) := by decide +kernel
theorem dX8_look_38 : decode cX8_look 38 = .ok (.aload_n 0, 1) := by decide +kernel
theorem dX8_look_39 : decode cX8_look 39 = .ok (.iload_n 1, 1) := by decide +kernel
theorem dX8_look_40 : decode cX8_look 40 = .ok (.iload_n 2, 1) := by decide +kernel
theorem dX8_look_41 : decode cX8_look 41 = .ok (.invokevirtual 143, 3) := by decide +kernel
theorem dX8_look_44 : decode cX8_look 44 = .ok (.iastore, 1) := by decide +kernel
theorem dX8_look_45 : decode cX8_look 45 = .ok (.aload_n 0, 1) := by decide +kernel
theorem dX8_look_46 : decode cX8_look 46 = .ok (.getfield 55, 3) := by decide +kernel
theorem dX8_look_49 : decode cX8_look 49 = .ok (.iload_n 1, 1) := by decide +kernel
theorem dX8_look_50 : decode cX8_look 50 = .ok (.iload_n 2, 1) := by decide +kernel
theorem dX8_look_51 : decode cX8_look 51 = .ok (.invokestatic 150, 3) := by decide +kernel
theorem dX8_look_54 : decode cX8_look 54 = .ok (.iload_n 1, 1) := by decide +kernel
theorem dX8_look_55 : decode cX8_look 55 = .ok (.iload_n 2, 1) := by decide +kernel
theorem dX8_look_56 : decode cX8_look 56 = .ok (.if_icmp .ne 7, 3) := by decide +kernel
theorem dX8_look_59 : decode cX8_look 59 = .ok (.iconst 0, 1) := by decide +kernel
theorem dX8_look_60 : decode cX8_look 60 = .ok (.goto 9, 3) := by decide +kernel
theorem dX8_look_63 : decode cX8_look 63 = .ok (.aload_n 0, 1) := by decide +kernel
theorem dX8_look_64 : decode cX8_look 64 = .ok (.iload_n 1, 1) := by decide +kernel
theorem dX8_look_65 : decode cX8_look 65 = .ok (.iload_n 2, 1) := by decide +kernel
theorem dX8_look_66 : decode cX8_look 66 = .ok (.invokevirtual 136, 3) := by decide +kernel
theorem dX8_look_69 : decode cX8_look 69 = .ok (.iastore, 1) := by decide +kernel
theorem dX8_look_70 : decode cX8_look 70 = .ok (.iinc 2 1, 3) := by decide +kernel
theorem dX8_look_73 : decode cX8_look 73 = .ok (.goto (-61), 3) := by decide +kernel
theorem dX8_look_76 : decode cX8_look 76 = .ok (.aload_n 0, 1) := by decide +kernel
theorem dX8_look_77 : decode cX8_look 77 = .ok (.getfield 46, 3) := by decide +kernel
theorem dX8_look_80 : decode cX8_look 80 = .ok (.iload_n 1, 1) := by decide +kernel
theorem dX8_look_81 : decode cX8_look 81 = .ok (.iload_n 1, 1) := by decide +kernel
theorem dX8_look_82 : decode cX8_look 82 = .ok (.ifCond .ne 7, 3) := by decide +kernel
theorem dX8_look_85 : decode cX8_look 85 = .ok (.iconst 0, 1) := by decide +kernel
theorem dX8_look_86 : decode cX8_look 86 = .ok (.goto 4, 3) := by decide +kernel
theorem dX8_look_89 : decode cX8_look 89 = .ok (.iconst (-1), 1) := by decide +kernel
theorem dX8_look_90 : decode cX8_look 90 = .ok (.iastore, 1) := by decide +kernel
theorem dX8_look_91 : decode cX8_look 91 = .ok (.aload_n 0, 1) := by decide +kernel
theorem dX8_look_92 : decode cX8_look 92 = .ok (.getfield 49, 3) := by decide +kernel
theorem dX8_look_95 : decode cX8_look 95 = .ok (.iload_n 1, 1) := by decide +kernel
theorem dX8_look_96 : decode cX8_look 96 = .ok (.sipush 241, 3) := by decide +kernel
theorem dX8_look_99 : decode cX8_look 99 = .ok (.iastore, 1) := by decide +kernel
theorem dX8_look_100 : decode cX8_look 100 = .ok (.aload_n 0, 1) := by decide +kernel
theorem dX8_look_101 : decode cX8_look 101 = .ok (.getfield 52, 3) := by decide +kernel
theorem dX8_look_104 : decode cX8_look 104 = .ok (.iload_n 1, 1) := by decide +kernel
theorem dX8_look_105 : decode cX8_look 105 = .ok (.iconst (-1), 1) := by decide +kernel
theorem dX8_look_106 : decode cX8_look 106 = .ok (.iastore, 1) := by decide +kernel
theorem dX8_look_107 : decode cX8_look 107 = .ok (.iinc 1 1, 3) := by decide +kernel
theorem dX8_look_110 : decode cX8_look 110 = .ok (.goto (-108), 3) := by decide +kernel
theorem dX8_look_113 : decode cX8_look 113 = .ok (.iconst 1, 1) := by decide +kernel
theorem dX8_look_114 : decode cX8_look 114 = .ok (.istore_n 1, 1) := by decide +kernel
theorem dX8_look_115 : decode cX8_look 115 = .ok (.iload_n 1, 1) := by decide +kernel
theorem dX8_look_116 : decode cX8_look 116 = .ok (.aload_n 0, 1) := by decide +kernel
theorem dX8_look_117 : decode cX8_look 117 = .ok (.getfield 96, 3) := by decide +kernel
theorem dX8_look_120 : decode cX8_look 120 = .ok (.if_icmp .ge 186, 3) := by decide +kernel
theorem dX8_look_123 : decode cX8_look 123 = .ok (.iconst 1, 1) := by decide +kernel
theorem dX8_look_124 : decode cX8_look 124 = .ok (.istore_n 2, 1) := by decide +kernel
theorem dX8_look_125 : decode cX8_look 125 = .ok (.iload_n 2, 1) := by decide +kernel
theorem dX8_look_126 : decode cX8_look 126 = .ok (.aload_n 0, 1) := by decide +kernel
theorem dX8_look_127 : decode cX8_look 127 = .ok (.getfield 96, 3) := by decide +kernel
theorem dX8_look_130 : decode cX8_look 130 = .ok (.if_icmp .ge 127, 3) := by decide +kernel
theorem dX8_look_133 : decode cX8_look 133 = .ok (.aload_n 0, 1) := by decide +kernel
theorem dX8_look_134 : decode cX8_look 134 = .ok (.getfield 46, 3) := by decide +kernel
theorem dX8_look_137 : decode cX8_look 137 = .ok (.iload_n 2, 1) := by decide +kernel
theorem dX8_look_138 : decode cX8_look 138 = .ok (.iaload, 1) := by decide +kernel
theorem dX8_look_139 : decode cX8_look 139 = .ok (.iconst (-1), 1) := by decide +kernel
theorem dX8_look_140 : decode cX8_look 140 = .ok (.if_icmp .eq 6, 3) := by decide +kernel
theorem dX8_look_143 : decode cX8_look 143 = .ok (.goto 108, 3) := by decide +kernel
theorem dX8_look_146 : decode cX8_look 146 = .ok (.iconst 0, 1) := by decide +kernel
theorem dX8_look_147 : decode cX8_look 147 = .ok (.istore_n 3, 1) := by decide +kernel
theorem dX8_look_148 : decode cX8_look 148 = .ok (.iload_n 3, 1) := by decide +kernel
theorem dX8_look_149 : decode cX8_look 149 = .ok (.aload_n 0, 1) := by decide +kernel
theorem dX8_look_150 : decode cX8_look 150 = .ok (.getfield 96, 3) := by decide +kernel
theorem dX8_look_153 : decode cX8_look 153 = .ok (.if_icmp .ge 98, 3) := by decide +kernel
theorem dX8_look_156 : decode cX8_look 156 = .ok (.aload_n 0, 1) := by decide +kernel
theorem dX8_look_157 : decode cX8_look 157 = .ok (.getfield 46, 3) := by decide +kernel
theorem dX8_look_160 : decode cX8_look 160 = .ok (.iload_n 3, 1) := by decide +kernel
theorem dX8_look_161 : decode cX8_look 161 = .ok (.iaload, 1) := by decide +kernel
theorem dX8_look_162 : decode cX8_look 162 = .ok (.iload_n 1, 1) := by decide +kernel
theorem dX8_look_163 : decode cX8_look 163 = .ok (.iconst 1, 1) := by decide +kernel
theorem dX8_look_164 : decode cX8_look 164 = .ok (.isub, 1) := by decide +kernel
theorem dX8_look_165 : decode cX8_look 165 = .ok (.if_icmp .ne 80, 3) := by decide +kernel
theorem dX8_look_168 : decode cX8_look 168 = .ok (.aload_n 0, 1) := by decide +kernel
theorem dX8_look_169 : decode cX8_look 169 = .ok (.getfield 58, 3) := by decide +kernel
theorem dX8_look_172 : decode cX8_look 172 = .ok (.iload_n 2, 1) := by decide +kernel
theorem dX8_look_173 : decode cX8_look 173 = .ok (.iload_n 3, 1) := by decide +kernel
theorem dX8_look_174 : decode cX8_look 174 = .ok (.invokestatic 150, 3) := by decide +kernel
theorem dX8_look_177 : decode cX8_look 177 = .ok (.iaload, 1) := by decide +kernel
theorem dX8_look_178 : decode cX8_look 178 = .ok (.iconst (-1), 1) := by decide +kernel
theorem dX8_look_179 : decode cX8_look 179 = .ok (.if_icmp .ne 6, 3) := by decide +kernel
theorem dX8_look_182 : decode cX8_look 182 = .ok (.goto 63, 3) := by decide +kernel
theorem dX8_look_185 : decode cX8_look 185 = .ok (.aload_n 0, 1) := by decide +kernel
theorem dX8_look_186 : decode cX8_look 186 = .ok (.getfield 49, 3) := by decide +kernel
theorem dX8_look_189 : decode cX8_look 189 = .ok (.iload_n 3, 1) := by decide +kernel
theorem dX8_look_190 : decode cX8_look 190 = .ok (.iaload, 1) := by decide +kernel
theorem dX8_look_191 : decode cX8_look 191 = .ok (.aload_n 0, 1) := by decide +kernel
theorem dX8_look_192 : decode cX8_look 192 = .ok (.getfield 55, 3) := by decide +kernel
theorem dX8_look_195 : decode cX8_look 195 = .ok (.iload_n 2, 1) := by decide +kernel
theorem dX8_look_196 : decode cX8_look 196 = .ok (.iload_n 3, 1) := by decide +kernel
theorem dX8_look_197 : decode cX8_look 197 = .ok (.invokestatic 150, 3) := by decide +kernel
theorem dX8_look_200 : decode cX8_look 200 = .ok (.iaload, 1) := by decide +kernel
theorem dX8_look_201 : decode cX8_look 201 = .ok (.invokestatic 153, 3) := by decide +kernel
theorem dX8_look_204 : decode cX8_look 204 = .ok (.istore 4, 2) := by decide +kernel
theorem dX8_look_206 : decode cX8_look 206 = .ok (.aload_n 0, 1) := by decide +kernel
theorem dX8_look_207 : decode cX8_look 207 = .ok (.getfield 52, 3) := by decide +kernel
theorem dX8_look_210 : decode cX8_look 210 = .ok (.iload_n 2, 1) := by decide +kernel
theorem dX8_look_211 : decode cX8_look 211 = .ok (.iaload, 1) := by decide +kernel
theorem dX8_look_212 : decode cX8_look 212 = .ok (.iconst (-1), 1) := by decide +kernel
theorem dX8_look_213 : decode cX8_look 213 = .ok (.if_icmp .eq 17, 3) := by decide +kernel
theorem dX8_look_216 : decode cX8_look 216 = .ok (.iload 4, 2) := by decide +kernel
theorem dX8_look_218 : decode cX8_look 218 = .ok (.aload_n 0, 1) := by decide +kernel
theorem dX8_look_219 : decode cX8_look 219 = .ok (.getfield 49, 3) := by decide +kernel
theorem dX8_look_222 : decode cX8_look 222 = .ok (.iload_n 2, 1) := by decide +kernel
theorem dX8_look_223 : decode cX8_look 223 = .ok (.iaload, 1) := by decide +kernel
theorem dX8_look_224 : decode cX8_look 224 = .ok (.if_icmp .gt 6, 3) := by decide +kernel
theorem dX8_look_227 : decode cX8_look 227 = .ok (.goto 18, 3) := by decide +kernel
theorem dX8_look_230 : decode cX8_look 230 = .ok (.aload_n 0, 1) := by decide +kernel
theorem dX8_look_231 : decode cX8_look 231 = .ok (.getfield 49, 3) := by decide +kernel
theorem dX8_look_234 : decode cX8_look 234 = .ok (.iload_n 2, 1) := by decide +kernel
theorem dX8_look_235 : decode cX8_look 235 = .ok (.iload 4, 2) := by decide +kernel
theorem dX8_look_237 : decode cX8_look 237 = .ok (.iastore, 1) := by decide +kernel
theorem dX8_look_238 : decode cX8_look 238 = .ok (.aload_n 0, 1) := by decide +kernel
theorem dX8_look_239 : decode cX8_look 239 = .ok (.getfield 52, 3) := by decide +kernel
theorem dX8_look_242 : decode cX8_look 242 = .ok (.iload_n 2, 1) := by decide +kernel
theorem dX8_look_243 : decode cX8_look 243 = .ok (.iload_n 3, 1) := by decide +kernel
theorem dX8_look_244 : decode cX8_look 244 = .ok (.iastore, 1) := by decide +kernel
theorem dX8_look_245 : decode cX8_look 245 = .ok (.iinc 3 1, 3) := by decide +kernel
theorem dX8_look_248 : decode cX8_look 248 = .ok (.goto (-100), 3) := by decide +kernel
theorem dX8_look_251 : decode cX8_look 251 = .ok (.iinc 2 1, 3) := by decide +kernel
theorem dX8_look_254 : decode cX8_look 254 = .ok (.goto (-129), 3) := by decide +kernel
theorem dX8_look_257 : decode cX8_look 257 = .ok (.iconst 1, 1) := by decide +kernel
theorem dX8_look_258 : decode cX8_look 258 = .ok (.istore_n 2, 1) := by decide +kernel
theorem dX8_look_259 : decode cX8_look 259 = .ok (.iload_n 2, 1) := by decide +kernel
theorem dX8_look_260 : decode cX8_look 260 = .ok (.aload_n 0, 1) := by decide +kernel
theorem dX8_look_261 : decode cX8_look 261 = .ok (.getfield 96, 3) := by decide +kernel
theorem dX8_look_264 : decode cX8_look 264 = .ok (.if_icmp .ge 36, 3) := by decide +kernel
theorem dX8_look_267 : decode cX8_look 267 = .ok (.aload_n 0, 1) := by decide +kernel
theorem dX8_look_268 : decode cX8_look 268 = .ok (.getfield 46, 3) := by decide +kernel
theorem dX8_look_271 : decode cX8_look 271 = .ok (.iload_n 2, 1) := by decide +kernel
theorem dX8_look_272 : decode cX8_look 272 = .ok (.iaload, 1) := by decide +kernel
theorem dX8_look_273 : decode cX8_look 273 = .ok (.iconst (-1), 1) := by decide +kernel
theorem dX8_look_274 : decode cX8_look 274 = .ok (.if_icmp .ne 20, 3) := by decide +kernel
theorem dX8_look_277 : decode cX8_look 277 = .ok (.aload_n 0, 1) := by decide +kernel
theorem dX8_look_278 : decode cX8_look 278 = .ok (.getfield 52, 3) := by decide +kernel
theorem dX8_look_281 : decode cX8_look 281 = .ok (.iload_n 2, 1) := by decide +kernel
theorem dX8_look_282 : decode cX8_look 282 = .ok (.iaload, 1) := by decide +kernel
theorem dX8_look_283 : decode cX8_look 283 = .ok (.iconst (-1), 1) := by decide +kernel
theorem dX8_look_284 : decode cX8_look 284 = .ok (.if_icmp .eq 10, 3) := by decide +kernel
theorem dX8_look_287 : decode cX8_look 287 = .ok (.aload_n 0, 1) := by decide +kernel
theorem dX8_look_288 : decode cX8_look 288 = .ok (.getfield 46, 3) := by decide +kernel
theorem dX8_look_291 : decode cX8_look 291 = .ok (.iload_n 2, 1) := by decide +kernel
theorem dX8_look_292 : decode cX8_look 292 = .ok (.iload_n 1, 1) := by decide +kernel
theorem dX8_look_293 : decode cX8_look 293 = .ok (.iastore, 1) := by decide +kernel
theorem dX8_look_294 : decode cX8_look 294 = .ok (.iinc 2 1, 3) := by decide +kernel
theorem dX8_look_297 : decode cX8_look 297 = .ok (.goto (-38), 3) := by decide +kernel
theorem dX8_look_300 : decode cX8_look 300 = .ok (.iinc 1 1, 3) := by decide +kernel
theorem dX8_look_303 : decode cX8_look 303 = .ok (.goto (-188), 3) := by decide +kernel
theorem dX8_look_306 : decode cX8_look 306 = .ok (.return_, 1) := by decide +kernel
set_option maxRecDepth 20000 in
theorem ggX8_lay_X8_look : GoodIn wsX8_lay wsX8_look := goodIn_r _ [14, 15, 4, 5, 1, 2, 16, 6, 7, 8, 9, 17, 18, 13, 19, 20, 21, 22, 23, 24, 25, 26, 27, 28, 29, 30, 31, 32, 33, 34, 35, 36, 37, 38, 39, 40, 41, 42, 43, 44, 45, 46, 47, 48, 49, 50, 51, 52, 53, 54, 55, 56, 57, 58, 59, 60, 61, 62, 63, 64, 65, 66, 67, 68, 69, 70, 71, 72] (by decide +kernel) (by decide +kernel)
set_option maxRecDepth 20000 in
theorem gX8_lay_X8_look : GoodIn wsX8_lay (wsV RX8 158 RX8 yX8_look wsX8_look) := goodIn_app (goodIn_of _ (by decide +kernel)) ggX8_lay_X8_look
set_option maxRecDepth 20000 in
theorem ggX8_lay_X8_pair : GoodIn wsX8_lay wsX8_pair := goodIn_r _ [19] (by decide +kernel) (by decide +kernel)
set_option maxRecDepth 20000 in
theorem gX8_lay_X8_pair : GoodIn wsX8_lay (va_wsS RX8 150 yX8_pair wsX8_pair) := goodIn_app (goodIn_of _ (by decide +kernel)) ggX8_lay_X8_pair
theorem dX8_lay_0 : decode cX8_lay 0 = .ok (.aload_n 0, 1) := by decide +kernel
theorem dX8_lay_1 : decode cX8_lay 1 = .ok (.invokevirtual 158, 3) := by decide +kernel
theorem dX8_lay_4 : decode cX8_lay 4 = .ok (.aload_n 0, 1) := by decide +kernel
theorem dX8_lay_5 : decode cX8_lay 5 = .ok (.getfield 46, 3) := by decide +kernel
theorem dX8_lay_8 : decode cX8_lay 8 = .ok (.iload_n 1, 1) := by decide +kernel
theorem dX8_lay_9 : decode cX8_lay 9 = .ok (.iaload, 1) := by decide +kernel
theorem dX8_lay_10 : decode cX8_lay 10 = .ok (.iconst (-1), 1) := by decide +kernel
theorem dX8_lay_11 : decode cX8_lay 11 = .ok (.if_icmp .ne 5, 3) := by decide +kernel
theorem dX8_lay_14 : decode cX8_lay 14 = .ok (.iconst (-1), 1) := by decide +kernel
theorem dX8_lay_15 : decode cX8_lay 15 = .ok (.ireturn, 1) := by decide +kernel
theorem dX8_lay_16 : decode cX8_lay 16 = .ok (.aload_n 0, 1) := by decide +kernel
theorem dX8_lay_17 : decode cX8_lay 17 = .ok (.getfield 49, 3) := by decide +kernel
theorem dX8_lay_20 : decode cX8_lay 20 = .ok (.iload_n 1, 1) := by decide +kernel
theorem dX8_lay_21 : decode cX8_lay 21 = .ok (.iaload, 1) := by decide +kernel
theorem dX8_lay_22 : decode cX8_lay 22 = .ok (.istore_n 2, 1) := by decide +kernel
theorem dX8_lay_23 : decode cX8_lay 23 = .ok (.iload_n 1, 1) := by decide +kernel
theorem dX8_lay_24 : decode cX8_lay 24 = .ok (.istore_n 3, 1) := by decide +kernel
theorem dX8_lay_25 : decode cX8_lay 25 = .ok (.aload_n 0, 1) := by decide +kernel
theorem dX8_lay_26 : decode cX8_lay 26 = .ok (.getfield 61, 3) := by decide +kernel
theorem dX8_lay_29 : decode cX8_lay 29 = .ok (.iconst 0, 1) := by decide +kernel
theorem dX8_lay_30 : decode cX8_lay 30 = .ok (.iload_n 1, 1) := by decide +kernel
theorem dX8_lay_31 : decode cX8_lay 31 = .ok (.iastore, 1) := by decide +kernel
theorem dX8_lay_32 : decode cX8_lay 32 = .ok (.iconst 1, 1) := by decide +kernel
theorem dX8_lay_33 : decode cX8_lay 33 = .ok (.istore 4, 2) := by decide +kernel
theorem dX8_lay_35 : decode cX8_lay 35 = .ok (.iload 4, 2) := by decide +kernel
theorem dX8_lay_37 : decode cX8_lay 37 = .ok (.aload_n 0, 1) := by decide +kernel
theorem dX8_lay_38 : decode cX8_lay 38 = .ok (.getfield 46, 3) := by decide +kernel
theorem dX8_lay_41 : decode cX8_lay 41 = .ok (.iload_n 1, 1) := by decide +kernel
theorem dX8_lay_42 : decode cX8_lay 42 = .ok (.iaload, 1) := by decide +kernel
theorem dX8_lay_43 : decode cX8_lay 43 = .ok (.if_icmp .gt 88, 3) := by decide +kernel
theorem dX8_lay_46 : decode cX8_lay 46 = .ok (.iconst 0, 1) := by decide +kernel
theorem dX8_lay_47 : decode cX8_lay 47 = .ok (.istore 5, 2) := by decide +kernel
theorem dX8_lay_49 : decode cX8_lay 49 = .ok (.aload_n 0, 1) := by decide +kernel
theorem dX8_lay_50 : decode cX8_lay 50 = .ok (.getfield 46, 3) := by decide +kernel
theorem dX8_lay_53 : decode cX8_lay 53 = .ok (.iload 5, 2) := by decide +kernel
theorem dX8_lay_55 : decode cX8_lay 55 = .ok (.iaload, 1) := by decide +kernel
theorem dX8_lay_56 : decode cX8_lay 56 = .ok (.aload_n 0, 1) := by decide +kernel
theorem dX8_lay_57 : decode cX8_lay 57 = .ok (.getfield 46, 3) := by decide +kernel
theorem dX8_lay_60 : decode cX8_lay 60 = .ok (.iload_n 3, 1) := by decide +kernel
theorem dX8_lay_61 : decode cX8_lay 61 = .ok (.iaload, 1) := by decide +kernel
theorem dX8_lay_62 : decode cX8_lay 62 = .ok (.iconst 1, 1) := by decide +kernel
theorem dX8_lay_63 : decode cX8_lay 63 = .ok (.isub, 1) := by decide +kernel
theorem dX8_lay_64 : decode cX8_lay 64 = .ok (.if_icmp .ne 43, 3) := by decide +kernel
theorem dX8_lay_67 : decode cX8_lay 67 = .ok (.aload_n 0, 1) := by decide +kernel
theorem dX8_lay_68 : decode cX8_lay 68 = .ok (.getfield 58, 3) := by decide +kernel
theorem dX8_lay_71 : decode cX8_lay 71 = .ok (.iload_n 3, 1) := by decide +kernel
theorem dX8_lay_72 : decode cX8_lay 72 = .ok (.iload 5, 2) := by decide +kernel
theorem dX8_lay_74 : decode cX8_lay 74 = .ok (.invokestatic 150, 3) := by decide +kernel
theorem dX8_lay_77 : decode cX8_lay 77 = .ok (.iaload, 1) := by decide +kernel
theorem dX8_lay_78 : decode cX8_lay 78 = .ok (.iconst (-1), 1) := by decide +kernel
theorem dX8_lay_79 : decode cX8_lay 79 = .ok (.if_icmp .eq 28, 3) := by decide +kernel
theorem dX8_lay_82 : decode cX8_lay 82 = .ok (.aload_n 0, 1) := by decide +kernel
theorem dX8_lay_83 : decode cX8_lay 83 = .ok (.getfield 49, 3) := by decide +kernel
theorem dX8_lay_86 : decode cX8_lay 86 = .ok (.iload 5, 2) := by decide +kernel
theorem dX8_lay_88 : decode cX8_lay 88 = .ok (.iaload, 1) := by decide +kernel
theorem dX8_lay_89 : decode cX8_lay 89 = .ok (.aload_n 0, 1) := by decide +kernel
theorem dX8_lay_90 : decode cX8_lay 90 = .ok (.getfield 55, 3) := by decide +kernel
theorem dX8_lay_93 : decode cX8_lay 93 = .ok (.iload_n 3, 1) := by decide +kernel
theorem dX8_lay_94 : decode cX8_lay 94 = .ok (.iload 5, 2) := by decide +kernel
theorem dX8_lay_96 : decode cX8_lay 96 = .ok (.invokestatic 150, 3) := by decide +kernel
theorem dX8_lay_99 : decode cX8_lay 99 = .ok (.iaload, 1) := by decide +kernel
theorem dX8_lay_100 : decode cX8_lay 100 = .ok (.invokestatic 153, 3) := by decide +kernel
theorem dX8_lay_103 : decode cX8_lay 103 = .ok (.iload_n 2, 1) := by decide +kernel
theorem dX8_lay_104 : decode cX8_lay 104 = .ok (.if_icmp .ge 9, 3) := by decide +kernel
theorem dX8_lay_107 : decode cX8_lay 107 = .ok (.iinc 5 1, 3) := by decide +kernel
theorem dX8_lay_110 : decode cX8_lay 110 = .ok (.goto (-61), 3) := by decide +kernel
theorem dX8_lay_113 : decode cX8_lay 113 = .ok (.aload_n 0, 1) := by decide +kernel
theorem dX8_lay_114 : decode cX8_lay 114 = .ok (.getfield 61, 3) := by decide +kernel
theorem dX8_lay_117 : decode cX8_lay 117 = .ok (.iload 4, 2) := by decide +kernel
theorem dX8_lay_119 : decode cX8_lay 119 = .ok (.iload 5, 2) := by decide +kernel
theorem dX8_lay_121 : decode cX8_lay 121 = .ok (.iastore, 1) := by decide +kernel
theorem dX8_lay_122 : decode cX8_lay 122 = .ok (.iload 5, 2) := by decide +kernel
theorem dX8_lay_124 : decode cX8_lay 124 = .ok (.istore_n 3, 1) := by decide +kernel
theorem dX8_lay_125 : decode cX8_lay 125 = .ok (.iinc 4 1, 3) := by decide +kernel
theorem dX8_lay_128 : decode cX8_lay 128 = .ok (.goto (-93), 3) := by decide +kernel
theorem dX8_lay_131 : decode cX8_lay 131 = .ok (.aload_n 0, 1) := by decide +kernel
theorem dX8_lay_132 : decode cX8_lay 132 = .ok (.getfield 46, 3) := by decide +kernel
theorem dX8_lay_135 : decode cX8_lay 135 = .ok (.iload_n 1, 1) := by decide +kernel
theorem dX8_lay_136 : decode cX8_lay 136 = .ok (.iaload, 1) := by decide +kernel
theorem dX8_lay_137 : decode cX8_lay 137 = .ok (.iconst 1, 1) := by decide +kernel
theorem dX8_lay_138 : decode cX8_lay 138 = .ok (.iadd, 1) := by decide +kernel
theorem dX8_lay_139 : decode cX8_lay 139 = .ok (.ireturn, 1) := by decide +kernel
set_option maxRecDepth 20000 in
theorem ggX8_chain_X8_isEye : GoodIn wsX8_chain wsX8_isEye := goodIn_r _ [7, 8, 63, 64, 65, 66, 67, 68, 69, 70, 71, 72, 73, 74, 75, 76, 77, 78, 79, 80, 81, 82, 83, 84, 85] (by decide +kernel) (by decide +kernel)
set_option maxRecDepth 20000 in
theorem gX8_chain_X8_isEye : GoodIn wsX8_chain (wsV RX8 110 RX8 yX8_isEye wsX8_isEye) := goodIn_app (goodIn_of _ (by decide +kernel)) ggX8_chain_X8_isEye
set_option maxRecDepth 20000 in
theorem ggX8_chain_X8_refuse : GoodIn wsX8_chain wsX8_refuse := goodIn_r _ [12, 1, 63, 64, 65, 66, 67, 68, 69, 70, 71, 72, 73, 74, 75, 76, 77, 78, 79, 80, 81, 82, 83, 84, 85] (by decide +kernel) (by decide +kernel)
set_option maxRecDepth 20000 in
theorem gX8_chain_X8_refuse : GoodIn wsX8_chain (wsV RX8 99 RX8 yX8_refuse wsX8_refuse) := goodIn_app (goodIn_of _ (by decide +kernel)) ggX8_chain_X8_refuse
set_option maxRecDepth 20000 in
theorem ggX8_chain_X8_lay : GoodIn wsX8_chain wsX8_lay := goodIn_r _ [16, 17, 18, 2, 19, 20, 21, 22, 23, 24, 25, 26, 27, 6, 28, 8, 29, 30, 31, 32, 33, 34, 35, 36, 37, 38, 39, 40, 41, 42, 43, 44, 45, 46, 47, 48, 49, 50, 51, 52, 53, 54, 55, 56, 57, 58, 59, 60, 61, 62, 63, 64, 65, 66, 67, 68, 69, 70, 71, 72, 73, 74, 75, 76, 77, 78, 79, 80, 81, 82, 83, 84, 85] (by decide +kernel) (by decide +kernel)
set_option maxRecDepth 20000 in
theorem gX8_chain_X8_lay : GoodIn wsX8_chain (wsV RX8 161 RX8 yX8_lay wsX8_lay) := goodIn_app (goodIn_of _ (by decide +kernel)) ggX8_chain_X8_lay
theorem dX8_chain_0 : decode cX8_chain 0 = .ok (.aload_n 0, 1) := by decide +kernel
theorem dX8_chain_1 : decode cX8_chain 1 = .ok (.iload_n 1, 1) := by decide +kernel
theorem dX8_chain_2 : decode cX8_chain 2 = .ok (.invokevirtual 110, 3) := by decide +kernel
theorem dX8_chain_5 : decode cX8_chain 5 = .ok (.ifCond .ne 9, 3) := by decide +kernel
theorem dX8_chain_8 : decode cX8_chain 8 = .ok (.aload_n 0, 1) := by decide +kernel
theorem dX8_chain_9 : decode cX8_chain 9 = .ok (.iconst 1, 1) := by decide +kernel
theorem dX8_chain_10 : decode cX8_chain 10 = .ok (.invokevirtual 99, 3) := by decide +kernel
theorem dX8_chain_13 : decode cX8_chain 13 = .ok (.ireturn, 1) := by decide +kernel
theorem dX8_chain_14 : decode cX8_chain 14 = .ok (.aload_n 0, 1) := by decide +kernel
theorem dX8_chain_15 : decode cX8_chain 15 = .ok (.iload_n 1, 1) := by decide +kernel
theorem dX8_chain_16 : decode cX8_chain 16 = .ok (.invokevirtual 161, 3) := by decide +kernel
theorem dX8_chain_19 : decode cX8_chain 19 = .ok (.istore_n 3, 1) := by decide +kernel
theorem dX8_chain_20 : decode cX8_chain 20 = .ok (.iload_n 3, 1) := by decide +kernel
theorem dX8_chain_21 : decode cX8_chain 21 = .ok (.iconst (-1), 1) := by decide +kernel
theorem dX8_chain_22 : decode cX8_chain 22 = .ok (.if_icmp .eq 12, 3) := by decide +kernel
theorem dX8_chain_25 : decode cX8_chain 25 = .ok (.iload_n 2, 1) := by decide +kernel
theorem dX8_chain_26 : decode cX8_chain 26 = .ok (.ifCond .lt 8, 3) := by decide +kernel
theorem dX8_chain_29 : decode cX8_chain 29 = .ok (.iload_n 2, 1) := by decide +kernel
theorem dX8_chain_30 : decode cX8_chain 30 = .ok (.iload_n 3, 1) := by decide +kernel
theorem dX8_chain_31 : decode cX8_chain 31 = .ok (.if_icmp .lt 10, 3) := by decide +kernel
theorem dX8_chain_34 : decode cX8_chain 34 = .ok (.aload_n 0, 1) := by decide +kernel
theorem dX8_chain_35 : decode cX8_chain 35 = .ok (.bipush 6, 2) := by decide +kernel
theorem dX8_chain_37 : decode cX8_chain 37 = .ok (.invokevirtual 99, 3) := by decide +kernel
theorem dX8_chain_40 : decode cX8_chain 40 = .ok (.ireturn, 1) := by decide +kernel
theorem dX8_chain_41 : decode cX8_chain 41 = .ok (.aload_n 0, 1) := by decide +kernel
theorem dX8_chain_42 : decode cX8_chain 42 = .ok (.iconst 0, 1) := by decide +kernel
theorem dX8_chain_43 : decode cX8_chain 43 = .ok (.putfield 73, 3) := by decide +kernel
theorem dX8_chain_46 : decode cX8_chain 46 = .ok (.aload_n 0, 1) := by decide +kernel
theorem dX8_chain_47 : decode cX8_chain 47 = .ok (.getfield 61, 3) := by decide +kernel
theorem dX8_chain_50 : decode cX8_chain 50 = .ok (.iload_n 2, 1) := by decide +kernel
theorem dX8_chain_51 : decode cX8_chain 51 = .ok (.iaload, 1) := by decide +kernel
theorem dX8_chain_52 : decode cX8_chain 52 = .ok (.ireturn, 1) := by decide +kernel
end
section
set_option maxRecDepth 20000 in
theorem ggX8_weightOf_X8_lay : GoodIn wsX8_weightOf wsX8_lay := goodIn_r _ [13, 14, 15, 4, 3, 16, 17, 18, 7, 19, 20, 21, 22, 12, 23, 24, 25, 26, 27, 28, 29, 30, 31, 32, 33, 1, 34, 35, 36, 37, 38, 39, 40, 41, 42, 43, 44, 45, 46, 47, 48, 49, 50, 51, 52, 53, 54, 55, 56, 57, 58, 59, 60, 61, 62, 63, 64, 65, 66, 67, 68, 69, 70, 71, 72, 73, 74, 75, 76, 77, 78, 79, 80] (by decide +kernel) (by decide +kernel)
set_option maxRecDepth 20000 in
theorem gX8_weightOf_X8_lay : GoodIn wsX8_weightOf (wsV RX8 161 RX8 yX8_lay wsX8_lay) := goodIn_app (goodIn_of _ (by decide +kernel)) ggX8_weightOf_X8_lay
set_option maxRecDepth 20000 in
theorem ggX8_weightOf_X8_pair : GoodIn wsX8_weightOf wsX8_pair := goodIn_r _ [28] (by decide +kernel) (by decide +kernel)
set_option maxRecDepth 20000 in
theorem gX8_weightOf_X8_pair : GoodIn wsX8_weightOf (va_wsS RX8 150 yX8_pair wsX8_pair) := goodIn_app (goodIn_of _ (by decide +kernel)) ggX8_weightOf_X8_pair
theorem dX8_weightOf_0 : decode cX8_weightOf 0 = .ok (.aload_n 0, 1) := by decide +kernel
theorem dX8_weightOf_1 : decode cX8_weightOf 1 = .ok (.iload_n 1, 1) := by decide +kernel
theorem dX8_weightOf_2 : decode cX8_weightOf 2 = .ok (.invokevirtual 161, 3) := by decide +kernel
theorem dX8_weightOf_5 : decode cX8_weightOf 5 = .ok (.istore_n 2, 1) := by decide +kernel
theorem dX8_weightOf_6 : decode cX8_weightOf 6 = .ok (.iload_n 2, 1) := by decide +kernel
theorem dX8_weightOf_7 : decode cX8_weightOf 7 = .ok (.iconst (-1), 1) := by decide +kernel
theorem dX8_weightOf_8 : decode cX8_weightOf 8 = .ok (.if_icmp .ne 5, 3) := by decide +kernel
theorem dX8_weightOf_11 : decode cX8_weightOf 11 = .ok (.iconst (-1), 1) := by decide +kernel
theorem dX8_weightOf_12 : decode cX8_weightOf 12 = .ok (.ireturn, 1) := by decide +kernel
theorem dX8_weightOf_13 : decode cX8_weightOf 13 = .ok (.ldc2_w 120, 3) := by decide +kernel
theorem dX8_weightOf_16 : decode cX8_weightOf 16 = .ok (.lstore_n 3, 1) := by decide +kernel
theorem dX8_weightOf_17 : decode cX8_weightOf 17 = .ok (.iload_n 2, 1) := by decide +kernel
theorem dX8_weightOf_18 : decode cX8_weightOf 18 = .ok (.iconst 1, 1) := by decide +kernel
theorem dX8_weightOf_19 : decode cX8_weightOf 19 = .ok (.isub, 1) := by decide +kernel
theorem dX8_weightOf_20 : decode cX8_weightOf 20 = .ok (.istore 5, 2) := by decide +kernel
theorem dX8_weightOf_22 : decode cX8_weightOf 22 = .ok (.iload 5, 2) := by decide +kernel
theorem dX8_weightOf_24 : decode cX8_weightOf 24 = .ok (.ifCond .le 47, 3) := by decide +kernel
theorem dX8_weightOf_27 : decode cX8_weightOf 27 = .ok (.ldc2_w 164, 3) := by decide +kernel
theorem dX8_weightOf_30 : decode cX8_weightOf 30 = .ok (.lload_n 3, 1) := by decide +kernel
theorem dX8_weightOf_31 : decode cX8_weightOf 31 = .ok (.aload_n 0, 1) := by decide +kernel
theorem dX8_weightOf_32 : decode cX8_weightOf 32 = .ok (.getfield 58, 3) := by decide +kernel
theorem dX8_weightOf_35 : decode cX8_weightOf 35 = .ok (.aload_n 0, 1) := by decide +kernel
theorem dX8_weightOf_36 : decode cX8_weightOf 36 = .ok (.getfield 61, 3) := by decide +kernel
theorem dX8_weightOf_39 : decode cX8_weightOf 39 = .ok (.iload 5, 2) := by decide +kernel
theorem dX8_weightOf_41 : decode cX8_weightOf 41 = .ok (.iconst 1, 1) := by decide +kernel
theorem dX8_weightOf_42 : decode cX8_weightOf 42 = .ok (.isub, 1) := by decide +kernel
theorem dX8_weightOf_43 : decode cX8_weightOf 43 = .ok (.iaload, 1) := by decide +kernel
theorem dX8_weightOf_44 : decode cX8_weightOf 44 = .ok (.aload_n 0, 1) := by decide +kernel
theorem dX8_weightOf_45 : decode cX8_weightOf 45 = .ok (.getfield 61, 3) := by decide +kernel
theorem dX8_weightOf_48 : decode cX8_weightOf 48 = .ok (.iload 5, 2) := by decide +kernel
theorem dX8_weightOf_50 : decode cX8_weightOf 50 = .ok (.iaload, 1) := by decide +kernel
theorem dX8_weightOf_51 : decode cX8_weightOf 51 = .ok (.invokestatic 150, 3) := by decide +kernel
theorem dX8_weightOf_54 : decode cX8_weightOf 54 = .ok (.iaload, 1) := by decide +kernel
theorem dX8_weightOf_55 : decode cX8_weightOf 55 = .ok (.i2l, 1) := by decide +kernel
theorem dX8_weightOf_56 : decode cX8_weightOf 56 = .ok (.lmul, 1) := by decide +kernel
theorem dX8_weightOf_57 : decode cX8_weightOf 57 = .ok (.ldc2_w 120, 3) := by decide +kernel
theorem dX8_weightOf_60 : decode cX8_weightOf 60 = .ok (.ldiv, 1) := by decide +kernel
theorem dX8_weightOf_61 : decode cX8_weightOf 61 = .ok (.invokestatic 166, 3) := by decide +kernel
theorem dX8_weightOf_64 : decode cX8_weightOf 64 = .ok (.lstore_n 3, 1) := by decide +kernel
theorem dX8_weightOf_65 : decode cX8_weightOf 65 = .ok (.iinc 5 (-1), 3) := by decide +kernel
theorem dX8_weightOf_68 : decode cX8_weightOf 68 = .ok (.goto (-46), 3) := by decide +kernel
theorem dX8_weightOf_71 : decode cX8_weightOf 71 = .ok (.lload_n 3, 1) := by decide +kernel
theorem dX8_weightOf_72 : decode cX8_weightOf 72 = .ok (.l2i, 1) := by decide +kernel
theorem dX8_weightOf_73 : decode cX8_weightOf 73 = .ok (.ireturn, 1) := by decide +kernel
set_option maxRecDepth 20000 in
theorem ggX8_weight_X8_isEye : GoodIn wsX8_weight wsX8_isEye := goodIn_r _ [6, 7, 71, 72, 73, 74, 75, 76, 77, 78, 79, 80, 81, 82, 83, 84, 85, 86, 87, 88, 89, 90, 91, 92, 93] (by decide +kernel) (by decide +kernel)
set_option maxRecDepth 20000 in
theorem gX8_weight_X8_isEye : GoodIn wsX8_weight (wsV RX8 110 RX8 yX8_isEye wsX8_isEye) := goodIn_app (goodIn_of _ (by decide +kernel)) ggX8_weight_X8_isEye
set_option maxRecDepth 20000 in
theorem ggX8_weight_X8_refuse : GoodIn wsX8_weight wsX8_refuse := goodIn_r _ [11, 1, 71, 72, 73, 74, 75, 76, 77, 78, 79, 80, 81, 82, 83, 84, 85, 86, 87, 88, 89, 90, 91, 92, 93] (by decide +kernel) (by decide +kernel)
set_option maxRecDepth 20000 in
theorem gX8_weight_X8_refuse : GoodIn wsX8_weight (wsV RX8 99 RX8 yX8_refuse wsX8_refuse) := goodIn_app (goodIn_of _ (by decide +kernel)) ggX8_weight_X8_refuse
set_option maxRecDepth 20000 in
theorem ggX8_weight_X8_weightOf : GoodIn wsX8_weight wsX8_weightOf := goodIn_r _ [15, 16, 17, 18, 19, 20, 21, 22, 23, 24, 25, 26, 5, 27, 28, 29, 30, 31, 32, 33, 34, 35, 36, 37, 7, 38, 39, 40, 41, 42, 43, 44, 45, 46, 47, 48, 49, 50, 51, 52, 53, 54, 55, 56, 57, 58, 59, 60, 61, 62, 63, 64, 65, 66, 67, 68, 69, 70, 71, 72, 73, 74, 75, 76, 77, 78, 79, 80, 81, 82, 83, 84, 85, 86, 87, 88, 89, 90, 91, 92, 93] (by decide +kernel) (by decide +kernel)
set_option maxRecDepth 20000 in
theorem gX8_weight_X8_weightOf : GoodIn wsX8_weight (wsV RX8 169 RX8 yX8_weightOf wsX8_weightOf) := goodIn_app (goodIn_of _ (by decide +kernel)) ggX8_weight_X8_weightOf
theorem dX8_weight_0 : decode cX8_weight 0 = .ok (.aload_n 0, 1) := by decide +kernel
theorem dX8_weight_1 : decode cX8_weight 1 = .ok (.iload_n 1, 1) := by decide +kernel
theorem dX8_weight_2 : decode cX8_weight 2 = .ok (.invokevirtual 110, 3) := by decide +kernel
theorem dX8_weight_5 : decode cX8_weight 5 = .ok (.ifCond .ne 9, 3) := by decide +kernel
theorem dX8_weight_8 : decode cX8_weight 8 = .ok (.aload_n 0, 1) := by decide +kernel
theorem dX8_weight_9 : decode cX8_weight 9 = .ok (.iconst 1, 1) := by decide +kernel
theorem dX8_weight_10 : decode cX8_weight 10 = .ok (.invokevirtual 99, 3) := by decide +kernel
theorem dX8_weight_13 : decode cX8_weight 13 = .ok (.ireturn, 1) := by decide +kernel
theorem dX8_weight_14 : decode cX8_weight 14 = .ok (.aload_n 0, 1) := by decide +kernel
theorem dX8_weight_15 : decode cX8_weight 15 = .ok (.iload_n 1, 1) := by decide +kernel
theorem dX8_weight_16 : decode cX8_weight 16 = .ok (.invokevirtual 169, 3) := by decide +kernel
theorem dX8_weight_19 : decode cX8_weight 19 = .ok (.istore_n 2, 1) := by decide +kernel
theorem dX8_weight_20 : decode cX8_weight 20 = .ok (.iload_n 2, 1) := by decide +kernel
theorem dX8_weight_21 : decode cX8_weight 21 = .ok (.iconst (-1), 1) := by decide +kernel
theorem dX8_weight_22 : decode cX8_weight 22 = .ok (.if_icmp .ne 10, 3) := by decide +kernel
theorem dX8_weight_25 : decode cX8_weight 25 = .ok (.aload_n 0, 1) := by decide +kernel
theorem dX8_weight_26 : decode cX8_weight 26 = .ok (.bipush 6, 2) := by decide +kernel
theorem dX8_weight_28 : decode cX8_weight 28 = .ok (.invokevirtual 99, 3) := by decide +kernel
theorem dX8_weight_31 : decode cX8_weight 31 = .ok (.ireturn, 1) := by decide +kernel
theorem dX8_weight_32 : decode cX8_weight 32 = .ok (.aload_n 0, 1) := by decide +kernel
theorem dX8_weight_33 : decode cX8_weight 33 = .ok (.iconst 0, 1) := by decide +kernel
theorem dX8_weight_34 : decode cX8_weight 34 = .ok (.putfield 73, 3) := by decide +kernel
theorem dX8_weight_37 : decode cX8_weight 37 = .ok (.iload_n 2, 1) := by decide +kernel
theorem dX8_weight_38 : decode cX8_weight 38 = .ok (.ireturn, 1) := by decide +kernel
set_option maxRecDepth 20000 in
theorem ggX8_loop_X8_areTwo : GoodIn wsX8_loop wsX8_areTwo := goodIn_r _ [8, 9, 10, 11, 7, 12, 13, 44, 45, 46, 47, 48, 49, 50, 51, 52, 53, 54, 55, 56, 57, 58, 59, 60, 61, 62, 63, 64, 65, 66] (by decide +kernel) (by decide +kernel)
set_option maxRecDepth 20000 in
theorem gX8_loop_X8_areTwo : GoodIn wsX8_loop (wsV RX8 133 RX8 yX8_areTwo wsX8_areTwo) := goodIn_app (goodIn_of _ (by decide +kernel)) ggX8_loop_X8_areTwo
set_option maxRecDepth 20000 in
theorem ggX8_loop_X8_refuse : GoodIn wsX8_loop wsX8_refuse := goodIn_r _ [17, 2, 44, 45, 46, 47, 48, 49, 50, 51, 52, 53, 54, 55, 56, 57, 58, 59, 60, 61, 62, 63, 64, 65, 66] (by decide +kernel) (by decide +kernel)
set_option maxRecDepth 20000 in
theorem gX8_loop_X8_refuse : GoodIn wsX8_loop (wsV RX8 99 RX8 yX8_refuse wsX8_refuse) := goodIn_app (goodIn_of _ (by decide +kernel)) ggX8_loop_X8_refuse
set_option maxRecDepth 20000 in
theorem ggX8_loop_X8_factorOf : GoodIn wsX8_loop wsX8_factorOf := goodIn_r _ [21, 22, 23, 24, 25, 26, 27, 28, 7, 29, 30, 31, 32, 33, 34, 35, 36, 37, 38, 39, 40, 41, 42, 43, 44, 45, 46, 47, 48, 49, 50, 51, 52, 53, 54, 55, 56, 57, 58, 59, 60, 61, 62, 63, 64, 65, 66] (by decide +kernel) (by decide +kernel)
set_option maxRecDepth 20000 in
theorem gX8_loop_X8_factorOf : GoodIn wsX8_loop (wsV RX8 143 RX8 yX8_factorOf wsX8_factorOf) := goodIn_app (goodIn_of _ (by decide +kernel)) ggX8_loop_X8_factorOf
theorem dX8_loop_0 : decode cX8_loop 0 = .ok (.aload_n 0, 1) := by decide +kernel
theorem dX8_loop_1 : decode cX8_loop 1 = .ok (.iload_n 1, 1) := by decide +kernel
theorem dX8_loop_2 : decode cX8_loop 2 = .ok (.iload_n 2, 1) := by decide +kernel
theorem dX8_loop_3 : decode cX8_loop 3 = .ok (.invokevirtual 133, 3) := by decide +kernel
theorem dX8_loop_6 : decode cX8_loop 6 = .ok (.ifCond .eq 21, 3) := by decide +kernel
theorem dX8_loop_9 : decode cX8_loop 9 = .ok (.aload_n 0, 1) := by decide +kernel
theorem dX8_loop_10 : decode cX8_loop 10 = .ok (.iload_n 2, 1) := by decide +kernel
theorem dX8_loop_11 : decode cX8_loop 11 = .ok (.iload_n 3, 1) := by decide +kernel
theorem dX8_loop_12 : decode cX8_loop 12 = .ok (.invokevirtual 133, 3) := by decide +kernel
theorem dX8_loop_15 : decode cX8_loop 15 = .ok (.ifCond .eq 12, 3) := by decide +kernel
theorem dX8_loop_18 : decode cX8_loop 18 = .ok (.aload_n 0, 1) := by decide +kernel
theorem dX8_loop_19 : decode cX8_loop 19 = .ok (.iload_n 1, 1) := by decide +kernel
theorem dX8_loop_20 : decode cX8_loop 20 = .ok (.iload_n 3, 1) := by decide +kernel
theorem dX8_loop_21 : decode cX8_loop 21 = .ok (.invokevirtual 133, 3) := by decide +kernel
theorem dX8_loop_24 : decode cX8_loop 24 = .ok (.ifCond .ne 9, 3) := by decide +kernel
theorem dX8_loop_27 : decode cX8_loop 27 = .ok (.aload_n 0, 1) := by decide +kernel
theorem dX8_loop_28 : decode cX8_loop 28 = .ok (.iconst 1, 1) := by decide +kernel
theorem dX8_loop_29 : decode cX8_loop 29 = .ok (.invokevirtual 99, 3) := by decide +kernel
theorem dX8_loop_32 : decode cX8_loop 32 = .ok (.ireturn, 1) := by decide +kernel
theorem dX8_loop_33 : decode cX8_loop 33 = .ok (.aload_n 0, 1) := by decide +kernel
theorem dX8_loop_34 : decode cX8_loop 34 = .ok (.iload_n 1, 1) := by decide +kernel
theorem dX8_loop_35 : decode cX8_loop 35 = .ok (.iload_n 2, 1) := by decide +kernel
theorem dX8_loop_36 : decode cX8_loop 36 = .ok (.invokevirtual 143, 3) := by decide +kernel
theorem dX8_loop_39 : decode cX8_loop 39 = .ok (.i2l, 1) := by decide +kernel
theorem dX8_loop_40 : decode cX8_loop 40 = .ok (.lstore 4, 2) := by decide +kernel
theorem dX8_loop_42 : decode cX8_loop 42 = .ok (.aload_n 0, 1) := by decide +kernel
theorem dX8_loop_43 : decode cX8_loop 43 = .ok (.iload_n 2, 1) := by decide +kernel
theorem dX8_loop_44 : decode cX8_loop 44 = .ok (.iload_n 3, 1) := by decide +kernel
theorem dX8_loop_45 : decode cX8_loop 45 = .ok (.invokevirtual 143, 3) := by decide +kernel
theorem dX8_loop_48 : decode cX8_loop 48 = .ok (.i2l, 1) := by decide +kernel
theorem dX8_loop_49 : decode cX8_loop 49 = .ok (.lstore 6, 2) := by decide +kernel
theorem dX8_loop_51 : decode cX8_loop 51 = .ok (.aload_n 0, 1) := by decide +kernel
theorem dX8_loop_52 : decode cX8_loop 52 = .ok (.iload_n 3, 1) := by decide +kernel
theorem dX8_loop_53 : decode cX8_loop 53 = .ok (.iload_n 1, 1) := by decide +kernel
theorem dX8_loop_54 : decode cX8_loop 54 = .ok (.invokevirtual 143, 3) := by decide +kernel
theorem dX8_loop_57 : decode cX8_loop 57 = .ok (.i2l, 1) := by decide +kernel
theorem dX8_loop_58 : decode cX8_loop 58 = .ok (.lstore 8, 2) := by decide +kernel
theorem dX8_loop_60 : decode cX8_loop 60 = .ok (.lload 4, 2) := by decide +kernel
theorem dX8_loop_62 : decode cX8_loop 62 = .ok (.ldc2_w 94, 3) := by decide +kernel
theorem dX8_loop_65 : decode cX8_loop 65 = .ok (.lcmp, 1) := by decide +kernel
theorem dX8_loop_66 : decode cX8_loop 66 = .ok (.ifCond .eq 21, 3) := by decide +kernel
theorem dX8_loop_69 : decode cX8_loop 69 = .ok (.lload 6, 2) := by decide +kernel
theorem dX8_loop_71 : decode cX8_loop 71 = .ok (.ldc2_w 94, 3) := by decide +kernel
theorem dX8_loop_74 : decode cX8_loop 74 = .ok (.lcmp, 1) := by decide +kernel
theorem dX8_loop_75 : decode cX8_loop 75 = .ok (.ifCond .eq 12, 3) := by decide +kernel
theorem dX8_loop_78 : decode cX8_loop 78 = .ok (.lload 8, 2) := by decide +kernel
theorem dX8_loop_80 : decode cX8_loop 80 = .ok (.ldc2_w 94, 3) := by decide +kernel
theorem dX8_loop_83 : decode cX8_loop 83 = .ok (.lcmp, 1) := by decide +kernel
theorem dX8_loop_84 : decode cX8_loop 84 = .ok (.ifCond .ne 10, 3) := by decide +kernel
theorem dX8_loop_87 : decode cX8_loop 87 = .ok (.aload_n 0, 1) := by decide +kernel
theorem dX8_loop_88 : decode cX8_loop 88 = .ok (.bipush 6, 2) := by decide +kernel
theorem dX8_loop_90 : decode cX8_loop 90 = .ok (.invokevirtual 99, 3) := by decide +kernel
theorem dX8_loop_93 : decode cX8_loop 93 = .ok (.ireturn, 1) := by decide +kernel
theorem dX8_loop_94 : decode cX8_loop 94 = .ok (.aload_n 0, 1) := by decide +kernel
theorem dX8_loop_95 : decode cX8_loop 95 = .ok (.iconst 0, 1) := by decide +kernel
theorem dX8_loop_96 : decode cX8_loop 96 = .ok (.putfield 73, 3) := by decide +kernel
theorem dX8_loop_99 : decode cX8_loop 99 = .ok (.lload 4, 2) := by decide +kernel
theorem dX8_loop_101 : decode cX8_loop 101 = .ok (.lload 6, 2) := by decide +kernel
theorem dX8_loop_103 : decode cX8_loop 103 = .ok (.lmul, 1) := by decide +kernel
theorem dX8_loop_104 : decode cX8_loop 104 = .ok (.lload 8, 2) := by decide +kernel
theorem dX8_loop_106 : decode cX8_loop 106 = .ok (.lmul, 1) := by decide +kernel
theorem dX8_loop_107 : decode cX8_loop 107 = .ok (.ldc2_w 164, 3) := by decide +kernel
theorem dX8_loop_110 : decode cX8_loop 110 = .ok (.ldiv, 1) := by decide +kernel
theorem dX8_loop_111 : decode cX8_loop 111 = .ok (.l2i, 1) := by decide +kernel
theorem dX8_loop_112 : decode cX8_loop 112 = .ok (.ireturn, 1) := by decide +kernel
set_option maxRecDepth 20000 in
theorem ggX8_weigh_X8_weightOf : GoodIn wsX8_weigh wsX8_weightOf := goodIn_r _ [7, 8, 9, 10, 11, 12, 13, 14, 15, 16, 17, 18, 6, 19, 20, 21, 22, 23, 24, 25, 26, 27, 28, 29, 1, 30, 31, 32, 33, 34, 35, 36, 37, 38, 39, 40, 41, 42, 43, 44, 45, 46, 47, 48, 49, 50, 51, 52, 53, 54, 55, 56, 57, 58, 59, 60, 61, 62, 63, 64, 65, 66, 67, 68, 69, 70, 71, 72, 73, 74, 75, 76, 77, 78, 79, 80, 81, 82, 83, 84, 85] (by decide +kernel) (by decide +kernel)
set_option maxRecDepth 20000 in
theorem gX8_weigh_X8_weightOf : GoodIn wsX8_weigh (wsV RX8 169 RX8 yX8_weightOf wsX8_weightOf) := goodIn_app (goodIn_of _ (by decide +kernel)) ggX8_weigh_X8_weightOf
theorem dX8_weigh_0 : decode cX8_weigh 0 = .ok (.iconst 0, 1) := by decide +kernel
theorem dX8_weigh_1 : decode cX8_weigh 1 = .ok (.istore_n 1, 1) := by decide +kernel
theorem dX8_weigh_2 : decode cX8_weigh 2 = .ok (.iload_n 1, 1) := by decide +kernel
theorem dX8_weigh_3 : decode cX8_weigh 3 = .ok (.aload_n 0, 1) := by decide +kernel
theorem dX8_weigh_4 : decode cX8_weigh 4 = .ok (.getfield 96, 3) := by decide +kernel
theorem dX8_weigh_7 : decode cX8_weigh 7 = .ok (.if_icmp .ge 20, 3) := by decide +kernel
theorem dX8_weigh_10 : decode cX8_weigh 10 = .ok (.aload_n 0, 1) := by decide +kernel
theorem dX8_weigh_11 : decode cX8_weigh 11 = .ok (.getfield 64, 3) := by decide +kernel
theorem dX8_weigh_14 : decode cX8_weigh 14 = .ok (.iload_n 1, 1) := by decide +kernel
theorem dX8_weigh_15 : decode cX8_weigh 15 = .ok (.aload_n 0, 1) := by decide +kernel
theorem dX8_weigh_16 : decode cX8_weigh 16 = .ok (.iload_n 1, 1) := by decide +kernel
theorem dX8_weigh_17 : decode cX8_weigh 17 = .ok (.invokevirtual 169, 3) := by decide +kernel
theorem dX8_weigh_20 : decode cX8_weigh 20 = .ok (.iastore, 1) := by decide +kernel
theorem dX8_weigh_21 : decode cX8_weigh 21 = .ok (.iinc 1 1, 3) := by decide +kernel
theorem dX8_weigh_24 : decode cX8_weigh 24 = .ok (.goto (-22), 3) := by decide +kernel
theorem dX8_weigh_27 : decode cX8_weigh 27 = .ok (.return_, 1) := by decide +kernel
set_option maxRecDepth 20000 in
theorem ggX8_valueOf_X8_tells : GoodIn wsX8_valueOf wsX8_tells := goodIn_r _ [7, 8, 9, 10, 11, 6, 12, 18, 19, 20, 21, 22, 23, 24, 25, 26, 27, 28, 29, 30, 31, 32, 33, 34, 35, 36, 37, 38, 39, 40] (by decide +kernel) (by decide +kernel)
set_option maxRecDepth 20000 in
theorem gX8_valueOf_X8_tells : GoodIn wsX8_valueOf (wsV RX8 125 RX8 yX8_tells wsX8_tells) := goodIn_app (goodIn_of _ (by decide +kernel)) ggX8_valueOf_X8_tells
set_option maxRecDepth 20000 in
theorem ggX8_valueOf_X8_number : GoodIn wsX8_valueOf wsX8_number := goodIn_r _ [16, 9, 17, 10, 11, 6, 12, 18, 19, 20, 21, 22, 23, 24, 25, 26, 27, 28, 29, 30, 31, 32, 33, 34, 35, 36, 37, 38, 39, 40] (by decide +kernel) (by decide +kernel)
set_option maxRecDepth 20000 in
theorem gX8_valueOf_X8_number : GoodIn wsX8_valueOf (wsV RX8 122 RX8 yX8_number wsX8_number) := goodIn_app (goodIn_of _ (by decide +kernel)) ggX8_valueOf_X8_number
theorem dX8_valueOf_0 : decode cX8_valueOf 0 = .ok (.lconst 0, 1) := by decide +kernel
theorem dX8_valueOf_1 : decode cX8_valueOf 1 = .ok (.lstore_n 2, 1) := by decide +kernel
theorem dX8_valueOf_2 : decode cX8_valueOf 2 = .ok (.iconst 0, 1) := by decide +kernel
theorem dX8_valueOf_3 : decode cX8_valueOf 3 = .ok (.istore 4, 2) := by decide +kernel
theorem dX8_valueOf_5 : decode cX8_valueOf 5 = .ok (.iconst 0, 1) := by decide +kernel
theorem dX8_valueOf_6 : decode cX8_valueOf 6 = .ok (.istore 5, 2) := by decide +kernel
theorem dX8_valueOf_8 : decode cX8_valueOf 8 = .ok (.iload 5, 2) := by decide +kernel
theorem dX8_valueOf_10 : decode cX8_valueOf 10 = .ok (.aload_n 0, 1) := by decide +kernel
theorem dX8_valueOf_11 : decode cX8_valueOf 11 = .ok (.getfield 96, 3) := by decide +kernel
theorem dX8_valueOf_14 : decode cX8_valueOf 14 = .ok (.if_icmp .ge 56, 3) := by decide +kernel
theorem dX8_valueOf_17 : decode cX8_valueOf 17 = .ok (.aload_n 0, 1) := by decide +kernel
theorem dX8_valueOf_18 : decode cX8_valueOf 18 = .ok (.iload 5, 2) := by decide +kernel
theorem dX8_valueOf_20 : decode cX8_valueOf 20 = .ok (.iload_n 1, 1) := by decide +kernel
theorem dX8_valueOf_21 : decode cX8_valueOf 21 = .ok (.invokevirtual 125, 3) := by decide +kernel
theorem dX8_valueOf_24 : decode cX8_valueOf 24 = .ok (.ifCond .eq 40, 3) := by decide +kernel
theorem dX8_valueOf_27 : decode cX8_valueOf 27 = .ok (.aload_n 0, 1) := by decide +kernel
theorem dX8_valueOf_28 : decode cX8_valueOf 28 = .ok (.getfield 64, 3) := by decide +kernel
theorem dX8_valueOf_31 : decode cX8_valueOf 31 = .ok (.iload 5, 2) := by decide +kernel
theorem dX8_valueOf_33 : decode cX8_valueOf 33 = .ok (.iaload, 1) := by decide +kernel
theorem dX8_valueOf_34 : decode cX8_valueOf 34 = .ok (.iconst (-1), 1) := by decide +kernel
theorem dX8_valueOf_35 : decode cX8_valueOf 35 = .ok (.if_icmp .ne 6, 3) := by decide +kernel
theorem dX8_valueOf_38 : decode cX8_valueOf 38 = .ok (.goto 26, 3) := by decide +kernel
theorem dX8_valueOf_41 : decode cX8_valueOf 41 = .ok (.lload_n 2, 1) := by decide +kernel
theorem dX8_valueOf_42 : decode cX8_valueOf 42 = .ok (.aload_n 0, 1) := by decide +kernel
theorem dX8_valueOf_43 : decode cX8_valueOf 43 = .ok (.iload 5, 2) := by decide +kernel
theorem dX8_valueOf_45 : decode cX8_valueOf 45 = .ok (.iload_n 1, 1) := by decide +kernel
theorem dX8_valueOf_46 : decode cX8_valueOf 46 = .ok (.invokevirtual 122, 3) := by decide +kernel
theorem dX8_valueOf_49 : decode cX8_valueOf 49 = .ok (.i2l, 1) := by decide +kernel
theorem dX8_valueOf_50 : decode cX8_valueOf 50 = .ok (.aload_n 0, 1) := by decide +kernel
theorem dX8_valueOf_51 : decode cX8_valueOf 51 = .ok (.getfield 64, 3) := by decide +kernel
theorem dX8_valueOf_54 : decode cX8_valueOf 54 = .ok (.iload 5, 2) := by decide +kernel
theorem dX8_valueOf_56 : decode cX8_valueOf 56 = .ok (.iaload, 1) := by decide +kernel
theorem dX8_valueOf_57 : decode cX8_valueOf 57 = .ok (.i2l, 1) := by decide +kernel
theorem dX8_valueOf_58 : decode cX8_valueOf 58 = .ok (.lmul, 1) := by decide +kernel
theorem dX8_valueOf_59 : decode cX8_valueOf 59 = .ok (.ladd, 1) := by decide +kernel
theorem dX8_valueOf_60 : decode cX8_valueOf 60 = .ok (.lstore_n 2, 1) := by decide +kernel
theorem dX8_valueOf_61 : decode cX8_valueOf 61 = .ok (.iinc 4 1, 3) := by decide +kernel
theorem dX8_valueOf_64 : decode cX8_valueOf 64 = .ok (.iinc 5 1, 3) := by decide +kernel
theorem dX8_valueOf_67 : decode cX8_valueOf 67 = .ok (.goto (-59), 3) := by decide +kernel
theorem dX8_valueOf_70 : decode cX8_valueOf 70 = .ok (.iload 4, 2) := by decide +kernel
theorem dX8_valueOf_72 : decode cX8_valueOf 72 = .ok (.ifCond .ne 7, 3) := by decide +kernel
theorem dX8_valueOf_75 : decode cX8_valueOf 75 = .ok (.iconst (-1), 1) := by decide +kernel
theorem dX8_valueOf_76 : decode cX8_valueOf 76 = .ok (.goto 9, 3) := by decide +kernel
theorem dX8_valueOf_79 : decode cX8_valueOf 79 = .ok (.lload_n 2, 1) := by decide +kernel
theorem dX8_valueOf_80 : decode cX8_valueOf 80 = .ok (.iload 4, 2) := by decide +kernel
theorem dX8_valueOf_82 : decode cX8_valueOf 82 = .ok (.i2l, 1) := by decide +kernel
theorem dX8_valueOf_83 : decode cX8_valueOf 83 = .ok (.ldiv, 1) := by decide +kernel
theorem dX8_valueOf_84 : decode cX8_valueOf 84 = .ok (.l2i, 1) := by decide +kernel
theorem dX8_valueOf_85 : decode cX8_valueOf 85 = .ok (.ireturn, 1) := by decide +kernel
set_option maxRecDepth 20000 in
theorem ggX8_monthOf_X8_valueOf : GoodIn wsX8_monthOf wsX8_valueOf := goodIn_r _ [6, 7, 8, 9, 10, 11, 5, 12, 13, 14, 15, 16, 17, 18, 19, 20, 21, 22, 23, 24, 25, 26, 27, 28, 29, 30, 31, 32, 33, 34, 35, 36, 37, 38, 39, 40, 41, 42, 43, 44, 45] (by decide +kernel) (by decide +kernel)
set_option maxRecDepth 20000 in
theorem gX8_monthOf_X8_valueOf : GoodIn wsX8_monthOf (wsV RX8 172 RX8 yX8_valueOf wsX8_valueOf) := goodIn_app (goodIn_of _ (by decide +kernel)) ggX8_monthOf_X8_valueOf
theorem dX8_monthOf_0 : decode cX8_monthOf 0 = .ok (.lconst 0, 1) := by decide +kernel
theorem dX8_monthOf_1 : decode cX8_monthOf 1 = .ok (.lstore_n 2, 1) := by decide +kernel
theorem dX8_monthOf_2 : decode cX8_monthOf 2 = .ok (.iconst 0, 1) := by decide +kernel
theorem dX8_monthOf_3 : decode cX8_monthOf 3 = .ok (.istore 4, 2) := by decide +kernel
theorem dX8_monthOf_5 : decode cX8_monthOf 5 = .ok (.bipush 10, 2) := by decide +kernel
theorem dX8_monthOf_7 : decode cX8_monthOf 7 = .ok (.iload_n 1, 1) := by decide +kernel
theorem dX8_monthOf_8 : decode cX8_monthOf 8 = .ok (.imul, 1) := by decide +kernel
theorem dX8_monthOf_9 : decode cX8_monthOf 9 = .ok (.istore 5, 2) := by decide +kernel
theorem dX8_monthOf_11 : decode cX8_monthOf 11 = .ok (.iload 5, 2) := by decide +kernel
theorem dX8_monthOf_13 : decode cX8_monthOf 13 = .ok (.bipush 10, 2) := by decide +kernel
theorem dX8_monthOf_15 : decode cX8_monthOf 15 = .ok (.iload_n 1, 1) := by decide +kernel
theorem dX8_monthOf_16 : decode cX8_monthOf 16 = .ok (.imul, 1) := by decide +kernel
theorem dX8_monthOf_17 : decode cX8_monthOf 17 = .ok (.bipush 10, 2) := by decide +kernel
theorem dX8_monthOf_19 : decode cX8_monthOf 19 = .ok (.iadd, 1) := by decide +kernel
theorem dX8_monthOf_20 : decode cX8_monthOf 20 = .ok (.if_icmp .ge 35, 3) := by decide +kernel
theorem dX8_monthOf_23 : decode cX8_monthOf 23 = .ok (.aload_n 0, 1) := by decide +kernel
theorem dX8_monthOf_24 : decode cX8_monthOf 24 = .ok (.iload 5, 2) := by decide +kernel
theorem dX8_monthOf_26 : decode cX8_monthOf 26 = .ok (.invokevirtual 172, 3) := by decide +kernel
theorem dX8_monthOf_29 : decode cX8_monthOf 29 = .ok (.istore 6, 2) := by decide +kernel
theorem dX8_monthOf_31 : decode cX8_monthOf 31 = .ok (.iload 6, 2) := by decide +kernel
theorem dX8_monthOf_33 : decode cX8_monthOf 33 = .ok (.iconst (-1), 1) := by decide +kernel
theorem dX8_monthOf_34 : decode cX8_monthOf 34 = .ok (.if_icmp .ne 6, 3) := by decide +kernel
theorem dX8_monthOf_37 : decode cX8_monthOf 37 = .ok (.goto 12, 3) := by decide +kernel
theorem dX8_monthOf_40 : decode cX8_monthOf 40 = .ok (.lload_n 2, 1) := by decide +kernel
theorem dX8_monthOf_41 : decode cX8_monthOf 41 = .ok (.iload 6, 2) := by decide +kernel
theorem dX8_monthOf_43 : decode cX8_monthOf 43 = .ok (.i2l, 1) := by decide +kernel
theorem dX8_monthOf_44 : decode cX8_monthOf 44 = .ok (.ladd, 1) := by decide +kernel
theorem dX8_monthOf_45 : decode cX8_monthOf 45 = .ok (.lstore_n 2, 1) := by decide +kernel
theorem dX8_monthOf_46 : decode cX8_monthOf 46 = .ok (.iinc 4 1, 3) := by decide +kernel
theorem dX8_monthOf_49 : decode cX8_monthOf 49 = .ok (.iinc 5 1, 3) := by decide +kernel
theorem dX8_monthOf_52 : decode cX8_monthOf 52 = .ok (.goto (-41), 3) := by decide +kernel
theorem dX8_monthOf_55 : decode cX8_monthOf 55 = .ok (.iload 4, 2) := by decide +kernel
theorem dX8_monthOf_57 : decode cX8_monthOf 57 = .ok (.aload_n 0, 1) := by decide +kernel
theorem dX8_monthOf_58 : decode cX8_monthOf 58 = .ok (.getfield 28, 3) := by decide +kernel
theorem dX8_monthOf_61 : decode cX8_monthOf 61 = .ok (.if_icmp .ge 7, 3) := by decide +kernel
theorem dX8_monthOf_64 : decode cX8_monthOf 64 = .ok (.iconst (-1), 1) := by decide +kernel
theorem dX8_monthOf_65 : decode cX8_monthOf 65 = .ok (.goto 9, 3) := by decide +kernel
theorem dX8_monthOf_68 : decode cX8_monthOf 68 = .ok (.lload_n 2, 1) := by decide +kernel
theorem dX8_monthOf_69 : decode cX8_monthOf 69 = .ok (.iload 4, 2) := by decide +kernel
theorem dX8_monthOf_71 : decode cX8_monthOf 71 = .ok (.i2l, 1) := by decide +kernel
theorem dX8_monthOf_72 : decode cX8_monthOf 72 = .ok (.ldiv, 1) := by decide +kernel
theorem dX8_monthOf_73 : decode cX8_monthOf 73 = .ok (.l2i, 1) := by decide +kernel
theorem dX8_monthOf_74 : decode cX8_monthOf 74 = .ok (.ireturn, 1) := by decide +kernel
set_option maxRecDepth 20000 in
theorem ggX8_tellValue_X8_refuse : GoodIn wsX8_tellValue wsX8_refuse := goodIn_r _ [6, 1, 7, 8, 9, 10, 11, 12, 13, 14, 15, 16, 17, 18, 19, 20, 21, 22, 23, 24, 25, 26, 27, 28, 29] (by decide +kernel) (by decide +kernel)
set_option maxRecDepth 20000 in
theorem gX8_tellValue_X8_refuse : GoodIn wsX8_tellValue (wsV RX8 99 RX8 yX8_refuse wsX8_refuse) := goodIn_app (goodIn_of _ (by decide +kernel)) ggX8_tellValue_X8_refuse
theorem dX8_tellValue_0 : decode cX8_tellValue 0 = .ok (.iload_n 1, 1) := by decide +kernel
theorem dX8_tellValue_1 : decode cX8_tellValue 1 = .ok (.iconst (-1), 1) := by decide +kernel
theorem dX8_tellValue_2 : decode cX8_tellValue 2 = .ok (.if_icmp .ne 9, 3) := by decide +kernel
theorem dX8_tellValue_5 : decode cX8_tellValue 5 = .ok (.aload_n 0, 1) := by decide +kernel
theorem dX8_tellValue_6 : decode cX8_tellValue 6 = .ok (.iconst 5, 1) := by decide +kernel
theorem dX8_tellValue_7 : decode cX8_tellValue 7 = .ok (.invokevirtual 99, 3) := by decide +kernel
theorem dX8_tellValue_10 : decode cX8_tellValue 10 = .ok (.ireturn, 1) := by decide +kernel
theorem dX8_tellValue_11 : decode cX8_tellValue 11 = .ok (.aload_n 0, 1) := by decide +kernel
theorem dX8_tellValue_12 : decode cX8_tellValue 12 = .ok (.iconst 0, 1) := by decide +kernel
theorem dX8_tellValue_13 : decode cX8_tellValue 13 = .ok (.putfield 73, 3) := by decide +kernel
theorem dX8_tellValue_16 : decode cX8_tellValue 16 = .ok (.iload_n 1, 1) := by decide +kernel
theorem dX8_tellValue_17 : decode cX8_tellValue 17 = .ok (.ireturn, 1) := by decide +kernel
set_option maxRecDepth 20000 in
theorem ggX8_day_X8_isDay : GoodIn wsX8_day wsX8_isDay := goodIn_r _ [4] (by decide +kernel) (by decide +kernel)
set_option maxRecDepth 20000 in
theorem gX8_day_X8_isDay : GoodIn wsX8_day (va_wsS RX8 113 yX8_isDay wsX8_isDay) := goodIn_app (goodIn_of _ (by decide +kernel)) ggX8_day_X8_isDay
set_option maxRecDepth 20000 in
theorem ggX8_day_X8_refuse : GoodIn wsX8_day wsX8_refuse := goodIn_r _ [8, 9, 83, 84, 85, 86, 87, 88, 89, 90, 91, 92, 93, 94, 95, 96, 97, 98, 99, 100, 101, 102, 103, 104, 105] (by decide +kernel) (by decide +kernel)
set_option maxRecDepth 20000 in
theorem gX8_day_X8_refuse : GoodIn wsX8_day (wsV RX8 99 RX8 yX8_refuse wsX8_refuse) := goodIn_app (goodIn_of _ (by decide +kernel)) ggX8_day_X8_refuse
set_option maxRecDepth 20000 in
theorem ggX8_day_X8_weigh : GoodIn wsX8_day wsX8_weigh := goodIn_r _ [13, 14, 15, 16, 17, 18, 3, 19, 20, 21, 22, 23, 24, 25, 26, 27, 28, 29, 30, 31, 32, 33, 34, 35, 36, 37, 38, 39, 40, 41, 42, 43, 44, 45, 46, 47, 48, 49, 50, 51, 52, 53, 54, 55, 56, 57, 58, 59, 60, 61, 62, 63, 64, 65, 66, 67, 68, 69, 70, 71, 72, 73, 74, 83, 84, 85, 86, 87, 88, 89, 90, 91, 92, 93, 94, 95, 96, 97, 98, 99, 100, 101, 102, 103, 104, 105] (by decide +kernel) (by decide +kernel)
set_option maxRecDepth 20000 in
theorem gX8_day_X8_weigh : GoodIn wsX8_day (wsV RX8 175 RX8 yX8_weigh wsX8_weigh) := goodIn_app (goodIn_of _ (by decide +kernel)) ggX8_day_X8_weigh
set_option maxRecDepth 20000 in
theorem ggX8_day_X8_valueOf : GoodIn wsX8_day wsX8_valueOf := goodIn_r _ [78, 14, 15, 57, 58, 59, 3, 60, 61, 62, 63, 64, 65, 66, 67, 68, 69, 70, 83, 84, 85, 86, 87, 88, 89, 90, 91, 92, 93, 94, 95, 96, 97, 98, 99, 100, 101, 102, 103, 104, 105] (by decide +kernel) (by decide +kernel)
set_option maxRecDepth 20000 in
theorem gX8_day_X8_valueOf : GoodIn wsX8_day (wsV RX8 172 RX8 yX8_valueOf wsX8_valueOf) := goodIn_app (goodIn_of _ (by decide +kernel)) ggX8_day_X8_valueOf
set_option maxRecDepth 20000 in
theorem ggX8_day_X8_tellValue : GoodIn wsX8_day wsX8_tellValue := goodIn_r _ [82, 9, 5, 6, 7, 3, 8, 83, 84, 85, 86, 87, 88, 89, 90, 91, 92, 93, 94, 95, 96, 97, 98, 99, 100, 101, 102, 103, 104, 105] (by decide +kernel) (by decide +kernel)
set_option maxRecDepth 20000 in
theorem gX8_day_X8_tellValue : GoodIn wsX8_day (wsV RX8 178 RX8 yX8_tellValue wsX8_tellValue) := goodIn_app (goodIn_of _ (by decide +kernel)) ggX8_day_X8_tellValue
theorem dX8_day_0 : decode cX8_day 0 = .ok (.iload_n 1, 1) := by decide +kernel
theorem dX8_day_1 : decode cX8_day 1 = .ok (.invokestatic 113, 3) := by decide +kernel
theorem dX8_day_4 : decode cX8_day 4 = .ok (.ifCond .ne 9, 3) := by decide +kernel
theorem dX8_day_7 : decode cX8_day 7 = .ok (.aload_n 0, 1) := by decide +kernel
theorem dX8_day_8 : decode cX8_day 8 = .ok (.iconst 1, 1) := by decide +kernel
theorem dX8_day_9 : decode cX8_day 9 = .ok (.invokevirtual 99, 3) := by decide +kernel
theorem dX8_day_12 : decode cX8_day 12 = .ok (.ireturn, 1) := by decide +kernel
theorem dX8_day_13 : decode cX8_day 13 = .ok (.aload_n 0, 1) := by decide +kernel
theorem dX8_day_14 : decode cX8_day 14 = .ok (.invokevirtual 175, 3) := by decide +kernel
theorem dX8_day_17 : decode cX8_day 17 = .ok (.aload_n 0, 1) := by decide +kernel
theorem dX8_day_18 : decode cX8_day 18 = .ok (.aload_n 0, 1) := by decide +kernel
theorem dX8_day_19 : decode cX8_day 19 = .ok (.iload_n 1, 1) := by decide +kernel
theorem dX8_day_20 : decode cX8_day 20 = .ok (.invokevirtual 172, 3) := by decide +kernel
theorem dX8_day_23 : decode cX8_day 23 = .ok (.invokevirtual 178, 3) := by decide +kernel
theorem dX8_day_26 : decode cX8_day 26 = .ok (.ireturn, 1) := by decide +kernel
end
section
set_option maxRecDepth 20000 in
theorem ggX8_month_X8_isMonth : GoodIn wsX8_month wsX8_isMonth := goodIn_r _ [4] (by decide +kernel) (by decide +kernel)
set_option maxRecDepth 20000 in
theorem gX8_month_X8_isMonth : GoodIn wsX8_month (va_wsS RX8 181 yX8_isMonth wsX8_isMonth) := goodIn_app (goodIn_of _ (by decide +kernel)) ggX8_month_X8_isMonth
set_option maxRecDepth 20000 in
theorem ggX8_month_X8_refuse : GoodIn wsX8_month wsX8_refuse := goodIn_r _ [8, 9, 88, 89, 90, 91, 92, 93, 94, 95, 96, 97, 98, 99, 100, 101, 102, 103, 104, 105, 106, 107, 108, 109, 110] (by decide +kernel) (by decide +kernel)
set_option maxRecDepth 20000 in
theorem gX8_month_X8_refuse : GoodIn wsX8_month (wsV RX8 99 RX8 yX8_refuse wsX8_refuse) := goodIn_app (goodIn_of _ (by decide +kernel)) ggX8_month_X8_refuse
set_option maxRecDepth 20000 in
theorem ggX8_month_X8_weigh : GoodIn wsX8_month wsX8_weigh := goodIn_r _ [13, 14, 15, 16, 17, 18, 3, 19, 20, 21, 22, 23, 24, 25, 26, 27, 28, 29, 30, 31, 32, 33, 34, 35, 36, 37, 38, 39, 40, 41, 42, 43, 44, 45, 46, 47, 48, 49, 50, 51, 52, 53, 54, 55, 56, 57, 58, 59, 60, 61, 62, 63, 64, 65, 66, 67, 68, 69, 70, 71, 72, 73, 74, 88, 89, 90, 91, 92, 93, 94, 95, 96, 97, 98, 99, 100, 101, 102, 103, 104, 105, 106, 107, 108, 109, 110] (by decide +kernel) (by decide +kernel)
set_option maxRecDepth 20000 in
theorem gX8_month_X8_weigh : GoodIn wsX8_month (wsV RX8 175 RX8 yX8_weigh wsX8_weigh) := goodIn_app (goodIn_of _ (by decide +kernel)) ggX8_month_X8_weigh
set_option maxRecDepth 20000 in
theorem ggX8_month_X8_monthOf : GoodIn wsX8_month wsX8_monthOf := goodIn_r _ [78, 79, 80, 81, 82, 3, 83, 14, 15, 57, 58, 59, 60, 61, 62, 63, 64, 65, 66, 67, 68, 69, 70, 88, 89, 90, 91, 92, 93, 94, 95, 96, 97, 98, 99, 100, 101, 102, 103, 104, 105, 106, 107, 108, 109, 110] (by decide +kernel) (by decide +kernel)
set_option maxRecDepth 20000 in
theorem gX8_month_X8_monthOf : GoodIn wsX8_month (wsV RX8 184 RX8 yX8_monthOf wsX8_monthOf) := goodIn_app (goodIn_of _ (by decide +kernel)) ggX8_month_X8_monthOf
set_option maxRecDepth 20000 in
theorem ggX8_month_X8_tellValue : GoodIn wsX8_month wsX8_tellValue := goodIn_r _ [87, 9, 5, 6, 7, 3, 8, 88, 89, 90, 91, 92, 93, 94, 95, 96, 97, 98, 99, 100, 101, 102, 103, 104, 105, 106, 107, 108, 109, 110] (by decide +kernel) (by decide +kernel)
set_option maxRecDepth 20000 in
theorem gX8_month_X8_tellValue : GoodIn wsX8_month (wsV RX8 178 RX8 yX8_tellValue wsX8_tellValue) := goodIn_app (goodIn_of _ (by decide +kernel)) ggX8_month_X8_tellValue
theorem dX8_month_0 : decode cX8_month 0 = .ok (.iload_n 1, 1) := by decide +kernel
theorem dX8_month_1 : decode cX8_month 1 = .ok (.invokestatic 181, 3) := by decide +kernel
theorem dX8_month_4 : decode cX8_month 4 = .ok (.ifCond .ne 9, 3) := by decide +kernel
theorem dX8_month_7 : decode cX8_month 7 = .ok (.aload_n 0, 1) := by decide +kernel
theorem dX8_month_8 : decode cX8_month 8 = .ok (.iconst 1, 1) := by decide +kernel
theorem dX8_month_9 : decode cX8_month 9 = .ok (.invokevirtual 99, 3) := by decide +kernel
theorem dX8_month_12 : decode cX8_month 12 = .ok (.ireturn, 1) := by decide +kernel
theorem dX8_month_13 : decode cX8_month 13 = .ok (.aload_n 0, 1) := by decide +kernel
theorem dX8_month_14 : decode cX8_month 14 = .ok (.invokevirtual 175, 3) := by decide +kernel
theorem dX8_month_17 : decode cX8_month 17 = .ok (.aload_n 0, 1) := by decide +kernel
theorem dX8_month_18 : decode cX8_month 18 = .ok (.aload_n 0, 1) := by decide +kernel
theorem dX8_month_19 : decode cX8_month 19 = .ok (.iload_n 1, 1) := by decide +kernel
theorem dX8_month_20 : decode cX8_month 20 = .ok (.invokevirtual 184, 3) := by decide +kernel
theorem dX8_month_23 : decode cX8_month 23 = .ok (.invokevirtual 178, 3) := by decide +kernel
theorem dX8_month_26 : decode cX8_month 26 = .ok (.ireturn, 1) := by decide +kernel
theorem dX8_isWide_0 : decode cX8_isWide 0 = .ok (.iload_n 0, 1) := by decide +kernel
theorem dX8_isWide_1 : decode cX8_isWide 1 = .ok (.iconst 1, 1) := by decide +kernel
theorem dX8_isWide_2 : decode cX8_isWide 2 = .ok (.if_icmp .eq 19, 3) := by decide +kernel
theorem dX8_isWide_5 : decode cX8_isWide 5 = .ok (.iload_n 0, 1) := by decide +kernel
theorem dX8_isWide_6 : decode cX8_isWide 6 = .ok (.iconst 3, 1) := by decide +kernel
theorem dX8_isWide_7 : decode cX8_isWide 7 = .ok (.if_icmp .eq 14, 3) := by decide +kernel
theorem dX8_isWide_10 : decode cX8_isWide 10 = .ok (.iload_n 0, 1) := by decide +kernel
theorem dX8_isWide_11 : decode cX8_isWide 11 = .ok (.iconst 5, 1) := by decide +kernel
theorem dX8_isWide_12 : decode cX8_isWide 12 = .ok (.if_icmp .eq 9, 3) := by decide +kernel
theorem dX8_isWide_15 : decode cX8_isWide 15 = .ok (.iload_n 0, 1) := by decide +kernel
theorem dX8_isWide_16 : decode cX8_isWide 16 = .ok (.bipush 7, 2) := by decide +kernel
theorem dX8_isWide_18 : decode cX8_isWide 18 = .ok (.if_icmp .ne 7, 3) := by decide +kernel
theorem dX8_isWide_21 : decode cX8_isWide 21 = .ok (.iconst 1, 1) := by decide +kernel
theorem dX8_isWide_22 : decode cX8_isWide 22 = .ok (.goto 4, 3) := by decide +kernel
theorem dX8_isWide_25 : decode cX8_isWide 25 = .ok (.iconst 0, 1) := by decide +kernel
theorem dX8_isWide_26 : decode cX8_isWide 26 = .ok (.ireturn, 1) := by decide +kernel
set_option maxRecDepth 20000 in
theorem ggX8_smoothAll_X8_weigh : GoodIn wsX8_smoothAll wsX8_weigh := goodIn_r _ [7, 8, 9, 10, 11, 12, 6, 13, 14, 15, 16, 17, 18, 19, 20, 21, 22, 23, 24, 25, 26, 27, 28, 29, 30, 31, 32, 33, 34, 35, 36, 37, 38, 39, 40, 41, 42, 43, 44, 45, 46, 47, 48, 49, 50, 51, 52, 53, 54, 55, 56, 57, 58, 59, 60, 61, 62, 63, 64, 65, 66, 67, 68, 81, 82, 83, 84, 85, 86, 87, 88, 89, 90, 91, 92, 93, 94, 95, 96, 97, 98, 99, 100, 101, 102, 103] (by decide +kernel) (by decide +kernel)
set_option maxRecDepth 20000 in
theorem gX8_smoothAll_X8_weigh : GoodIn wsX8_smoothAll (wsV RX8 175 RX8 yX8_weigh wsX8_weigh) := goodIn_app (goodIn_of _ (by decide +kernel)) ggX8_smoothAll_X8_weigh
set_option maxRecDepth 20000 in
theorem ggX8_smoothAll_X8_monthOf : GoodIn wsX8_smoothAll wsX8_monthOf := goodIn_r _ [72, 73, 74, 75, 76, 6, 77, 8, 9, 51, 52, 53, 54, 55, 56, 57, 58, 59, 60, 61, 62, 63, 64, 81, 82, 83, 84, 85, 86, 87, 88, 89, 90, 91, 92, 93, 94, 95, 96, 97, 98, 99, 100, 101, 102, 103] (by decide +kernel) (by decide +kernel)
set_option maxRecDepth 20000 in
theorem gX8_smoothAll_X8_monthOf : GoodIn wsX8_smoothAll (wsV RX8 184 RX8 yX8_monthOf wsX8_monthOf) := goodIn_app (goodIn_of _ (by decide +kernel)) ggX8_smoothAll_X8_monthOf
set_option maxRecDepth 20000 in
theorem ggX8_smoothAll_X8_isMonth : GoodIn wsX8_smoothAll wsX8_isMonth := goodIn_r _ [80] (by decide +kernel) (by decide +kernel)
set_option maxRecDepth 20000 in
theorem gX8_smoothAll_X8_isMonth : GoodIn wsX8_smoothAll (va_wsS RX8 181 yX8_isMonth wsX8_isMonth) := goodIn_app (goodIn_of _ (by decide +kernel)) ggX8_smoothAll_X8_isMonth
theorem dX8_smoothAll_0 : decode cX8_smoothAll 0 = .ok (.aload_n 0, 1) := by decide +kernel
theorem dX8_smoothAll_1 : decode cX8_smoothAll 1 = .ok (.invokevirtual 175, 3) := by decide +kernel
theorem dX8_smoothAll_4 : decode cX8_smoothAll 4 = .ok (.iconst 0, 1) := by decide +kernel
theorem dX8_smoothAll_5 : decode cX8_smoothAll 5 = .ok (.istore_n 2, 1) := by decide +kernel
theorem dX8_smoothAll_6 : decode cX8_smoothAll 6 = .ok (.iload_n 2, 1) := by decide +kernel
theorem dX8_smoothAll_7 : decode cX8_smoothAll 7 = .ok (.bipush 24, 2) := by decide +kernel
theorem dX8_smoothAll_9 : decode cX8_smoothAll 9 = .ok (.if_icmp .ge 20, 3) := by decide +kernel
theorem dX8_smoothAll_12 : decode cX8_smoothAll 12 = .ok (.aload_n 0, 1) := by decide +kernel
theorem dX8_smoothAll_13 : decode cX8_smoothAll 13 = .ok (.getfield 67, 3) := by decide +kernel
theorem dX8_smoothAll_16 : decode cX8_smoothAll 16 = .ok (.iload_n 2, 1) := by decide +kernel
theorem dX8_smoothAll_17 : decode cX8_smoothAll 17 = .ok (.aload_n 0, 1) := by decide +kernel
theorem dX8_smoothAll_18 : decode cX8_smoothAll 18 = .ok (.iload_n 2, 1) := by decide +kernel
theorem dX8_smoothAll_19 : decode cX8_smoothAll 19 = .ok (.invokevirtual 184, 3) := by decide +kernel
theorem dX8_smoothAll_22 : decode cX8_smoothAll 22 = .ok (.iastore, 1) := by decide +kernel
theorem dX8_smoothAll_23 : decode cX8_smoothAll 23 = .ok (.iinc 2 1, 3) := by decide +kernel
theorem dX8_smoothAll_26 : decode cX8_smoothAll 26 = .ok (.goto (-20), 3) := by decide +kernel
theorem dX8_smoothAll_29 : decode cX8_smoothAll 29 = .ok (.iconst 0, 1) := by decide +kernel
theorem dX8_smoothAll_30 : decode cX8_smoothAll 30 = .ok (.istore_n 2, 1) := by decide +kernel
theorem dX8_smoothAll_31 : decode cX8_smoothAll 31 = .ok (.iload_n 2, 1) := by decide +kernel
theorem dX8_smoothAll_32 : decode cX8_smoothAll 32 = .ok (.bipush 24, 2) := by decide +kernel
theorem dX8_smoothAll_34 : decode cX8_smoothAll 34 = .ok (.if_icmp .ge 99, 3) := by decide +kernel
theorem dX8_smoothAll_37 : decode cX8_smoothAll 37 = .ok (.lconst 0, 1) := by decide +kernel
theorem dX8_smoothAll_38 : decode cX8_smoothAll 38 = .ok (.lstore_n 3, 1) := by decide +kernel
theorem dX8_smoothAll_39 : decode cX8_smoothAll 39 = .ok (.iconst 0, 1) := by decide +kernel
theorem dX8_smoothAll_40 : decode cX8_smoothAll 40 = .ok (.istore 5, 2) := by decide +kernel
theorem dX8_smoothAll_42 : decode cX8_smoothAll 42 = .ok (.iload_n 2, 1) := by decide +kernel
theorem dX8_smoothAll_43 : decode cX8_smoothAll 43 = .ok (.iload_n 1, 1) := by decide +kernel
theorem dX8_smoothAll_44 : decode cX8_smoothAll 44 = .ok (.iconst 2, 1) := by decide +kernel
theorem dX8_smoothAll_45 : decode cX8_smoothAll 45 = .ok (.idiv, 1) := by decide +kernel
theorem dX8_smoothAll_46 : decode cX8_smoothAll 46 = .ok (.isub, 1) := by decide +kernel
theorem dX8_smoothAll_47 : decode cX8_smoothAll 47 = .ok (.istore 6, 2) := by decide +kernel
theorem dX8_smoothAll_49 : decode cX8_smoothAll 49 = .ok (.iload 6, 2) := by decide +kernel
theorem dX8_smoothAll_51 : decode cX8_smoothAll 51 = .ok (.iload_n 2, 1) := by decide +kernel
theorem dX8_smoothAll_52 : decode cX8_smoothAll 52 = .ok (.iload_n 1, 1) := by decide +kernel
theorem dX8_smoothAll_53 : decode cX8_smoothAll 53 = .ok (.iconst 2, 1) := by decide +kernel
theorem dX8_smoothAll_54 : decode cX8_smoothAll 54 = .ok (.idiv, 1) := by decide +kernel
theorem dX8_smoothAll_55 : decode cX8_smoothAll 55 = .ok (.iadd, 1) := by decide +kernel
theorem dX8_smoothAll_56 : decode cX8_smoothAll 56 = .ok (.if_icmp .gt 45, 3) := by decide +kernel
theorem dX8_smoothAll_59 : decode cX8_smoothAll 59 = .ok (.iload 6, 2) := by decide +kernel
theorem dX8_smoothAll_61 : decode cX8_smoothAll 61 = .ok (.invokestatic 181, 3) := by decide +kernel
theorem dX8_smoothAll_64 : decode cX8_smoothAll 64 = .ok (.ifCond .eq 31, 3) := by decide +kernel
theorem dX8_smoothAll_67 : decode cX8_smoothAll 67 = .ok (.aload_n 0, 1) := by decide +kernel
theorem dX8_smoothAll_68 : decode cX8_smoothAll 68 = .ok (.getfield 67, 3) := by decide +kernel
theorem dX8_smoothAll_71 : decode cX8_smoothAll 71 = .ok (.iload 6, 2) := by decide +kernel
theorem dX8_smoothAll_73 : decode cX8_smoothAll 73 = .ok (.iaload, 1) := by decide +kernel
theorem dX8_smoothAll_74 : decode cX8_smoothAll 74 = .ok (.iconst (-1), 1) := by decide +kernel
theorem dX8_smoothAll_75 : decode cX8_smoothAll 75 = .ok (.if_icmp .ne 6, 3) := by decide +kernel
theorem dX8_smoothAll_78 : decode cX8_smoothAll 78 = .ok (.goto 17, 3) := by decide +kernel
theorem dX8_smoothAll_81 : decode cX8_smoothAll 81 = .ok (.lload_n 3, 1) := by decide +kernel
theorem dX8_smoothAll_82 : decode cX8_smoothAll 82 = .ok (.aload_n 0, 1) := by decide +kernel
theorem dX8_smoothAll_83 : decode cX8_smoothAll 83 = .ok (.getfield 67, 3) := by decide +kernel
theorem dX8_smoothAll_86 : decode cX8_smoothAll 86 = .ok (.iload 6, 2) := by decide +kernel
theorem dX8_smoothAll_88 : decode cX8_smoothAll 88 = .ok (.iaload, 1) := by decide +kernel
theorem dX8_smoothAll_89 : decode cX8_smoothAll 89 = .ok (.i2l, 1) := by decide +kernel
theorem dX8_smoothAll_90 : decode cX8_smoothAll 90 = .ok (.ladd, 1) := by decide +kernel
theorem dX8_smoothAll_91 : decode cX8_smoothAll 91 = .ok (.lstore_n 3, 1) := by decide +kernel
theorem dX8_smoothAll_92 : decode cX8_smoothAll 92 = .ok (.iinc 5 1, 3) := by decide +kernel
theorem dX8_smoothAll_95 : decode cX8_smoothAll 95 = .ok (.iinc 6 1, 3) := by decide +kernel
theorem dX8_smoothAll_98 : decode cX8_smoothAll 98 = .ok (.goto (-49), 3) := by decide +kernel
theorem dX8_smoothAll_101 : decode cX8_smoothAll 101 = .ok (.aload_n 0, 1) := by decide +kernel
theorem dX8_smoothAll_102 : decode cX8_smoothAll 102 = .ok (.getfield 70, 3) := by decide +kernel
theorem dX8_smoothAll_105 : decode cX8_smoothAll 105 = .ok (.iload_n 2, 1) := by decide +kernel
theorem dX8_smoothAll_106 : decode cX8_smoothAll 106 = .ok (.aload_n 0, 1) := by decide +kernel
theorem dX8_smoothAll_107 : decode cX8_smoothAll 107 = .ok (.getfield 67, 3) := by decide +kernel
theorem dX8_smoothAll_110 : decode cX8_smoothAll 110 = .ok (.iload_n 2, 1) := by decide +kernel
theorem dX8_smoothAll_111 : decode cX8_smoothAll 111 = .ok (.iaload, 1) := by decide +kernel
theorem dX8_smoothAll_112 : decode cX8_smoothAll 112 = .ok (.iconst (-1), 1) := by decide +kernel
theorem dX8_smoothAll_113 : decode cX8_smoothAll 113 = .ok (.if_icmp .ne 7, 3) := by decide +kernel
theorem dX8_smoothAll_116 : decode cX8_smoothAll 116 = .ok (.iconst (-1), 1) := by decide +kernel
theorem dX8_smoothAll_117 : decode cX8_smoothAll 117 = .ok (.goto 9, 3) := by decide +kernel
theorem dX8_smoothAll_120 : decode cX8_smoothAll 120 = .ok (.lload_n 3, 1) := by decide +kernel
theorem dX8_smoothAll_121 : decode cX8_smoothAll 121 = .ok (.iload 5, 2) := by decide +kernel
theorem dX8_smoothAll_123 : decode cX8_smoothAll 123 = .ok (.i2l, 1) := by decide +kernel
theorem dX8_smoothAll_124 : decode cX8_smoothAll 124 = .ok (.ldiv, 1) := by decide +kernel
theorem dX8_smoothAll_125 : decode cX8_smoothAll 125 = .ok (.l2i, 1) := by decide +kernel
theorem dX8_smoothAll_126 : decode cX8_smoothAll 126 = .ok (.iastore, 1) := by decide +kernel
theorem dX8_smoothAll_127 : decode cX8_smoothAll 127 = .ok (.iinc 2 1, 3) := by decide +kernel
theorem dX8_smoothAll_130 : decode cX8_smoothAll 130 = .ok (.goto (-99), 3) := by decide +kernel
theorem dX8_smoothAll_133 : decode cX8_smoothAll 133 = .ok (.return_, 1) := by decide +kernel
set_option maxRecDepth 20000 in
theorem ggX8_smooth_X8_isMonth : GoodIn wsX8_smooth wsX8_isMonth := goodIn_r _ [5] (by decide +kernel) (by decide +kernel)
set_option maxRecDepth 20000 in
theorem gX8_smooth_X8_isMonth : GoodIn wsX8_smooth (va_wsS RX8 181 yX8_isMonth wsX8_isMonth) := goodIn_app (goodIn_of _ (by decide +kernel)) ggX8_smooth_X8_isMonth
set_option maxRecDepth 20000 in
theorem ggX8_smooth_X8_isWide : GoodIn wsX8_smooth wsX8_isWide := goodIn_r _ [8] (by decide +kernel) (by decide +kernel)
set_option maxRecDepth 20000 in
theorem gX8_smooth_X8_isWide : GoodIn wsX8_smooth (va_wsS RX8 187 yX8_isWide wsX8_isWide) := goodIn_app (goodIn_of _ (by decide +kernel)) ggX8_smooth_X8_isWide
set_option maxRecDepth 20000 in
theorem ggX8_smooth_X8_refuse : GoodIn wsX8_smooth wsX8_refuse := goodIn_r _ [12, 13, 97, 98, 99, 100, 101, 102, 103, 104, 105, 106, 107, 108, 109, 110, 111, 112, 113, 114, 115, 116, 117, 118, 119] (by decide +kernel) (by decide +kernel)
set_option maxRecDepth 20000 in
theorem gX8_smooth_X8_refuse : GoodIn wsX8_smooth (wsV RX8 99 RX8 yX8_refuse wsX8_refuse) := goodIn_app (goodIn_of _ (by decide +kernel)) ggX8_smooth_X8_refuse
set_option maxRecDepth 20000 in
theorem ggX8_smooth_X8_smoothAll : GoodIn wsX8_smooth wsX8_smoothAll := goodIn_r _ [17, 18, 1, 19, 20, 21, 4, 22, 23, 24, 25, 26, 27, 28, 29, 30, 31, 32, 33, 34, 35, 36, 37, 38, 39, 40, 41, 42, 43, 44, 45, 46, 47, 48, 49, 50, 51, 52, 53, 54, 55, 56, 57, 58, 59, 60, 61, 62, 63, 64, 65, 66, 67, 68, 69, 70, 71, 72, 73, 74, 75, 76, 77, 78, 79, 80, 81, 82, 83, 84, 85, 86, 87, 88, 89, 90, 91, 92, 2, 3, 5, 97, 98, 99, 100, 101, 102, 103, 104, 105, 106, 107, 108, 109, 110, 111, 112, 113, 114, 115, 116, 117, 118, 119] (by decide +kernel) (by decide +kernel)
set_option maxRecDepth 20000 in
theorem gX8_smooth_X8_smoothAll : GoodIn wsX8_smooth (wsV RX8 190 RX8 yX8_smoothAll wsX8_smoothAll) := goodIn_app (goodIn_of _ (by decide +kernel)) ggX8_smooth_X8_smoothAll
set_option maxRecDepth 20000 in
theorem ggX8_smooth_X8_tellValue : GoodIn wsX8_smooth wsX8_tellValue := goodIn_r _ [96, 13, 9, 10, 11, 4, 12, 97, 98, 99, 100, 101, 102, 103, 104, 105, 106, 107, 108, 109, 110, 111, 112, 113, 114, 115, 116, 117, 118, 119] (by decide +kernel) (by decide +kernel)
set_option maxRecDepth 20000 in
theorem gX8_smooth_X8_tellValue : GoodIn wsX8_smooth (wsV RX8 178 RX8 yX8_tellValue wsX8_tellValue) := goodIn_app (goodIn_of _ (by decide +kernel)) ggX8_smooth_X8_tellValue
theorem dX8_smooth_0 : decode cX8_smooth 0 = .ok (.iload_n 1, 1) := by decide +kernel
theorem dX8_smooth_1 : decode cX8_smooth 1 = .ok (.invokestatic 181, 3) := by decide +kernel
theorem dX8_smooth_4 : decode cX8_smooth 4 = .ok (.ifCond .eq 10, 3) := by decide +kernel
theorem dX8_smooth_7 : decode cX8_smooth 7 = .ok (.iload_n 2, 1) := by decide +kernel
theorem dX8_smooth_8 : decode cX8_smooth 8 = .ok (.invokestatic 187, 3) := by decide +kernel
theorem dX8_smooth_11 : decode cX8_smooth 11 = .ok (.ifCond .ne 9, 3) := by decide +kernel
theorem dX8_smooth_14 : decode cX8_smooth 14 = .ok (.aload_n 0, 1) := by decide +kernel
theorem dX8_smooth_15 : decode cX8_smooth 15 = .ok (.iconst 1, 1) := by decide +kernel
theorem dX8_smooth_16 : decode cX8_smooth 16 = .ok (.invokevirtual 99, 3) := by decide +kernel
theorem dX8_smooth_19 : decode cX8_smooth 19 = .ok (.ireturn, 1) := by decide +kernel
theorem dX8_smooth_20 : decode cX8_smooth 20 = .ok (.aload_n 0, 1) := by decide +kernel
theorem dX8_smooth_21 : decode cX8_smooth 21 = .ok (.iload_n 2, 1) := by decide +kernel
theorem dX8_smooth_22 : decode cX8_smooth 22 = .ok (.invokevirtual 190, 3) := by decide +kernel
theorem dX8_smooth_25 : decode cX8_smooth 25 = .ok (.aload_n 0, 1) := by decide +kernel
theorem dX8_smooth_26 : decode cX8_smooth 26 = .ok (.aload_n 0, 1) := by decide +kernel
theorem dX8_smooth_27 : decode cX8_smooth 27 = .ok (.getfield 70, 3) := by decide +kernel
theorem dX8_smooth_30 : decode cX8_smooth 30 = .ok (.iload_n 1, 1) := by decide +kernel
theorem dX8_smooth_31 : decode cX8_smooth 31 = .ok (.iaload, 1) := by decide +kernel
theorem dX8_smooth_32 : decode cX8_smooth 32 = .ok (.invokevirtual 178, 3) := by decide +kernel
theorem dX8_smooth_35 : decode cX8_smooth 35 = .ok (.ireturn, 1) := by decide +kernel
theorem dX8_isTurn_0 : decode cX8_isTurn 0 = .ok (.aload_n 0, 1) := by decide +kernel
theorem dX8_isTurn_1 : decode cX8_isTurn 1 = .ok (.getfield 70, 3) := by decide +kernel
theorem dX8_isTurn_4 : decode cX8_isTurn 4 = .ok (.iload_n 1, 1) := by decide +kernel
theorem dX8_isTurn_5 : decode cX8_isTurn 5 = .ok (.iaload, 1) := by decide +kernel
theorem dX8_isTurn_6 : decode cX8_isTurn 6 = .ok (.iconst (-1), 1) := by decide +kernel
theorem dX8_isTurn_7 : decode cX8_isTurn 7 = .ok (.if_icmp .ne 5, 3) := by decide +kernel
theorem dX8_isTurn_10 : decode cX8_isTurn 10 = .ok (.iconst 0, 1) := by decide +kernel
theorem dX8_isTurn_11 : decode cX8_isTurn 11 = .ok (.ireturn, 1) := by decide +kernel
theorem dX8_isTurn_12 : decode cX8_isTurn 12 = .ok (.iload_n 3, 1) := by decide +kernel
theorem dX8_isTurn_13 : decode cX8_isTurn 13 = .ok (.ifCond .eq 7, 3) := by decide +kernel
theorem dX8_isTurn_16 : decode cX8_isTurn 16 = .ok (.iconst 1, 1) := by decide +kernel
theorem dX8_isTurn_17 : decode cX8_isTurn 17 = .ok (.goto 4, 3) := by decide +kernel
theorem dX8_isTurn_20 : decode cX8_isTurn 20 = .ok (.iconst (-1), 1) := by decide +kernel
theorem dX8_isTurn_21 : decode cX8_isTurn 21 = .ok (.istore 4, 2) := by decide +kernel
theorem dX8_isTurn_23 : decode cX8_isTurn 23 = .ok (.iconst 0, 1) := by decide +kernel
theorem dX8_isTurn_24 : decode cX8_isTurn 24 = .ok (.iload_n 1, 1) := by decide +kernel
theorem dX8_isTurn_25 : decode cX8_isTurn 25 = .ok (.iload_n 2, 1) := by decide +kernel
theorem dX8_isTurn_26 : decode cX8_isTurn 26 = .ok (.isub, 1) := by decide +kernel
theorem dX8_isTurn_27 : decode cX8_isTurn 27 = .ok (.invokestatic 194, 3) := by decide +kernel
theorem dX8_isTurn_30 : decode cX8_isTurn 30 = .ok (.istore 5, 2) := by decide +kernel
theorem dX8_isTurn_32 : decode cX8_isTurn 32 = .ok (.iload 5, 2) := by decide +kernel
theorem dX8_isTurn_34 : decode cX8_isTurn 34 = .ok (.bipush 23, 2) := by decide +kernel
theorem dX8_isTurn_36 : decode cX8_isTurn 36 = .ok (.iload_n 1, 1) := by decide +kernel
theorem dX8_isTurn_37 : decode cX8_isTurn 37 = .ok (.iload_n 2, 1) := by decide +kernel
theorem dX8_isTurn_38 : decode cX8_isTurn 38 = .ok (.iadd, 1) := by decide +kernel
theorem dX8_isTurn_39 : decode cX8_isTurn 39 = .ok (.invokestatic 153, 3) := by decide +kernel
theorem dX8_isTurn_42 : decode cX8_isTurn 42 = .ok (.if_icmp .gt 72, 3) := by decide +kernel
theorem dX8_isTurn_45 : decode cX8_isTurn 45 = .ok (.iload 5, 2) := by decide +kernel
theorem dX8_isTurn_47 : decode cX8_isTurn 47 = .ok (.iload_n 1, 1) := by decide +kernel
theorem dX8_isTurn_48 : decode cX8_isTurn 48 = .ok (.if_icmp .eq 60, 3) := by decide +kernel
theorem dX8_isTurn_51 : decode cX8_isTurn 51 = .ok (.aload_n 0, 1) := by decide +kernel
theorem dX8_isTurn_52 : decode cX8_isTurn 52 = .ok (.getfield 70, 3) := by decide +kernel
theorem dX8_isTurn_55 : decode cX8_isTurn 55 = .ok (.iload 5, 2) := by decide +kernel
theorem dX8_isTurn_57 : decode cX8_isTurn 57 = .ok (.iaload, 1) := by decide +kernel
theorem dX8_isTurn_58 : decode cX8_isTurn 58 = .ok (.iconst (-1), 1) := by decide +kernel
theorem dX8_isTurn_59 : decode cX8_isTurn 59 = .ok (.if_icmp .ne 6, 3) := by decide +kernel
theorem dX8_isTurn_62 : decode cX8_isTurn 62 = .ok (.goto 46, 3) := by decide +kernel
theorem dX8_isTurn_65 : decode cX8_isTurn 65 = .ok (.iload 4, 2) := by decide +kernel
theorem dX8_isTurn_67 : decode cX8_isTurn 67 = .ok (.aload_n 0, 1) := by decide +kernel
theorem dX8_isTurn_68 : decode cX8_isTurn 68 = .ok (.getfield 70, 3) := by decide +kernel
theorem dX8_isTurn_71 : decode cX8_isTurn 71 = .ok (.iload 5, 2) := by decide +kernel
theorem dX8_isTurn_73 : decode cX8_isTurn 73 = .ok (.iaload, 1) := by decide +kernel
theorem dX8_isTurn_74 : decode cX8_isTurn 74 = .ok (.imul, 1) := by decide +kernel
theorem dX8_isTurn_75 : decode cX8_isTurn 75 = .ok (.iload 4, 2) := by decide +kernel
theorem dX8_isTurn_77 : decode cX8_isTurn 77 = .ok (.aload_n 0, 1) := by decide +kernel
theorem dX8_isTurn_78 : decode cX8_isTurn 78 = .ok (.getfield 70, 3) := by decide +kernel
theorem dX8_isTurn_81 : decode cX8_isTurn 81 = .ok (.iload_n 1, 1) := by decide +kernel
theorem dX8_isTurn_82 : decode cX8_isTurn 82 = .ok (.iaload, 1) := by decide +kernel
theorem dX8_isTurn_83 : decode cX8_isTurn 83 = .ok (.imul, 1) := by decide +kernel
theorem dX8_isTurn_84 : decode cX8_isTurn 84 = .ok (.isub, 1) := by decide +kernel
theorem dX8_isTurn_85 : decode cX8_isTurn 85 = .ok (.istore 6, 2) := by decide +kernel
theorem dX8_isTurn_87 : decode cX8_isTurn 87 = .ok (.iload 5, 2) := by decide +kernel
theorem dX8_isTurn_89 : decode cX8_isTurn 89 = .ok (.iload_n 1, 1) := by decide +kernel
theorem dX8_isTurn_90 : decode cX8_isTurn 90 = .ok (.if_icmp .ge 11, 3) := by decide +kernel
theorem dX8_isTurn_93 : decode cX8_isTurn 93 = .ok (.iload 6, 2) := by decide +kernel
theorem dX8_isTurn_95 : decode cX8_isTurn 95 = .ok (.ifCond .lt 13, 3) := by decide +kernel
theorem dX8_isTurn_98 : decode cX8_isTurn 98 = .ok (.goto 8, 3) := by decide +kernel
theorem dX8_isTurn_101 : decode cX8_isTurn 101 = .ok (.iload 6, 2) := by decide +kernel
theorem dX8_isTurn_103 : decode cX8_isTurn 103 = .ok (.ifCond .le 5, 3) := by decide +kernel
theorem dX8_isTurn_106 : decode cX8_isTurn 106 = .ok (.iconst 0, 1) := by decide +kernel
theorem dX8_isTurn_107 : decode cX8_isTurn 107 = .ok (.ireturn, 1) := by decide +kernel
theorem dX8_isTurn_108 : decode cX8_isTurn 108 = .ok (.iinc 5 1, 3) := by decide +kernel
theorem dX8_isTurn_111 : decode cX8_isTurn 111 = .ok (.goto (-79), 3) := by decide +kernel
theorem dX8_isTurn_114 : decode cX8_isTurn 114 = .ok (.iconst 1, 1) := by decide +kernel
theorem dX8_isTurn_115 : decode cX8_isTurn 115 = .ok (.ireturn, 1) := by decide +kernel
set_option maxRecDepth 20000 in
theorem ggX8_turn_X8_isWide : GoodIn wsX8_turn wsX8_isWide := goodIn_r _ [5] (by decide +kernel) (by decide +kernel)
set_option maxRecDepth 20000 in
theorem gX8_turn_X8_isWide : GoodIn wsX8_turn (va_wsS RX8 187 yX8_isWide wsX8_isWide) := goodIn_app (goodIn_of _ (by decide +kernel)) ggX8_turn_X8_isWide
set_option maxRecDepth 20000 in
theorem ggX8_turn_X8_refuse : GoodIn wsX8_turn wsX8_refuse := goodIn_r _ [9, 1, 100, 101, 102, 103, 104, 105, 106, 107, 108, 109, 110, 111, 112, 113, 114, 115, 116, 117, 118, 119, 120, 121, 122] (by decide +kernel) (by decide +kernel)
set_option maxRecDepth 20000 in
theorem gX8_turn_X8_refuse : GoodIn wsX8_turn (wsV RX8 99 RX8 yX8_refuse wsX8_refuse) := goodIn_app (goodIn_of _ (by decide +kernel)) ggX8_turn_X8_refuse
set_option maxRecDepth 20000 in
theorem ggX8_turn_X8_smoothAll : GoodIn wsX8_turn wsX8_smoothAll := goodIn_r _ [13, 14, 15, 16, 17, 18, 4, 19, 20, 21, 22, 23, 24, 25, 26, 27, 28, 29, 30, 31, 32, 33, 34, 35, 36, 37, 38, 39, 40, 41, 42, 43, 44, 45, 46, 47, 48, 49, 50, 51, 52, 53, 54, 55, 56, 57, 58, 59, 60, 61, 62, 63, 64, 65, 66, 67, 68, 69, 70, 71, 72, 73, 74, 75, 76, 77, 78, 79, 80, 81, 82, 83, 84, 85, 86, 87, 88, 89, 90, 91, 92, 100, 101, 102, 103, 104, 105, 106, 107, 108, 109, 110, 111, 112, 113, 114, 115, 116, 117, 118, 119, 120, 121, 122] (by decide +kernel) (by decide +kernel)
set_option maxRecDepth 20000 in
theorem gX8_turn_X8_smoothAll : GoodIn wsX8_turn (wsV RX8 190 RX8 yX8_smoothAll wsX8_smoothAll) := goodIn_app (goodIn_of _ (by decide +kernel)) ggX8_turn_X8_smoothAll
set_option maxRecDepth 20000 in
theorem ggX8_turn_X8_isTurn : GoodIn wsX8_turn wsX8_isTurn := goodIn_r _ [96, 15, 97, 98, 32, 99, 41, 42, 43, 100, 101, 102, 103, 104, 105, 106, 107, 108, 109, 110, 111, 112, 113, 114, 115, 116, 117, 118, 119, 120, 121, 122] (by decide +kernel) (by decide +kernel)
set_option maxRecDepth 20000 in
theorem gX8_turn_X8_isTurn : GoodIn wsX8_turn (wsV RX8 197 RX8 yX8_isTurn wsX8_isTurn) := goodIn_app (goodIn_of _ (by decide +kernel)) ggX8_turn_X8_isTurn
theorem dX8_turn_0 : decode cX8_turn 0 = .ok (.iload_n 2, 1) := by decide +kernel
theorem dX8_turn_1 : decode cX8_turn 1 = .ok (.invokestatic 187, 3) := by decide +kernel
theorem dX8_turn_4 : decode cX8_turn 4 = .ok (.ifCond .eq 14, 3) := by decide +kernel
theorem dX8_turn_7 : decode cX8_turn 7 = .ok (.iload_n 3, 1) := by decide +kernel
theorem dX8_turn_8 : decode cX8_turn 8 = .ok (.iconst 1, 1) := by decide +kernel
theorem dX8_turn_9 : decode cX8_turn 9 = .ok (.if_icmp .lt 9, 3) := by decide +kernel
theorem dX8_turn_12 : decode cX8_turn 12 = .ok (.iload_n 3, 1) := by decide +kernel
theorem dX8_turn_13 : decode cX8_turn 13 = .ok (.bipush 8, 2) := by decide +kernel
theorem dX8_turn_15 : decode cX8_turn 15 = .ok (.if_icmp .le 9, 3) := by decide +kernel
theorem dX8_turn_18 : decode cX8_turn 18 = .ok (.aload_n 0, 1) := by decide +kernel
theorem dX8_turn_19 : decode cX8_turn 19 = .ok (.iconst 1, 1) := by decide +kernel
theorem dX8_turn_20 : decode cX8_turn 20 = .ok (.invokevirtual 99, 3) := by decide +kernel
theorem dX8_turn_23 : decode cX8_turn 23 = .ok (.ireturn, 1) := by decide +kernel
theorem dX8_turn_24 : decode cX8_turn 24 = .ok (.aload_n 0, 1) := by decide +kernel
theorem dX8_turn_25 : decode cX8_turn 25 = .ok (.iload_n 2, 1) := by decide +kernel
theorem dX8_turn_26 : decode cX8_turn 26 = .ok (.invokevirtual 190, 3) := by decide +kernel
theorem dX8_turn_29 : decode cX8_turn 29 = .ok (.iload_n 1, 1) := by decide +kernel
theorem dX8_turn_30 : decode cX8_turn 30 = .ok (.istore 5, 2) := by decide +kernel
theorem dX8_turn_32 : decode cX8_turn 32 = .ok (.iconst 0, 1) := by decide +kernel
theorem dX8_turn_33 : decode cX8_turn 33 = .ok (.istore 6, 2) := by decide +kernel
theorem dX8_turn_35 : decode cX8_turn 35 = .ok (.iload 6, 2) := by decide +kernel
theorem dX8_turn_37 : decode cX8_turn 37 = .ok (.bipush 24, 2) := by decide +kernel
theorem dX8_turn_39 : decode cX8_turn 39 = .ok (.if_icmp .ge 44, 3) := by decide +kernel
theorem dX8_turn_42 : decode cX8_turn 42 = .ok (.iload_n 1, 1) := by decide +kernel
theorem dX8_turn_43 : decode cX8_turn 43 = .ok (.ifCond .lt 40, 3) := by decide +kernel
theorem dX8_turn_46 : decode cX8_turn 46 = .ok (.aload_n 0, 1) := by decide +kernel
theorem dX8_turn_47 : decode cX8_turn 47 = .ok (.iload 6, 2) := by decide +kernel
theorem dX8_turn_49 : decode cX8_turn 49 = .ok (.iload_n 3, 1) := by decide +kernel
theorem dX8_turn_50 : decode cX8_turn 50 = .ok (.iload 4, 2) := by decide +kernel
theorem dX8_turn_52 : decode cX8_turn 52 = .ok (.invokevirtual 197, 3) := by decide +kernel
theorem dX8_turn_55 : decode cX8_turn 55 = .ok (.ifCond .ne 6, 3) := by decide +kernel
theorem dX8_turn_58 : decode cX8_turn 58 = .ok (.goto 19, 3) := by decide +kernel
theorem dX8_turn_61 : decode cX8_turn 61 = .ok (.iload 5, 2) := by decide +kernel
theorem dX8_turn_63 : decode cX8_turn 63 = .ok (.ifCond .ne 11, 3) := by decide +kernel
theorem dX8_turn_66 : decode cX8_turn 66 = .ok (.aload_n 0, 1) := by decide +kernel
theorem dX8_turn_67 : decode cX8_turn 67 = .ok (.iconst 0, 1) := by decide +kernel
theorem dX8_turn_68 : decode cX8_turn 68 = .ok (.putfield 73, 3) := by decide +kernel
theorem dX8_turn_71 : decode cX8_turn 71 = .ok (.iload 6, 2) := by decide +kernel
theorem dX8_turn_73 : decode cX8_turn 73 = .ok (.ireturn, 1) := by decide +kernel
theorem dX8_turn_74 : decode cX8_turn 74 = .ok (.iinc 5 (-1), 3) := by decide +kernel
theorem dX8_turn_77 : decode cX8_turn 77 = .ok (.iinc 6 1, 3) := by decide +kernel
theorem dX8_turn_80 : decode cX8_turn 80 = .ok (.goto (-45), 3) := by decide +kernel
theorem dX8_turn_83 : decode cX8_turn 83 = .ok (.aload_n 0, 1) := by decide +kernel
theorem dX8_turn_84 : decode cX8_turn 84 = .ok (.bipush 6, 2) := by decide +kernel
theorem dX8_turn_86 : decode cX8_turn 86 = .ok (.invokevirtual 99, 3) := by decide +kernel
theorem dX8_turn_89 : decode cX8_turn 89 = .ok (.ireturn, 1) := by decide +kernel
set_option maxRecDepth 20000 in
theorem ggX8_change_X8_isMonth : GoodIn wsX8_change wsX8_isMonth := goodIn_r _ [6] (by decide +kernel) (by decide +kernel)
set_option maxRecDepth 20000 in
theorem gX8_change_X8_isMonth : GoodIn wsX8_change (va_wsS RX8 181 yX8_isMonth wsX8_isMonth) := goodIn_app (goodIn_of _ (by decide +kernel)) ggX8_change_X8_isMonth
set_option maxRecDepth 20000 in
theorem ggX8_change_X8_isEye : GoodIn wsX8_change wsX8_isEye := goodIn_r _ [10, 11, 88, 89, 90, 91, 92, 93, 94, 95, 96, 97, 98, 99, 100, 101, 102, 103, 104, 105, 106, 107, 108, 109, 110] (by decide +kernel) (by decide +kernel)
set_option maxRecDepth 20000 in
theorem gX8_change_X8_isEye : GoodIn wsX8_change (wsV RX8 110 RX8 yX8_isEye wsX8_isEye) := goodIn_app (goodIn_of _ (by decide +kernel)) ggX8_change_X8_isEye
set_option maxRecDepth 20000 in
theorem ggX8_change_X8_refuse : GoodIn wsX8_change wsX8_refuse := goodIn_r _ [15, 2, 88, 89, 90, 91, 92, 93, 94, 95, 96, 97, 98, 99, 100, 101, 102, 103, 104, 105, 106, 107, 108, 109, 110] (by decide +kernel) (by decide +kernel)
end
section
set_option maxRecDepth 20000 in
theorem gX8_change_X8_refuse : GoodIn wsX8_change (wsV RX8 99 RX8 yX8_refuse wsX8_refuse) := goodIn_app (goodIn_of _ (by decide +kernel)) ggX8_change_X8_refuse
set_option maxRecDepth 20000 in
theorem ggX8_change_X8_weigh : GoodIn wsX8_change wsX8_weigh := goodIn_r _ [19, 11, 20, 21, 22, 23, 5, 24, 25, 26, 27, 28, 29, 30, 31, 32, 33, 34, 35, 36, 37, 38, 39, 40, 41, 42, 43, 44, 45, 46, 47, 48, 49, 50, 51, 52, 53, 54, 55, 56, 57, 58, 59, 60, 61, 62, 63, 64, 65, 1, 66, 67, 68, 69, 70, 71, 72, 73, 74, 75, 76, 77, 78, 88, 89, 90, 91, 92, 93, 94, 95, 96, 97, 98, 99, 100, 101, 102, 103, 104, 105, 106, 107, 108, 109, 110] (by decide +kernel) (by decide +kernel)
set_option maxRecDepth 20000 in
theorem gX8_change_X8_weigh : GoodIn wsX8_change (wsV RX8 175 RX8 yX8_weigh wsX8_weigh) := goodIn_app (goodIn_of _ (by decide +kernel)) ggX8_change_X8_weigh
set_option maxRecDepth 20000 in
theorem ggX8_change_X8_monthOf : GoodIn wsX8_change wsX8_monthOf := goodIn_r _ [82, 83, 84, 85, 86, 5, 87, 11, 20, 62, 63, 64, 65, 1, 66, 67, 68, 69, 70, 71, 72, 73, 74, 88, 89, 90, 91, 92, 93, 94, 95, 96, 97, 98, 99, 100, 101, 102, 103, 104, 105, 106, 107, 108, 109, 110] (by decide +kernel) (by decide +kernel)
set_option maxRecDepth 20000 in
theorem gX8_change_X8_monthOf : GoodIn wsX8_change (wsV RX8 184 RX8 yX8_monthOf wsX8_monthOf) := goodIn_app (goodIn_of _ (by decide +kernel)) ggX8_change_X8_monthOf
theorem dX8_change_0 : decode cX8_change 0 = .ok (.iload_n 1, 1) := by decide +kernel
theorem dX8_change_1 : decode cX8_change 1 = .ok (.invokestatic 181, 3) := by decide +kernel
theorem dX8_change_4 : decode cX8_change 4 = .ok (.ifCond .eq 15, 3) := by decide +kernel
theorem dX8_change_7 : decode cX8_change 7 = .ok (.aload_n 0, 1) := by decide +kernel
theorem dX8_change_8 : decode cX8_change 8 = .ok (.iload_n 2, 1) := by decide +kernel
theorem dX8_change_9 : decode cX8_change 9 = .ok (.invokevirtual 110, 3) := by decide +kernel
theorem dX8_change_12 : decode cX8_change 12 = .ok (.ifCond .eq 7, 3) := by decide +kernel
theorem dX8_change_15 : decode cX8_change 15 = .ok (.iload_n 2, 1) := by decide +kernel
theorem dX8_change_16 : decode cX8_change 16 = .ok (.ifCond .ne 9, 3) := by decide +kernel
theorem dX8_change_19 : decode cX8_change 19 = .ok (.aload_n 0, 1) := by decide +kernel
theorem dX8_change_20 : decode cX8_change 20 = .ok (.iconst 1, 1) := by decide +kernel
theorem dX8_change_21 : decode cX8_change 21 = .ok (.invokevirtual 99, 3) := by decide +kernel
theorem dX8_change_24 : decode cX8_change 24 = .ok (.ireturn, 1) := by decide +kernel
theorem dX8_change_25 : decode cX8_change 25 = .ok (.aload_n 0, 1) := by decide +kernel
theorem dX8_change_26 : decode cX8_change 26 = .ok (.invokevirtual 175, 3) := by decide +kernel
theorem dX8_change_29 : decode cX8_change 29 = .ok (.aload_n 0, 1) := by decide +kernel
theorem dX8_change_30 : decode cX8_change 30 = .ok (.iload_n 1, 1) := by decide +kernel
theorem dX8_change_31 : decode cX8_change 31 = .ok (.invokevirtual 184, 3) := by decide +kernel
theorem dX8_change_34 : decode cX8_change 34 = .ok (.istore_n 3, 1) := by decide +kernel
theorem dX8_change_35 : decode cX8_change 35 = .ok (.aload_n 0, 1) := by decide +kernel
theorem dX8_change_36 : decode cX8_change 36 = .ok (.iload_n 2, 1) := by decide +kernel
theorem dX8_change_37 : decode cX8_change 37 = .ok (.putfield 37, 3) := by decide +kernel
theorem dX8_change_40 : decode cX8_change 40 = .ok (.aload_n 0, 1) := by decide +kernel
theorem dX8_change_41 : decode cX8_change 41 = .ok (.invokevirtual 175, 3) := by decide +kernel
theorem dX8_change_44 : decode cX8_change 44 = .ok (.aload_n 0, 1) := by decide +kernel
theorem dX8_change_45 : decode cX8_change 45 = .ok (.iload_n 1, 1) := by decide +kernel
theorem dX8_change_46 : decode cX8_change 46 = .ok (.invokevirtual 184, 3) := by decide +kernel
theorem dX8_change_49 : decode cX8_change 49 = .ok (.istore 4, 2) := by decide +kernel
theorem dX8_change_51 : decode cX8_change 51 = .ok (.aload_n 0, 1) := by decide +kernel
theorem dX8_change_52 : decode cX8_change 52 = .ok (.iconst (-1), 1) := by decide +kernel
theorem dX8_change_53 : decode cX8_change 53 = .ok (.putfield 37, 3) := by decide +kernel
theorem dX8_change_56 : decode cX8_change 56 = .ok (.iload_n 3, 1) := by decide +kernel
theorem dX8_change_57 : decode cX8_change 57 = .ok (.iconst (-1), 1) := by decide +kernel
theorem dX8_change_58 : decode cX8_change 58 = .ok (.if_icmp .eq 9, 3) := by decide +kernel
theorem dX8_change_61 : decode cX8_change 61 = .ok (.iload 4, 2) := by decide +kernel
theorem dX8_change_63 : decode cX8_change 63 = .ok (.iconst (-1), 1) := by decide +kernel
theorem dX8_change_64 : decode cX8_change 64 = .ok (.if_icmp .ne 9, 3) := by decide +kernel
theorem dX8_change_67 : decode cX8_change 67 = .ok (.aload_n 0, 1) := by decide +kernel
theorem dX8_change_68 : decode cX8_change 68 = .ok (.iconst 5, 1) := by decide +kernel
theorem dX8_change_69 : decode cX8_change 69 = .ok (.invokevirtual 99, 3) := by decide +kernel
theorem dX8_change_72 : decode cX8_change 72 = .ok (.ireturn, 1) := by decide +kernel
theorem dX8_change_73 : decode cX8_change 73 = .ok (.aload_n 0, 1) := by decide +kernel
theorem dX8_change_74 : decode cX8_change 74 = .ok (.iconst 0, 1) := by decide +kernel
theorem dX8_change_75 : decode cX8_change 75 = .ok (.putfield 73, 3) := by decide +kernel
theorem dX8_change_78 : decode cX8_change 78 = .ok (.iload_n 3, 1) := by decide +kernel
theorem dX8_change_79 : decode cX8_change 79 = .ok (.iload 4, 2) := by decide +kernel
theorem dX8_change_81 : decode cX8_change 81 = .ok (.isub, 1) := by decide +kernel
theorem dX8_change_82 : decode cX8_change 82 = .ok (.ireturn, 1) := by decide +kernel
theorem dJ9_max_7cf53_0 : decode cJ9_max_7cf53 0 = .ok (.iload_n 0, 1) := by decide +kernel
theorem dJ9_max_7cf53_1 : decode cJ9_max_7cf53 1 = .ok (.iload_n 1, 1) := by decide +kernel
theorem dJ9_max_7cf53_2 : decode cJ9_max_7cf53 2 = .ok (.if_icmp .lt 7, 3) := by decide +kernel
theorem dJ9_max_7cf53_5 : decode cJ9_max_7cf53 5 = .ok (.iload_n 0, 1) := by decide +kernel
theorem dJ9_max_7cf53_6 : decode cJ9_max_7cf53 6 = .ok (.goto 4, 3) := by decide +kernel
theorem dJ9_max_7cf53_9 : decode cJ9_max_7cf53 9 = .ok (.iload_n 1, 1) := by decide +kernel
theorem dJ9_max_7cf53_10 : decode cJ9_max_7cf53 10 = .ok (.ireturn, 1) := by decide +kernel
theorem dJ9_min_7cf53_0 : decode cJ9_min_7cf53 0 = .ok (.iload_n 0, 1) := by decide +kernel
theorem dJ9_min_7cf53_1 : decode cJ9_min_7cf53 1 = .ok (.iload_n 1, 1) := by decide +kernel
theorem dJ9_min_7cf53_2 : decode cJ9_min_7cf53 2 = .ok (.if_icmp .gt 7, 3) := by decide +kernel
theorem dJ9_min_7cf53_5 : decode cJ9_min_7cf53 5 = .ok (.iload_n 0, 1) := by decide +kernel
theorem dJ9_min_7cf53_6 : decode cJ9_min_7cf53 6 = .ok (.goto 4, 3) := by decide +kernel
theorem dJ9_min_7cf53_9 : decode cJ9_min_7cf53 9 = .ok (.iload_n 1, 1) := by decide +kernel
theorem dJ9_min_7cf53_10 : decode cJ9_min_7cf53 10 = .ok (.ireturn, 1) := by decide +kernel
theorem dJ9_min_f86c9_0 : decode cJ9_min_f86c9 0 = .ok (.lload_n 0, 1) := by decide +kernel
theorem dJ9_min_f86c9_1 : decode cJ9_min_f86c9 1 = .ok (.lload_n 2, 1) := by decide +kernel
theorem dJ9_min_f86c9_2 : decode cJ9_min_f86c9 2 = .ok (.lcmp, 1) := by decide +kernel
theorem dJ9_min_f86c9_3 : decode cJ9_min_f86c9 3 = .ok (.ifCond .gt 7, 3) := by decide +kernel
theorem dJ9_min_f86c9_6 : decode cJ9_min_f86c9 6 = .ok (.lload_n 0, 1) := by decide +kernel
theorem dJ9_min_f86c9_7 : decode cJ9_min_f86c9 7 = .ok (.goto 4, 3) := by decide +kernel
theorem dJ9_min_f86c9_10 : decode cJ9_min_f86c9 10 = .ok (.lload_n 2, 1) := by decide +kernel
theorem dJ9_min_f86c9_11 : decode cJ9_min_f86c9 11 = .ok (.lreturn, 1) := by decide +kernel
theorem dJ7_rangeCheck_23922_0 : decode cJ7_rangeCheck_23922 0 = .ok (.iload_n 1, 1) := by decide +kernel
theorem dJ7_rangeCheck_23922_1 : decode cJ7_rangeCheck_23922 1 = .ok (.iload_n 2, 1) := by decide +kernel
theorem dJ7_rangeCheck_23922_2 : decode cJ7_rangeCheck_23922 2 = .ok (.if_icmp .le 44, 3) := by decide +kernel
theorem dJ7_rangeCheck_23922_5 : decode cJ7_rangeCheck_23922 5 = .ok (.new 43, 3) := by decide +kernel
theorem dJ7_rangeCheck_23922_8 : decode cJ7_rangeCheck_23922 8 = .ok (.dup, 1) := by decide +kernel
theorem dJ7_rangeCheck_23922_9 : decode cJ7_rangeCheck_23922 9 = .ok (.new 45, 3) := by decide +kernel
theorem dJ7_rangeCheck_23922_12 : decode cJ7_rangeCheck_23922 12 = .ok (.dup, 1) := by decide +kernel
theorem dJ7_rangeCheck_23922_13 : decode cJ7_rangeCheck_23922 13 = .ok (.invokespecial 47, 3) := by decide +kernel
theorem dJ7_rangeCheck_23922_16 : decode cJ7_rangeCheck_23922 16 = .ok (.ldc 48, 2) := by decide +kernel
theorem dJ7_rangeCheck_23922_18 : decode cJ7_rangeCheck_23922 18 = .ok (.invokevirtual 50, 3) := by decide +kernel
theorem dJ7_rangeCheck_23922_21 : decode cJ7_rangeCheck_23922 21 = .ok (.iload_n 1, 1) := by decide +kernel
theorem dJ7_rangeCheck_23922_22 : decode cJ7_rangeCheck_23922 22 = .ok (.invokevirtual 54, 3) := by decide +kernel
theorem dJ7_rangeCheck_23922_25 : decode cJ7_rangeCheck_23922 25 = .ok (.ldc 57, 2) := by decide +kernel
theorem dJ7_rangeCheck_23922_27 : decode cJ7_rangeCheck_23922 27 = .ok (.invokevirtual 50, 3) := by decide +kernel
theorem dJ7_rangeCheck_23922_30 : decode cJ7_rangeCheck_23922 30 = .ok (.iload_n 2, 1) := by decide +kernel
theorem dJ7_rangeCheck_23922_31 : decode cJ7_rangeCheck_23922 31 = .ok (.invokevirtual 54, 3) := by decide +kernel
theorem dJ7_rangeCheck_23922_34 : decode cJ7_rangeCheck_23922 34 = .ok (.ldc 59, 2) := by decide +kernel
theorem dJ7_rangeCheck_23922_36 : decode cJ7_rangeCheck_23922 36 = .ok (.invokevirtual 50, 3) := by decide +kernel
theorem dJ7_rangeCheck_23922_39 : decode cJ7_rangeCheck_23922 39 = .ok (.invokevirtual 61, 3) := by decide +kernel
theorem dJ7_rangeCheck_23922_42 : decode cJ7_rangeCheck_23922 42 = .ok (.invokespecial 65, 3) := by decide +kernel
theorem dJ7_rangeCheck_23922_45 : decode cJ7_rangeCheck_23922 45 = .ok (.athrow, 1) := by decide +kernel
theorem dJ7_rangeCheck_23922_46 : decode cJ7_rangeCheck_23922 46 = .ok (.iload_n 1, 1) := by decide +kernel
theorem dJ7_rangeCheck_23922_47 : decode cJ7_rangeCheck_23922 47 = .ok (.ifCond .ge 12, 3) := by decide +kernel
theorem dJ7_rangeCheck_23922_50 : decode cJ7_rangeCheck_23922 50 = .ok (.new 68, 3) := by decide +kernel
theorem dJ7_rangeCheck_23922_53 : decode cJ7_rangeCheck_23922 53 = .ok (.dup, 1) := by decide +kernel
theorem dJ7_rangeCheck_23922_54 : decode cJ7_rangeCheck_23922 54 = .ok (.iload_n 1, 1) := by decide +kernel
theorem dJ7_rangeCheck_23922_55 : decode cJ7_rangeCheck_23922 55 = .ok (.invokespecial 70, 3) := by decide +kernel
theorem dJ7_rangeCheck_23922_58 : decode cJ7_rangeCheck_23922 58 = .ok (.athrow, 1) := by decide +kernel
theorem dJ7_rangeCheck_23922_59 : decode cJ7_rangeCheck_23922 59 = .ok (.iload_n 2, 1) := by decide +kernel
theorem dJ7_rangeCheck_23922_60 : decode cJ7_rangeCheck_23922 60 = .ok (.iload_n 0, 1) := by decide +kernel
theorem dJ7_rangeCheck_23922_61 : decode cJ7_rangeCheck_23922 61 = .ok (.if_icmp .le 12, 3) := by decide +kernel
theorem dJ7_rangeCheck_23922_64 : decode cJ7_rangeCheck_23922 64 = .ok (.new 68, 3) := by decide +kernel
theorem dJ7_rangeCheck_23922_67 : decode cJ7_rangeCheck_23922 67 = .ok (.dup, 1) := by decide +kernel
theorem dJ7_rangeCheck_23922_68 : decode cJ7_rangeCheck_23922 68 = .ok (.iload_n 2, 1) := by decide +kernel
theorem dJ7_rangeCheck_23922_69 : decode cJ7_rangeCheck_23922 69 = .ok (.invokespecial 70, 3) := by decide +kernel
theorem dJ7_rangeCheck_23922_72 : decode cJ7_rangeCheck_23922 72 = .ok (.athrow, 1) := by decide +kernel
theorem dJ7_rangeCheck_23922_73 : decode cJ7_rangeCheck_23922 73 = .ok (.return_, 1) := by decide +kernel
set_option maxRecDepth 20000 in
theorem ggJ7_fill_bad5a_J7_rangeCheck_23922 : GoodIn wsJ7_fill_bad5a wsJ7_rangeCheck_23922 := goodIn_r _ [4] (by decide +kernel) (by decide +kernel)
set_option maxRecDepth 20000 in
theorem gJ7_fill_bad5a_J7_rangeCheck_23922 : GoodIn wsJ7_fill_bad5a (va_wsS RJ7 13 yJ7_rangeCheck_23922 wsJ7_rangeCheck_23922) := goodIn_app (goodIn_of _ (by decide +kernel)) ggJ7_fill_bad5a_J7_rangeCheck_23922
theorem dJ7_fill_bad5a_0 : decode cJ7_fill_bad5a 0 = .ok (.aload_n 0, 1) := by decide +kernel
theorem dJ7_fill_bad5a_1 : decode cJ7_fill_bad5a 1 = .ok (.arraylength, 1) := by decide +kernel
theorem dJ7_fill_bad5a_2 : decode cJ7_fill_bad5a 2 = .ok (.iload_n 1, 1) := by decide +kernel
theorem dJ7_fill_bad5a_3 : decode cJ7_fill_bad5a 3 = .ok (.iload_n 2, 1) := by decide +kernel
theorem dJ7_fill_bad5a_4 : decode cJ7_fill_bad5a 4 = .ok (.invokestatic 13, 3) := by decide +kernel
theorem dJ7_fill_bad5a_7 : decode cJ7_fill_bad5a 7 = .ok (.iload_n 1, 1) := by decide +kernel
theorem dJ7_fill_bad5a_8 : decode cJ7_fill_bad5a 8 = .ok (.istore 5, 2) := by decide +kernel
theorem dJ7_fill_bad5a_10 : decode cJ7_fill_bad5a 10 = .ok (.iload 5, 2) := by decide +kernel
theorem dJ7_fill_bad5a_12 : decode cJ7_fill_bad5a 12 = .ok (.iload_n 2, 1) := by decide +kernel
theorem dJ7_fill_bad5a_13 : decode cJ7_fill_bad5a 13 = .ok (.if_icmp .ge 14, 3) := by decide +kernel
theorem dJ7_fill_bad5a_16 : decode cJ7_fill_bad5a 16 = .ok (.aload_n 0, 1) := by decide +kernel
theorem dJ7_fill_bad5a_17 : decode cJ7_fill_bad5a 17 = .ok (.iload 5, 2) := by decide +kernel
theorem dJ7_fill_bad5a_19 : decode cJ7_fill_bad5a 19 = .ok (.lload_n 3, 1) := by decide +kernel
theorem dJ7_fill_bad5a_20 : decode cJ7_fill_bad5a 20 = .ok (.lastore, 1) := by decide +kernel
theorem dJ7_fill_bad5a_21 : decode cJ7_fill_bad5a 21 = .ok (.iinc 5 1, 3) := by decide +kernel
theorem dJ7_fill_bad5a_24 : decode cJ7_fill_bad5a 24 = .ok (.goto (-14), 3) := by decide +kernel
theorem dJ7_fill_bad5a_27 : decode cJ7_fill_bad5a 27 = .ok (.return_, 1) := by decide +kernel
theorem dJ7_fill_53178_0 : decode cJ7_fill_53178 0 = .ok (.iconst 0, 1) := by decide +kernel
theorem dJ7_fill_53178_1 : decode cJ7_fill_53178 1 = .ok (.istore_n 2, 1) := by decide +kernel
theorem dJ7_fill_53178_2 : decode cJ7_fill_53178 2 = .ok (.aload_n 0, 1) := by decide +kernel
theorem dJ7_fill_53178_3 : decode cJ7_fill_53178 3 = .ok (.arraylength, 1) := by decide +kernel
theorem dJ7_fill_53178_4 : decode cJ7_fill_53178 4 = .ok (.istore_n 3, 1) := by decide +kernel
theorem dJ7_fill_53178_5 : decode cJ7_fill_53178 5 = .ok (.iload_n 2, 1) := by decide +kernel
theorem dJ7_fill_53178_6 : decode cJ7_fill_53178 6 = .ok (.iload_n 3, 1) := by decide +kernel
theorem dJ7_fill_53178_7 : decode cJ7_fill_53178 7 = .ok (.if_icmp .ge 13, 3) := by decide +kernel
theorem dJ7_fill_53178_10 : decode cJ7_fill_53178 10 = .ok (.aload_n 0, 1) := by decide +kernel
theorem dJ7_fill_53178_11 : decode cJ7_fill_53178 11 = .ok (.iload_n 2, 1) := by decide +kernel
theorem dJ7_fill_53178_12 : decode cJ7_fill_53178 12 = .ok (.iload_n 1, 1) := by decide +kernel
theorem dJ7_fill_53178_13 : decode cJ7_fill_53178 13 = .ok (.iastore, 1) := by decide +kernel
theorem dJ7_fill_53178_14 : decode cJ7_fill_53178 14 = .ok (.iinc 2 1, 3) := by decide +kernel
theorem dJ7_fill_53178_17 : decode cJ7_fill_53178 17 = .ok (.goto (-12), 3) := by decide +kernel
theorem dJ7_fill_53178_20 : decode cJ7_fill_53178 20 = .ok (.return_, 1) := by decide +kernel
abbrev vwCl : List vw_C := [(RX0, TX0, 4), (RX1, TX1, 2), (RX2, TX2, 3), (RX3, TX3, 3), (RX4, TX4, 6), (RX5, TX5, 5), (RX6, TX6, 3), (RX7, TX7, 8), (RX8, TX8, 23)]
end
section
/-! own library: what every contract speaks of, rows for calls, compares on numbers -/
abbrev tyz (cI cJ : ClassId) : List (ClassId × FieldType) := [(cI, .int), (cJ, .long)]
def nnw : List Cond := [
  .fieldLinkNest "SpotRows" 112 "SpotRows$Tellings" "eyes" "I" "SpotRows",
  .fieldLinkNest "SpotRows" 153 "SpotRows$Tellings" "least" "I" "SpotRows",
  .fieldLinkNest "SpotRows" 156 "SpotRows$Row" "enough" "I" "SpotRows",
  .fieldLinkNest "SpotRows" 175 "SpotRows$Ratios" "many" "I" "SpotRows",
  .fieldLinkNest "SpotRows" 181 "SpotRows$Ratios" "uppers" "[I" "SpotRows",
  .fieldLinkNest "SpotRows" 185 "SpotRows$Ratios" "lowers" "[I" "SpotRows",
  .fieldLinkNest "SpotRows" 198 "SpotRows$Steps" "blockSums" "[I" "SpotRows",
  .fieldLinkNest "SpotRows" 201 "SpotRows$Steps" "blockDays" "[I" "SpotRows",
  .fieldLinkNest "SpotRows" 214 "SpotRows$Chains" "links" "[I" "SpotRows",
  .fieldLinkNest "SpotRows" 220 "SpotRows$Chains" "way" "[I" "SpotRows",
  .fieldLinkNest "SpotRows" 223 "SpotRows$Chains" "weights" "[I" "SpotRows",
  .fieldLinkNest "SpotRows" 62 "SpotRows$Fraction" "upper" "J" "SpotRows",
  .fieldLinkNest "SpotRows" 66 "SpotRows$Fraction" "lower" "J" "SpotRows",
  .fieldLinkNest "SpotRows$Chains" 30 "SpotRows$Tellings" "eyes" "I" "SpotRows",
  .fieldLinkNest "SpotRows$Row" 22 "SpotRows$Tellings" "eyes" "I" "SpotRows",
  .fieldLinkNest "SpotRows$Row" 27 "SpotRows$Chains" "weights" "[I" "SpotRows",
  .methodLinkNest "SpotRows$Tellings" 34 yX7_isWithin "SpotRows",
  .methodLinkNest "SpotRows$Trays" 28 yX7_isWithin "SpotRows"]
def NN (U : State) : Prop := ∀ w ∈ nnw, va_Nw w U
theorem NN_same {u U : State} (h : u.vm = U.vm) (hZ : NN u) : NN U := by
  intro w hw
  have h2 := hZ w hw
  simp only [nnw, List.mem_cons, List.not_mem_nil, or_false] at hw
  rcases hw with rfl | rfl | rfl | rfl | rfl | rfl | rfl | rfl | rfl | rfl | rfl | rfl | rfl | rfl | rfl | rfl | rfl | rfl <;> exact va_Nw.same rfl h h2
theorem NN_warm {s U : State} (hW : s.WarmedH U.vm) (hZ : NN s) : NN U := by
  intro w hw
  have h2 := hZ w hw
  simp only [nnw, List.mem_cons, List.not_mem_nil, or_false] at hw
  rcases hw with rfl | rfl | rfl | rfl | rfl | rfl | rfl | rfl | rfl | rfl | rfl | rfl | rfl | rfl | rfl | rfl | rfl | rfl <;> first | exact va_Nw.warmF hW h2 | exact va_Nw.warmM hW h2
/-- what is known of the classes, wherever a method of the system runs -/
def KK (G : va_G) (cI cJ : ClassId) (U : State) : Prop := va_K G vwCl (tyz cI cJ) U ∧ NN U ∧ U.vm.findClass "[I" = some cI ∧ U.vm.findClass "[J" = some cJ
theorem KK_call {G : va_G} {cI cJ : ClassId} {U : State} (a : Array Value) (g : JFrame) (mk) (h : KK G cI cJ U) : KK G cI cJ (U.calling g mk a) :=
  ⟨va_K.moved (u := U) (U := U.calling g mk a) (Vm.Alike.refl U.vm) h.1, NN_same (u := U) rfl h.2.1, h.2.2.1, h.2.2.2⟩
theorem KK_warm {G : va_G} {cI cJ : ClassId} {s U : State} (hW : s.WarmedH U.vm) (h : KK G cI cJ s) : KK G cI cJ U :=
  ⟨va_K.moved hW.alike h.1, NN_warm hW h.2.1, by rw [hW.alike.findClass]; exact h.2.2.1, by rw [hW.alike.findClass]; exact h.2.2.2⟩
def roP (G : va_G) (cI cJ : ClassId) (av : List Value) (ws : va_W) : Array Value → State → Prop := va_Pc av (fun U => va_P G vwCl ws U.heap ∧ KK G cI cJ U)
def rwP (G : va_G) (cI cJ : ClassId) (av : List Value) (ws : va_W) : Array Value → State → Prop := va_Pc av (fun U => va_P G vwCl ws U.heap ∧ va_D (fun _ => True) ws ∧ KK G cI cJ U)
/-- the addresses of a list of cells -/
def ads (ws : va_W) : Nat → Prop := fun q => ∃ (k : Nat) (e : va_E), ws[k]? = some (q, e)
abbrev rwQv (G : va_G) (ws : va_W) {S : Type} (post : S → Prop) (wf : S → va_W) : Array Value → State → Outcome → State → Prop := va_Qv post (fun u t => va_P G vwCl (wf u) t.heap) (ads ws)
abbrev rwQi (G : va_G) (ws : va_W) {S : Type} (post : Int32 → S → Prop) (wf : S → va_W) : Array Value → State → Outcome → State → Prop := va_Qi post (fun u t => va_P G vwCl (wf u) t.heap) (ads ws)
abbrev rwQl (G : va_G) (ws : va_W) {S : Type} (post : Int64 → S → Prop) (wf : S → va_W) : Array Value → State → Outcome → State → Prop := va_Ql post (fun u t => va_P G vwCl (wf u) t.heap) (ads ws)
theorem roP_blind {G : va_G} {cI cJ : ClassId} {av : List Value} {ws : va_W} : FrameBlind (roP G cI cJ av ws) := fun a U g mk q => by
  obtain ⟨q0, qP, qK⟩ := q
  exact ⟨q0, qP, KK_call a g mk qK⟩
theorem rwP_blind {G : va_G} {cI cJ : ClassId} {av : List Value} {ws : va_W} : FrameBlind (rwP G cI cJ av ws) := fun a U g mk q => by
  obtain ⟨q0, qP, qD, qK⟩ := q
  exact ⟨q0, qP, qD, KK_call a g mk qK⟩
theorem subP {D : va_G} {cl : List vw_C} {ws wc : va_W} {H : Heap} (hP : va_P D cl ws H) (is : List Nat) (hs : is.map (fun i => ws[i]?) = wc.map some) : va_P D cl wc H := by
  intro k q hq
  have h1 : (is.map (fun i => ws[i]?))[k]? = some (some q) := by rw [hs, List.getElem?_map, hq]; rfl
  rw [List.getElem?_map] at h1
  cases hi : is[k]? with
  | none => rw [hi] at h1; cases h1
  | some i => rw [hi] at h1; exact hP i q (Option.some.inj h1)
/-- the list of cells with those at the places 'is' put anew -/
def rep : va_W → List Nat → va_W → va_W
  | ws, i :: is, c :: w => rep (ws.set i c) is w
  | ws, _, _ => ws
theorem rep_get : ∀ (is : List Nat) (w ws : va_W) (k : Nat) (q : Nat × va_E), is.length = w.length → (rep ws is w)[k]? = some q → (∃ j : Nat, is[j]? = some k ∧ w[j]? = some q) ∨ (k ∉ is ∧ ws[k]? = some q)
  | [], [], ws, k, q, _, h => Or.inr ⟨List.not_mem_nil, h⟩
  | [], _ :: _, _, _, _, hl, _ => by simp at hl
  | _ :: _, [], _, _, _, hl, _ => by simp at hl
  | i :: is, c :: w, ws, k, q, hl, h => by
    rcases rep_get is w (ws.set i c) k q (by simpa using hl) h with ⟨j, h1, h2⟩ | ⟨h1, h2⟩
    · exact Or.inl ⟨j + 1, by simpa using h1, by simpa using h2⟩
    · rw [List.getElem?_set] at h2
      by_cases e : i = k
      · subst e
        rw [if_pos rfl] at h2
        split at h2
        · exact Or.inl ⟨0, rfl, by simpa using h2⟩
        · cases h2
      · rw [if_neg e] at h2
        refine Or.inr ⟨fun hm => ?_, h2⟩
        rcases List.mem_cons.mp hm with z | z
        · exact e z.symm
        · exact h1 z
theorem rep_ad : ∀ (is : List Nat) (w ws : va_W), is.map (fun i => ws[i]?.map (·.1)) = w.map (fun c => some c.1) → ∀ k : Nat, (rep ws is w)[k]?.map (·.1) = ws[k]?.map (·.1)
  | [], _, ws, _, k => by unfold rep; rfl
  | _ :: _, [], ws, h, k => by simp at h
  | i :: is, c :: w, ws, h, k => by
    rw [List.map_cons, List.map_cons, List.cons.injEq] at h
    have key : ∀ k : Nat, (ws.set i c)[k]?.map (·.1) = ws[k]?.map (·.1) := by
      intro k
      rw [List.getElem?_set]
      by_cases e : i = k
      · subst e
        rw [if_pos rfl, h.1]
        split
        · rfl
        · rename_i hlt
          have h1 := h.1
          rw [List.getElem?_eq_none (by omega)] at h1
          cases h1
      · rw [if_neg e]
    have h2 := rep_ad is w (ws.set i c) (by rw [← h.2]; exact List.map_congr_left (fun j _ => key j)) k
    unfold rep
    rw [h2, key k]
theorem va_rep {A : Nat → Prop} {D : va_G} {cl : List vw_C} {ws wc w1 : va_W} {H H1 : Heap} (hP : va_P D cl ws H) (hD : va_D A ws) (is : List Nat) (hC : is.map (fun i => ws[i]?) = wc.map some) (ha : w1.map (·.1) = wc.map (·.1))
    (hk : ∀ q : Nat, q < H.size → ¬ ads wc q → H1[q]? = H[q]?) (hP1 : va_P D cl w1 H1) : va_P D cl (rep ws is w1) H1 ∧ va_D A (rep ws is w1) := by
  have hl1 : is.length = w1.length := by
    have h1 := congrArg List.length hC
    have h2 := congrArg List.length ha
    simp only [List.length_map] at h1 h2
    omega
  have had : is.map (fun i => ws[i]?.map (·.1)) = w1.map (fun c => some c.1) := by
    have h1 : is.map (fun i => ws[i]?.map (·.1)) = (is.map (fun i => ws[i]?)).map (fun o => o.map (·.1)) := by rw [List.map_map]; rfl
    have h2 : w1.map (fun c => some c.1) = (w1.map (·.1)).map some := by rw [List.map_map]; rfl
    rw [h1, hC, h2, ha, List.map_map, List.map_map]; rfl
  have hads : ∀ (k : Nat) (q : Nat × va_E), (rep ws is w1)[k]? = some q → ∃ q0, ws[k]? = some q0 ∧ q0.1 = q.1 := by
    intro k q hq
    have h := rep_ad is w1 ws had k
    rw [hq] at h
    cases hw : ws[k]? with
    | none => rw [hw] at h; cases h
    | some q0 => rw [hw] at h; exact ⟨q0, rfl, (Option.some.inj h).symm⟩
  refine ⟨fun k q hq => ?_, ?_, fun k q hq => ?_⟩
  · rcases rep_get is w1 ws k q hl1 hq with ⟨j, h1, h2⟩ | ⟨h1, h2⟩
    · exact hP1 j q h2
    · refine (hP k q h2).kept (hk q.1 ((hP k q h2).lt) ?_)
      rintro ⟨j, e, hj⟩
      have h3 : (is.map (fun i => ws[i]?))[j]? = some (some (q.1, e)) := by rw [hC, List.getElem?_map, hj]; rfl
      rw [List.getElem?_map] at h3
      cases hi : is[j]? with
      | none => rw [hi] at h3; cases h3
      | some i =>
        rw [hi] at h3
        have h4 : ws[i]? = some (q.1, e) := Option.some.inj h3
        have := hD.1 i k (q.1, e) q h4 h2 rfl
        subst this
        exact h1 (List.mem_of_getElem? hi)
  · intro i j p q hp hq hpq
    obtain ⟨p0, h1, h2⟩ := hads i p hp
    obtain ⟨q0, h3, h4⟩ := hads j q hq
    exact hD.1 i j p0 q0 h1 h3 (by rw [h2, h4, hpq])
  · obtain ⟨q0, h1, h2⟩ := hads k q hq
    rw [← h2]
    exact hD.2 k q0 h1
theorem ads_self {A : Nat → Prop} {ws : va_W} (h : va_D A ws) : va_D (ads ws) ws := ⟨h.1, fun k q hq => ⟨k, q.2, hq⟩⟩
theorem ads_in {A : Nat → Prop} {ws wc : va_W} (hD : va_D A ws) (is : List Nat) (hC : is.map (fun i => ws[i]?) = wc.map some) : ∀ q, ads wc q → A q := by
  rintro q ⟨j, e, hj⟩
  have h3 : (is.map (fun i => ws[i]?))[j]? = some (some (q, e)) := by rw [hC, List.getElem?_map, hj]; rfl
  rw [List.getElem?_map] at h3
  cases hi : is[j]? with
  | none => rw [hi] at h3; cases h3
  | some i =>
    rw [hi] at h3
    exact hD.2 i _ (Option.some.inj h3)
theorem subD {A : Nat → Prop} {ws wc : va_W} (hD : va_D A ws) (is : List Nat) (hn : va_nd is = true) (hC : is.map (fun i => ws[i]?) = wc.map some) : va_D (fun _ => True) wc := (hD.sub is hn hC).weaken (fun _ _ _ _ => trivial)
section LIB
variable {p : Program} {l : Launch} {e : Env} {R : Room} {s : State} {m : MethodId} {args : Array Value} {below : List Frame} {meth : Method} {c : Code} {H : Heap} {locs : List Loc} {cells slots : Nat} {Q : State → Prop} {pc : Nat} {ls : Array Slot} {rest st0 : List Value} {a : Array Value}
theorem toi {v v' : Int32} (h : v = v') (k : W p l e R s m args below meth c H locs cells slots Q (F0 m pc ls (.int v' :: rest))) : W p l e R s m args below meth c H locs cells slots Q (F0 m pc ls (.int v :: rest)) := by rw [h]; exact k
theorem tol {v v' : Int64} (h : v = v') (k : W p l e R s m args below meth c H locs cells slots Q (F0 m pc ls (.long v' :: rest))) : W p l e R s m args below meth c H locs cells slots Q (F0 m pc ls (.long v :: rest)) := by rw [h]; exact k
/-- a call that changes nothing -/
theorem cro_i {v : Int32} (hr : va_Run p l e R s m args below meth c H locs cells slots 0 0 (F0 m pc ls st0) rest (vp_Si (fun r => r = v) a) (fun _ => False))
    (kk : W p l e R s m args below meth c H locs cells slots Q (F0 m (pc + 3) ls (.int v :: rest))) : W p l e R s m args below meth c H locs cells slots Q (F0 m pc ls st0) := by
  intro T hT X
  obtain ⟨v1, st₀, t, T', L, h0, X', hL, e1, -, ⟨r, hv, hp, hh⟩, st⟩ := hr T hT X
  cases hv
  subst hp
  have hL0 : L = [] := List.eq_nil_iff_forall_not_mem.mpr (fun q hq => hL q hq)
  subst hL0
  rw [List.append_nil] at X'
  obtain ⟨t2, a1, b1⟩ := kk T' (by rw [e1, hh, h0]) X'
  exact ⟨t2, st t2 a1, b1⟩
theorem cro_l {v : Int64} (hr : va_Run p l e R s m args below meth c H locs cells slots 0 0 (F0 m pc ls st0) rest (vp_Sl (fun r => r = v) a) (fun _ => False))
    (kk : W p l e R s m args below meth c H locs cells slots Q (F0 m (pc + 3) ls (.long v :: rest))) : W p l e R s m args below meth c H locs cells slots Q (F0 m pc ls st0) := by
  intro T hT X
  obtain ⟨v1, st₀, t, T', L, h0, X', hL, e1, -, ⟨r, hv, hp, hh⟩, st⟩ := hr T hT X
  cases hv
  subst hp
  have hL0 : L = [] := List.eq_nil_iff_forall_not_mem.mpr (fun q hq => hL q hq)
  subst hL0
  rw [List.append_nil] at X'
  obtain ⟨t2, a1, b1⟩ := kk T' (by rw [e1, hh, h0]) X'
  exact ⟨t2, st t2 a1, b1⟩
variable {G : va_G} {cI cJ : ClassId} {ws wc : va_W} {A : Nat → Prop} {H0 : Heap}
theorem preV_ro {As : List Value} {C : String} {b : Nat} {q : vw_C} {fs : List Value} (hK : KK G cI cJ s) (hP : va_P G vwCl ws H) (is : List Nat) (hs : is.map (fun i => ws[i]?) = wc.map some) (ci q0 : Nat) (hc : vwCl[ci]? = some q) (he : ws[q0]? = some (b, .inr (ci, fs))) (hC : q.1 = C) : PreV s H C b (roP G cI cJ (.ref b :: As) wc) As :=
  ⟨roP_blind, by rw [← hC]; exact va_recv hK.1 hP hc he, fun U hU hW => ⟨rfl, by rw [hU]; exact subP hP is hs, KK_warm hW hK⟩⟩
theorem preS_ro {As : List Value} (hK : KK G cI cJ s) (hP : va_P G vwCl ws H) (is : List Nat) (hs : is.map (fun i => ws[i]?) = wc.map some) : PreS s H (roP G cI cJ As wc) As :=
  ⟨roP_blind, fun U hU hW => ⟨rfl, by rw [hU]; exact subP hP is hs, KK_warm hW hK⟩⟩
theorem preV_rw {As : List Value} {C : String} {b : Nat} {q : vw_C} {fs : List Value} (hK : KK G cI cJ s) (hP : va_P G vwCl ws H) (hD : va_D A ws) (is : List Nat) (hn : va_nd is = true) (hs : is.map (fun i => ws[i]?) = wc.map some) (ci q0 : Nat) (hc : vwCl[ci]? = some q) (he : ws[q0]? = some (b, .inr (ci, fs))) (hC : q.1 = C) : PreV s H C b (rwP G cI cJ (.ref b :: As) wc) As :=
  ⟨rwP_blind, by rw [← hC]; exact va_recv hK.1 hP hc he, fun U hU hW => ⟨rfl, by rw [hU]; exact subP hP is hs, subD hD is hn hs, KK_warm hW hK⟩⟩
theorem preS_rw {As : List Value} (hK : KK G cI cJ s) (hP : va_P G vwCl ws H) (hD : va_D A ws) (is : List Nat) (hn : va_nd is = true) (hs : is.map (fun i => ws[i]?) = wc.map some) : PreS s H (rwP G cI cJ As wc) As :=
  ⟨rwP_blind, fun U hU hW => ⟨rfl, by rw [hU]; exact subP hP is hs, subD hD is hn hs, KK_warm hW hK⟩⟩
/-- a call that writes in its own cells -/
theorem crw_v {S : Type} {post : S → Prop} {wf : S → va_W} {free : Addr → Prop} (hr : va_Run p l e R s m args below meth c H locs cells slots 0 0 (F0 m pc ls st0) rest (rwQv G wc post wf a) (ads wc)) (hP : va_P G vwCl ws H) (hD : va_D A ws) (hS : va_S A H0 H locs) (is : List Nat) (hs : is.map (fun i => ws[i]?) = wc.map some) (ad : List Nat) (ha : ∀ u, (wf u).map (·.1) = ad) (hc : wc.map (·.1) = ad)
    (kk : ∀ (u : S) (H1 : Heap) (locs1 : List Loc), post u → va_P G vwCl (rep ws is (wf u)) H1 → va_D A (rep ws is (wf u)) → va_S A H0 H1 locs1 → W p l e R s m args below meth c H1 locs1 cells slots Q (F0 m (pc + 3) ls rest)) : W p l e R s m args below meth c H locs cells slots Q (F0 m pc ls st0) := by
  refine va_callv hr hS (fun q _ h => ads_in hD is hs q h) (ads_in hD is hs) (fun u t H1 locs1 ht hvm hw hB hz1 hk1 hS1 => ?_)
  subst ht
  obtain ⟨h1, h2⟩ := va_rep hP hD is hs ((ha u).trans hc.symm) hk1 hB
  exact kk u _ _ hw h1 h2 hS1
theorem crw_i {S : Type} {post : Int32 → S → Prop} {wf : S → va_W} (hr : va_Run p l e R s m args below meth c H locs cells slots 0 0 (F0 m pc ls st0) rest (rwQi G wc post wf a) (ads wc)) (hP : va_P G vwCl ws H) (hD : va_D A ws) (hS : va_S A H0 H locs) (is : List Nat) (hs : is.map (fun i => ws[i]?) = wc.map some) (ad : List Nat) (ha : ∀ u, (wf u).map (·.1) = ad) (hc : wc.map (·.1) = ad)
    (kk : ∀ (r : Int32) (u : S) (H1 : Heap) (locs1 : List Loc), post r u → va_P G vwCl (rep ws is (wf u)) H1 → va_D A (rep ws is (wf u)) → va_S A H0 H1 locs1 → W p l e R s m args below meth c H1 locs1 cells slots Q (F0 m (pc + 3) ls (.int r :: rest))) : W p l e R s m args below meth c H locs cells slots Q (F0 m pc ls st0) := by
  refine va_calli hr hS (fun q _ h => ads_in hD is hs q h) (ads_in hD is hs) (fun r u t H1 locs1 ht hvm hw hB hz1 hk1 hS1 => ?_)
  subst ht
  obtain ⟨h1, h2⟩ := va_rep hP hD is hs ((ha u).trans hc.symm) hk1 hB
  exact kk r u _ _ hw h1 h2 hS1
theorem crw_l {S : Type} {post : Int64 → S → Prop} {wf : S → va_W} (hr : va_Run p l e R s m args below meth c H locs cells slots 0 0 (F0 m pc ls st0) rest (rwQl G wc post wf a) (ads wc)) (hP : va_P G vwCl ws H) (hD : va_D A ws) (hS : va_S A H0 H locs) (is : List Nat) (hs : is.map (fun i => ws[i]?) = wc.map some) (ad : List Nat) (ha : ∀ u, (wf u).map (·.1) = ad) (hc : wc.map (·.1) = ad)
    (kk : ∀ (r : Int64) (u : S) (H1 : Heap) (locs1 : List Loc), post r u → va_P G vwCl (rep ws is (wf u)) H1 → va_D A (rep ws is (wf u)) → va_S A H0 H1 locs1 → W p l e R s m args below meth c H1 locs1 cells slots Q (F0 m (pc + 3) ls (.long r :: rest))) : W p l e R s m args below meth c H locs cells slots Q (F0 m pc ls st0) := by
  refine va_calll hr hS (fun q _ h => ads_in hD is hs q h) (ads_in hD is hs) (fun r u t H1 locs1 ht hvm hw hB hz1 hk1 hS1 => ?_)
  subst ht
  obtain ⟨h1, h2⟩ := va_rep hP hD is hs ((ha u).trans hc.symm) hk1 hB
  exact kk r u _ _ hw h1 h2 hS1
end LIB
end
section
/-! cells of the class (book a) and of the reference (book b); numbers in Nat: nI n, oI n (0: NONE), bi P -/
abbrev aI (cI : ClassId) (q n : Nat) (f : Nat → Int32) : Nat × va_E := (q, .inl (cI, n, .inl f))
abbrev aJ (cJ : ClassId) (q n : Nat) (f : Nat → Int64) : Nat × va_E := (q, .inl (cJ, n, .inr (.inl f)))
abbrev oX (a : Nat → Nat) (oc : Int32) : Nat × va_E := (a 0, .inr (7, [.ref (a 1), .ref (a 2), .ref (a 3), .ref (a 4), .ref (a 5), .ref (a 6), .ref (a 7), .int oc]))
abbrev oTr (a : Nat → Nat) : Nat × va_E := (a 1, .inr (6, [.ref (a 8), .ref (a 9), .ref (a 10)]))
abbrev oTe (a : Nat → Nat) (ey le : Int32) : Nat × va_E := (a 2, .inr (5, [.ref (a 11), .ref (a 12), .ref (a 13), .int ey, .int le]))
abbrev oRa (a : Nat → Nat) (mn : Int32) : Nat × va_E := (a 3, .inr (2, [.ref (a 14), .ref (a 15), .int mn]))
abbrev oSt (a : Nat → Nat) (bl : Int32) : Nat × va_E := (a 4, .inr (4, [.ref (a 16), .ref (a 17), .ref (a 18), .ref (a 19), .ref (a 20), .int bl]))
abbrev oCh (a : Nat → Nat) : Nat × va_E := (a 5, .inr (0, [.ref (a 21), .ref (a 22), .ref (a 23), .ref (a 24)]))
abbrev oRo (a : Nat → Nat) (en : Int32) : Nat × va_E := (a 6, .inr (3, [.ref (a 25), .ref (a 26), .int en]))
abbrev oFr (a : Nat → Nat) (up lo : Int64) : Nat × va_E := (a 7, .inr (1, [.long up, .long lo]))
abbrev oM (b : Nat → Nat) (st : Int32) (tp bt : Int64) (ey le en wo : Int32) : Nat × va_E := (b 0, .inr (8, [.int st, .long tp, .long bt, .ref (b 1), .ref (b 2), .ref (b 3), .int ey, .int le, .int en, .ref (b 4), .ref (b 5), .int wo, .ref (b 6), .ref (b 7), .ref (b 8), .ref (b 9), .ref (b 10), .ref (b 11), .ref (b 12), .ref (b 13), .ref (b 14), .ref (b 15), .ref (b 16)]))
def oI (n : Nat) : Int32 := nI n - 1
noncomputable def bi (P : Prop) : Int32 := @ite _ P (Classical.propDecidable P) 1 0
def nF (g : Nat → Nat) : Nat → Int32 := fun i => nI (g i)
def oF (g : Nat → Nat) : Nat → Int32 := fun i => oI (g i)
def upN {α : Type} (g : Nat → α) (k : Nat) (v : α) : Nat → α := fun j => if j = k then v else g j
def nn (x : Int32) : Nat := x.toNatClampNeg
abbrev rg (x : Int32) (k : Nat) : Prop := 0 ≤ x.toInt ∧ x.toInt < (k : Int)
theorem oI_0 : oI 0 = -1 := by decide
theorem oI_s (n : Nat) : oI (n + 1) = nI n := by unfold oI; exact nI_pred n
theorem oI_pos {n : Nat} (h : n ≠ 0) : oI n = nI (n - 1) := by
  obtain ⟨k, rfl⟩ : ∃ k, n = k + 1 := ⟨n - 1, by omega⟩
  exact oI_s k
theorem nI_o (n : Nat) : nI n = oI (n + 1) := (oI_s n).symm
theorem m1_o : (-1 : Int32) = oI 0 := oI_0.symm
theorem oI_toInt {n : Nat} (h : n ≤ 2 ^ 31) : (oI n).toInt = (n : Int) - 1 := by
  rcases Nat.eq_zero_or_pos n with e | e
  · subst e; decide
  · rw [oI_pos (by omega), nI_toInt (by omega)]; omega
theorem oI_eqm1 {n : Nat} (h : n ≤ 2 ^ 31) : oI n = -1 ↔ n = 0 := by
  constructor
  · intro e
    have h1 := congrArg Int32.toInt e
    rw [oI_toInt h] at h1
    have h2 : (-1 : Int32).toInt = -1 := by decide
    omega
  · intro e; subst e; exact oI_0
theorem bi_t {P : Prop} (h : P) : bi P = 1 := if_pos h
theorem bi_f {P : Prop} (h : ¬ P) : bi P = 0 := if_neg h
theorem bi_0 {P : Prop} : bi P = 0 ↔ ¬ P := by
  by_cases h : P
  · rw [bi_t h]; exact ⟨fun e => absurd e (by decide), fun e => absurd h e⟩
  · rw [bi_f h]; exact ⟨fun _ => h, fun _ => rfl⟩
theorem bi_nar {P : Prop} : narrow .boolean (.int (bi P)) = .int (bi P) := by
  by_cases h : P
  · rw [bi_t h]; rfl
  · rw [bi_f h]; rfl
theorem bi_cong {P Q : Prop} (h : P ↔ Q) : bi P = bi Q := by
  by_cases hp : P
  · rw [bi_t hp, bi_t (h.mp hp)]
  · rw [bi_f hp, bi_f (fun q => hp (h.mpr q))]
theorem rg_ex {x : Int32} {k : Nat} (h : rg x k) : ∃ j : Nat, j < k ∧ x = nI j := by
  have h0 : ¬ x < 0 := by
    intro hx
    have h1 := Int32.lt_iff_toInt_lt.mp hx
    have h2 : (0 : Int32).toInt = 0 := by decide
    have := h.1
    omega
  obtain ⟨j, hj, rfl⟩ := nI_of h0
  refine ⟨j, ?_, rfl⟩
  have := h.2
  rw [nI_toInt hj] at this
  omega
theorem rg_nI {j k : Nat} (h : j < k) (hk : k ≤ 2 ^ 31) : rg (nI j) k := by
  unfold rg
  rw [nI_toInt (by omega)]
  omega
theorem rg_nIiff {j k : Nat} (hj : j < 2 ^ 31) : rg (nI j) k ↔ j < k := by
  unfold rg
  rw [nI_toInt hj]
  omega
theorem nn_nI {j : Nat} (h : j < 2 ^ 31) : nn (nI j) = j := nI_clamp h
theorem updnF {g : Nat → Nat} {k v : Nat} : upd (nF g) k (nI v) = nF (upN g k v) := by
  funext j
  unfold upd nF upN
  split <;> rfl
theorem updoF {g : Nat → Nat} {k v : Nat} : upd (oF g) k (oI v) = oF (upN g k v) := by
  funext j
  unfold upd oF upN
  split <;> rfl
theorem lN_ne0 {n : Nat} (h0 : 0 < n) (h : n < 2 ^ 63) : ¬ lN n = 0 := fun e => by
  have := (pk_lEQ (b := 0) h (by decide)).mp e
  omega
theorem minI {a b : Nat} (ha : a < 2 ^ 31) (hb : b < 2 ^ 31) : (if nI b < nI a then nI b else nI a) = nI (min a b) := by
  by_cases h : b < a
  · rw [if_pos ((nI_ltI hb ha).mpr h), Nat.min_eq_right (by omega)]
  · rw [if_neg (fun e => h ((nI_ltI hb ha).mp e)), Nat.min_eq_left (by omega)]
theorem maxI {a b : Nat} (ha : a < 2 ^ 31) (hb : b < 2 ^ 31) : (if nI a < nI b then nI b else nI a) = nI (max a b) := by
  by_cases h : a < b
  · rw [if_pos ((nI_ltI ha hb).mpr h), Nat.max_eq_right (by omega)]
  · rw [if_neg (fun e => h ((nI_ltI ha hb).mp e)), Nat.max_eq_left (by omega)]
theorem minL {a b : Nat} (ha : a < 2 ^ 63) (hb : b < 2 ^ 63) : (if lN b < lN a then lN b else lN a) = lN (min a b) := by
  by_cases h : b < a
  · rw [if_pos ((pk_lLT hb ha).mpr h), Nat.min_eq_right (by omega)]
  · rw [if_neg (fun e => h ((pk_lLT hb ha).mp e)), Nat.min_eq_left (by omega)]
theorem upN_s {α : Type} {g : Nat → α} {k : Nat} {v : α} : upN g k v k = v := if_pos rfl
theorem upN_n {α : Type} {g : Nat → α} {k j : Nat} {v : α} (h : j ≠ k) : upN g k v j = g j := if_neg h
theorem lvI {i : Nat} {x y : Int32} {l l' : List (Nat × Value)} (h : x = y) (hl : l = l') : (i, Value.int x) :: l = (i, Value.int y) :: l' := by rw [h, hl]
theorem lvL {i : Nat} {x y : Int64} {l l' : List (Nat × Value)} (h : x = y) (hl : l = l') : (i, Value.long x) :: l = (i, Value.long y) :: l' := by rw [h, hl]
theorem lvC {q : Nat × Value} {l l' : List (Nat × Value)} (hl : l = l') : q :: l = q :: l' := by rw [hl]
theorem lvcv {ls : Array Slot} {n : Nat} {l l' : List (Nat × Value)} (h : lv_has ls n l) (e : l = l') : lv_has ls n l' := e ▸ h
theorem wvC {q q' : Nat × va_E} {l l' : va_W} (h : q = q') (hl : l = l') : q :: l = q' :: l' := by rw [h, hl]
section ROWS
variable {p : Program} {l : Launch} {e : Env} {R : Room} {s : State} {m : MethodId} {args : Array Value} {below : List Frame} {meth : Method} {c : Code} {H : Heap} {locs : List Loc} {cells slots : Nat} {Q : State → Prop} {pc : Nat} {ls : Array Slot} {rest : List Value} {cc : ByteArray}
variable {G : va_G} {cI cJ : ClassId} {ws : va_W} {A : Nat → Prop} {H0 : Heap} {a : Nat}
theorem ld_nF (hx : p.tables.exec = Jvm.exec) (hb : c.code = cc) (hK : KK G cI cJ s) (hP : va_P G vwCl ws H) (q0 : Nat) {n k : Nat} {g : Nat → Nat} (ha : ws[q0]? = some (aI cI a n (nF g))) (hk : k < n) (hn : n < 2 ^ 31) (hdg : decode cc pc = .ok (.iaload, 1))
    (kk : W p l e R s m args below meth c H locs cells slots Q (F0 m (pc + 1) ls (.int (nI (g k)) :: rest))) : W p l e R s m args below meth c H locs cells slots Q (F0 m pc ls (.int (nI k) :: .ref a :: rest)) :=
  va_iald hx hb hK.1 hP q0 0 ha rfl (vp_in_nI hk hn) hdg (by rw [nI_clamp (by omega)]; exact kk)
theorem ld_oF (hx : p.tables.exec = Jvm.exec) (hb : c.code = cc) (hK : KK G cI cJ s) (hP : va_P G vwCl ws H) (q0 : Nat) {n k : Nat} {g : Nat → Nat} (ha : ws[q0]? = some (aI cI a n (oF g))) (hk : k < n) (hn : n < 2 ^ 31) (hdg : decode cc pc = .ok (.iaload, 1))
    (kk : W p l e R s m args below meth c H locs cells slots Q (F0 m (pc + 1) ls (.int (oI (g k)) :: rest))) : W p l e R s m args below meth c H locs cells slots Q (F0 m pc ls (.int (nI k) :: .ref a :: rest)) :=
  va_iald hx hb hK.1 hP q0 0 ha rfl (vp_in_nI hk hn) hdg (by rw [nI_clamp (by omega)]; exact kk)
theorem ld_I (hx : p.tables.exec = Jvm.exec) (hb : c.code = cc) (hK : KK G cI cJ s) (hP : va_P G vwCl ws H) (q0 : Nat) {n k : Nat} {f : Nat → Int32} (ha : ws[q0]? = some (aI cI a n f)) (hk : k < n) (hn : n < 2 ^ 31) (hdg : decode cc pc = .ok (.iaload, 1))
    (kk : W p l e R s m args below meth c H locs cells slots Q (F0 m (pc + 1) ls (.int (f k) :: rest))) : W p l e R s m args below meth c H locs cells slots Q (F0 m pc ls (.int (nI k) :: .ref a :: rest)) :=
  va_iald hx hb hK.1 hP q0 0 ha rfl (vp_in_nI hk hn) hdg (by rw [nI_clamp (by omega)]; exact kk)
theorem ld_J (hx : p.tables.exec = Jvm.exec) (hb : c.code = cc) (hK : KK G cI cJ s) (hP : va_P G vwCl ws H) (q0 : Nat) {n k : Nat} {f : Nat → Int64} (ha : ws[q0]? = some (aJ cJ a n f)) (hk : k < n) (hn : n < 2 ^ 31) (hdg : decode cc pc = .ok (.laload, 1))
    (kk : W p l e R s m args below meth c H locs cells slots Q (F0 m (pc + 1) ls (.long (f k) :: rest))) : W p l e R s m args below meth c H locs cells slots Q (F0 m pc ls (.int (nI k) :: .ref a :: rest)) :=
  va_lald hx hb hK.1 hP q0 1 ha rfl (vp_in_nI hk hn) hdg (by rw [nI_clamp (by omega)]; exact kk)
theorem st_nF (hx : p.tables.exec = Jvm.exec) (hb : c.code = cc) (hK : KK G cI cJ s) (hP : va_P G vwCl ws H) (hD : va_D A ws) (hS : va_S A H0 H locs) (q0 : Nat) {n k v : Nat} {g : Nat → Nat} (ha : ws[q0]? = some (aI cI a n (nF g))) (hk : k < n) (hn : n < 2 ^ 31) (hdg : decode cc pc = .ok (.iastore, 1))
    (kk : ∀ (H1 : Heap) (locs1 : List Loc), va_P G vwCl (ws.set q0 (aI cI a n (nF (upN g k v)))) H1 → va_D A (ws.set q0 (aI cI a n (nF (upN g k v)))) → va_S A H0 H1 locs1 → W p l e R s m args below meth c H1 locs1 cells slots Q (F0 m (pc + 1) ls rest)) : W p l e R s m args below meth c H locs cells slots Q (F0 m pc ls (.int (nI v) :: .int (nI k) :: .ref a :: rest)) :=
  va_iast hx hb hK.1 hP hD hS q0 0 ha rfl (vp_in_nI hk hn) hdg (fun H1 locs1 h1 h2 h3 => kk H1 locs1 (by rw [nI_clamp (by omega), updnF] at h1; exact h1) (by rw [nI_clamp (by omega), updnF] at h2; exact h2) h3)
theorem st_oF (hx : p.tables.exec = Jvm.exec) (hb : c.code = cc) (hK : KK G cI cJ s) (hP : va_P G vwCl ws H) (hD : va_D A ws) (hS : va_S A H0 H locs) (q0 : Nat) {n k v : Nat} {g : Nat → Nat} (ha : ws[q0]? = some (aI cI a n (oF g))) (hk : k < n) (hn : n < 2 ^ 31) (hdg : decode cc pc = .ok (.iastore, 1))
    (kk : ∀ (H1 : Heap) (locs1 : List Loc), va_P G vwCl (ws.set q0 (aI cI a n (oF (upN g k v)))) H1 → va_D A (ws.set q0 (aI cI a n (oF (upN g k v)))) → va_S A H0 H1 locs1 → W p l e R s m args below meth c H1 locs1 cells slots Q (F0 m (pc + 1) ls rest)) : W p l e R s m args below meth c H locs cells slots Q (F0 m pc ls (.int (oI v) :: .int (nI k) :: .ref a :: rest)) :=
  va_iast hx hb hK.1 hP hD hS q0 0 ha rfl (vp_in_nI hk hn) hdg (fun H1 locs1 h1 h2 h3 => kk H1 locs1 (by rw [nI_clamp (by omega), updoF] at h1; exact h1) (by rw [nI_clamp (by omega), updoF] at h2; exact h2) h3)
theorem st_I (hx : p.tables.exec = Jvm.exec) (hb : c.code = cc) (hK : KK G cI cJ s) (hP : va_P G vwCl ws H) (hD : va_D A ws) (hS : va_S A H0 H locs) (q0 : Nat) {n k : Nat} {v : Int32} {f : Nat → Int32} (ha : ws[q0]? = some (aI cI a n f)) (hk : k < n) (hn : n < 2 ^ 31) (hdg : decode cc pc = .ok (.iastore, 1))
    (kk : ∀ (H1 : Heap) (locs1 : List Loc), va_P G vwCl (ws.set q0 (aI cI a n (upN f k v))) H1 → va_D A (ws.set q0 (aI cI a n (upN f k v))) → va_S A H0 H1 locs1 → W p l e R s m args below meth c H1 locs1 cells slots Q (F0 m (pc + 1) ls rest)) : W p l e R s m args below meth c H locs cells slots Q (F0 m pc ls (.int v :: .int (nI k) :: .ref a :: rest)) :=
  va_iast hx hb hK.1 hP hD hS q0 0 ha rfl (vp_in_nI hk hn) hdg (fun H1 locs1 h1 h2 h3 => kk H1 locs1 (by rw [nI_clamp (by omega)] at h1; exact h1) (by rw [nI_clamp (by omega)] at h2; exact h2) h3)
theorem st_J (hx : p.tables.exec = Jvm.exec) (hb : c.code = cc) (hK : KK G cI cJ s) (hP : va_P G vwCl ws H) (hD : va_D A ws) (hS : va_S A H0 H locs) (q0 : Nat) {n k : Nat} {v : Int64} {f : Nat → Int64} (ha : ws[q0]? = some (aJ cJ a n f)) (hk : k < n) (hn : n < 2 ^ 31) (hdg : decode cc pc = .ok (.lastore, 1))
    (kk : ∀ (H1 : Heap) (locs1 : List Loc), va_P G vwCl (ws.set q0 (aJ cJ a n (upN f k v))) H1 → va_D A (ws.set q0 (aJ cJ a n (upN f k v))) → va_S A H0 H1 locs1 → W p l e R s m args below meth c H1 locs1 cells slots Q (F0 m (pc + 1) ls rest)) : W p l e R s m args below meth c H locs cells slots Q (F0 m pc ls (.long v :: .int (nI k) :: .ref a :: rest)) :=
  va_last hx hb hK.1 hP hD hS q0 1 ha rfl (vp_in_nI hk hn) hdg (fun H1 locs1 h1 h2 h3 => kk H1 locs1 (by rw [nI_clamp (by omega)] at h1; exact h1) (by rw [nI_clamp (by omega)] at h2; exact h2) h3)
theorem nv_icmp_eq (hexec : p.tables.exec = Jvm.exec) (hb : c.code = cc) {x y : Nat} {off : Int} {tgt : Nat} (hdg : decode cc pc = .ok (.if_icmp .eq off, 3)) (ht : (pc : Int) + off = (tgt : Int)) (hX : x < 2 ^ 31) (hY : y < 2 ^ 31)
    (kt : x = y → W p l e R s m args below meth c H locs cells slots Q (F0 m tgt ls rest)) (kf : x ≠ y → W p l e R s m args below meth c H locs cells slots Q (F0 m (pc + 3) ls rest)) : W p l e R s m args below meth c H locs cells slots Q (F0 m pc ls (.int (nI y) :: .int (nI x) :: rest)) :=
  lv_icmp_eq hexec hb hdg ht (fun h => kt ((nI_eq hX hY).mp h)) (fun h => kf (fun e => h ((nI_eq hX hY).mpr e)))
theorem nv_icmp_ne (hexec : p.tables.exec = Jvm.exec) (hb : c.code = cc) {x y : Nat} {off : Int} {tgt : Nat} (hdg : decode cc pc = .ok (.if_icmp .ne off, 3)) (ht : (pc : Int) + off = (tgt : Int)) (hX : x < 2 ^ 31) (hY : y < 2 ^ 31)
    (kt : x ≠ y → W p l e R s m args below meth c H locs cells slots Q (F0 m tgt ls rest)) (kf : x = y → W p l e R s m args below meth c H locs cells slots Q (F0 m (pc + 3) ls rest)) : W p l e R s m args below meth c H locs cells slots Q (F0 m pc ls (.int (nI y) :: .int (nI x) :: rest)) :=
  lv_icmp_ne hexec hb hdg ht (fun h => kt (fun e => h ((nI_eq hX hY).mpr e))) (fun h => kf ((nI_eq hX hY).mp h))
theorem nv_icmp_lt (hexec : p.tables.exec = Jvm.exec) (hb : c.code = cc) {x y : Nat} {off : Int} {tgt : Nat} (hdg : decode cc pc = .ok (.if_icmp .lt off, 3)) (ht : (pc : Int) + off = (tgt : Int)) (hX : x < 2 ^ 31) (hY : y < 2 ^ 31)
    (kt : x < y → W p l e R s m args below meth c H locs cells slots Q (F0 m tgt ls rest)) (kf : y ≤ x → W p l e R s m args below meth c H locs cells slots Q (F0 m (pc + 3) ls rest)) : W p l e R s m args below meth c H locs cells slots Q (F0 m pc ls (.int (nI y) :: .int (nI x) :: rest)) :=
  lv_icmp_lt hexec hb hdg ht (fun h => kt ((nI_ltI hX hY).mp h)) (fun h => kf (Nat.not_lt.mp (fun e => h ((nI_ltI hX hY).mpr e))))
theorem nv_icmp_ge (hexec : p.tables.exec = Jvm.exec) (hb : c.code = cc) {x y : Nat} {off : Int} {tgt : Nat} (hdg : decode cc pc = .ok (.if_icmp .ge off, 3)) (ht : (pc : Int) + off = (tgt : Int)) (hX : x < 2 ^ 31) (hY : y < 2 ^ 31)
    (kt : y ≤ x → W p l e R s m args below meth c H locs cells slots Q (F0 m tgt ls rest)) (kf : x < y → W p l e R s m args below meth c H locs cells slots Q (F0 m (pc + 3) ls rest)) : W p l e R s m args below meth c H locs cells slots Q (F0 m pc ls (.int (nI y) :: .int (nI x) :: rest)) :=
  lv_icmp_ge hexec hb hdg ht (fun h => kt ((nI_leI hY hX).mp h)) (fun h => kf (Nat.not_le.mp (fun e => h ((nI_leI hY hX).mpr e))))
theorem nv_icmp_gt (hexec : p.tables.exec = Jvm.exec) (hb : c.code = cc) {x y : Nat} {off : Int} {tgt : Nat} (hdg : decode cc pc = .ok (.if_icmp .gt off, 3)) (ht : (pc : Int) + off = (tgt : Int)) (hX : x < 2 ^ 31) (hY : y < 2 ^ 31)
    (kt : y < x → W p l e R s m args below meth c H locs cells slots Q (F0 m tgt ls rest)) (kf : x ≤ y → W p l e R s m args below meth c H locs cells slots Q (F0 m (pc + 3) ls rest)) : W p l e R s m args below meth c H locs cells slots Q (F0 m pc ls (.int (nI y) :: .int (nI x) :: rest)) :=
  lv_icmp_gt hexec hb hdg ht (fun h => kt ((nI_ltI hY hX).mp h)) (fun h => kf (Nat.not_lt.mp (fun e => h ((nI_ltI hY hX).mpr e))))
theorem nv_icmp_le (hexec : p.tables.exec = Jvm.exec) (hb : c.code = cc) {x y : Nat} {off : Int} {tgt : Nat} (hdg : decode cc pc = .ok (.if_icmp .le off, 3)) (ht : (pc : Int) + off = (tgt : Int)) (hX : x < 2 ^ 31) (hY : y < 2 ^ 31)
    (kt : x ≤ y → W p l e R s m args below meth c H locs cells slots Q (F0 m tgt ls rest)) (kf : y < x → W p l e R s m args below meth c H locs cells slots Q (F0 m (pc + 3) ls rest)) : W p l e R s m args below meth c H locs cells slots Q (F0 m pc ls (.int (nI y) :: .int (nI x) :: rest)) :=
  lv_icmp_le hexec hb hdg ht (fun h => kt ((nI_leI hX hY).mp h)) (fun h => kf (Nat.not_le.mp (fun e => h ((nI_leI hX hY).mpr e))))
theorem nv_if_eq (hexec : p.tables.exec = Jvm.exec) (hb : c.code = cc) {x : Nat} {off : Int} {tgt : Nat} (hdg : decode cc pc = .ok (.ifCond .eq off, 3)) (ht : (pc : Int) + off = (tgt : Int)) (hX : x < 2 ^ 31)
    (kt : x = 0 → W p l e R s m args below meth c H locs cells slots Q (F0 m tgt ls rest)) (kf : x ≠ 0 → W p l e R s m args below meth c H locs cells slots Q (F0 m (pc + 3) ls rest)) : W p l e R s m args below meth c H locs cells slots Q (F0 m pc ls (.int (nI x) :: rest)) :=
  lv_if_eq hexec hb hdg ht (fun h => kt ((nI_eq hX (by decide)).mp h)) (fun h => kf (fun e => h (by rw [e]; rfl)))
theorem nv_if_ne (hexec : p.tables.exec = Jvm.exec) (hb : c.code = cc) {x : Nat} {off : Int} {tgt : Nat} (hdg : decode cc pc = .ok (.ifCond .ne off, 3)) (ht : (pc : Int) + off = (tgt : Int)) (hX : x < 2 ^ 31)
    (kt : x ≠ 0 → W p l e R s m args below meth c H locs cells slots Q (F0 m tgt ls rest)) (kf : x = 0 → W p l e R s m args below meth c H locs cells slots Q (F0 m (pc + 3) ls rest)) : W p l e R s m args below meth c H locs cells slots Q (F0 m pc ls (.int (nI x) :: rest)) :=
  lv_if_ne hexec hb hdg ht (fun h => kt (fun e => h (by rw [e]; rfl))) (fun h => kf ((nI_eq hX (by decide)).mp h))
theorem nv_if_gt (hexec : p.tables.exec = Jvm.exec) (hb : c.code = cc) {x : Nat} {off : Int} {tgt : Nat} (hdg : decode cc pc = .ok (.ifCond .gt off, 3)) (ht : (pc : Int) + off = (tgt : Int)) (hX : x < 2 ^ 31)
    (kt : 0 < x → W p l e R s m args below meth c H locs cells slots Q (F0 m tgt ls rest)) (kf : x = 0 → W p l e R s m args below meth c H locs cells slots Q (F0 m (pc + 3) ls rest)) : W p l e R s m args below meth c H locs cells slots Q (F0 m pc ls (.int (nI x) :: rest)) :=
  lv_if_gt hexec hb hdg ht (fun h => kt ((nI_ltI (by decide) hX).mp h)) (fun h => kf ((Nat.eq_zero_or_pos x).elim id (fun e => absurd ((nI_ltI (by decide) hX).mpr e) h)))
theorem nv_if_le (hexec : p.tables.exec = Jvm.exec) (hb : c.code = cc) {x : Nat} {off : Int} {tgt : Nat} (hdg : decode cc pc = .ok (.ifCond .le off, 3)) (ht : (pc : Int) + off = (tgt : Int)) (hX : x < 2 ^ 31)
    (kt : x = 0 → W p l e R s m args below meth c H locs cells slots Q (F0 m tgt ls rest)) (kf : 0 < x → W p l e R s m args below meth c H locs cells slots Q (F0 m (pc + 3) ls rest)) : W p l e R s m args below meth c H locs cells slots Q (F0 m pc ls (.int (nI x) :: rest)) :=
  lv_if_le hexec hb hdg ht (fun h => kt (Nat.le_zero.mp ((nI_leI hX (by decide)).mp h))) (fun h => kf (Nat.pos_of_ne_zero (fun e => h (by rw [e]; exact Int32.le_refl _))))
theorem nv_if_lt (hexec : p.tables.exec = Jvm.exec) (hb : c.code = cc) {x : Nat} {off : Int} {tgt : Nat} (hdg : decode cc pc = .ok (.ifCond .lt off, 3)) (ht : (pc : Int) + off = (tgt : Int)) (hX : x < 2 ^ 31)
    (kf : W p l e R s m args below meth c H locs cells slots Q (F0 m (pc + 3) ls rest)) : W p l e R s m args below meth c H locs cells slots Q (F0 m pc ls (.int (nI x) :: rest)) :=
  lv_if_lt hexec hb hdg ht (fun h => absurd h (nI_pos hX)) (fun _ => kf)
theorem nv_if_ge (hexec : p.tables.exec = Jvm.exec) (hb : c.code = cc) {x : Nat} {off : Int} {tgt : Nat} (hdg : decode cc pc = .ok (.ifCond .ge off, 3)) (ht : (pc : Int) + off = (tgt : Int)) (hX : x < 2 ^ 31)
    (kt : W p l e R s m args below meth c H locs cells slots Q (F0 m tgt ls rest)) : W p l e R s m args below meth c H locs cells slots Q (F0 m pc ls (.int (nI x) :: rest)) :=
  lv_if_ge hexec hb hdg ht (fun _ => kt) (fun h => absurd (nI_pos' hX) h)
theorem nb_if_eq (hexec : p.tables.exec = Jvm.exec) (hb : c.code = cc) {P : Prop} {off : Int} {tgt : Nat} (hdg : decode cc pc = .ok (.ifCond .eq off, 3)) (ht : (pc : Int) + off = (tgt : Int))
    (kt : ¬ P → W p l e R s m args below meth c H locs cells slots Q (F0 m tgt ls rest)) (kf : P → W p l e R s m args below meth c H locs cells slots Q (F0 m (pc + 3) ls rest)) : W p l e R s m args below meth c H locs cells slots Q (F0 m pc ls (.int (bi P) :: rest)) :=
  lv_if_eq hexec hb hdg ht (fun h => kt (bi_0.mp h)) (fun h => kf (Classical.byContradiction (fun n => h (bi_0.mpr n))))
theorem nb_if_ne (hexec : p.tables.exec = Jvm.exec) (hb : c.code = cc) {P : Prop} {off : Int} {tgt : Nat} (hdg : decode cc pc = .ok (.ifCond .ne off, 3)) (ht : (pc : Int) + off = (tgt : Int))
    (kt : P → W p l e R s m args below meth c H locs cells slots Q (F0 m tgt ls rest)) (kf : ¬ P → W p l e R s m args below meth c H locs cells slots Q (F0 m (pc + 3) ls rest)) : W p l e R s m args below meth c H locs cells slots Q (F0 m pc ls (.int (bi P) :: rest)) :=
  lv_if_ne hexec hb hdg ht (fun h => kt (Classical.byContradiction (fun n => h (bi_0.mpr n)))) (fun h => kf (bi_0.mp h))
theorem no_icmp_eq (hexec : p.tables.exec = Jvm.exec) (hb : c.code = cc) {x : Nat} {off : Int} {tgt : Nat} (hdg : decode cc pc = .ok (.if_icmp .eq off, 3)) (ht : (pc : Int) + off = (tgt : Int)) (hX : x ≤ 2 ^ 31)
    (kt : x = 0 → W p l e R s m args below meth c H locs cells slots Q (F0 m tgt ls rest)) (kf : x ≠ 0 → W p l e R s m args below meth c H locs cells slots Q (F0 m (pc + 3) ls rest)) : W p l e R s m args below meth c H locs cells slots Q (F0 m pc ls (.int (-1) :: .int (oI x) :: rest)) :=
  lv_icmp_eq hexec hb hdg ht (fun h => kt ((oI_eqm1 hX).mp h)) (fun h => kf (fun e => h ((oI_eqm1 hX).mpr e)))
theorem no_icmp_ne (hexec : p.tables.exec = Jvm.exec) (hb : c.code = cc) {x : Nat} {off : Int} {tgt : Nat} (hdg : decode cc pc = .ok (.if_icmp .ne off, 3)) (ht : (pc : Int) + off = (tgt : Int)) (hX : x ≤ 2 ^ 31)
    (kt : x ≠ 0 → W p l e R s m args below meth c H locs cells slots Q (F0 m tgt ls rest)) (kf : x = 0 → W p l e R s m args below meth c H locs cells slots Q (F0 m (pc + 3) ls rest)) : W p l e R s m args below meth c H locs cells slots Q (F0 m pc ls (.int (-1) :: .int (oI x) :: rest)) :=
  lv_icmp_ne hexec hb hdg ht (fun h => kt (fun e => h ((oI_eqm1 hX).mpr e))) (fun h => kf ((oI_eqm1 hX).mp h))
theorem nl_if_eq (hexec : p.tables.exec = Jvm.exec) (hb : c.code = cc) {x y : Nat} {off : Int} {tgt : Nat} (hd0 : decode cc pc = .ok (.lcmp, 1)) (hdg : decode cc (pc + 1) = .ok (.ifCond .eq off, 3)) (ht : ((pc + 1 : Nat) : Int) + off = (tgt : Int)) (hX : x < 2 ^ 63) (hY : y < 2 ^ 63)
    (kt : x = y → W p l e R s m args below meth c H locs cells slots Q (F0 m tgt ls rest)) (kf : x ≠ y → W p l e R s m args below meth c H locs cells slots Q (F0 m (pc + 1 + 3) ls rest)) : W p l e R s m args below meth c H locs cells slots Q (F0 m pc ls (.long (lN y) :: .long (lN x) :: rest)) :=
  W.lcmp hexec hb hd0 (lv_if_eq hexec hb hdg ht (fun h => kt ((pk_lEQ hX hY).mp ((lg_cmp_eq _ _).mp h))) (fun h => kf (fun e => h ((lg_cmp_eq _ _).mpr ((pk_lEQ hX hY).mpr e)))))
theorem nl_if_ne (hexec : p.tables.exec = Jvm.exec) (hb : c.code = cc) {x y : Nat} {off : Int} {tgt : Nat} (hd0 : decode cc pc = .ok (.lcmp, 1)) (hdg : decode cc (pc + 1) = .ok (.ifCond .ne off, 3)) (ht : ((pc + 1 : Nat) : Int) + off = (tgt : Int)) (hX : x < 2 ^ 63) (hY : y < 2 ^ 63)
    (kt : x ≠ y → W p l e R s m args below meth c H locs cells slots Q (F0 m tgt ls rest)) (kf : x = y → W p l e R s m args below meth c H locs cells slots Q (F0 m (pc + 1 + 3) ls rest)) : W p l e R s m args below meth c H locs cells slots Q (F0 m pc ls (.long (lN y) :: .long (lN x) :: rest)) :=
  W.lcmp hexec hb hd0 (lv_if_ne hexec hb hdg ht (fun h => kt (fun e => h ((lg_cmp_eq _ _).mpr ((pk_lEQ hX hY).mpr e)))) (fun h => kf ((pk_lEQ hX hY).mp ((lg_cmp_eq _ _).mp h))))
theorem nl_if_lt (hexec : p.tables.exec = Jvm.exec) (hb : c.code = cc) {x y : Nat} {off : Int} {tgt : Nat} (hd0 : decode cc pc = .ok (.lcmp, 1)) (hdg : decode cc (pc + 1) = .ok (.ifCond .lt off, 3)) (ht : ((pc + 1 : Nat) : Int) + off = (tgt : Int)) (hX : x < 2 ^ 63) (hY : y < 2 ^ 63)
    (kt : x < y → W p l e R s m args below meth c H locs cells slots Q (F0 m tgt ls rest)) (kf : y ≤ x → W p l e R s m args below meth c H locs cells slots Q (F0 m (pc + 1 + 3) ls rest)) : W p l e R s m args below meth c H locs cells slots Q (F0 m pc ls (.long (lN y) :: .long (lN x) :: rest)) :=
  W.lcmp hexec hb hd0 (lv_if_lt hexec hb hdg ht (fun h => kt ((pk_lLT hX hY).mp ((lg_cmp_lt _ _).mp h))) (fun h => kf (Nat.not_lt.mp (fun e => h ((lg_cmp_lt _ _).mpr ((pk_lLT hX hY).mpr e))))))
theorem nl_if_ge (hexec : p.tables.exec = Jvm.exec) (hb : c.code = cc) {x y : Nat} {off : Int} {tgt : Nat} (hd0 : decode cc pc = .ok (.lcmp, 1)) (hdg : decode cc (pc + 1) = .ok (.ifCond .ge off, 3)) (ht : ((pc + 1 : Nat) : Int) + off = (tgt : Int)) (hX : x < 2 ^ 63) (hY : y < 2 ^ 63)
    (kt : y ≤ x → W p l e R s m args below meth c H locs cells slots Q (F0 m tgt ls rest)) (kf : x < y → W p l e R s m args below meth c H locs cells slots Q (F0 m (pc + 1 + 3) ls rest)) : W p l e R s m args below meth c H locs cells slots Q (F0 m pc ls (.long (lN y) :: .long (lN x) :: rest)) :=
  W.lcmp hexec hb hd0 (lv_if_ge hexec hb hdg ht (fun h => kt ((pk_lLE hY hX).mp ((lg_cmp_ge _ _).mp h))) (fun h => kf (Nat.not_le.mp (fun e => h ((lg_cmp_ge _ _).mpr ((pk_lLE hY hX).mpr e))))))
theorem nl_if_gt (hexec : p.tables.exec = Jvm.exec) (hb : c.code = cc) {x y : Nat} {off : Int} {tgt : Nat} (hd0 : decode cc pc = .ok (.lcmp, 1)) (hdg : decode cc (pc + 1) = .ok (.ifCond .gt off, 3)) (ht : ((pc + 1 : Nat) : Int) + off = (tgt : Int)) (hX : x < 2 ^ 63) (hY : y < 2 ^ 63)
    (kt : y < x → W p l e R s m args below meth c H locs cells slots Q (F0 m tgt ls rest)) (kf : x ≤ y → W p l e R s m args below meth c H locs cells slots Q (F0 m (pc + 1 + 3) ls rest)) : W p l e R s m args below meth c H locs cells slots Q (F0 m pc ls (.long (lN y) :: .long (lN x) :: rest)) :=
  W.lcmp hexec hb hd0 (lv_if_gt hexec hb hdg ht (fun h => kt ((pk_lLT hY hX).mp ((lg_cmp_gt _ _).mp h))) (fun h => kf (Nat.not_lt.mp (fun e => h ((lg_cmp_gt _ _).mpr ((pk_lLT hY hX).mpr e))))))
theorem nl_if_le (hexec : p.tables.exec = Jvm.exec) (hb : c.code = cc) {x y : Nat} {off : Int} {tgt : Nat} (hd0 : decode cc pc = .ok (.lcmp, 1)) (hdg : decode cc (pc + 1) = .ok (.ifCond .le off, 3)) (ht : ((pc + 1 : Nat) : Int) + off = (tgt : Int)) (hX : x < 2 ^ 63) (hY : y < 2 ^ 63)
    (kt : x ≤ y → W p l e R s m args below meth c H locs cells slots Q (F0 m tgt ls rest)) (kf : y < x → W p l e R s m args below meth c H locs cells slots Q (F0 m (pc + 1 + 3) ls rest)) : W p l e R s m args below meth c H locs cells slots Q (F0 m pc ls (.long (lN y) :: .long (lN x) :: rest)) :=
  W.lcmp hexec hb hd0 (lv_if_le hexec hb hdg ht (fun h => kt ((pk_lLE hX hY).mp ((lg_cmp_le _ _).mp h))) (fun h => kf (Nat.not_le.mp (fun e => h ((lg_cmp_le _ _).mpr ((pk_lLE hX hY).mpr e))))))
theorem rl_if_eq (hexec : p.tables.exec = Jvm.exec) (hb : c.code = cc) {x y : Int64} {off : Int} {tgt : Nat} (hd0 : decode cc pc = .ok (.lcmp, 1)) (hdg : decode cc (pc + 1) = .ok (.ifCond .eq off, 3)) (ht : ((pc + 1 : Nat) : Int) + off = (tgt : Int))
    (kt : x = y → W p l e R s m args below meth c H locs cells slots Q (F0 m tgt ls rest)) (kf : ¬ x = y → W p l e R s m args below meth c H locs cells slots Q (F0 m (pc + 1 + 3) ls rest)) : W p l e R s m args below meth c H locs cells slots Q (F0 m pc ls (.long y :: .long x :: rest)) :=
  W.lcmp hexec hb hd0 (lv_if_eq hexec hb hdg ht (fun h => kt ((lg_cmp_eq _ _).mp h)) (fun h => kf (fun e => h ((lg_cmp_eq _ _).mpr e))))
theorem rl_if_ne (hexec : p.tables.exec = Jvm.exec) (hb : c.code = cc) {x y : Int64} {off : Int} {tgt : Nat} (hd0 : decode cc pc = .ok (.lcmp, 1)) (hdg : decode cc (pc + 1) = .ok (.ifCond .ne off, 3)) (ht : ((pc + 1 : Nat) : Int) + off = (tgt : Int))
    (kt : ¬ x = y → W p l e R s m args below meth c H locs cells slots Q (F0 m tgt ls rest)) (kf : x = y → W p l e R s m args below meth c H locs cells slots Q (F0 m (pc + 1 + 3) ls rest)) : W p l e R s m args below meth c H locs cells slots Q (F0 m pc ls (.long y :: .long x :: rest)) :=
  W.lcmp hexec hb hd0 (lv_if_ne hexec hb hdg ht (fun h => kt (fun e => h ((lg_cmp_eq _ _).mpr e))) (fun h => kf ((lg_cmp_eq _ _).mp h)))
theorem rl_if_lt (hexec : p.tables.exec = Jvm.exec) (hb : c.code = cc) {x y : Int64} {off : Int} {tgt : Nat} (hd0 : decode cc pc = .ok (.lcmp, 1)) (hdg : decode cc (pc + 1) = .ok (.ifCond .lt off, 3)) (ht : ((pc + 1 : Nat) : Int) + off = (tgt : Int))
    (kt : x < y → W p l e R s m args below meth c H locs cells slots Q (F0 m tgt ls rest)) (kf : ¬ x < y → W p l e R s m args below meth c H locs cells slots Q (F0 m (pc + 1 + 3) ls rest)) : W p l e R s m args below meth c H locs cells slots Q (F0 m pc ls (.long y :: .long x :: rest)) :=
  W.lcmp hexec hb hd0 (lv_if_lt hexec hb hdg ht (fun h => kt ((lg_cmp_lt _ _).mp h)) (fun h => kf (fun e => h ((lg_cmp_lt _ _).mpr e))))
theorem rl_if_ge (hexec : p.tables.exec = Jvm.exec) (hb : c.code = cc) {x y : Int64} {off : Int} {tgt : Nat} (hd0 : decode cc pc = .ok (.lcmp, 1)) (hdg : decode cc (pc + 1) = .ok (.ifCond .ge off, 3)) (ht : ((pc + 1 : Nat) : Int) + off = (tgt : Int))
    (kt : y ≤ x → W p l e R s m args below meth c H locs cells slots Q (F0 m tgt ls rest)) (kf : ¬ y ≤ x → W p l e R s m args below meth c H locs cells slots Q (F0 m (pc + 1 + 3) ls rest)) : W p l e R s m args below meth c H locs cells slots Q (F0 m pc ls (.long y :: .long x :: rest)) :=
  W.lcmp hexec hb hd0 (lv_if_ge hexec hb hdg ht (fun h => kt ((lg_cmp_ge _ _).mp h)) (fun h => kf (fun e => h ((lg_cmp_ge _ _).mpr e))))
theorem rl_if_gt (hexec : p.tables.exec = Jvm.exec) (hb : c.code = cc) {x y : Int64} {off : Int} {tgt : Nat} (hd0 : decode cc pc = .ok (.lcmp, 1)) (hdg : decode cc (pc + 1) = .ok (.ifCond .gt off, 3)) (ht : ((pc + 1 : Nat) : Int) + off = (tgt : Int))
    (kt : y < x → W p l e R s m args below meth c H locs cells slots Q (F0 m tgt ls rest)) (kf : ¬ y < x → W p l e R s m args below meth c H locs cells slots Q (F0 m (pc + 1 + 3) ls rest)) : W p l e R s m args below meth c H locs cells slots Q (F0 m pc ls (.long y :: .long x :: rest)) :=
  W.lcmp hexec hb hd0 (lv_if_gt hexec hb hdg ht (fun h => kt ((lg_cmp_gt _ _).mp h)) (fun h => kf (fun e => h ((lg_cmp_gt _ _).mpr e))))
theorem rl_if_le (hexec : p.tables.exec = Jvm.exec) (hb : c.code = cc) {x y : Int64} {off : Int} {tgt : Nat} (hd0 : decode cc pc = .ok (.lcmp, 1)) (hdg : decode cc (pc + 1) = .ok (.ifCond .le off, 3)) (ht : ((pc + 1 : Nat) : Int) + off = (tgt : Int))
    (kt : x ≤ y → W p l e R s m args below meth c H locs cells slots Q (F0 m tgt ls rest)) (kf : ¬ x ≤ y → W p l e R s m args below meth c H locs cells slots Q (F0 m (pc + 1 + 3) ls rest)) : W p l e R s m args below meth c H locs cells slots Q (F0 m pc ls (.long y :: .long x :: rest)) :=
  W.lcmp hexec hb hd0 (lv_if_le hexec hb hdg ht (fun h => kt ((lg_cmp_le _ _).mp h)) (fun h => kf (fun e => h ((lg_cmp_le _ _).mpr e))))
end ROWS
end
section
/-! numbers of the system: t i = 0: nothing is told at the place i = 240 * eye + day; else 1 + 1000 * groups + spots -/
def sm (f : Nat → Nat) : Nat → Nat
  | 0 => 0
  | n + 1 => sm f n + f n
theorem sm_s (f : Nat → Nat) (n : Nat) : sm f (n + 1) = sm f n + f n := rfl
theorem sm_cong {f g : Nat → Nat} : ∀ {n : Nat}, (∀ k, k < n → f k = g k) → sm f n = sm g n
  | 0, _ => rfl
  | n + 1, h => by rw [sm_s, sm_s, sm_cong (fun k hk => h k (by omega)), h n (by omega)]
theorem sm_le {f : Nat → Nat} {c : Nat} : ∀ {n : Nat}, (∀ k, k < n → f k ≤ c) → sm f n ≤ n * c
  | 0, _ => by simp [sm]
  | n + 1, h => by
    have h1 := sm_le (n := n) (fun k hk => h k (by omega))
    have h2 := h n (by omega)
    rw [sm_s, Nat.succ_mul]
    omega
def grp (t : Nat → Nat) (i : Nat) : Nat := (t i - 1) / 1000
def spt (t : Nat → Nat) (i : Nat) : Nat := (t i - 1) % 1000
def num (t : Nat → Nat) (i : Nat) : Nat := 10 * grp t i + spt t i
/-- told as it may be -/
def TB (t : Nat → Nat) : Prop := ∀ i, t i = 0 ∨ (grp t i ≤ 20 ∧ grp t i ≤ spt t i ∧ spt t i ≤ 200 ∧ t i = 1000 * grp t i + spt t i + 1)
theorem TB_le {t : Nat → Nat} (h : TB t) (i : Nat) : t i ≤ 20201 := by
  rcases h i with e | ⟨h1, h2, h3, h4⟩ <;> omega
theorem grp_le {t : Nat → Nat} (h : TB t) (i : Nat) : grp t i ≤ 20 := by
  rcases h i with e | ⟨h1, h2, h3, h4⟩
  · unfold grp; rw [e]; decide
  · exact h1
theorem spt_le {t : Nat → Nat} (h : TB t) (i : Nat) : spt t i ≤ 200 := by
  rcases h i with e | ⟨h1, h2, h3, h4⟩
  · unfold spt; rw [e]; decide
  · exact h3
theorem num_le {t : Nat → Nat} (h : TB t) (i : Nat) : num t i ≤ 400 := by
  have h1 := grp_le h i
  have h2 := spt_le h i
  unfold num; omega
/-- days told of eye e among the k from the day lo on -/
def cD (t : Nat → Nat) (e lo k : Nat) : Nat := sm (fun j => if t (e * 240 + (lo + j)) = 0 then 0 else 1) k
theorem cD_le (t : Nat → Nat) (e lo k : Nat) : cD t e lo k ≤ k := by
  have := sm_le (f := fun j => if t (e * 240 + (lo + j)) = 0 then 0 else 1) (c := 1) (n := k) (fun j _ => by split <;> omega)
  unfold cD; omega
def cA (t : Nat → Nat) (e lo k : Nat) : Nat := sm (fun j => if t (e * 240 + (lo + j)) = 0 ∨ grp t (e * 240 + (lo + j)) = 0 then 0 else 1) k
theorem cA_le (t : Nat → Nat) (e lo k : Nat) : cA t e lo k ≤ k := by
  have := sm_le (f := fun j => if t (e * 240 + (lo + j)) = 0 ∨ grp t (e * 240 + (lo + j)) = 0 then 0 else 1) (c := 1) (n := k) (fun j _ => by split <;> omega)
  unfold cA; omega
/-- both tell of the day d -/
abbrev bo (t : Nat → Nat) (a b d : Nat) : Prop := t (a * 240 + d) ≠ 0 ∧ t (b * 240 + d) ≠ 0
def cB (t : Nat → Nat) (a b k : Nat) : Nat := sm (fun d => if bo t a b d then 1 else 0) k
theorem cB_le (t : Nat → Nat) (a b k : Nat) : cB t a b k ≤ k := by
  have := sm_le (f := fun d => if bo t a b d then 1 else 0) (c := 1) (n := k) (fun j _ => by split <;> omega)
  unfold cB; omega
/-- the numbers of a on the days of both, together -/
def sB (t : Nat → Nat) (a b k : Nat) : Nat := sm (fun d => if bo t a b d then num t (a * 240 + d) else 0) k
theorem sB_le {t : Nat → Nat} (h : TB t) (a b k : Nat) : sB t a b k ≤ k * 400 := by
  refine sm_le (fun j _ => ?_)
  have := num_le h (a * 240 + j)
  split <;> omega
/-- days of both on which a has more groups than g -/
def cG (t : Nat → Nat) (a b g k : Nat) : Nat := sm (fun d => if bo t a b d ∧ g < grp t (a * 240 + d) then 1 else 0) k
theorem cG_le (t : Nat → Nat) (a b g k : Nat) : cG t a b g k ≤ k := by
  have := sm_le (f := fun d => if bo t a b d ∧ g < grp t (a * 240 + d) then 1 else 0) (c := 1) (n := k) (fun j _ => by split <;> omega)
  unfold cG; omega

/-- what can be told, by the arguments -/
abbrev ctold (g k : Int32) : Prop := rg g 21 ∧ rg k 201 ∧ g.toInt ≤ k.toInt
/-- a number of a book -/
def okn (n : Nat) : Prop := n ≤ 20200 ∧ n / 1000 ≤ 20 ∧ n / 1000 ≤ n % 1000 ∧ n % 1000 ≤ 200
def okc (v : Int64) : Prop := v = -1 ∨ ∃ n : Nat, v = lN n ∧ okn n
theorem ctold_nI {g k : Nat} (hg : g < 2 ^ 31) (hk : k < 2 ^ 31) : ctold (nI g) (nI k) ↔ g ≤ 20 ∧ g ≤ k ∧ k ≤ 200 := by
  unfold ctold rg
  rw [nI_toInt hg, nI_toInt hk]
  omega
theorem okc_lN {n : Nat} (hn : n ≤ 20200) : okc (lN n) ↔ okn n := by
  constructor
  · rintro (h | ⟨k, h, hk⟩)
    · exfalso
      have h1 := congrArg Int64.toInt h
      rw [lN_toInt (by omega)] at h1
      have h2 : (-1 : Int64).toInt = -1 := by decide
      omega
    · have hk1 := hk.1
      have := (pk_lEQ (a := n) (b := k) (by omega) (by omega)).mp h
      rw [this]; exact hk
  · intro h; exact Or.inr ⟨n, rfl, h⟩
theorem okc_ex {v : Int64} (h : ¬ v < 0) (h2 : v ≤ lN 20200) : ∃ n : Nat, n ≤ 20200 ∧ v = lN n := by
  obtain ⟨k, hk, rfl⟩ := pk_lOf h
  exact ⟨k, (pk_lLE hk (by decide)).mp h2, rfl⟩
theorem okc_no {v : Int64} (h0 : ¬ v = -1) (h : v < 0 ∨ ¬ v ≤ lN 20200) : ¬ okc v := by
  rintro (e | ⟨k, e, hk⟩)
  · exact h0 e
  · subst e
    have hk1 := hk.1
    rcases h with h | h
    · have := (pk_lLT (a := k) (b := 0) (by omega) (by decide)).mp h
      omega
    · exact h ((pk_lLE (by omega) (by decide)).mpr hk1)
/-- the counts of pairs, changed by what eye e tells of the day d (sg: 1 comes, -1 goes) -/
def bdL (t : Nat → Nat) (e d : Nat) (sg : Int32) : Nat → (Nat → Int32) → (Nat → Int32)
  | 0, f => f
  | k + 1, f => if k = e ∨ t (k * 240 + d) = 0 then bdL t e d sg k f else upN (upN (bdL t e d sg k f) (e * 8 + k) (bdL t e d sg k f (e * 8 + k) + sg)) (k * 8 + e) (upN (bdL t e d sg k f) (e * 8 + k) (bdL t e d sg k f (e * 8 + k) + sg) (k * 8 + e) + sg)
def bsL (t : Nat → Nat) (e d : Nat) (sg : Int32) : Nat → (Nat → Int32) → (Nat → Int32)
  | 0, f => f
  | k + 1, f => if k = e ∨ t (k * 240 + d) = 0 then bsL t e d sg k f else upN (upN (bsL t e d sg k f) (e * 8 + k) (bsL t e d sg k f (e * 8 + k) + sg * nI (num t (e * 240 + d)))) (k * 8 + e) (upN (bsL t e d sg k f) (e * 8 + k) (bsL t e d sg k f (e * 8 + k) + sg * nI (num t (e * 240 + d))) (k * 8 + e) + sg * nI (num t (k * 240 + d)))
def cInD (t : Nat → Nat) (e d : Nat) (sg : Int32) (ey : Nat) (f : Nat → Int32) : Nat → Int32 := if t (e * 240 + d) = 0 then f else bdL t e d sg ey f
def cInS (t : Nat → Nat) (e d : Nat) (sg : Int32) (ey : Nat) (f : Nat → Int32) : Nat → Int32 := if t (e * 240 + d) = 0 then f else bsL t e d sg ey f
/-- the kept counts are the counts -/
def TT (t : Nat → Nat) (bd bs : Nat → Int32) : Prop := ∀ x y, x < 8 → y < 8 → x ≠ y → bd (x * 8 + y) = nI (cB t x y 240) ∧ bs (x * 8 + y) = nI (sB t x y 240)
def fcv (n own oth le : Nat) : Nat := if n < le ∨ own = 0 ∨ oth = 0 then 0 else if 10 ≤ oth * 1000 / own ∧ oth * 1000 / own ≤ 100000 then oth * 1000 / own + 1 else 0
/-- FACTOR of x to y: 0 if there is none, else 1 more -/
def fc (t : Nat → Nat) (le x y : Nat) : Nat := fcv (cB t x y 240) (sB t x y 240) (sB t y x 240) le
theorem fc_le (t : Nat → Nat) (le x y : Nat) : fc t le x y ≤ 100001 := by
  unfold fc fcv; split
  · omega
  · split <;> omega
end
section
set_option maxHeartbeats 400000 in
set_option maxRecDepth 100000 in
theorem c_X7_isWithin (l : Launch) (G : va_G) (cI cJ : ClassId) (x : Int32) (k : Nat) (hk : k < 2 ^ 30) : Met l yX7_isWithin wsX7_isWithin ({ frames := 0, cells := 0, slots := 0, locals := 0 }) (roP G cI cJ [.int x, .int (nI k)] []) (vp_Si (fun r => r = bi (rg x (k + 1)))) 0 0 (fun _ => False) := by
  refine Met.ofW (cc := cX7_isWithin) (maxL := 2) (ret := (some .boolean)) (by decide) rfl ?_
  intro pg ev s mt args below meth cd s₁ B hml hv
  obtain ⟨rfl, hP, hK⟩ := hv
  have hx := B.exec
  have hb := B.bytes
  have hr := B.returns
  have hts := atoms_spec (ws := wsX7_isWithin) B.pre
  have hown : s.vm.findClass RX7 = some mt.cls := findClass_of_methodNamed B.named
  have hlocks := B.notSynchronized
  have hP : va_P G vwCl [] s.heap := hP
  have hl := lv_entry ([.int x, .int (nI k)]) (n := 2) (Nat.le_of_ble_eq_true rfl)
  rw [lg_entry_eq]
  generalize (lg_sl ([.int x, .int (nI k)]) ++ List.replicate (2 - (lg_sl ([.int x, .int (nI k)])).length) Slot.unset).toArray = ls at hl ⊢
  have hl : lv_has ls 2 [(0, .int x), (1, .int (nI k))] := hl
  refine lv_iload_n hx hb dX7_isWithin_0 rfl (lv_at hl 0 rfl) ?_
  refine lv_if_lt (tgt := 13) hx hb dX7_isWithin_1 (by decide) (fun c_1 => ?_) (fun c_1 => ?_)
  · refine lv_iconst (v := nI 0) hx hb dX7_isWithin_13 (by decide) ?_
    exact W.zret (v := nI 0) hx hb hr rfl (fun zt ht zw => ⟨_, rfl, (show nI 0 = bi (rg x (k + 1)) from (bi_f (by (simp only [Int32.lt_iff_toInt_lt, Int32.le_iff_toInt_le, nI_toInt (show k < 2 ^ 31 by omega), show (0 : Int32).toInt = 0 from by decide] at *); omega)).symm), ht⟩) (fun q hq => absurd hq List.not_mem_nil) dX7_isWithin_14
  refine lv_iload_n hx hb dX7_isWithin_4 rfl (lv_at hl 0 rfl) ?_
  refine lv_iload_n hx hb dX7_isWithin_5 rfl (lv_at hl 1 rfl) ?_
  refine lv_icmp_gt (tgt := 13) hx hb dX7_isWithin_6 (by decide) (fun c_6 => ?_) (fun c_6 => ?_)
  · refine lv_iconst (v := nI 0) hx hb dX7_isWithin_13 (by decide) ?_
    exact W.zret (v := nI 0) hx hb hr rfl (fun zt ht zw => ⟨_, rfl, (show nI 0 = bi (rg x (k + 1)) from (bi_f (by (simp only [Int32.lt_iff_toInt_lt, Int32.le_iff_toInt_le, nI_toInt (show k < 2 ^ 31 by omega), show (0 : Int32).toInt = 0 from by decide] at *); omega)).symm), ht⟩) (fun q hq => absurd hq List.not_mem_nil) dX7_isWithin_14
  refine lv_iconst (v := nI 1) hx hb dX7_isWithin_9 (by decide) ?_
  refine lv_goto (tgt := 14) hx hb dX7_isWithin_10 (by decide) ?_
  exact W.zret (v := nI 1) hx hb hr rfl (fun zt ht zw => ⟨_, rfl, (show nI 1 = bi (rg x (k + 1)) from (bi_t (by (simp only [Int32.lt_iff_toInt_lt, Int32.le_iff_toInt_le, nI_toInt (show k < 2 ^ 31 by omega), show (0 : Int32).toInt = 0 from by decide] at *); omega)).symm), ht⟩) (fun q hq => absurd hq List.not_mem_nil) dX7_isWithin_14

set_option maxHeartbeats 400000 in
set_option maxRecDepth 100000 in
theorem c_X7_isDay (l : Launch) (G : va_G) (cI cJ : ClassId) (x : Int32)  : Met l yX7_isDay wsX7_isDay ({ frames := 1, cells := 0, slots := 0, locals := 21 }) (roP G cI cJ [.int x] []) (vp_Si (fun r => r = bi (rg x 240))) 0 0 (fun _ => False) := by
  refine Met.ofW (cc := cX7_isDay) (maxL := 1) (ret := (some .boolean)) (by decide) rfl ?_
  intro pg ev s mt args below meth cd s₁ B hml hv
  obtain ⟨rfl, hP, hK⟩ := hv
  have hx := B.exec
  have hb := B.bytes
  have hr := B.returns
  have hts := atoms_spec (ws := wsX7_isDay) B.pre
  have hown : s.vm.findClass RX7 = some mt.cls := findClass_of_methodNamed B.named
  have hlocks := B.notSynchronized
  have hP : va_P G vwCl [] s.heap := hP
  have hl := lv_entry ([.int x]) (n := 1) (Nat.le_of_ble_eq_true rfl)
  rw [lg_entry_eq]
  generalize (lg_sl ([.int x]) ++ List.replicate (1 - (lg_sl ([.int x])).length) Slot.unset).toArray = ls at hl ⊢
  have hl : lv_has ls 1 [(0, .int x)] := hl
  refine lv_iload_n hx hb dX7_isDay_0 rfl (lv_at hl 0 rfl) ?_
  refine lv_sipush (v := nI 239) hx hb dX7_isDay_1 (by decide) ?_
  refine cro_i (va_runS (As := [.int x, .int (nI 239)]) (rest := []) ⟨hx, hb, hml, hown, hts⟩ (c_X7_isWithin l G cI cJ (x := x) (k := 239) (hk := by first | assumption | omega)) (va_cwS 2 hts gX7_isDay_X7_isWithin rfl rfl rfl (by decide +kernel) ⟨Nat.le_of_ble_eq_true rfl, Nat.le_of_ble_eq_true rfl⟩) (preS_ro (wc := []) hK hP [] rfl) rfl rfl hl.1 rfl (lv_room (Nat.le_of_ble_eq_true rfl)) dX7_isDay_4 ⟨Nat.zero_le _, Nat.zero_le _⟩) ?_
  exact W.zret (v := bi (rg x (239 + 1))) hx hb hr bi_nar (fun zt ht zw => ⟨_, rfl, (bi_cong (show rg x (239 + 1) ↔ rg x 240 from by first | rfl | omega | (simp_all; done))), ht⟩) (fun q hq => absurd hq List.not_mem_nil) dX7_isDay_7

set_option maxHeartbeats 400000 in
set_option maxRecDepth 100000 in
theorem c_X7_isMonth (l : Launch) (G : va_G) (cI cJ : ClassId) (x : Int32)  : Met l yX7_isMonth wsX7_isMonth ({ frames := 1, cells := 0, slots := 0, locals := 21 }) (roP G cI cJ [.int x] []) (vp_Si (fun r => r = bi (rg x 24))) 0 0 (fun _ => False) := by
  refine Met.ofW (cc := cX7_isMonth) (maxL := 1) (ret := (some .boolean)) (by decide) rfl ?_
  intro pg ev s mt args below meth cd s₁ B hml hv
  obtain ⟨rfl, hP, hK⟩ := hv
  have hx := B.exec
  have hb := B.bytes
  have hr := B.returns
  have hts := atoms_spec (ws := wsX7_isMonth) B.pre
  have hown : s.vm.findClass RX7 = some mt.cls := findClass_of_methodNamed B.named
  have hlocks := B.notSynchronized
  have hP : va_P G vwCl [] s.heap := hP
  have hl := lv_entry ([.int x]) (n := 1) (Nat.le_of_ble_eq_true rfl)
  rw [lg_entry_eq]
  generalize (lg_sl ([.int x]) ++ List.replicate (1 - (lg_sl ([.int x])).length) Slot.unset).toArray = ls at hl ⊢
  have hl : lv_has ls 1 [(0, .int x)] := hl
  refine lv_iload_n hx hb dX7_isMonth_0 rfl (lv_at hl 0 rfl) ?_
  refine lv_bipush (v := nI 23) hx hb dX7_isMonth_1 (by decide) ?_
  refine cro_i (va_runS (As := [.int x, .int (nI 23)]) (rest := []) ⟨hx, hb, hml, hown, hts⟩ (c_X7_isWithin l G cI cJ (x := x) (k := 23) (hk := by first | assumption | omega)) (va_cwS 2 hts gX7_isMonth_X7_isWithin rfl rfl rfl (by decide +kernel) ⟨Nat.le_of_ble_eq_true rfl, Nat.le_of_ble_eq_true rfl⟩) (preS_ro (wc := []) hK hP [] rfl) rfl rfl hl.1 rfl (lv_room (Nat.le_of_ble_eq_true rfl)) dX7_isMonth_3 ⟨Nat.zero_le _, Nat.zero_le _⟩) ?_
  exact W.zret (v := bi (rg x (23 + 1))) hx hb hr bi_nar (fun zt ht zw => ⟨_, rfl, (bi_cong (show rg x (23 + 1) ↔ rg x 24 from by first | rfl | omega | (simp_all; done))), ht⟩) (fun q hq => absurd hq List.not_mem_nil) dX7_isMonth_6

set_option maxHeartbeats 400000 in
set_option maxRecDepth 100000 in
theorem c_X5_has (l : Launch) (G : va_G) (cI cJ : ClassId) (a : Nat → Nat) (ey : Int32) (le : Int32) (t : Nat → Nat) (e : Nat) (d : Nat) (tb : TB t) (he : e < 8) (hd : d < 240) : Met l yX5_has wsX5_has ({ frames := 0, cells := 0, slots := 0, locals := 0 }) (roP G cI cJ [.ref (a 2), .int (nI e), .int (nI d)] [oTe a ey le, aI cI (a 11) 1920 (oF t)]) (vp_Si (fun r => r = bi (t (e * 240 + d) ≠ 0))) 0 0 (fun _ => False) := by
  refine Met.ofW (cc := cX5_has) (maxL := 3) (ret := (some .boolean)) (by decide) rfl ?_
  intro pg ev s mt args below meth cd s₁ B hml hv
  obtain ⟨rfl, hP, hK⟩ := hv
  have hx := B.exec
  have hb := B.bytes
  have hr := B.returns
  have hts := atoms_spec (ws := wsX5_has) B.pre
  have hown : s.vm.findClass RX5 = some mt.cls := findClass_of_methodNamed B.named
  have hlocks := B.notSynchronized
  have hP : va_P G vwCl [oTe a ey le, aI cI (a 11) 1920 (oF t)] s.heap := hP
  have hinX5 := (show ∀ w ∈ u_ws RX5 TX5 5, w ∈ wsX5_has by decide +kernel)
  have fl9 := hts (.fieldLink RX5 9 "SpotRows$Tellings" "codes" "[I") (by decide +kernel)
  have hl := lv_entry ([.ref (a 2), .int (nI e), .int (nI d)]) (n := 3) (Nat.le_of_ble_eq_true rfl)
  rw [lg_entry_eq]
  generalize (lg_sl ([.ref (a 2), .int (nI e), .int (nI d)]) ++ List.replicate (3 - (lg_sl ([.ref (a 2), .int (nI e), .int (nI d)])).length) Slot.unset).toArray = ls at hl ⊢
  have hl : lv_has ls 3 [(0, .ref (a 2)), (1, .int (nI e)), (2, .int (nI d))] := hl
  refine lv_aload_n hx hb dX5_has_0 rfl (lv_at hl 0 rfl) ?_
  refine va_get (D := G) (own := RX5) (ref := "SpotRows$Tellings") (ci := 5) (v := .ref (a 11)) (C := RX5) (T := TX5) (N := 5) hx hb hts hinX5 hown hK.1 hP 0 rfl rfl 0 (by decide) fl9 (fun _ h9 => h9) rfl dX5_has_1 ?_
  refine lv_iload_n hx hb dX5_has_4 rfl (lv_at hl 1 rfl) ?_
  refine lv_sipush (v := nI 240) hx hb dX5_has_5 (by decide) ?_
  refine lv_imul hx hb dX5_has_8 ?_
  refine toi (pk_mul e 240) ?_
  refine lv_iload_n hx hb dX5_has_9 rfl (lv_at hl 2 rfl) ?_
  refine lv_iadd hx hb dX5_has_10 ?_
  refine toi (nI_add (e * 240) d) ?_
  refine ld_oF hx hb hK hP 1 (k := e * 240 + d) rfl (by first | omega | exact Nat.le_trans (TB_le tb _) (by decide) | exact Nat.lt_of_le_of_lt (TB_le tb _) (by decide)) (by decide) dX5_has_11 ?_
  refine lv_iconst (v := (-1)) hx hb dX5_has_12 (by decide) ?_
  refine no_icmp_eq (tgt := 20) hx hb dX5_has_13 (by decide) (by first | omega | exact Nat.le_trans (TB_le tb _) (by decide) | exact Nat.lt_of_le_of_lt (TB_le tb _) (by decide)) (fun c_13 => ?_) (fun c_13 => ?_)
  · refine lv_iconst (v := nI 0) hx hb dX5_has_20 (by decide) ?_
    exact W.zret (v := nI 0) hx hb hr rfl (fun zt ht zw => ⟨_, rfl, (show nI 0 = bi (t (e * 240 + d) ≠ 0) from (bi_f (by first | rfl | omega | (simp_all; done))).symm), ht⟩) (fun q hq => absurd hq List.not_mem_nil) dX5_has_21
  refine lv_iconst (v := nI 1) hx hb dX5_has_16 (by decide) ?_
  refine lv_goto (tgt := 21) hx hb dX5_has_17 (by decide) ?_
  exact W.zret (v := nI 1) hx hb hr rfl (fun zt ht zw => ⟨_, rfl, (show nI 1 = bi (t (e * 240 + d) ≠ 0) from (bi_t (by first | rfl | omega | (simp_all; done))).symm), ht⟩) (fun q hq => absurd hq List.not_mem_nil) dX5_has_21

set_option maxHeartbeats 400000 in
set_option maxRecDepth 100000 in
theorem c_X5_haveBoth (l : Launch) (G : va_G) (cI cJ : ClassId) (a : Nat → Nat) (ey : Int32) (le : Int32) (t : Nat → Nat) (x : Nat) (y : Nat) (d : Nat) (tb : TB t) (h_x : x < 8) (h_y : y < 8) (hd : d < 240) : Met l yX5_haveBoth wsX5_haveBoth ({ frames := 1, cells := 0, slots := 0, locals := 22 }) (roP G cI cJ [.ref (a 2), .int (nI x), .int (nI y), .int (nI d)] [oTe a ey le, aI cI (a 11) 1920 (oF t)]) (vp_Si (fun r => r = bi (bo t x y d))) 0 0 (fun _ => False) := by
  refine Met.ofW (cc := cX5_haveBoth) (maxL := 4) (ret := (some .boolean)) (by decide) rfl ?_
  intro pg ev s mt args below meth cd s₁ B hml hv
  obtain ⟨rfl, hP, hK⟩ := hv
  have hx := B.exec
  have hb := B.bytes
  have hr := B.returns
  have hts := atoms_spec (ws := wsX5_haveBoth) B.pre
  have hown : s.vm.findClass RX5 = some mt.cls := findClass_of_methodNamed B.named
  have hlocks := B.notSynchronized
  have hP : va_P G vwCl [oTe a ey le, aI cI (a 11) 1920 (oF t)] s.heap := hP
  have hl := lv_entry ([.ref (a 2), .int (nI x), .int (nI y), .int (nI d)]) (n := 4) (Nat.le_of_ble_eq_true rfl)
  rw [lg_entry_eq]
  generalize (lg_sl ([.ref (a 2), .int (nI x), .int (nI y), .int (nI d)]) ++ List.replicate (4 - (lg_sl ([.ref (a 2), .int (nI x), .int (nI y), .int (nI d)])).length) Slot.unset).toArray = ls at hl ⊢
  have hl : lv_has ls 4 [(0, .ref (a 2)), (1, .int (nI x)), (2, .int (nI y)), (3, .int (nI d))] := hl
  refine lv_aload_n hx hb dX5_haveBoth_0 rfl (lv_at hl 0 rfl) ?_
  refine lv_iload_n hx hb dX5_haveBoth_1 rfl (lv_at hl 1 rfl) ?_
  refine lv_iload_n hx hb dX5_haveBoth_2 rfl (lv_at hl 3 rfl) ?_
  refine cro_i (va_runV (As := [.int (nI x), .int (nI d)]) (rest := []) ⟨hx, hb, hml, hown, hts⟩ (c_X5_has l G cI cJ (a := a) (ey := ey) (le := le) (t := t) (e := x) (d := d) (tb := by first | assumption | omega) (he := by first | assumption | omega) (hd := by first | assumption | omega)) (cwV 2 hts gX5_haveBoth_X5_has rfl rfl rfl (by decide +kernel) ⟨Nat.le_of_ble_eq_true rfl, Nat.le_of_ble_eq_true rfl⟩) (preV_ro (wc := [oTe a ey le, aI cI (a 11) 1920 (oF t)]) hK hP [0, 1] rfl 5 0 rfl rfl rfl) rfl rfl hl.1 rfl (lv_room (Nat.le_of_ble_eq_true rfl)) dX5_haveBoth_3 ⟨Nat.zero_le _, Nat.zero_le _⟩) ?_
  refine nb_if_eq (tgt := 22) hx hb dX5_haveBoth_6 (by decide) (fun c_6 => ?_) (fun c_6 => ?_)
  · refine lv_iconst (v := nI 0) hx hb dX5_haveBoth_22 (by decide) ?_
    exact W.zret (v := nI 0) hx hb hr rfl (fun zt ht zw => ⟨_, rfl, (show nI 0 = bi (bo t x y d) from (bi_f (by simp_all [bo])).symm), ht⟩) (fun q hq => absurd hq List.not_mem_nil) dX5_haveBoth_23
  refine lv_aload_n hx hb dX5_haveBoth_9 rfl (lv_at hl 0 rfl) ?_
  refine lv_iload_n hx hb dX5_haveBoth_10 rfl (lv_at hl 2 rfl) ?_
  refine lv_iload_n hx hb dX5_haveBoth_11 rfl (lv_at hl 3 rfl) ?_
  refine cro_i (va_runV (As := [.int (nI y), .int (nI d)]) (rest := []) ⟨hx, hb, hml, hown, hts⟩ (c_X5_has l G cI cJ (a := a) (ey := ey) (le := le) (t := t) (e := y) (d := d) (tb := by first | assumption | omega) (he := by first | assumption | omega) (hd := by first | assumption | omega)) (cwV 2 hts gX5_haveBoth_X5_has rfl rfl rfl (by decide +kernel) ⟨Nat.le_of_ble_eq_true rfl, Nat.le_of_ble_eq_true rfl⟩) (preV_ro (wc := [oTe a ey le, aI cI (a 11) 1920 (oF t)]) hK hP [0, 1] rfl 5 0 rfl rfl rfl) rfl rfl hl.1 rfl (lv_room (Nat.le_of_ble_eq_true rfl)) dX5_haveBoth_12 ⟨Nat.zero_le _, Nat.zero_le _⟩) ?_
  refine nb_if_eq (tgt := 22) hx hb dX5_haveBoth_15 (by decide) (fun c_15 => ?_) (fun c_15 => ?_)
  · refine lv_iconst (v := nI 0) hx hb dX5_haveBoth_22 (by decide) ?_
    exact W.zret (v := nI 0) hx hb hr rfl (fun zt ht zw => ⟨_, rfl, (show nI 0 = bi (bo t x y d) from (bi_f (by simp_all [bo])).symm), ht⟩) (fun q hq => absurd hq List.not_mem_nil) dX5_haveBoth_23
  refine lv_iconst (v := nI 1) hx hb dX5_haveBoth_18 (by decide) ?_
  refine lv_goto (tgt := 23) hx hb dX5_haveBoth_19 (by decide) ?_
  exact W.zret (v := nI 1) hx hb hr rfl (fun zt ht zw => ⟨_, rfl, (show nI 1 = bi (bo t x y d) from (bi_t (by simp_all [bo])).symm), ht⟩) (fun q hq => absurd hq List.not_mem_nil) dX5_haveBoth_23

set_option maxHeartbeats 400000 in
set_option maxRecDepth 100000 in
theorem c_X5_groupsOf (l : Launch) (G : va_G) (cI cJ : ClassId) (a : Nat → Nat) (ey : Int32) (le : Int32) (t : Nat → Nat) (e : Nat) (d : Nat) (tb : TB t) (he : e < 8) (hd : d < 240) (hn : t (e * 240 + d) ≠ 0) : Met l yX5_groupsOf wsX5_groupsOf ({ frames := 0, cells := 0, slots := 0, locals := 0 }) (roP G cI cJ [.ref (a 2), .int (nI e), .int (nI d)] [oTe a ey le, aI cI (a 11) 1920 (oF t)]) (vp_Si (fun r => r = nI (grp t (e * 240 + d)))) 0 0 (fun _ => False) := by
  refine Met.ofW (cc := cX5_groupsOf) (maxL := 3) (ret := (some .int)) (by decide) rfl ?_
  intro pg ev s mt args below meth cd s₁ B hml hv
  obtain ⟨rfl, hP, hK⟩ := hv
  have hx := B.exec
  have hb := B.bytes
  have hr := B.returns
  have hts := atoms_spec (ws := wsX5_groupsOf) B.pre
  have hown : s.vm.findClass RX5 = some mt.cls := findClass_of_methodNamed B.named
  have hlocks := B.notSynchronized
  have hP : va_P G vwCl [oTe a ey le, aI cI (a 11) 1920 (oF t)] s.heap := hP
  have hinX5 := (show ∀ w ∈ u_ws RX5 TX5 5, w ∈ wsX5_groupsOf by decide +kernel)
  have fl9 := hts (.fieldLink RX5 9 "SpotRows$Tellings" "codes" "[I") (by decide +kernel)
  have hl := lv_entry ([.ref (a 2), .int (nI e), .int (nI d)]) (n := 3) (Nat.le_of_ble_eq_true rfl)
  rw [lg_entry_eq]
  generalize (lg_sl ([.ref (a 2), .int (nI e), .int (nI d)]) ++ List.replicate (3 - (lg_sl ([.ref (a 2), .int (nI e), .int (nI d)])).length) Slot.unset).toArray = ls at hl ⊢
  have hl : lv_has ls 3 [(0, .ref (a 2)), (1, .int (nI e)), (2, .int (nI d))] := hl
  have tbl := TB_le tb (e * 240 + d)
  refine lv_aload_n hx hb dX5_groupsOf_0 rfl (lv_at hl 0 rfl) ?_
  refine va_get (D := G) (own := RX5) (ref := "SpotRows$Tellings") (ci := 5) (v := .ref (a 11)) (C := RX5) (T := TX5) (N := 5) hx hb hts hinX5 hown hK.1 hP 0 rfl rfl 0 (by decide) fl9 (fun _ h9 => h9) rfl dX5_groupsOf_1 ?_
  refine lv_iload_n hx hb dX5_groupsOf_4 rfl (lv_at hl 1 rfl) ?_
  refine lv_sipush (v := nI 240) hx hb dX5_groupsOf_5 (by decide) ?_
  refine lv_imul hx hb dX5_groupsOf_8 ?_
  refine toi (pk_mul e 240) ?_
  refine lv_iload_n hx hb dX5_groupsOf_9 rfl (lv_at hl 2 rfl) ?_
  refine lv_iadd hx hb dX5_groupsOf_10 ?_
  refine toi (nI_add (e * 240) d) ?_
  refine ld_oF hx hb hK hP 1 (k := e * 240 + d) rfl (by first | omega | exact Nat.le_trans (TB_le tb _) (by decide) | exact Nat.lt_of_le_of_lt (TB_le tb _) (by decide)) (by decide) dX5_groupsOf_11 ?_
  refine toi (oI_pos (by first | assumption | omega)) ?_
  refine lv_sipush (v := nI 1000) hx hb dX5_groupsOf_12 (by decide) ?_
  refine lv_idiv hx hb dX5_groupsOf_15 (nI_ne0 (by first | omega | exact Nat.le_trans (TB_le tb _) (by decide) | exact Nat.lt_of_le_of_lt (TB_le tb _) (by decide)) (by first | omega | exact Nat.le_trans (TB_le tb _) (by decide) | exact Nat.lt_of_le_of_lt (TB_le tb _) (by decide))) ?_
  refine toi (pk_div (a := (t (e * 240 + d) - 1)) (d := 1000) (by first | omega | exact Nat.le_trans (TB_le tb _) (by decide) | exact Nat.lt_of_le_of_lt (TB_le tb _) (by decide)) (by first | omega | exact Nat.le_trans (TB_le tb _) (by decide) | exact Nat.lt_of_le_of_lt (TB_le tb _) (by decide)) (by first | omega | exact Nat.le_trans (TB_le tb _) (by decide) | exact Nat.lt_of_le_of_lt (TB_le tb _) (by decide))) ?_
  exact W.iret (v := nI ((t (e * 240 + d) - 1) / 1000)) hx hb hr (fun zt ht zw => ⟨_, rfl, (congrArg nI (show (t (e * 240 + d) - 1) / 1000 = grp t (e * 240 + d) from by rfl)), ht⟩) (fun q hq => absurd hq List.not_mem_nil) dX5_groupsOf_16

set_option maxHeartbeats 400000 in
set_option maxRecDepth 100000 in
theorem c_X5_spotsOf (l : Launch) (G : va_G) (cI cJ : ClassId) (a : Nat → Nat) (ey : Int32) (le : Int32) (t : Nat → Nat) (e : Nat) (d : Nat) (tb : TB t) (he : e < 8) (hd : d < 240) (hn : t (e * 240 + d) ≠ 0) : Met l yX5_spotsOf wsX5_spotsOf ({ frames := 0, cells := 0, slots := 0, locals := 0 }) (roP G cI cJ [.ref (a 2), .int (nI e), .int (nI d)] [oTe a ey le, aI cI (a 11) 1920 (oF t)]) (vp_Si (fun r => r = nI (spt t (e * 240 + d)))) 0 0 (fun _ => False) := by
  refine Met.ofW (cc := cX5_spotsOf) (maxL := 3) (ret := (some .int)) (by decide) rfl ?_
  intro pg ev s mt args below meth cd s₁ B hml hv
  obtain ⟨rfl, hP, hK⟩ := hv
  have hx := B.exec
  have hb := B.bytes
  have hr := B.returns
  have hts := atoms_spec (ws := wsX5_spotsOf) B.pre
  have hown : s.vm.findClass RX5 = some mt.cls := findClass_of_methodNamed B.named
  have hlocks := B.notSynchronized
  have hP : va_P G vwCl [oTe a ey le, aI cI (a 11) 1920 (oF t)] s.heap := hP
  have hinX5 := (show ∀ w ∈ u_ws RX5 TX5 5, w ∈ wsX5_spotsOf by decide +kernel)
  have fl9 := hts (.fieldLink RX5 9 "SpotRows$Tellings" "codes" "[I") (by decide +kernel)
  have hl := lv_entry ([.ref (a 2), .int (nI e), .int (nI d)]) (n := 3) (Nat.le_of_ble_eq_true rfl)
  rw [lg_entry_eq]
  generalize (lg_sl ([.ref (a 2), .int (nI e), .int (nI d)]) ++ List.replicate (3 - (lg_sl ([.ref (a 2), .int (nI e), .int (nI d)])).length) Slot.unset).toArray = ls at hl ⊢
  have hl : lv_has ls 3 [(0, .ref (a 2)), (1, .int (nI e)), (2, .int (nI d))] := hl
  have tbl := TB_le tb (e * 240 + d)
  refine lv_aload_n hx hb dX5_spotsOf_0 rfl (lv_at hl 0 rfl) ?_
  refine va_get (D := G) (own := RX5) (ref := "SpotRows$Tellings") (ci := 5) (v := .ref (a 11)) (C := RX5) (T := TX5) (N := 5) hx hb hts hinX5 hown hK.1 hP 0 rfl rfl 0 (by decide) fl9 (fun _ h9 => h9) rfl dX5_spotsOf_1 ?_
  refine lv_iload_n hx hb dX5_spotsOf_4 rfl (lv_at hl 1 rfl) ?_
  refine lv_sipush (v := nI 240) hx hb dX5_spotsOf_5 (by decide) ?_
  refine lv_imul hx hb dX5_spotsOf_8 ?_
  refine toi (pk_mul e 240) ?_
  refine lv_iload_n hx hb dX5_spotsOf_9 rfl (lv_at hl 2 rfl) ?_
  refine lv_iadd hx hb dX5_spotsOf_10 ?_
  refine toi (nI_add (e * 240) d) ?_
  refine ld_oF hx hb hK hP 1 (k := e * 240 + d) rfl (by first | omega | exact Nat.le_trans (TB_le tb _) (by decide) | exact Nat.lt_of_le_of_lt (TB_le tb _) (by decide)) (by decide) dX5_spotsOf_11 ?_
  refine toi (oI_pos (by first | assumption | omega)) ?_
  refine lv_sipush (v := nI 1000) hx hb dX5_spotsOf_12 (by decide) ?_
  refine lv_irem hx hb dX5_spotsOf_15 (nI_ne0 (by first | omega | exact Nat.le_trans (TB_le tb _) (by decide) | exact Nat.lt_of_le_of_lt (TB_le tb _) (by decide)) (by first | omega | exact Nat.le_trans (TB_le tb _) (by decide) | exact Nat.lt_of_le_of_lt (TB_le tb _) (by decide))) ?_
  refine toi (pk_rem (a := (t (e * 240 + d) - 1)) (d := 1000) (by first | omega | exact Nat.le_trans (TB_le tb _) (by decide) | exact Nat.lt_of_le_of_lt (TB_le tb _) (by decide)) (by first | omega | exact Nat.le_trans (TB_le tb _) (by decide) | exact Nat.lt_of_le_of_lt (TB_le tb _) (by decide)) (by first | omega | exact Nat.le_trans (TB_le tb _) (by decide) | exact Nat.lt_of_le_of_lt (TB_le tb _) (by decide))) ?_
  exact W.iret (v := nI ((t (e * 240 + d) - 1) % 1000)) hx hb hr (fun zt ht zw => ⟨_, rfl, (congrArg nI (show (t (e * 240 + d) - 1) % 1000 = spt t (e * 240 + d) from by rfl)), ht⟩) (fun q hq => absurd hq List.not_mem_nil) dX5_spotsOf_16

set_option maxHeartbeats 400000 in
set_option maxRecDepth 100000 in
theorem c_X5_numberOf (l : Launch) (G : va_G) (cI cJ : ClassId) (a : Nat → Nat) (ey : Int32) (le : Int32) (t : Nat → Nat) (e : Nat) (d : Nat) (tb : TB t) (he : e < 8) (hd : d < 240) (hn : t (e * 240 + d) ≠ 0) : Met l yX5_numberOf wsX5_numberOf ({ frames := 1, cells := 0, slots := 0, locals := 22 }) (roP G cI cJ [.ref (a 2), .int (nI e), .int (nI d)] [oTe a ey le, aI cI (a 11) 1920 (oF t)]) (vp_Si (fun r => r = nI (num t (e * 240 + d)))) 0 0 (fun _ => False) := by
  refine Met.ofW (cc := cX5_numberOf) (maxL := 3) (ret := (some .int)) (by decide) rfl ?_
  intro pg ev s mt args below meth cd s₁ B hml hv
  obtain ⟨rfl, hP, hK⟩ := hv
  have hx := B.exec
  have hb := B.bytes
  have hr := B.returns
  have hts := atoms_spec (ws := wsX5_numberOf) B.pre
  have hown : s.vm.findClass RX5 = some mt.cls := findClass_of_methodNamed B.named
  have hlocks := B.notSynchronized
  have hP : va_P G vwCl [oTe a ey le, aI cI (a 11) 1920 (oF t)] s.heap := hP
  have hl := lv_entry ([.ref (a 2), .int (nI e), .int (nI d)]) (n := 3) (Nat.le_of_ble_eq_true rfl)
  rw [lg_entry_eq]
  generalize (lg_sl ([.ref (a 2), .int (nI e), .int (nI d)]) ++ List.replicate (3 - (lg_sl ([.ref (a 2), .int (nI e), .int (nI d)])).length) Slot.unset).toArray = ls at hl ⊢
  have hl : lv_has ls 3 [(0, .ref (a 2)), (1, .int (nI e)), (2, .int (nI d))] := hl
  refine lv_bipush (v := nI 10) hx hb dX5_numberOf_0 (by decide) ?_
  refine lv_aload_n hx hb dX5_numberOf_2 rfl (lv_at hl 0 rfl) ?_
  refine lv_iload_n hx hb dX5_numberOf_3 rfl (lv_at hl 1 rfl) ?_
  refine lv_iload_n hx hb dX5_numberOf_4 rfl (lv_at hl 2 rfl) ?_
  refine cro_i (va_runV (As := [.int (nI e), .int (nI d)]) (rest := [.int (nI 10)]) ⟨hx, hb, hml, hown, hts⟩ (c_X5_groupsOf l G cI cJ (a := a) (ey := ey) (le := le) (t := t) (e := e) (d := d) (tb := by first | assumption | omega) (he := by first | assumption | omega) (hd := by first | assumption | omega) (hn := by first | assumption | omega)) (cwV 2 hts gX5_numberOf_X5_groupsOf rfl rfl rfl (by decide +kernel) ⟨Nat.le_of_ble_eq_true rfl, Nat.le_of_ble_eq_true rfl⟩) (preV_ro (wc := [oTe a ey le, aI cI (a 11) 1920 (oF t)]) hK hP [0, 1] rfl 5 0 rfl rfl rfl) rfl rfl hl.1 rfl (lv_room (Nat.le_of_ble_eq_true rfl)) dX5_numberOf_5 ⟨Nat.zero_le _, Nat.zero_le _⟩) ?_
  refine lv_imul hx hb dX5_numberOf_8 ?_
  refine toi (pk_mul 10 (grp t (e * 240 + d))) ?_
  refine lv_aload_n hx hb dX5_numberOf_9 rfl (lv_at hl 0 rfl) ?_
  refine lv_iload_n hx hb dX5_numberOf_10 rfl (lv_at hl 1 rfl) ?_
  refine lv_iload_n hx hb dX5_numberOf_11 rfl (lv_at hl 2 rfl) ?_
  refine cro_i (va_runV (As := [.int (nI e), .int (nI d)]) (rest := [.int (nI (10 * grp t (e * 240 + d)))]) ⟨hx, hb, hml, hown, hts⟩ (c_X5_spotsOf l G cI cJ (a := a) (ey := ey) (le := le) (t := t) (e := e) (d := d) (tb := by first | assumption | omega) (he := by first | assumption | omega) (hd := by first | assumption | omega) (hn := by first | assumption | omega)) (cwV 2 hts gX5_numberOf_X5_spotsOf rfl rfl rfl (by decide +kernel) ⟨Nat.le_of_ble_eq_true rfl, Nat.le_of_ble_eq_true rfl⟩) (preV_ro (wc := [oTe a ey le, aI cI (a 11) 1920 (oF t)]) hK hP [0, 1] rfl 5 0 rfl rfl rfl) rfl rfl hl.1 rfl (lv_room (Nat.le_of_ble_eq_true rfl)) dX5_numberOf_12 ⟨Nat.zero_le _, Nat.zero_le _⟩) ?_
  refine lv_iadd hx hb dX5_numberOf_15 ?_
  refine toi (nI_add (10 * grp t (e * 240 + d)) (spt t (e * 240 + d))) ?_
  exact W.iret (v := nI (10 * grp t (e * 240 + d) + spt t (e * 240 + d))) hx hb hr (fun zt ht zw => ⟨_, rfl, (congrArg nI (show 10 * grp t (e * 240 + d) + spt t (e * 240 + d) = num t (e * 240 + d) from by rfl)), ht⟩) (fun q hq => absurd hq List.not_mem_nil) dX5_numberOf_16

set_option maxHeartbeats 400000 in
set_option maxRecDepth 100000 in
theorem c_X5_countDays (l : Launch) (G : va_G) (cI cJ : ClassId) (a : Nat → Nat) (ey : Int32) (le : Int32) (t : Nat → Nat) (e : Nat) (lo : Nat) (hi : Nat) (tb : TB t) (he : e < 8) (h_l : lo ≤ hi) (hh : hi < 240) : Met l yX5_countDays wsX5_countDays ({ frames := 1, cells := 0, slots := 0, locals := 22 }) (roP G cI cJ [.ref (a 2), .int (nI e), .int (nI lo), .int (nI hi)] [oTe a ey le, aI cI (a 11) 1920 (oF t)]) (vp_Si (fun r => r = nI (cD t e lo (hi + 1 - lo)))) 0 0 (fun _ => False) := by
  refine Met.ofW (cc := cX5_countDays) (maxL := 6) (ret := (some .int)) (by decide) rfl ?_
  intro pg ev s mt args below meth cd s₁ B hml hv
  obtain ⟨rfl, hP, hK⟩ := hv
  have hx := B.exec
  have hb := B.bytes
  have hr := B.returns
  have hts := atoms_spec (ws := wsX5_countDays) B.pre
  have hown : s.vm.findClass RX5 = some mt.cls := findClass_of_methodNamed B.named
  have hlocks := B.notSynchronized
  have hP : va_P G vwCl [oTe a ey le, aI cI (a 11) 1920 (oF t)] s.heap := hP
  have hl := lv_entry ([.ref (a 2), .int (nI e), .int (nI lo), .int (nI hi)]) (n := 6) (Nat.le_of_ble_eq_true rfl)
  rw [lg_entry_eq]
  generalize (lg_sl ([.ref (a 2), .int (nI e), .int (nI lo), .int (nI hi)]) ++ List.replicate (6 - (lg_sl ([.ref (a 2), .int (nI e), .int (nI lo), .int (nI hi)])).length) Slot.unset).toArray = ls at hl ⊢
  have hl : lv_has ls 6 [(0, .ref (a 2)), (1, .int (nI e)), (2, .int (nI lo)), (3, .int (nI hi))] := hl
  refine lv_iconst (v := nI 0) hx hb dX5_countDays_0 (by decide) ?_
  refine lv_istore (lv' := [(4, .int (nI 0)), (0, .ref (a 2)), (1, .int (nI e)), (2, .int (nI lo)), (3, .int (nI hi))]) hx hb dX5_countDays_1 hl (by decide) rfl (fun ls hl => ?_)
  refine lv_iload_n hx hb dX5_countDays_3 rfl (lv_at hl 3 rfl) ?_
  refine lv_istore (lv' := [(5, .int (nI lo)), (4, .int (nI 0)), (0, .ref (a 2)), (1, .int (nI e)), (2, .int (nI lo)), (3, .int (nI hi))]) hx hb dX5_countDays_4 hl (by decide) rfl (fun ls hl => ?_)
  have lp_6 : ∀ (nf : Nat) (k : Nat), lo + k ≤ hi + 1 → hi + 1 - (lo + k) < nf → ∀ (ls : Array Slot), lv_has ls 6 [(0, .ref (a 2)), (1, .int (nI e)), (2, .int (nI lo)), (3, .int (nI hi)), (4, .int (nI (cD t e lo k))), (5, .int (nI (lo + k)))] → W pg l ev (headSpec wsX5_countDays ({ frames := 1, cells := 0, slots := 0, locals := 22 })).room s mt ([.ref (a 2), .int (nI e), .int (nI lo), .int (nI hi)] : List Value).toArray below meth cd s.heap [] 0 0 (MQ below (vp_Si (fun r => r = nI (cD t e lo (hi + 1 - lo)))) ([.ref (a 2), .int (nI e), .int (nI lo), .int (nI hi)] : List Value).toArray s 0 0 (fun _ => False)) (F0 mt 6 ls []) := by
    intro nf
    induction nf with
    | zero => intro k hk hfu; exact absurd hfu (Nat.not_lt_zero _)
    | succ nf ih_6 =>
      intro k hk hfu ls hl
      have hc := cD_le t e lo k
      refine lv_iload hx hb dX5_countDays_6 (lv_at hl 5 rfl) ?_
      refine lv_iload_n hx hb dX5_countDays_8 rfl (lv_at hl 3 rfl) ?_
      refine nv_icmp_gt (tgt := 31) hx hb dX5_countDays_9 (by decide) (by first | omega | exact Nat.le_trans (TB_le tb _) (by decide) | exact Nat.lt_of_le_of_lt (TB_le tb _) (by decide)) (by first | omega | exact Nat.le_trans (TB_le tb _) (by decide) | exact Nat.lt_of_le_of_lt (TB_le tb _) (by decide)) (fun c_9 => ?_) (fun c_9 => ?_)
      · refine lv_iload hx hb dX5_countDays_31 (lv_at hl 4 rfl) ?_
        exact W.iret (v := nI (cD t e lo k)) hx hb hr (fun zt ht zw => ⟨_, rfl, (congrArg nI (show cD t e lo k = cD t e lo (hi + 1 - lo) from by congr 1; omega)), ht⟩) (fun q hq => absurd hq List.not_mem_nil) dX5_countDays_33
      refine lv_aload_n hx hb dX5_countDays_12 rfl (lv_at hl 0 rfl) ?_
      refine lv_iload_n hx hb dX5_countDays_13 rfl (lv_at hl 1 rfl) ?_
      refine lv_iload hx hb dX5_countDays_14 (lv_at hl 5 rfl) ?_
      refine cro_i (va_runV (As := [.int (nI e), .int (nI (lo + k))]) (rest := []) ⟨hx, hb, hml, hown, hts⟩ (c_X5_has l G cI cJ (a := a) (ey := ey) (le := le) (t := t) (e := e) (d := lo + k) (tb := by first | assumption | omega) (he := by first | assumption | omega) (hd := by first | assumption | omega)) (cwV 2 hts gX5_countDays_X5_has rfl rfl rfl (by decide +kernel) ⟨Nat.le_of_ble_eq_true rfl, Nat.le_of_ble_eq_true rfl⟩) (preV_ro (wc := [oTe a ey le, aI cI (a 11) 1920 (oF t)]) hK hP [0, 1] rfl 5 0 rfl rfl rfl) rfl rfl hl.1 rfl (lv_room (Nat.le_of_ble_eq_true rfl)) dX5_countDays_16 ⟨Nat.zero_le _, Nat.zero_le _⟩) ?_
      refine nb_if_eq (tgt := 25) hx hb dX5_countDays_19 (by decide) (fun c_19 => ?_) (fun c_19 => ?_)
      · refine lv_iinc (v := nI (lo + k + 1)) (lv' := [(5, .int (nI (lo + k + 1))), (0, .ref (a 2)), (1, .int (nI e)), (2, .int (nI lo)), (3, .int (nI hi)), (4, .int (nI (cD t e lo k)))]) hx hb dX5_countDays_25 hl (k := 5) rfl (nI_add (lo + k) 1) (by decide) rfl (fun ls hl => ?_)
        refine lv_goto (tgt := 6) hx hb dX5_countDays_28 (by decide) ?_
        exact ih_6 (k + 1) (by first | rfl | omega | (simp_all; done)) (by omega) ls (lvcv (l := [(0, .ref (a 2)), (1, .int (nI e)), (2, .int (nI lo)), (3, .int (nI hi)), (4, .int (nI (cD t e lo k))), (5, .int (nI (lo + k + 1)))]) (lv_sub hl [1, 2, 3, 4, 5, 0] rfl) (lvC (lvC (lvC (lvC (lvI (congrArg nI (show cD t e lo k = cD t e lo (k + 1) from by first | rfl | (simp only [cD, sm_s]; split <;> first | omega | (simp_all; done) | (simp_all; omega)))) (lvI (congrArg nI (show lo + k + 1 = lo + (k + 1) from by first | rfl | omega | (simp_all; done))) rfl)))))))
      refine lv_iinc (v := nI (cD t e lo k + 1)) (lv' := [(4, .int (nI (cD t e lo k + 1))), (0, .ref (a 2)), (1, .int (nI e)), (2, .int (nI lo)), (3, .int (nI hi)), (5, .int (nI (lo + k)))]) hx hb dX5_countDays_22 hl (k := 4) rfl (nI_add (cD t e lo k) 1) (by decide) rfl (fun ls hl => ?_)
      refine lv_iinc (v := nI (lo + k + 1)) (lv' := [(5, .int (nI (lo + k + 1))), (4, .int (nI (cD t e lo k + 1))), (0, .ref (a 2)), (1, .int (nI e)), (2, .int (nI lo)), (3, .int (nI hi))]) hx hb dX5_countDays_25 hl (k := 5) rfl (nI_add (lo + k) 1) (by decide) rfl (fun ls hl => ?_)
      refine lv_goto (tgt := 6) hx hb dX5_countDays_28 (by decide) ?_
      exact ih_6 (k + 1) (by first | rfl | omega | (simp_all; done)) (by omega) ls (lvcv (l := [(0, .ref (a 2)), (1, .int (nI e)), (2, .int (nI lo)), (3, .int (nI hi)), (4, .int (nI (cD t e lo k + 1))), (5, .int (nI (lo + k + 1)))]) (lv_sub hl [2, 3, 4, 5, 1, 0] rfl) (lvC (lvC (lvC (lvC (lvI (congrArg nI (show cD t e lo k + 1 = cD t e lo (k + 1) from by first | rfl | (simp only [cD, sm_s]; split <;> first | omega | (simp_all; done) | (simp_all; omega)))) (lvI (congrArg nI (show lo + k + 1 = lo + (k + 1) from by first | rfl | omega | (simp_all; done))) rfl)))))))
  exact lp_6 (hi + 1 - (lo + 0) + 1) 0 (by first | rfl | omega | (simp_all; done)) (by omega) ls (lvcv (l := [(0, .ref (a 2)), (1, .int (nI e)), (2, .int (nI lo)), (3, .int (nI hi)), (4, .int (nI 0)), (5, .int (nI lo))]) (lv_sub hl [2, 3, 4, 5, 1, 0] rfl) (lvC (lvC (lvC (lvC (lvI (congrArg nI (show 0 = cD t e lo 0 from by first | rfl | (simp only [cD, sm_s]; split <;> first | omega | (simp_all; done) | (simp_all; omega)))) (lvI (congrArg nI (show lo = lo + 0 from by first | rfl | omega | (simp_all; done))) rfl)))))))

set_option maxHeartbeats 400000 in
set_option maxRecDepth 100000 in
theorem c_X5_countActive (l : Launch) (G : va_G) (cI cJ : ClassId) (a : Nat → Nat) (ey : Int32) (le : Int32) (t : Nat → Nat) (e : Nat) (lo : Nat) (hi : Nat) (tb : TB t) (he : e < 8) (h_l : lo ≤ hi) (hh : hi < 240) : Met l yX5_countActive wsX5_countActive ({ frames := 1, cells := 0, slots := 0, locals := 22 }) (roP G cI cJ [.ref (a 2), .int (nI e), .int (nI lo), .int (nI hi)] [oTe a ey le, aI cI (a 11) 1920 (oF t)]) (vp_Si (fun r => r = nI (cA t e lo (hi + 1 - lo)))) 0 0 (fun _ => False) := by
  refine Met.ofW (cc := cX5_countActive) (maxL := 6) (ret := (some .int)) (by decide) rfl ?_
  intro pg ev s mt args below meth cd s₁ B hml hv
  obtain ⟨rfl, hP, hK⟩ := hv
  have hx := B.exec
  have hb := B.bytes
  have hr := B.returns
  have hts := atoms_spec (ws := wsX5_countActive) B.pre
  have hown : s.vm.findClass RX5 = some mt.cls := findClass_of_methodNamed B.named
  have hlocks := B.notSynchronized
  have hP : va_P G vwCl [oTe a ey le, aI cI (a 11) 1920 (oF t)] s.heap := hP
  have hl := lv_entry ([.ref (a 2), .int (nI e), .int (nI lo), .int (nI hi)]) (n := 6) (Nat.le_of_ble_eq_true rfl)
  rw [lg_entry_eq]
  generalize (lg_sl ([.ref (a 2), .int (nI e), .int (nI lo), .int (nI hi)]) ++ List.replicate (6 - (lg_sl ([.ref (a 2), .int (nI e), .int (nI lo), .int (nI hi)])).length) Slot.unset).toArray = ls at hl ⊢
  have hl : lv_has ls 6 [(0, .ref (a 2)), (1, .int (nI e)), (2, .int (nI lo)), (3, .int (nI hi))] := hl
  refine lv_iconst (v := nI 0) hx hb dX5_countActive_0 (by decide) ?_
  refine lv_istore (lv' := [(4, .int (nI 0)), (0, .ref (a 2)), (1, .int (nI e)), (2, .int (nI lo)), (3, .int (nI hi))]) hx hb dX5_countActive_1 hl (by decide) rfl (fun ls hl => ?_)
  refine lv_iload_n hx hb dX5_countActive_3 rfl (lv_at hl 3 rfl) ?_
  refine lv_istore (lv' := [(5, .int (nI lo)), (4, .int (nI 0)), (0, .ref (a 2)), (1, .int (nI e)), (2, .int (nI lo)), (3, .int (nI hi))]) hx hb dX5_countActive_4 hl (by decide) rfl (fun ls hl => ?_)
  have lp_6 : ∀ (nf : Nat) (k : Nat), lo + k ≤ hi + 1 → hi + 1 - (lo + k) < nf → ∀ (ls : Array Slot), lv_has ls 6 [(0, .ref (a 2)), (1, .int (nI e)), (2, .int (nI lo)), (3, .int (nI hi)), (4, .int (nI (cA t e lo k))), (5, .int (nI (lo + k)))] → W pg l ev (headSpec wsX5_countActive ({ frames := 1, cells := 0, slots := 0, locals := 22 })).room s mt ([.ref (a 2), .int (nI e), .int (nI lo), .int (nI hi)] : List Value).toArray below meth cd s.heap [] 0 0 (MQ below (vp_Si (fun r => r = nI (cA t e lo (hi + 1 - lo)))) ([.ref (a 2), .int (nI e), .int (nI lo), .int (nI hi)] : List Value).toArray s 0 0 (fun _ => False)) (F0 mt 6 ls []) := by
    intro nf
    induction nf with
    | zero => intro k hk hfu; exact absurd hfu (Nat.not_lt_zero _)
    | succ nf ih_6 =>
      intro k hk hfu ls hl
      have hc := cA_le t e lo k
      have hg := grp_le tb (e * 240 + (lo + k))
      refine lv_iload hx hb dX5_countActive_6 (lv_at hl 5 rfl) ?_
      refine lv_iload_n hx hb dX5_countActive_8 rfl (lv_at hl 3 rfl) ?_
      refine nv_icmp_gt (tgt := 41) hx hb dX5_countActive_9 (by decide) (by first | omega | exact Nat.le_trans (TB_le tb _) (by decide) | exact Nat.lt_of_le_of_lt (TB_le tb _) (by decide)) (by first | omega | exact Nat.le_trans (TB_le tb _) (by decide) | exact Nat.lt_of_le_of_lt (TB_le tb _) (by decide)) (fun c_9 => ?_) (fun c_9 => ?_)
      · refine lv_iload hx hb dX5_countActive_41 (lv_at hl 4 rfl) ?_
        exact W.iret (v := nI (cA t e lo k)) hx hb hr (fun zt ht zw => ⟨_, rfl, (congrArg nI (show cA t e lo k = cA t e lo (hi + 1 - lo) from by congr 1; omega)), ht⟩) (fun q hq => absurd hq List.not_mem_nil) dX5_countActive_43
      refine lv_aload_n hx hb dX5_countActive_12 rfl (lv_at hl 0 rfl) ?_
      refine lv_iload_n hx hb dX5_countActive_13 rfl (lv_at hl 1 rfl) ?_
      refine lv_iload hx hb dX5_countActive_14 (lv_at hl 5 rfl) ?_
      refine cro_i (va_runV (As := [.int (nI e), .int (nI (lo + k))]) (rest := []) ⟨hx, hb, hml, hown, hts⟩ (c_X5_has l G cI cJ (a := a) (ey := ey) (le := le) (t := t) (e := e) (d := lo + k) (tb := by first | assumption | omega) (he := by first | assumption | omega) (hd := by first | assumption | omega)) (cwV 2 hts gX5_countActive_X5_has rfl rfl rfl (by decide +kernel) ⟨Nat.le_of_ble_eq_true rfl, Nat.le_of_ble_eq_true rfl⟩) (preV_ro (wc := [oTe a ey le, aI cI (a 11) 1920 (oF t)]) hK hP [0, 1] rfl 5 0 rfl rfl rfl) rfl rfl hl.1 rfl (lv_room (Nat.le_of_ble_eq_true rfl)) dX5_countActive_16 ⟨Nat.zero_le _, Nat.zero_le _⟩) ?_
      refine nb_if_eq (tgt := 35) hx hb dX5_countActive_19 (by decide) (fun c_19 => ?_) (fun c_19 => ?_)
      · refine lv_iinc (v := nI (lo + k + 1)) (lv' := [(5, .int (nI (lo + k + 1))), (0, .ref (a 2)), (1, .int (nI e)), (2, .int (nI lo)), (3, .int (nI hi)), (4, .int (nI (cA t e lo k)))]) hx hb dX5_countActive_35 hl (k := 5) rfl (nI_add (lo + k) 1) (by decide) rfl (fun ls hl => ?_)
        refine lv_goto (tgt := 6) hx hb dX5_countActive_38 (by decide) ?_
        exact ih_6 (k + 1) (by first | rfl | omega | (simp_all; done)) (by omega) ls (lvcv (l := [(0, .ref (a 2)), (1, .int (nI e)), (2, .int (nI lo)), (3, .int (nI hi)), (4, .int (nI (cA t e lo k))), (5, .int (nI (lo + k + 1)))]) (lv_sub hl [1, 2, 3, 4, 5, 0] rfl) (lvC (lvC (lvC (lvC (lvI (congrArg nI (show cA t e lo k = cA t e lo (k + 1) from by first | rfl | (simp only [cA, sm_s]; split <;> first | omega | (simp_all; done) | (simp_all; omega)))) (lvI (congrArg nI (show lo + k + 1 = lo + (k + 1) from by first | rfl | omega | (simp_all; done))) rfl)))))))
      refine lv_aload_n hx hb dX5_countActive_22 rfl (lv_at hl 0 rfl) ?_
      refine lv_iload_n hx hb dX5_countActive_23 rfl (lv_at hl 1 rfl) ?_
      refine lv_iload hx hb dX5_countActive_24 (lv_at hl 5 rfl) ?_
      refine cro_i (va_runV (As := [.int (nI e), .int (nI (lo + k))]) (rest := []) ⟨hx, hb, hml, hown, hts⟩ (c_X5_groupsOf l G cI cJ (a := a) (ey := ey) (le := le) (t := t) (e := e) (d := lo + k) (tb := by first | assumption | omega) (he := by first | assumption | omega) (hd := by first | assumption | omega) (hn := by first | assumption | omega)) (cwV 2 hts gX5_countActive_X5_groupsOf rfl rfl rfl (by decide +kernel) ⟨Nat.le_of_ble_eq_true rfl, Nat.le_of_ble_eq_true rfl⟩) (preV_ro (wc := [oTe a ey le, aI cI (a 11) 1920 (oF t)]) hK hP [0, 1] rfl 5 0 rfl rfl rfl) rfl rfl hl.1 rfl (lv_room (Nat.le_of_ble_eq_true rfl)) dX5_countActive_26 ⟨Nat.zero_le _, Nat.zero_le _⟩) ?_
      refine nv_if_le (tgt := 35) hx hb dX5_countActive_29 (by decide) (by first | omega | exact Nat.le_trans (TB_le tb _) (by decide) | exact Nat.lt_of_le_of_lt (TB_le tb _) (by decide)) (fun c_29 => ?_) (fun c_29 => ?_)
      · refine lv_iinc (v := nI (lo + k + 1)) (lv' := [(5, .int (nI (lo + k + 1))), (0, .ref (a 2)), (1, .int (nI e)), (2, .int (nI lo)), (3, .int (nI hi)), (4, .int (nI (cA t e lo k)))]) hx hb dX5_countActive_35 hl (k := 5) rfl (nI_add (lo + k) 1) (by decide) rfl (fun ls hl => ?_)
        refine lv_goto (tgt := 6) hx hb dX5_countActive_38 (by decide) ?_
        exact ih_6 (k + 1) (by first | rfl | omega | (simp_all; done)) (by omega) ls (lvcv (l := [(0, .ref (a 2)), (1, .int (nI e)), (2, .int (nI lo)), (3, .int (nI hi)), (4, .int (nI (cA t e lo k))), (5, .int (nI (lo + k + 1)))]) (lv_sub hl [1, 2, 3, 4, 5, 0] rfl) (lvC (lvC (lvC (lvC (lvI (congrArg nI (show cA t e lo k = cA t e lo (k + 1) from by first | rfl | (simp only [cA, sm_s]; split <;> first | omega | (simp_all; done) | (simp_all; omega)))) (lvI (congrArg nI (show lo + k + 1 = lo + (k + 1) from by first | rfl | omega | (simp_all; done))) rfl)))))))
      refine lv_iinc (v := nI (cA t e lo k + 1)) (lv' := [(4, .int (nI (cA t e lo k + 1))), (0, .ref (a 2)), (1, .int (nI e)), (2, .int (nI lo)), (3, .int (nI hi)), (5, .int (nI (lo + k)))]) hx hb dX5_countActive_32 hl (k := 4) rfl (nI_add (cA t e lo k) 1) (by decide) rfl (fun ls hl => ?_)
      refine lv_iinc (v := nI (lo + k + 1)) (lv' := [(5, .int (nI (lo + k + 1))), (4, .int (nI (cA t e lo k + 1))), (0, .ref (a 2)), (1, .int (nI e)), (2, .int (nI lo)), (3, .int (nI hi))]) hx hb dX5_countActive_35 hl (k := 5) rfl (nI_add (lo + k) 1) (by decide) rfl (fun ls hl => ?_)
      refine lv_goto (tgt := 6) hx hb dX5_countActive_38 (by decide) ?_
      exact ih_6 (k + 1) (by first | rfl | omega | (simp_all; done)) (by omega) ls (lvcv (l := [(0, .ref (a 2)), (1, .int (nI e)), (2, .int (nI lo)), (3, .int (nI hi)), (4, .int (nI (cA t e lo k + 1))), (5, .int (nI (lo + k + 1)))]) (lv_sub hl [2, 3, 4, 5, 1, 0] rfl) (lvC (lvC (lvC (lvC (lvI (congrArg nI (show cA t e lo k + 1 = cA t e lo (k + 1) from by first | rfl | (simp only [cA, sm_s]; split <;> first | omega | (simp_all; done) | (simp_all; omega)))) (lvI (congrArg nI (show lo + k + 1 = lo + (k + 1) from by first | rfl | omega | (simp_all; done))) rfl)))))))
  exact lp_6 (hi + 1 - (lo + 0) + 1) 0 (by first | rfl | omega | (simp_all; done)) (by omega) ls (lvcv (l := [(0, .ref (a 2)), (1, .int (nI e)), (2, .int (nI lo)), (3, .int (nI hi)), (4, .int (nI 0)), (5, .int (nI lo))]) (lv_sub hl [2, 3, 4, 5, 1, 0] rfl) (lvC (lvC (lvC (lvC (lvI (congrArg nI (show 0 = cA t e lo 0 from by first | rfl | (simp only [cA, sm_s]; split <;> first | omega | (simp_all; done) | (simp_all; omega)))) (lvI (congrArg nI (show lo = lo + 0 from by first | rfl | omega | (simp_all; done))) rfl)))))))
end
section
set_option maxHeartbeats 400000 in
set_option maxRecDepth 100000 in
theorem c_X5_canBeTold (l : Launch) (G : va_G) (cI cJ : ClassId) (g : Int32) (k : Int32)  : Met l yX5_canBeTold wsX5_canBeTold ({ frames := 1, cells := 0, slots := 0, locals := 21 }) (roP G cI cJ [.int g, .int k] []) (vp_Si (fun r => r = bi (ctold g k))) 0 0 (fun _ => False) := by
  refine Met.ofW (cc := cX5_canBeTold) (maxL := 2) (ret := (some .boolean)) (by decide) rfl ?_
  intro pg ev s mt args below meth cd s₁ B hml hv
  obtain ⟨rfl, hP, hK⟩ := hv
  have hx := B.exec
  have hb := B.bytes
  have hr := B.returns
  have hts := atoms_spec (ws := wsX5_canBeTold) B.pre
  have hown : s.vm.findClass RX5 = some mt.cls := findClass_of_methodNamed B.named
  have hlocks := B.notSynchronized
  have hP : va_P G vwCl [] s.heap := hP
  have hl := lv_entry ([.int g, .int k]) (n := 2) (Nat.le_of_ble_eq_true rfl)
  rw [lg_entry_eq]
  generalize (lg_sl ([.int g, .int k]) ++ List.replicate (2 - (lg_sl ([.int g, .int k])).length) Slot.unset).toArray = ls at hl ⊢
  have hl : lv_has ls 2 [(0, .int g), (1, .int k)] := hl
  refine lv_iload_n hx hb dX5_canBeTold_0 rfl (lv_at hl 0 rfl) ?_
  refine lv_bipush (v := nI 20) hx hb dX5_canBeTold_1 (by decide) ?_
  refine cro_i (va_runSN (As := [.int g, .int (nI 20)]) (rest := []) ⟨hx, hb, hml, hown, hts⟩ (c_X7_isWithin l G cI cJ (x := g) (k := 20) (hk := by first | assumption | omega)) ⟨va_cnB 2 hts gX5_canBeTold_X7_isWithin_n34 rfl rfl rfl (hK.2.1 (.methodLinkNest "SpotRows$Tellings" 34 yX7_isWithin "SpotRows") (by decide +kernel)) (hts (.initialized yX7_isWithin.cls) (by decide +kernel)) (by decide +kernel) ⟨Nat.le_of_ble_eq_true rfl, Nat.le_of_ble_eq_true rfl⟩, hts (.static yX7_isWithin) (by decide +kernel), trivial⟩ (preS_ro (wc := []) hK hP [] rfl) rfl rfl hl.1 rfl (lv_room (Nat.le_of_ble_eq_true rfl)) dX5_canBeTold_3 ⟨Nat.zero_le _, Nat.zero_le _⟩) ?_
  refine nb_if_eq (tgt := 28) hx hb dX5_canBeTold_6 (by decide) (fun c_6 => ?_) (fun c_6 => ?_)
  · refine lv_iconst (v := nI 0) hx hb dX5_canBeTold_28 (by decide) ?_
    exact W.zret (v := nI 0) hx hb hr rfl (fun zt ht zw => ⟨_, rfl, (show nI 0 = bi (ctold g k) from (bi_f (by (try simp only [Int32.lt_iff_toInt_lt] at *); simp only [ctold] at *; omega)).symm), ht⟩) (fun q hq => absurd hq List.not_mem_nil) dX5_canBeTold_29
  refine lv_iload_n hx hb dX5_canBeTold_9 rfl (lv_at hl 1 rfl) ?_
  refine lv_sipush (v := nI 200) hx hb dX5_canBeTold_10 (by decide) ?_
  refine cro_i (va_runSN (As := [.int k, .int (nI 200)]) (rest := []) ⟨hx, hb, hml, hown, hts⟩ (c_X7_isWithin l G cI cJ (x := k) (k := 200) (hk := by first | assumption | omega)) ⟨va_cnB 2 hts gX5_canBeTold_X7_isWithin_n34 rfl rfl rfl (hK.2.1 (.methodLinkNest "SpotRows$Tellings" 34 yX7_isWithin "SpotRows") (by decide +kernel)) (hts (.initialized yX7_isWithin.cls) (by decide +kernel)) (by decide +kernel) ⟨Nat.le_of_ble_eq_true rfl, Nat.le_of_ble_eq_true rfl⟩, hts (.static yX7_isWithin) (by decide +kernel), trivial⟩ (preS_ro (wc := []) hK hP [] rfl) rfl rfl hl.1 rfl (lv_room (Nat.le_of_ble_eq_true rfl)) dX5_canBeTold_13 ⟨Nat.zero_le _, Nat.zero_le _⟩) ?_
  refine nb_if_eq (tgt := 28) hx hb dX5_canBeTold_16 (by decide) (fun c_16 => ?_) (fun c_16 => ?_)
  · refine lv_iconst (v := nI 0) hx hb dX5_canBeTold_28 (by decide) ?_
    exact W.zret (v := nI 0) hx hb hr rfl (fun zt ht zw => ⟨_, rfl, (show nI 0 = bi (ctold g k) from (bi_f (by (try simp only [Int32.lt_iff_toInt_lt] at *); simp only [ctold] at *; omega)).symm), ht⟩) (fun q hq => absurd hq List.not_mem_nil) dX5_canBeTold_29
  refine lv_iload_n hx hb dX5_canBeTold_19 rfl (lv_at hl 1 rfl) ?_
  refine lv_iload_n hx hb dX5_canBeTold_20 rfl (lv_at hl 0 rfl) ?_
  refine lv_icmp_lt (tgt := 28) hx hb dX5_canBeTold_21 (by decide) (fun c_21 => ?_) (fun c_21 => ?_)
  · refine lv_iconst (v := nI 0) hx hb dX5_canBeTold_28 (by decide) ?_
    exact W.zret (v := nI 0) hx hb hr rfl (fun zt ht zw => ⟨_, rfl, (show nI 0 = bi (ctold g k) from (bi_f (by (try simp only [Int32.lt_iff_toInt_lt] at *); simp only [ctold] at *; omega)).symm), ht⟩) (fun q hq => absurd hq List.not_mem_nil) dX5_canBeTold_29
  refine lv_iconst (v := nI 1) hx hb dX5_canBeTold_24 (by decide) ?_
  refine lv_goto (tgt := 29) hx hb dX5_canBeTold_25 (by decide) ?_
  exact W.zret (v := nI 1) hx hb hr rfl (fun zt ht zw => ⟨_, rfl, (show nI 1 = bi (ctold g k) from (bi_t (by (try simp only [Int32.lt_iff_toInt_lt] at *); simp only [ctold] at *; omega)).symm), ht⟩) (fun q hq => absurd hq List.not_mem_nil) dX5_canBeTold_29

set_option maxHeartbeats 400000 in
set_option maxRecDepth 100000 in
theorem c_X5_isCode (l : Launch) (G : va_G) (cI cJ : ClassId) (v : Int64)  : Met l yX5_isCode wsX5_isCode ({ frames := 2, cells := 0, slots := 0, locals := 42 }) (roP G cI cJ [.long v] []) (vp_Si (fun r => r = bi (okc v))) 0 0 (fun _ => False) := by
  refine Met.ofW (cc := cX5_isCode) (maxL := 3) (ret := (some .boolean)) (by decide) rfl ?_
  intro pg ev s mt args below meth cd s₁ B hml hv
  obtain ⟨rfl, hP, hK⟩ := hv
  have hx := B.exec
  have hb := B.bytes
  have hr := B.returns
  have hts := atoms_spec (ws := wsX5_isCode) B.pre
  have hown : s.vm.findClass RX5 = some mt.cls := findClass_of_methodNamed B.named
  have hlocks := B.notSynchronized
  have hP : va_P G vwCl [] s.heap := hP
  have hl := lv_entry ([.long v]) (n := 3) (Nat.le_of_ble_eq_true rfl)
  rw [lg_entry_eq]
  generalize (lg_sl ([.long v]) ++ List.replicate (3 - (lg_sl ([.long v])).length) Slot.unset).toArray = ls at hl ⊢
  have hl : lv_has ls 3 [(0, .long v)] := hl
  refine lv_lload_n hx hb dX5_isCode_0 rfl (lv_at hl 0 rfl) ?_
  refine lv_ldc2 (own := RX5) (v := -1) hx hb hown (hts (.constantLong RX5 38 (-1)) (by decide +kernel)) dX5_isCode_1 ?_
  refine rl_if_ne (tgt := 10) hx hb dX5_isCode_4 dX5_isCode_5 (by decide) (fun c_5 => ?_) (fun c_5 => ?_)
  · refine lv_lload_n hx hb dX5_isCode_10 rfl (lv_at hl 0 rfl) ?_
    refine lv_lconst (v := lN 0) hx hb dX5_isCode_11 (by decide) ?_
    refine rl_if_lt (tgt := 24) hx hb dX5_isCode_12 dX5_isCode_13 (by decide) (fun c_13 => ?_) (fun c_13 => ?_)
    · refine lv_iconst (v := nI 0) hx hb dX5_isCode_24 (by decide) ?_
      exact W.zret (v := nI 0) hx hb hr rfl (fun zt ht zw => ⟨_, rfl, (show nI 0 = bi (okc v) from (bi_f (by first | exact okc_no c_5 (Or.inl c_13) | exact okc_no c_5 (Or.inr c_21))).symm), ht⟩) (fun q hq => absurd hq List.not_mem_nil) dX5_isCode_25
    refine lv_lload_n hx hb dX5_isCode_16 rfl (lv_at hl 0 rfl) ?_
    refine lv_ldc2 (own := RX5) (v := 20200) hx hb hown (hts (.constantLong RX5 40 (20200)) (by decide +kernel)) dX5_isCode_17 ?_
    refine tol (show (20200 : Int64) = lN 20200 by decide) ?_
    refine rl_if_le (tgt := 26) hx hb dX5_isCode_20 dX5_isCode_21 (by decide) (fun c_21 => ?_) (fun c_21 => ?_)
    · obtain ⟨w, hw, rfl⟩ := okc_ex c_13 c_21
      refine lv_lload_n hx hb dX5_isCode_26 rfl (lv_at hl 0 rfl) ?_
      refine lv_l2i (v := nI w) hx hb dX5_isCode_27 (lN_i w) ?_
      refine lv_istore_n (lv' := [(2, .int (nI w)), (0, .long (lN w))]) hx hb dX5_isCode_28 rfl hl (by decide) rfl (fun ls hl => ?_)
      refine lv_iload_n hx hb dX5_isCode_29 rfl (lv_at hl 0 rfl) ?_
      refine lv_sipush (v := nI 1000) hx hb dX5_isCode_30 (by decide) ?_
      refine lv_idiv hx hb dX5_isCode_33 (nI_ne0 (by omega) (by omega)) ?_
      refine toi (pk_div (a := w) (d := 1000) (by omega) (by omega) (by omega)) ?_
      refine lv_iload_n hx hb dX5_isCode_34 rfl (lv_at hl 0 rfl) ?_
      refine lv_sipush (v := nI 1000) hx hb dX5_isCode_35 (by decide) ?_
      refine lv_irem hx hb dX5_isCode_38 (nI_ne0 (by omega) (by omega)) ?_
      refine toi (pk_rem (a := w) (d := 1000) (by omega) (by omega) (by omega)) ?_
      refine cro_i (va_runS (As := [.int (nI (w / 1000)), .int (nI (w % 1000))]) (rest := []) ⟨hx, hb, hml, hown, hts⟩ (c_X5_canBeTold l G cI cJ (g := nI (w / 1000)) (k := nI (w % 1000)) ) (va_cwS 2 hts gX5_isCode_X5_canBeTold rfl rfl rfl (by decide +kernel) ⟨Nat.le_of_ble_eq_true rfl, Nat.le_of_ble_eq_true rfl⟩) (preS_ro (wc := []) hK hP [] rfl) rfl rfl hl.1 rfl (lv_room (Nat.le_of_ble_eq_true rfl)) dX5_isCode_39 ⟨Nat.zero_le _, Nat.zero_le _⟩) ?_
      exact W.zret (v := bi (ctold (nI (w / 1000)) (nI (w % 1000)))) hx hb hr bi_nar (fun zt ht zw => ⟨_, rfl, (bi_cong (show ctold (nI (w / 1000)) (nI (w % 1000)) ↔ okc (lN w) from by rw [okc_lN hw, ctold_nI (by omega) (by omega)]; unfold okn; omega)), ht⟩) (fun q hq => absurd hq List.not_mem_nil) dX5_isCode_42
    refine lv_iconst (v := nI 0) hx hb dX5_isCode_24 (by decide) ?_
    exact W.zret (v := nI 0) hx hb hr rfl (fun zt ht zw => ⟨_, rfl, (show nI 0 = bi (okc v) from (bi_f (by first | exact okc_no c_5 (Or.inl c_13) | exact okc_no c_5 (Or.inr c_21))).symm), ht⟩) (fun q hq => absurd hq List.not_mem_nil) dX5_isCode_25
  refine lv_iconst (v := nI 1) hx hb dX5_isCode_8 (by decide) ?_
  exact W.zret (v := nI 1) hx hb hr rfl (fun zt ht zw => ⟨_, rfl, (show nI 1 = bi (okc v) from (bi_t (by exact Or.inl c_5)).symm), ht⟩) (fun q hq => absurd hq List.not_mem_nil) dX5_isCode_9

set_option maxHeartbeats 400000 in
set_option maxRecDepth 100000 in
theorem c_X5_addEye (l : Launch) (G : va_G) (cI cJ : ClassId) (a : Nat → Nat) (ey : Nat) (le : Int32) (hey : ey < 8) : Met l yX5_addEye wsX5_addEye ({ frames := 0, cells := 0, slots := 0, locals := 0 }) (rwP G cI cJ [.ref (a 2)] [oTe a (nI ey) le]) (rwQi G [oTe a (nI ey) le] (fun (r : Int32) (_ : Unit) => r = nI ey) (fun (_ : Unit) => [oTe a (nI (ey + 1)) le])) 0 0 (ads [oTe a (nI ey) le]) := by
  refine Met.ofW (cc := cX5_addEye) (maxL := 1) (ret := (some .int)) (by decide) rfl ?_
  intro pg ev s mt args below meth cd s₁ B hml hv
  obtain ⟨rfl, hP, hD0, hK⟩ := hv
  have hx := B.exec
  have hb := B.bytes
  have hr := B.returns
  have hts := atoms_spec (ws := wsX5_addEye) B.pre
  have hown : s.vm.findClass RX5 = some mt.cls := findClass_of_methodNamed B.named
  have hlocks := B.notSynchronized
  have hD := ads_self hD0
  generalize hAe : ads [oTe a (nI ey) le] = A at hD ⊢
  have hS : va_S A s.heap s.heap [] := va_S.rf
  have hP : va_P G vwCl [oTe a (nI ey) le] s.heap := hP
  have hinX5 := (show ∀ w ∈ u_ws RX5 TX5 5, w ∈ wsX5_addEye by decide +kernel)
  have fl27 := hts (.fieldLink RX5 27 "SpotRows$Tellings" "eyes" "I") (by decide +kernel)
  have hl := lv_entry ([.ref (a 2)]) (n := 1) (Nat.le_of_ble_eq_true rfl)
  rw [lg_entry_eq]
  generalize (lg_sl ([.ref (a 2)]) ++ List.replicate (1 - (lg_sl ([.ref (a 2)])).length) Slot.unset).toArray = ls at hl ⊢
  have hl : lv_has ls 1 [(0, .ref (a 2))] := hl
  refine lv_aload_n hx hb dX5_addEye_0 rfl (lv_at hl 0 rfl) ?_
  refine lv_dup hx hb dX5_addEye_1 rfl ?_
  refine va_get (D := G) (own := RX5) (ref := "SpotRows$Tellings") (ci := 5) (v := .int (nI ey)) (C := RX5) (T := TX5) (N := 5) hx hb hts hinX5 hown hK.1 hP 0 rfl rfl 3 (by decide) fl27 (fun _ h9 => h9) rfl dX5_addEye_2 ?_
  refine lv_iconst (v := nI 1) hx hb dX5_addEye_5 (by decide) ?_
  refine lv_iadd hx hb dX5_addEye_6 ?_
  refine toi (nI_add ey 1) ?_
  refine va_put (D := G) (own := RX5) (ref := "SpotRows$Tellings") (ci := 5) (v := .int (nI (ey + 1))) (ty := .int) (C := RX5) (T := TX5) (N := 5) hx hb hts hinX5 tyX5 tyX5_ok nmX5 hown hK.1 hP hD hS 0 rfl rfl 3 (by decide) fl27 (fun _ h9 => h9) rfl (by decide +kernel) rfl rfl (Nat.le_of_ble_eq_true rfl) dX5_addEye_7 (fun H locs hP hD hS => ?_)
  have hP : va_P G vwCl [oTe a (nI (ey + 1)) le] H := hP
  have hD : va_D A [oTe a (nI (ey + 1)) le] := hD
  refine lv_aload_n hx hb dX5_addEye_10 rfl (lv_at hl 0 rfl) ?_
  refine va_get (D := G) (own := RX5) (ref := "SpotRows$Tellings") (ci := 5) (v := .int (nI (ey + 1))) (C := RX5) (T := TX5) (N := 5) hx hb hts hinX5 hown hK.1 hP 0 rfl rfl 3 (by decide) fl27 (fun _ h9 => h9) rfl dX5_addEye_11 ?_
  refine lv_iconst (v := nI 1) hx hb dX5_addEye_14 (by decide) ?_
  refine lv_isub hx hb dX5_addEye_15 ?_
  refine toi (pk_sub (a := (ey + 1)) (b := 1) (by omega)) ?_
  exact W.iret (v := nI (ey + 1 - 1)) hx hb hr (fun zt ht zw => ⟨⟨_, (), rfl, (congrArg nI (show ey + 1 - 1 = ey from by omega)), by show va_P _ _ _ zt.heap; rw [ht]; exact hP⟩, by rw [hAe]; exact hS.F ht⟩) hS.2.2 dX5_addEye_16

set_option maxHeartbeats 400000 in
set_option maxRecDepth 100000 in
theorem c_X5_countIn (l : Launch) (G : va_G) (cI cJ : ClassId) (a : Nat → Nat) (ey : Nat) (le : Int32) (t : Nat → Nat) (e : Nat) (d : Nat) (sg : Int32) (bd : Nat → Int32) (bs : Nat → Int32) (tb : TB t) (he : e < 8) (hd : d < 240) (hey : ey ≤ 8) : Met l yX5_countIn wsX5_countIn ({ frames := 2, cells := 0, slots := 0, locals := 44 }) (rwP G cI cJ [.ref (a 2), .int (nI e), .int (nI d), .int sg] [oTe a (nI ey) le, aI cI (a 11) 1920 (oF t), aI cI (a 12) 64 bd, aI cI (a 13) 64 bs]) (rwQv G [oTe a (nI ey) le, aI cI (a 11) 1920 (oF t), aI cI (a 12) 64 bd, aI cI (a 13) 64 bs] (fun (_ : Unit) => True) (fun (_ : Unit) => [oTe a (nI ey) le, aI cI (a 11) 1920 (oF t), aI cI (a 12) 64 (cInD t e d sg ey bd), aI cI (a 13) 64 (cInS t e d sg ey bs)])) 0 0 (ads [oTe a (nI ey) le, aI cI (a 11) 1920 (oF t), aI cI (a 12) 64 bd, aI cI (a 13) 64 bs]) := by
  refine Met.ofW (cc := cX5_countIn) (maxL := 7) (ret := none) (by decide) rfl ?_
  intro pg ev s mt args below meth cd s₁ B hml hv
  obtain ⟨rfl, hP, hD0, hK⟩ := hv
  have hx := B.exec
  have hb := B.bytes
  have hr := B.returns
  have hts := atoms_spec (ws := wsX5_countIn) B.pre
  have hown : s.vm.findClass RX5 = some mt.cls := findClass_of_methodNamed B.named
  have hlocks := B.notSynchronized
  have hD := ads_self hD0
  generalize hAe : ads [oTe a (nI ey) le, aI cI (a 11) 1920 (oF t), aI cI (a 12) 64 bd, aI cI (a 13) 64 bs] = A at hD ⊢
  have hS : va_S A s.heap s.heap [] := va_S.rf
  have hP : va_P G vwCl [oTe a (nI ey) le, aI cI (a 11) 1920 (oF t), aI cI (a 12) 64 bd, aI cI (a 13) 64 bs] s.heap := hP
  have hinX5 := (show ∀ w ∈ u_ws RX5 TX5 5, w ∈ wsX5_countIn by decide +kernel)
  have fl27 := hts (.fieldLink RX5 27 "SpotRows$Tellings" "eyes" "I") (by decide +kernel)
  have fl15 := hts (.fieldLink RX5 15 "SpotRows$Tellings" "bothDays" "[I") (by decide +kernel)
  have fl18 := hts (.fieldLink RX5 18 "SpotRows$Tellings" "bothSums" "[I") (by decide +kernel)
  have hl := lv_entry ([.ref (a 2), .int (nI e), .int (nI d), .int sg]) (n := 7) (Nat.le_of_ble_eq_true rfl)
  rw [lg_entry_eq]
  generalize (lg_sl ([.ref (a 2), .int (nI e), .int (nI d), .int sg]) ++ List.replicate (7 - (lg_sl ([.ref (a 2), .int (nI e), .int (nI d), .int sg])).length) Slot.unset).toArray = ls at hl ⊢
  have hl : lv_has ls 7 [(0, .ref (a 2)), (1, .int (nI e)), (2, .int (nI d)), (3, .int sg)] := hl
  refine lv_aload_n hx hb dX5_countIn_0 rfl (lv_at hl 0 rfl) ?_
  refine lv_iload_n hx hb dX5_countIn_1 rfl (lv_at hl 1 rfl) ?_
  refine lv_iload_n hx hb dX5_countIn_2 rfl (lv_at hl 2 rfl) ?_
  refine cro_i (va_runV (As := [.int (nI e), .int (nI d)]) (rest := []) ⟨hx, hb, hml, hown, hts⟩ (c_X5_has l G cI cJ (a := a) (ey := nI ey) (le := le) (t := t) (e := e) (d := d) (tb := by first | assumption | omega) (he := by first | assumption | omega) (hd := by first | assumption | omega)) (cwV 2 hts gX5_countIn_X5_has rfl rfl rfl (by decide +kernel) ⟨Nat.le_of_ble_eq_true rfl, Nat.le_of_ble_eq_true rfl⟩) (preV_ro (wc := [oTe a (nI ey) le, aI cI (a 11) 1920 (oF t)]) hK hP [0, 1] rfl 5 0 rfl rfl rfl) rfl rfl hl.1 rfl (lv_room (Nat.le_of_ble_eq_true rfl)) dX5_countIn_3 ⟨Nat.zero_le _, Nat.zero_le _⟩) ?_
  refine nb_if_ne (tgt := 10) hx hb dX5_countIn_6 (by decide) (fun c_6 => ?_) (fun c_6 => ?_)
  · refine lv_iconst (v := nI 0) hx hb dX5_countIn_10 (by decide) ?_
    refine lv_istore (lv' := [(4, .int (nI 0)), (0, .ref (a 2)), (1, .int (nI e)), (2, .int (nI d)), (3, .int sg)]) hx hb dX5_countIn_11 hl (by decide) rfl (fun ls hl => ?_)
    have lp_13 : ∀ (nf : Nat) (k : Nat), k ≤ ey → ey - k < nf → ∀ (H : Heap) (locs : List Loc), va_P G vwCl [oTe a (nI ey) le, aI cI (a 11) 1920 (oF t), aI cI (a 12) 64 (bdL t e d sg k bd), aI cI (a 13) 64 (bsL t e d sg k bs)] H → va_D A [oTe a (nI ey) le, aI cI (a 11) 1920 (oF t), aI cI (a 12) 64 (bdL t e d sg k bd), aI cI (a 13) 64 (bsL t e d sg k bs)] → va_S A s.heap H locs → ∀ (ls : Array Slot), lv_has ls 7 [(0, .ref (a 2)), (1, .int (nI e)), (2, .int (nI d)), (3, .int sg), (4, .int (nI k))] → W pg l ev (headSpec wsX5_countIn ({ frames := 2, cells := 0, slots := 0, locals := 44 })).room s mt ([.ref (a 2), .int (nI e), .int (nI d), .int sg] : List Value).toArray below meth cd H locs 0 0 (MQ below (rwQv G [oTe a (nI ey) le, aI cI (a 11) 1920 (oF t), aI cI (a 12) 64 bd, aI cI (a 13) 64 bs] (fun (_ : Unit) => True) (fun (_ : Unit) => [oTe a (nI ey) le, aI cI (a 11) 1920 (oF t), aI cI (a 12) 64 (cInD t e d sg ey bd), aI cI (a 13) 64 (cInS t e d sg ey bs)])) ([.ref (a 2), .int (nI e), .int (nI d), .int sg] : List Value).toArray s 0 0 A) (F0 mt 13 ls []) := by
      intro nf
      induction nf with
      | zero => intro k hk hfu; exact absurd hfu (Nat.not_lt_zero _)
      | succ nf ih_13 =>
        intro k hk hfu H locs hP hD hS ls hl
        refine lv_iload hx hb dX5_countIn_13 (lv_at hl 4 rfl) ?_
        refine lv_aload_n hx hb dX5_countIn_15 rfl (lv_at hl 0 rfl) ?_
        refine va_get (D := G) (own := RX5) (ref := "SpotRows$Tellings") (ci := 5) (v := .int (nI ey)) (C := RX5) (T := TX5) (N := 5) hx hb hts hinX5 hown hK.1 hP 0 rfl rfl 3 (by decide) fl27 (fun _ h9 => h9) rfl dX5_countIn_16 ?_
        refine nv_icmp_ge (tgt := 121) hx hb dX5_countIn_19 (by decide) (by omega) (by omega) (fun c_19 => ?_) (fun c_19 => ?_)
        · have hP : va_P G vwCl [oTe a (nI ey) le, aI cI (a 11) 1920 (oF t), aI cI (a 12) 64 (cInD t e d sg ey bd), aI cI (a 13) 64 (cInS t e d sg ey bs)] H := by
            have ew : ([oTe a (nI ey) le, aI cI (a 11) 1920 (oF t), aI cI (a 12) 64 (bdL t e d sg k bd), aI cI (a 13) 64 (bsL t e d sg k bs)] : va_W) = [oTe a (nI ey) le, aI cI (a 11) 1920 (oF t), aI cI (a 12) 64 (cInD t e d sg ey bd), aI cI (a 13) 64 (cInS t e d sg ey bs)] := (wvC rfl (wvC rfl (wvC (congrArg (fun z => aI cI (a 12) 64 z) (show (bdL t e d sg k bd) = (cInD t e d sg ey bd) from by (unfold cInD; rw [if_neg (by omega), show k = ey from by omega]))) (wvC (congrArg (fun z => aI cI (a 13) 64 z) (show (bsL t e d sg k bs) = (cInS t e d sg ey bs) from by (unfold cInS; rw [if_neg (by omega), show k = ey from by omega]))) rfl))))
            rw [← ew]; exact hP
          exact W.vret hx hb hr (fun zt ht zw => ⟨⟨(), rfl, trivial, by show va_P _ _ _ zt.heap; rw [ht]; exact hP⟩, by rw [hAe]; exact hS.F ht⟩) hS.2.2 dX5_countIn_121
        refine lv_iload hx hb dX5_countIn_22 (lv_at hl 4 rfl) ?_
        refine lv_iload_n hx hb dX5_countIn_24 rfl (lv_at hl 1 rfl) ?_
        refine nv_icmp_eq (tgt := 115) hx hb dX5_countIn_25 (by decide) (by omega) (by omega) (fun c_25 => ?_) (fun c_25 => ?_)
        · refine lv_iinc (v := nI (k + 1)) (lv' := [(4, .int (nI (k + 1))), (0, .ref (a 2)), (1, .int (nI e)), (2, .int (nI d)), (3, .int sg)]) hx hb dX5_countIn_115 hl (k := 4) rfl (nI_add k 1) (by decide) rfl (fun ls hl => ?_)
          refine lv_goto (tgt := 13) hx hb dX5_countIn_118 (by decide) ?_
          have hw_13 : ([oTe a (nI ey) le, aI cI (a 11) 1920 (oF t), aI cI (a 12) 64 (bdL t e d sg k bd), aI cI (a 13) 64 (bsL t e d sg k bs)] : va_W) = [oTe a (nI ey) le, aI cI (a 11) 1920 (oF t), aI cI (a 12) 64 (bdL t e d sg (k + 1) bd), aI cI (a 13) 64 (bsL t e d sg (k + 1) bs)] := (wvC rfl (wvC rfl (wvC (congrArg (fun z => aI cI (a 12) 64 z) (show bdL t e d sg k bd = bdL t e d sg (k + 1) bd from by first | rfl | (simp only [bdL]; rw [if_neg (by omega)]) | (simp only [bdL]; rw [if_pos (by omega)]))) (wvC (congrArg (fun z => aI cI (a 13) 64 z) (show bsL t e d sg k bs = bsL t e d sg (k + 1) bs from by first | rfl | (simp only [bsL]; rw [if_neg (by omega)]) | (simp only [bsL]; rw [if_pos (by omega)]))) rfl))))
          exact ih_13 (k + 1) (by first | rfl | omega | (simp_all; done)) (by omega) H locs (hw_13 ▸ hP) (hw_13 ▸ hD) hS ls (lvcv (l := [(0, .ref (a 2)), (1, .int (nI e)), (2, .int (nI d)), (3, .int sg), (4, .int (nI (k + 1)))]) (lv_sub hl [1, 2, 3, 4, 0] rfl) (lvC (lvC (lvC (lvC (lvC rfl))))))
        refine lv_aload_n hx hb dX5_countIn_28 rfl (lv_at hl 0 rfl) ?_
        refine lv_iload hx hb dX5_countIn_29 (lv_at hl 4 rfl) ?_
        refine lv_iload_n hx hb dX5_countIn_31 rfl (lv_at hl 2 rfl) ?_
        refine cro_i (va_runV (As := [.int (nI k), .int (nI d)]) (rest := []) ⟨hx, hb, hml, hown, hts⟩ (c_X5_has l G cI cJ (a := a) (ey := nI ey) (le := le) (t := t) (e := k) (d := d) (tb := by first | assumption | omega) (he := by first | assumption | omega) (hd := by first | assumption | omega)) (cwV 2 hts gX5_countIn_X5_has rfl rfl rfl (by decide +kernel) ⟨Nat.le_of_ble_eq_true rfl, Nat.le_of_ble_eq_true rfl⟩) (preV_ro (wc := [oTe a (nI ey) le, aI cI (a 11) 1920 (oF t)]) hK hP [0, 1] rfl 5 0 rfl rfl rfl) rfl rfl hl.1 rfl (lv_room (Nat.le_of_ble_eq_true rfl)) dX5_countIn_32 ⟨Nat.zero_le _, Nat.zero_le _⟩) ?_
        refine nb_if_eq (tgt := 115) hx hb dX5_countIn_35 (by decide) (fun c_35 => ?_) (fun c_35 => ?_)
        · refine lv_iinc (v := nI (k + 1)) (lv' := [(4, .int (nI (k + 1))), (0, .ref (a 2)), (1, .int (nI e)), (2, .int (nI d)), (3, .int sg)]) hx hb dX5_countIn_115 hl (k := 4) rfl (nI_add k 1) (by decide) rfl (fun ls hl => ?_)
          refine lv_goto (tgt := 13) hx hb dX5_countIn_118 (by decide) ?_
          have hw_13 : ([oTe a (nI ey) le, aI cI (a 11) 1920 (oF t), aI cI (a 12) 64 (bdL t e d sg k bd), aI cI (a 13) 64 (bsL t e d sg k bs)] : va_W) = [oTe a (nI ey) le, aI cI (a 11) 1920 (oF t), aI cI (a 12) 64 (bdL t e d sg (k + 1) bd), aI cI (a 13) 64 (bsL t e d sg (k + 1) bs)] := (wvC rfl (wvC rfl (wvC (congrArg (fun z => aI cI (a 12) 64 z) (show bdL t e d sg k bd = bdL t e d sg (k + 1) bd from by first | rfl | (simp only [bdL]; rw [if_neg (by omega)]) | (simp only [bdL]; rw [if_pos (by omega)]))) (wvC (congrArg (fun z => aI cI (a 13) 64 z) (show bsL t e d sg k bs = bsL t e d sg (k + 1) bs from by first | rfl | (simp only [bsL]; rw [if_neg (by omega)]) | (simp only [bsL]; rw [if_pos (by omega)]))) rfl))))
          exact ih_13 (k + 1) (by first | rfl | omega | (simp_all; done)) (by omega) H locs (hw_13 ▸ hP) (hw_13 ▸ hD) hS ls (lvcv (l := [(0, .ref (a 2)), (1, .int (nI e)), (2, .int (nI d)), (3, .int sg), (4, .int (nI (k + 1)))]) (lv_sub hl [1, 2, 3, 4, 0] rfl) (lvC (lvC (lvC (lvC (lvC rfl))))))
        refine lv_iload_n hx hb dX5_countIn_38 rfl (lv_at hl 1 rfl) ?_
        refine lv_bipush (v := nI 8) hx hb dX5_countIn_39 (by decide) ?_
        refine lv_imul hx hb dX5_countIn_41 ?_
        refine toi (pk_mul e 8) ?_
        refine lv_iload hx hb dX5_countIn_42 (lv_at hl 4 rfl) ?_
        refine lv_iadd hx hb dX5_countIn_44 ?_
        refine toi (nI_add (e * 8) k) ?_
        refine lv_istore (lv' := [(5, .int (nI (e * 8 + k))), (0, .ref (a 2)), (1, .int (nI e)), (2, .int (nI d)), (3, .int sg), (4, .int (nI k))]) hx hb dX5_countIn_45 hl (by decide) rfl (fun ls hl => ?_)
        refine lv_iload hx hb dX5_countIn_47 (lv_at hl 5 rfl) ?_
        refine lv_bipush (v := nI 8) hx hb dX5_countIn_49 (by decide) ?_
        refine lv_imul hx hb dX5_countIn_51 ?_
        refine toi (pk_mul k 8) ?_
        refine lv_iload_n hx hb dX5_countIn_52 rfl (lv_at hl 2 rfl) ?_
        refine lv_iadd hx hb dX5_countIn_53 ?_
        refine toi (nI_add (k * 8) e) ?_
        refine lv_istore (lv' := [(6, .int (nI (k * 8 + e))), (5, .int (nI (e * 8 + k))), (0, .ref (a 2)), (1, .int (nI e)), (2, .int (nI d)), (3, .int sg), (4, .int (nI k))]) hx hb dX5_countIn_54 hl (by decide) rfl (fun ls hl => ?_)
        refine lv_aload_n hx hb dX5_countIn_56 rfl (lv_at hl 2 rfl) ?_
        refine va_get (D := G) (own := RX5) (ref := "SpotRows$Tellings") (ci := 5) (v := .ref (a 12)) (C := RX5) (T := TX5) (N := 5) hx hb hts hinX5 hown hK.1 hP 0 rfl rfl 1 (by decide) fl15 (fun _ h9 => h9) rfl dX5_countIn_57 ?_
        refine lv_iload hx hb dX5_countIn_60 (lv_at hl 1 rfl) ?_
        refine lv_dup2_11 hx hb dX5_countIn_62 rfl rfl ?_
        refine ld_I hx hb hK hP 2 (k := e * 8 + k) rfl (by omega) (by decide) dX5_countIn_63 ?_
        refine lv_iload_n hx hb dX5_countIn_64 rfl (lv_at hl 5 rfl) ?_
        refine lv_iadd hx hb dX5_countIn_65 ?_
        refine st_I hx hb hK hP hD hS 2 (k := e * 8 + k) rfl (by omega) (by decide) dX5_countIn_66 (fun H locs hP hD hS => ?_)
        have hP : va_P G vwCl [oTe a (nI ey) le, aI cI (a 11) 1920 (oF t), aI cI (a 12) 64 (upN (bdL t e d sg k bd) (e * 8 + k) (((bdL t e d sg k bd) (e * 8 + k)) + sg)), aI cI (a 13) 64 (bsL t e d sg k bs)] H := hP
        have hD : va_D A [oTe a (nI ey) le, aI cI (a 11) 1920 (oF t), aI cI (a 12) 64 (upN (bdL t e d sg k bd) (e * 8 + k) (((bdL t e d sg k bd) (e * 8 + k)) + sg)), aI cI (a 13) 64 (bsL t e d sg k bs)] := hD
        refine lv_aload_n hx hb dX5_countIn_67 rfl (lv_at hl 2 rfl) ?_
        refine va_get (D := G) (own := RX5) (ref := "SpotRows$Tellings") (ci := 5) (v := .ref (a 12)) (C := RX5) (T := TX5) (N := 5) hx hb hts hinX5 hown hK.1 hP 0 rfl rfl 1 (by decide) fl15 (fun _ h9 => h9) rfl dX5_countIn_68 ?_
        refine lv_iload hx hb dX5_countIn_71 (lv_at hl 0 rfl) ?_
        refine lv_dup2_11 hx hb dX5_countIn_73 rfl rfl ?_
        refine ld_I hx hb hK hP 2 (k := k * 8 + e) rfl (by omega) (by decide) dX5_countIn_74 ?_
        refine lv_iload_n hx hb dX5_countIn_75 rfl (lv_at hl 5 rfl) ?_
        refine lv_iadd hx hb dX5_countIn_76 ?_
        refine st_I hx hb hK hP hD hS 2 (k := k * 8 + e) rfl (by omega) (by decide) dX5_countIn_77 (fun H locs hP hD hS => ?_)
        have hP : va_P G vwCl [oTe a (nI ey) le, aI cI (a 11) 1920 (oF t), aI cI (a 12) 64 (upN (upN (bdL t e d sg k bd) (e * 8 + k) (((bdL t e d sg k bd) (e * 8 + k)) + sg)) (k * 8 + e) (((upN (bdL t e d sg k bd) (e * 8 + k) (((bdL t e d sg k bd) (e * 8 + k)) + sg)) (k * 8 + e)) + sg)), aI cI (a 13) 64 (bsL t e d sg k bs)] H := hP
        have hD : va_D A [oTe a (nI ey) le, aI cI (a 11) 1920 (oF t), aI cI (a 12) 64 (upN (upN (bdL t e d sg k bd) (e * 8 + k) (((bdL t e d sg k bd) (e * 8 + k)) + sg)) (k * 8 + e) (((upN (bdL t e d sg k bd) (e * 8 + k) (((bdL t e d sg k bd) (e * 8 + k)) + sg)) (k * 8 + e)) + sg)), aI cI (a 13) 64 (bsL t e d sg k bs)] := hD
        refine lv_aload_n hx hb dX5_countIn_78 rfl (lv_at hl 2 rfl) ?_
        refine va_get (D := G) (own := RX5) (ref := "SpotRows$Tellings") (ci := 5) (v := .ref (a 13)) (C := RX5) (T := TX5) (N := 5) hx hb hts hinX5 hown hK.1 hP 0 rfl rfl 2 (by decide) fl18 (fun _ h9 => h9) rfl dX5_countIn_79 ?_
        refine lv_iload hx hb dX5_countIn_82 (lv_at hl 1 rfl) ?_
        refine lv_dup2_11 hx hb dX5_countIn_84 rfl rfl ?_
        refine ld_I hx hb hK hP 3 (k := e * 8 + k) rfl (by omega) (by decide) dX5_countIn_85 ?_
        refine lv_iload_n hx hb dX5_countIn_86 rfl (lv_at hl 5 rfl) ?_
        refine lv_aload_n hx hb dX5_countIn_87 rfl (lv_at hl 2 rfl) ?_
        refine lv_iload_n hx hb dX5_countIn_88 rfl (lv_at hl 3 rfl) ?_
        refine lv_iload_n hx hb dX5_countIn_89 rfl (lv_at hl 4 rfl) ?_
        refine cro_i (va_runV (As := [.int (nI e), .int (nI d)]) (rest := [.int sg, .int ((bsL t e d sg k bs) (e * 8 + k)), .int (nI (e * 8 + k)), .ref (a 13)]) ⟨hx, hb, hml, hown, hts⟩ (c_X5_numberOf l G cI cJ (a := a) (ey := nI ey) (le := le) (t := t) (e := e) (d := d) (tb := by first | assumption | omega) (he := by first | assumption | omega) (hd := by first | assumption | omega) (hn := by first | assumption | omega)) (cwV 2 hts gX5_countIn_X5_numberOf rfl rfl rfl (by decide +kernel) ⟨Nat.le_of_ble_eq_true rfl, Nat.le_of_ble_eq_true rfl⟩) (preV_ro (wc := [oTe a (nI ey) le, aI cI (a 11) 1920 (oF t)]) hK hP [0, 1] rfl 5 0 rfl rfl rfl) rfl rfl hl.1 rfl (lv_room (Nat.le_of_ble_eq_true rfl)) dX5_countIn_90 ⟨Nat.zero_le _, Nat.zero_le _⟩) ?_
        refine lv_imul hx hb dX5_countIn_93 ?_
        refine lv_iadd hx hb dX5_countIn_94 ?_
        refine st_I hx hb hK hP hD hS 3 (k := e * 8 + k) rfl (by omega) (by decide) dX5_countIn_95 (fun H locs hP hD hS => ?_)
        have hP : va_P G vwCl [oTe a (nI ey) le, aI cI (a 11) 1920 (oF t), aI cI (a 12) 64 (upN (upN (bdL t e d sg k bd) (e * 8 + k) (((bdL t e d sg k bd) (e * 8 + k)) + sg)) (k * 8 + e) (((upN (bdL t e d sg k bd) (e * 8 + k) (((bdL t e d sg k bd) (e * 8 + k)) + sg)) (k * 8 + e)) + sg)), aI cI (a 13) 64 (upN (bsL t e d sg k bs) (e * 8 + k) (((bsL t e d sg k bs) (e * 8 + k)) + (sg * (nI (num t (e * 240 + d))))))] H := hP
        have hD : va_D A [oTe a (nI ey) le, aI cI (a 11) 1920 (oF t), aI cI (a 12) 64 (upN (upN (bdL t e d sg k bd) (e * 8 + k) (((bdL t e d sg k bd) (e * 8 + k)) + sg)) (k * 8 + e) (((upN (bdL t e d sg k bd) (e * 8 + k) (((bdL t e d sg k bd) (e * 8 + k)) + sg)) (k * 8 + e)) + sg)), aI cI (a 13) 64 (upN (bsL t e d sg k bs) (e * 8 + k) (((bsL t e d sg k bs) (e * 8 + k)) + (sg * (nI (num t (e * 240 + d))))))] := hD
        refine lv_aload_n hx hb dX5_countIn_96 rfl (lv_at hl 2 rfl) ?_
        refine va_get (D := G) (own := RX5) (ref := "SpotRows$Tellings") (ci := 5) (v := .ref (a 13)) (C := RX5) (T := TX5) (N := 5) hx hb hts hinX5 hown hK.1 hP 0 rfl rfl 2 (by decide) fl18 (fun _ h9 => h9) rfl dX5_countIn_97 ?_
        refine lv_iload hx hb dX5_countIn_100 (lv_at hl 0 rfl) ?_
        refine lv_dup2_11 hx hb dX5_countIn_102 rfl rfl ?_
        refine ld_I hx hb hK hP 3 (k := k * 8 + e) rfl (by omega) (by decide) dX5_countIn_103 ?_
        refine lv_iload_n hx hb dX5_countIn_104 rfl (lv_at hl 5 rfl) ?_
        refine lv_aload_n hx hb dX5_countIn_105 rfl (lv_at hl 2 rfl) ?_
        refine lv_iload hx hb dX5_countIn_106 (lv_at hl 6 rfl) ?_
        refine lv_iload_n hx hb dX5_countIn_108 rfl (lv_at hl 4 rfl) ?_
        refine cro_i (va_runV (As := [.int (nI k), .int (nI d)]) (rest := [.int sg, .int ((upN (bsL t e d sg k bs) (e * 8 + k) (((bsL t e d sg k bs) (e * 8 + k)) + (sg * (nI (num t (e * 240 + d)))))) (k * 8 + e)), .int (nI (k * 8 + e)), .ref (a 13)]) ⟨hx, hb, hml, hown, hts⟩ (c_X5_numberOf l G cI cJ (a := a) (ey := nI ey) (le := le) (t := t) (e := k) (d := d) (tb := by first | assumption | omega) (he := by first | assumption | omega) (hd := by first | assumption | omega) (hn := by first | assumption | omega)) (cwV 2 hts gX5_countIn_X5_numberOf rfl rfl rfl (by decide +kernel) ⟨Nat.le_of_ble_eq_true rfl, Nat.le_of_ble_eq_true rfl⟩) (preV_ro (wc := [oTe a (nI ey) le, aI cI (a 11) 1920 (oF t)]) hK hP [0, 1] rfl 5 0 rfl rfl rfl) rfl rfl hl.1 rfl (lv_room (Nat.le_of_ble_eq_true rfl)) dX5_countIn_109 ⟨Nat.zero_le _, Nat.zero_le _⟩) ?_
        refine lv_imul hx hb dX5_countIn_112 ?_
        refine lv_iadd hx hb dX5_countIn_113 ?_
        refine st_I hx hb hK hP hD hS 3 (k := k * 8 + e) rfl (by omega) (by decide) dX5_countIn_114 (fun H locs hP hD hS => ?_)
        have hP : va_P G vwCl [oTe a (nI ey) le, aI cI (a 11) 1920 (oF t), aI cI (a 12) 64 (upN (upN (bdL t e d sg k bd) (e * 8 + k) (((bdL t e d sg k bd) (e * 8 + k)) + sg)) (k * 8 + e) (((upN (bdL t e d sg k bd) (e * 8 + k) (((bdL t e d sg k bd) (e * 8 + k)) + sg)) (k * 8 + e)) + sg)), aI cI (a 13) 64 (upN (upN (bsL t e d sg k bs) (e * 8 + k) (((bsL t e d sg k bs) (e * 8 + k)) + (sg * (nI (num t (e * 240 + d)))))) (k * 8 + e) (((upN (bsL t e d sg k bs) (e * 8 + k) (((bsL t e d sg k bs) (e * 8 + k)) + (sg * (nI (num t (e * 240 + d)))))) (k * 8 + e)) + (sg * (nI (num t (k * 240 + d))))))] H := hP
        have hD : va_D A [oTe a (nI ey) le, aI cI (a 11) 1920 (oF t), aI cI (a 12) 64 (upN (upN (bdL t e d sg k bd) (e * 8 + k) (((bdL t e d sg k bd) (e * 8 + k)) + sg)) (k * 8 + e) (((upN (bdL t e d sg k bd) (e * 8 + k) (((bdL t e d sg k bd) (e * 8 + k)) + sg)) (k * 8 + e)) + sg)), aI cI (a 13) 64 (upN (upN (bsL t e d sg k bs) (e * 8 + k) (((bsL t e d sg k bs) (e * 8 + k)) + (sg * (nI (num t (e * 240 + d)))))) (k * 8 + e) (((upN (bsL t e d sg k bs) (e * 8 + k) (((bsL t e d sg k bs) (e * 8 + k)) + (sg * (nI (num t (e * 240 + d)))))) (k * 8 + e)) + (sg * (nI (num t (k * 240 + d))))))] := hD
        refine lv_iinc (v := nI (k + 1)) (lv' := [(4, .int (nI (k + 1))), (6, .int (nI (k * 8 + e))), (5, .int (nI (e * 8 + k))), (0, .ref (a 2)), (1, .int (nI e)), (2, .int (nI d)), (3, .int sg)]) hx hb dX5_countIn_115 hl (k := 6) rfl (nI_add k 1) (by decide) rfl (fun ls hl => ?_)
        refine lv_goto (tgt := 13) hx hb dX5_countIn_118 (by decide) ?_
        have hw_13 : ([oTe a (nI ey) le, aI cI (a 11) 1920 (oF t), aI cI (a 12) 64 (upN (upN (bdL t e d sg k bd) (e * 8 + k) (((bdL t e d sg k bd) (e * 8 + k)) + sg)) (k * 8 + e) (((upN (bdL t e d sg k bd) (e * 8 + k) (((bdL t e d sg k bd) (e * 8 + k)) + sg)) (k * 8 + e)) + sg)), aI cI (a 13) 64 (upN (upN (bsL t e d sg k bs) (e * 8 + k) (((bsL t e d sg k bs) (e * 8 + k)) + (sg * (nI (num t (e * 240 + d)))))) (k * 8 + e) (((upN (bsL t e d sg k bs) (e * 8 + k) (((bsL t e d sg k bs) (e * 8 + k)) + (sg * (nI (num t (e * 240 + d)))))) (k * 8 + e)) + (sg * (nI (num t (k * 240 + d))))))] : va_W) = [oTe a (nI ey) le, aI cI (a 11) 1920 (oF t), aI cI (a 12) 64 (bdL t e d sg (k + 1) bd), aI cI (a 13) 64 (bsL t e d sg (k + 1) bs)] := (wvC rfl (wvC rfl (wvC (congrArg (fun z => aI cI (a 12) 64 z) (show upN (upN (bdL t e d sg k bd) (e * 8 + k) (((bdL t e d sg k bd) (e * 8 + k)) + sg)) (k * 8 + e) (((upN (bdL t e d sg k bd) (e * 8 + k) (((bdL t e d sg k bd) (e * 8 + k)) + sg)) (k * 8 + e)) + sg) = bdL t e d sg (k + 1) bd from by first | rfl | (simp only [bdL]; rw [if_neg (by omega)]) | (simp only [bdL]; rw [if_pos (by omega)]))) (wvC (congrArg (fun z => aI cI (a 13) 64 z) (show upN (upN (bsL t e d sg k bs) (e * 8 + k) (((bsL t e d sg k bs) (e * 8 + k)) + (sg * (nI (num t (e * 240 + d)))))) (k * 8 + e) (((upN (bsL t e d sg k bs) (e * 8 + k) (((bsL t e d sg k bs) (e * 8 + k)) + (sg * (nI (num t (e * 240 + d)))))) (k * 8 + e)) + (sg * (nI (num t (k * 240 + d))))) = bsL t e d sg (k + 1) bs from by first | rfl | (simp only [bsL]; rw [if_neg (by omega)]) | (simp only [bsL]; rw [if_pos (by omega)]))) rfl))))
        exact ih_13 (k + 1) (by first | rfl | omega | (simp_all; done)) (by omega) H locs (hw_13 ▸ hP) (hw_13 ▸ hD) hS ls (lvcv (l := [(0, .ref (a 2)), (1, .int (nI e)), (2, .int (nI d)), (3, .int sg), (4, .int (nI (k + 1)))]) (lv_sub hl [3, 4, 5, 6, 0] rfl) (lvC (lvC (lvC (lvC (lvC rfl))))))
    have hw_13 : ([oTe a (nI ey) le, aI cI (a 11) 1920 (oF t), aI cI (a 12) 64 bd, aI cI (a 13) 64 bs] : va_W) = [oTe a (nI ey) le, aI cI (a 11) 1920 (oF t), aI cI (a 12) 64 (bdL t e d sg 0 bd), aI cI (a 13) 64 (bsL t e d sg 0 bs)] := (wvC rfl (wvC rfl (wvC (congrArg (fun z => aI cI (a 12) 64 z) (show bd = bdL t e d sg 0 bd from by first | rfl | (simp only [bdL]; rw [if_neg (by omega)]) | (simp only [bdL]; rw [if_pos (by omega)]))) (wvC (congrArg (fun z => aI cI (a 13) 64 z) (show bs = bsL t e d sg 0 bs from by first | rfl | (simp only [bsL]; rw [if_neg (by omega)]) | (simp only [bsL]; rw [if_pos (by omega)]))) rfl))))
    exact lp_13 (ey - 0 + 1) 0 (by first | rfl | omega | (simp_all; done)) (by omega) _ _ (hw_13 ▸ hP) (hw_13 ▸ hD) hS ls (lvcv (l := [(0, .ref (a 2)), (1, .int (nI e)), (2, .int (nI d)), (3, .int sg), (4, .int (nI 0))]) (lv_sub hl [1, 2, 3, 4, 0] rfl) (lvC (lvC (lvC (lvC (lvC rfl))))))
  have hP : va_P G vwCl [oTe a (nI ey) le, aI cI (a 11) 1920 (oF t), aI cI (a 12) 64 (cInD t e d sg ey bd), aI cI (a 13) 64 (cInS t e d sg ey bs)] s.heap := by
    have ew : ([oTe a (nI ey) le, aI cI (a 11) 1920 (oF t), aI cI (a 12) 64 bd, aI cI (a 13) 64 bs] : va_W) = [oTe a (nI ey) le, aI cI (a 11) 1920 (oF t), aI cI (a 12) 64 (cInD t e d sg ey bd), aI cI (a 13) 64 (cInS t e d sg ey bs)] := (wvC rfl (wvC rfl (wvC (congrArg (fun z => aI cI (a 12) 64 z) (show bd = (cInD t e d sg ey bd) from by (unfold cInD; rw [if_pos (by omega)]))) (wvC (congrArg (fun z => aI cI (a 13) 64 z) (show bs = (cInS t e d sg ey bs) from by (unfold cInS; rw [if_pos (by omega)]))) rfl))))
    rw [← ew]; exact hP
  exact W.vret hx hb hr (fun zt ht zw => ⟨⟨(), rfl, trivial, by show va_P _ _ _ zt.heap; rw [ht]; exact hP⟩, by rw [hAe]; exact hS.F ht⟩) hS.2.2 dX5_countIn_9

set_option maxHeartbeats 400000 in
set_option maxRecDepth 100000 in
theorem c_X5_put (l : Launch) (G : va_G) (cI cJ : ClassId) (a : Nat → Nat) (ey : Nat) (le : Int32) (t : Nat → Nat) (e : Nat) (d : Nat) (u : Nat) (bd : Nat → Int32) (bs : Nat → Int32) (tb : TB t) (tb2 : TB (upN t (e * 240 + d) u)) (he : e < 8) (hd : d < 240) (hey : ey ≤ 8) : Met l yX5_put wsX5_put ({ frames := 3, cells := 0, slots := 0, locals := 70 }) (rwP G cI cJ [.ref (a 2), .int (nI e), .int (nI d), .int (oI u)] [oTe a (nI ey) le, aI cI (a 11) 1920 (oF t), aI cI (a 12) 64 bd, aI cI (a 13) 64 bs]) (rwQv G [oTe a (nI ey) le, aI cI (a 11) 1920 (oF t), aI cI (a 12) 64 bd, aI cI (a 13) 64 bs] (fun (_ : Unit) => True) (fun (_ : Unit) => [oTe a (nI ey) le, aI cI (a 11) 1920 (oF (upN t (e * 240 + d) u)), aI cI (a 12) 64 (cInD (upN t (e * 240 + d) u) e d (nI 1) ey (cInD t e d (-1) ey bd)), aI cI (a 13) 64 (cInS (upN t (e * 240 + d) u) e d (nI 1) ey (cInS t e d (-1) ey bs))])) 0 0 (ads [oTe a (nI ey) le, aI cI (a 11) 1920 (oF t), aI cI (a 12) 64 bd, aI cI (a 13) 64 bs]) := by
  refine Met.ofW (cc := cX5_put) (maxL := 4) (ret := none) (by decide) rfl ?_
  intro pg ev s mt args below meth cd s₁ B hml hv
  obtain ⟨rfl, hP, hD0, hK⟩ := hv
  have hx := B.exec
  have hb := B.bytes
  have hr := B.returns
  have hts := atoms_spec (ws := wsX5_put) B.pre
  have hown : s.vm.findClass RX5 = some mt.cls := findClass_of_methodNamed B.named
  have hlocks := B.notSynchronized
  have hD := ads_self hD0
  generalize hAe : ads [oTe a (nI ey) le, aI cI (a 11) 1920 (oF t), aI cI (a 12) 64 bd, aI cI (a 13) 64 bs] = A at hD ⊢
  have hS : va_S A s.heap s.heap [] := va_S.rf
  have hP : va_P G vwCl [oTe a (nI ey) le, aI cI (a 11) 1920 (oF t), aI cI (a 12) 64 bd, aI cI (a 13) 64 bs] s.heap := hP
  have hinX5 := (show ∀ w ∈ u_ws RX5 TX5 5, w ∈ wsX5_put by decide +kernel)
  have fl9 := hts (.fieldLink RX5 9 "SpotRows$Tellings" "codes" "[I") (by decide +kernel)
  have hl := lv_entry ([.ref (a 2), .int (nI e), .int (nI d), .int (oI u)]) (n := 4) (Nat.le_of_ble_eq_true rfl)
  rw [lg_entry_eq]
  generalize (lg_sl ([.ref (a 2), .int (nI e), .int (nI d), .int (oI u)]) ++ List.replicate (4 - (lg_sl ([.ref (a 2), .int (nI e), .int (nI d), .int (oI u)])).length) Slot.unset).toArray = ls at hl ⊢
  have hl : lv_has ls 4 [(0, .ref (a 2)), (1, .int (nI e)), (2, .int (nI d)), (3, .int (oI u))] := hl
  refine lv_aload_n hx hb dX5_put_0 rfl (lv_at hl 0 rfl) ?_
  refine lv_iload_n hx hb dX5_put_1 rfl (lv_at hl 1 rfl) ?_
  refine lv_iload_n hx hb dX5_put_2 rfl (lv_at hl 2 rfl) ?_
  refine lv_iconst (v := (-1)) hx hb dX5_put_3 (by decide) ?_
  refine crw_v (free := fun _ => True) (va_runV (As := [.int (nI e), .int (nI d), .int (-1)]) (rest := []) ⟨hx, hb, hml, hown, hts⟩ (c_X5_countIn l G cI cJ (a := a) (ey := ey) (le := le) (t := t) (e := e) (d := d) (sg := (-1)) (bd := bd) (bs := bs) (tb := by first | assumption | omega) (he := by first | assumption | omega) (hd := by first | assumption | omega) (hey := by first | assumption | omega)) (cwV 3 hts gX5_put_X5_countIn rfl rfl rfl (by decide +kernel) ⟨Nat.le_of_ble_eq_true rfl, Nat.le_of_ble_eq_true rfl⟩) (preV_rw (wc := [oTe a (nI ey) le, aI cI (a 11) 1920 (oF t), aI cI (a 12) 64 bd, aI cI (a 13) 64 bs]) hK hP hD [0, 1, 2, 3] rfl rfl 5 0 rfl rfl rfl) rfl rfl hl.1 rfl (lv_room (Nat.le_of_ble_eq_true rfl)) dX5_put_4 ⟨Nat.zero_le _, Nat.zero_le _⟩) hP hD hS [0, 1, 2, 3] rfl [a 2, a 11, a 12, a 13] (fun u => rfl) rfl (fun u_ H locs hw_4 hP hD hS => ?_)
  have hP : va_P G vwCl [oTe a (nI ey) le, aI cI (a 11) 1920 (oF t), aI cI (a 12) 64 (cInD t e d (-1) ey bd), aI cI (a 13) 64 (cInS t e d (-1) ey bs)] H := hP
  have hD : va_D A [oTe a (nI ey) le, aI cI (a 11) 1920 (oF t), aI cI (a 12) 64 (cInD t e d (-1) ey bd), aI cI (a 13) 64 (cInS t e d (-1) ey bs)] := hD
  refine lv_aload_n hx hb dX5_put_7 rfl (lv_at hl 0 rfl) ?_
  refine va_get (D := G) (own := RX5) (ref := "SpotRows$Tellings") (ci := 5) (v := .ref (a 11)) (C := RX5) (T := TX5) (N := 5) hx hb hts hinX5 hown hK.1 hP 0 rfl rfl 0 (by decide) fl9 (fun _ h9 => h9) rfl dX5_put_8 ?_
  refine lv_iload_n hx hb dX5_put_11 rfl (lv_at hl 1 rfl) ?_
  refine lv_sipush (v := nI 240) hx hb dX5_put_12 (by decide) ?_
  refine lv_imul hx hb dX5_put_15 ?_
  refine toi (pk_mul e 240) ?_
  refine lv_iload_n hx hb dX5_put_16 rfl (lv_at hl 2 rfl) ?_
  refine lv_iadd hx hb dX5_put_17 ?_
  refine toi (nI_add (e * 240) d) ?_
  refine lv_iload_n hx hb dX5_put_18 rfl (lv_at hl 3 rfl) ?_
  refine st_oF hx hb hK hP hD hS 1 (k := e * 240 + d) rfl (by omega) (by decide) dX5_put_19 (fun H locs hP hD hS => ?_)
  have hP : va_P G vwCl [oTe a (nI ey) le, aI cI (a 11) 1920 (oF (upN t (e * 240 + d) u)), aI cI (a 12) 64 (cInD t e d (-1) ey bd), aI cI (a 13) 64 (cInS t e d (-1) ey bs)] H := hP
  have hD : va_D A [oTe a (nI ey) le, aI cI (a 11) 1920 (oF (upN t (e * 240 + d) u)), aI cI (a 12) 64 (cInD t e d (-1) ey bd), aI cI (a 13) 64 (cInS t e d (-1) ey bs)] := hD
  refine lv_aload_n hx hb dX5_put_20 rfl (lv_at hl 0 rfl) ?_
  refine lv_iload_n hx hb dX5_put_21 rfl (lv_at hl 1 rfl) ?_
  refine lv_iload_n hx hb dX5_put_22 rfl (lv_at hl 2 rfl) ?_
  refine lv_iconst (v := nI 1) hx hb dX5_put_23 (by decide) ?_
  refine crw_v (free := fun _ => True) (va_runV (As := [.int (nI e), .int (nI d), .int (nI 1)]) (rest := []) ⟨hx, hb, hml, hown, hts⟩ (c_X5_countIn l G cI cJ (a := a) (ey := ey) (le := le) (t := upN t (e * 240 + d) u) (e := e) (d := d) (sg := nI 1) (bd := cInD t e d (-1) ey bd) (bs := cInS t e d (-1) ey bs) (tb := tb2) (he := by first | assumption | omega) (hd := by first | assumption | omega) (hey := by first | assumption | omega)) (cwV 3 hts gX5_put_X5_countIn rfl rfl rfl (by decide +kernel) ⟨Nat.le_of_ble_eq_true rfl, Nat.le_of_ble_eq_true rfl⟩) (preV_rw (wc := [oTe a (nI ey) le, aI cI (a 11) 1920 (oF (upN t (e * 240 + d) u)), aI cI (a 12) 64 (cInD t e d (-1) ey bd), aI cI (a 13) 64 (cInS t e d (-1) ey bs)]) hK hP hD [0, 1, 2, 3] rfl rfl 5 0 rfl rfl rfl) rfl rfl hl.1 rfl (lv_room (Nat.le_of_ble_eq_true rfl)) dX5_put_24 ⟨Nat.zero_le _, Nat.zero_le _⟩) hP hD hS [0, 1, 2, 3] rfl [a 2, a 11, a 12, a 13] (fun u => rfl) rfl (fun u_ H locs hw_24 hP hD hS => ?_)
  have hP : va_P G vwCl [oTe a (nI ey) le, aI cI (a 11) 1920 (oF (upN t (e * 240 + d) u)), aI cI (a 12) 64 (cInD (upN t (e * 240 + d) u) e d (nI 1) ey (cInD t e d (-1) ey bd)), aI cI (a 13) 64 (cInS (upN t (e * 240 + d) u) e d (nI 1) ey (cInS t e d (-1) ey bs))] H := hP
  have hD : va_D A [oTe a (nI ey) le, aI cI (a 11) 1920 (oF (upN t (e * 240 + d) u)), aI cI (a 12) 64 (cInD (upN t (e * 240 + d) u) e d (nI 1) ey (cInD t e d (-1) ey bd)), aI cI (a 13) 64 (cInS (upN t (e * 240 + d) u) e d (nI 1) ey (cInS t e d (-1) ey bs))] := hD
  exact W.vret hx hb hr (fun zt ht zw => ⟨⟨(), rfl, trivial, by show va_P _ _ _ zt.heap; rw [ht]; exact hP⟩, by rw [hAe]; exact hS.F ht⟩) hS.2.2 dX5_put_27

set_option maxHeartbeats 400000 in
set_option maxRecDepth 100000 in
theorem c_X5_countBoth (l : Launch) (G : va_G) (cI cJ : ClassId) (a : Nat → Nat) (ey : Int32) (le : Int32) (t : Nat → Nat) (bd : Nat → Int32) (bs : Nat → Int32) (x : Nat) (y : Nat) (tb : TB t) (hT : TT t bd bs) (h_x : x < 8) (h_y : y < 8) (h_n : x ≠ y) : Met l yX5_countBoth wsX5_countBoth ({ frames := 0, cells := 0, slots := 0, locals := 0 }) (roP G cI cJ [.ref (a 2), .int (nI x), .int (nI y)] [oTe a ey le, aI cI (a 12) 64 bd]) (vp_Si (fun r => r = nI (cB t x y 240))) 0 0 (fun _ => False) := by
  refine Met.ofW (cc := cX5_countBoth) (maxL := 3) (ret := (some .int)) (by decide) rfl ?_
  intro pg ev s mt args below meth cd s₁ B hml hv
  obtain ⟨rfl, hP, hK⟩ := hv
  have hx := B.exec
  have hb := B.bytes
  have hr := B.returns
  have hts := atoms_spec (ws := wsX5_countBoth) B.pre
  have hown : s.vm.findClass RX5 = some mt.cls := findClass_of_methodNamed B.named
  have hlocks := B.notSynchronized
  have hP : va_P G vwCl [oTe a ey le, aI cI (a 12) 64 bd] s.heap := hP
  have hinX5 := (show ∀ w ∈ u_ws RX5 TX5 5, w ∈ wsX5_countBoth by decide +kernel)
  have fl15 := hts (.fieldLink RX5 15 "SpotRows$Tellings" "bothDays" "[I") (by decide +kernel)
  have hl := lv_entry ([.ref (a 2), .int (nI x), .int (nI y)]) (n := 3) (Nat.le_of_ble_eq_true rfl)
  rw [lg_entry_eq]
  generalize (lg_sl ([.ref (a 2), .int (nI x), .int (nI y)]) ++ List.replicate (3 - (lg_sl ([.ref (a 2), .int (nI x), .int (nI y)])).length) Slot.unset).toArray = ls at hl ⊢
  have hl : lv_has ls 3 [(0, .ref (a 2)), (1, .int (nI x)), (2, .int (nI y))] := hl
  refine lv_aload_n hx hb dX5_countBoth_0 rfl (lv_at hl 0 rfl) ?_
  refine va_get (D := G) (own := RX5) (ref := "SpotRows$Tellings") (ci := 5) (v := .ref (a 12)) (C := RX5) (T := TX5) (N := 5) hx hb hts hinX5 hown hK.1 hP 0 rfl rfl 1 (by decide) fl15 (fun _ h9 => h9) rfl dX5_countBoth_1 ?_
  refine lv_iload_n hx hb dX5_countBoth_4 rfl (lv_at hl 1 rfl) ?_
  refine lv_bipush (v := nI 8) hx hb dX5_countBoth_5 (by decide) ?_
  refine lv_imul hx hb dX5_countBoth_7 ?_
  refine toi (pk_mul x 8) ?_
  refine lv_iload_n hx hb dX5_countBoth_8 rfl (lv_at hl 2 rfl) ?_
  refine lv_iadd hx hb dX5_countBoth_9 ?_
  refine toi (nI_add (x * 8) y) ?_
  refine ld_I hx hb hK hP 1 (k := x * 8 + y) rfl (by omega) (by decide) dX5_countBoth_10 ?_
  refine toi (show bd (x * 8 + y) = nI (cB t x y 240) from (hT x y h_x h_y h_n).1) ?_
  exact W.iret (v := nI (cB t x y 240)) hx hb hr (fun zt ht zw => ⟨_, rfl, rfl, ht⟩) (fun q hq => absurd hq List.not_mem_nil) dX5_countBoth_11

set_option maxHeartbeats 400000 in
set_option maxRecDepth 100000 in
theorem c_X5_countBothAbove (l : Launch) (G : va_G) (cI cJ : ClassId) (a : Nat → Nat) (ey : Int32) (le : Int32) (t : Nat → Nat) (x : Nat) (y : Nat) (g : Nat) (tb : TB t) (h_x : x < 8) (h_y : y < 8) (hg : g ≤ 20) : Met l yX5_countBothAbove wsX5_countBothAbove ({ frames := 2, cells := 0, slots := 0, locals := 45 }) (roP G cI cJ [.ref (a 2), .int (nI x), .int (nI y), .int (nI g)] [oTe a ey le, aI cI (a 11) 1920 (oF t)]) (vp_Si (fun r => r = nI (cG t x y g 240))) 0 0 (fun _ => False) := by
  refine Met.ofW (cc := cX5_countBothAbove) (maxL := 6) (ret := (some .int)) (by decide) rfl ?_
  intro pg ev s mt args below meth cd s₁ B hml hv
  obtain ⟨rfl, hP, hK⟩ := hv
  have hx := B.exec
  have hb := B.bytes
  have hr := B.returns
  have hts := atoms_spec (ws := wsX5_countBothAbove) B.pre
  have hown : s.vm.findClass RX5 = some mt.cls := findClass_of_methodNamed B.named
  have hlocks := B.notSynchronized
  have hP : va_P G vwCl [oTe a ey le, aI cI (a 11) 1920 (oF t)] s.heap := hP
  have hl := lv_entry ([.ref (a 2), .int (nI x), .int (nI y), .int (nI g)]) (n := 6) (Nat.le_of_ble_eq_true rfl)
  rw [lg_entry_eq]
  generalize (lg_sl ([.ref (a 2), .int (nI x), .int (nI y), .int (nI g)]) ++ List.replicate (6 - (lg_sl ([.ref (a 2), .int (nI x), .int (nI y), .int (nI g)])).length) Slot.unset).toArray = ls at hl ⊢
  have hl : lv_has ls 6 [(0, .ref (a 2)), (1, .int (nI x)), (2, .int (nI y)), (3, .int (nI g))] := hl
  refine lv_iconst (v := nI 0) hx hb dX5_countBothAbove_0 (by decide) ?_
  refine lv_istore (lv' := [(4, .int (nI 0)), (0, .ref (a 2)), (1, .int (nI x)), (2, .int (nI y)), (3, .int (nI g))]) hx hb dX5_countBothAbove_1 hl (by decide) rfl (fun ls hl => ?_)
  refine lv_iconst (v := nI 0) hx hb dX5_countBothAbove_3 (by decide) ?_
  refine lv_istore (lv' := [(5, .int (nI 0)), (4, .int (nI 0)), (0, .ref (a 2)), (1, .int (nI x)), (2, .int (nI y)), (3, .int (nI g))]) hx hb dX5_countBothAbove_4 hl (by decide) rfl (fun ls hl => ?_)
  have lp_6 : ∀ (nf : Nat) (k : Nat), k ≤ 240 → 240 - k < nf → ∀ (ls : Array Slot), lv_has ls 6 [(0, .ref (a 2)), (1, .int (nI x)), (2, .int (nI y)), (3, .int (nI g)), (4, .int (nI (cG t x y g k))), (5, .int (nI k))] → W pg l ev (headSpec wsX5_countBothAbove ({ frames := 2, cells := 0, slots := 0, locals := 45 })).room s mt ([.ref (a 2), .int (nI x), .int (nI y), .int (nI g)] : List Value).toArray below meth cd s.heap [] 0 0 (MQ below (vp_Si (fun r => r = nI (cG t x y g 240))) ([.ref (a 2), .int (nI x), .int (nI y), .int (nI g)] : List Value).toArray s 0 0 (fun _ => False)) (F0 mt 6 ls []) := by
    intro nf
    induction nf with
    | zero => intro k hk hfu; exact absurd hfu (Nat.not_lt_zero _)
    | succ nf ih_6 =>
      intro k hk hfu ls hl
      have hc := cG_le t x y g k
      have hg2 := grp_le tb (x * 240 + k)
      refine lv_iload hx hb dX5_countBothAbove_6 (lv_at hl 5 rfl) ?_
      refine lv_sipush (v := nI 240) hx hb dX5_countBothAbove_8 (by decide) ?_
      refine nv_icmp_ge (tgt := 45) hx hb dX5_countBothAbove_11 (by decide) (by first | omega | exact Nat.le_trans (TB_le tb _) (by decide) | exact Nat.lt_of_le_of_lt (TB_le tb _) (by decide)) (by first | omega | exact Nat.le_trans (TB_le tb _) (by decide) | exact Nat.lt_of_le_of_lt (TB_le tb _) (by decide)) (fun c_11 => ?_) (fun c_11 => ?_)
      · refine lv_iload hx hb dX5_countBothAbove_45 (lv_at hl 4 rfl) ?_
        exact W.iret (v := nI (cG t x y g k)) hx hb hr (fun zt ht zw => ⟨_, rfl, (congrArg nI (show cG t x y g k = cG t x y g 240 from by rw [show k = 240 from by omega])), ht⟩) (fun q hq => absurd hq List.not_mem_nil) dX5_countBothAbove_47
      refine lv_aload_n hx hb dX5_countBothAbove_14 rfl (lv_at hl 0 rfl) ?_
      refine lv_iload_n hx hb dX5_countBothAbove_15 rfl (lv_at hl 1 rfl) ?_
      refine lv_iload_n hx hb dX5_countBothAbove_16 rfl (lv_at hl 2 rfl) ?_
      refine lv_iload hx hb dX5_countBothAbove_17 (lv_at hl 5 rfl) ?_
      refine cro_i (va_runV (As := [.int (nI x), .int (nI y), .int (nI k)]) (rest := []) ⟨hx, hb, hml, hown, hts⟩ (c_X5_haveBoth l G cI cJ (a := a) (ey := ey) (le := le) (t := t) (x := x) (y := y) (d := k) (tb := by first | assumption | omega) (h_x := by first | assumption | omega) (h_y := by first | assumption | omega) (hd := by first | assumption | omega)) (cwV 3 hts gX5_countBothAbove_X5_haveBoth rfl rfl rfl (by decide +kernel) ⟨Nat.le_of_ble_eq_true rfl, Nat.le_of_ble_eq_true rfl⟩) (preV_ro (wc := [oTe a ey le, aI cI (a 11) 1920 (oF t)]) hK hP [0, 1] rfl 5 0 rfl rfl rfl) rfl rfl hl.1 rfl (lv_room (Nat.le_of_ble_eq_true rfl)) dX5_countBothAbove_19 ⟨Nat.zero_le _, Nat.zero_le _⟩) ?_
      refine nb_if_eq (tgt := 39) hx hb dX5_countBothAbove_22 (by decide) (fun c_22 => ?_) (fun c_22 => ?_)
      · refine lv_iinc (v := nI (k + 1)) (lv' := [(5, .int (nI (k + 1))), (0, .ref (a 2)), (1, .int (nI x)), (2, .int (nI y)), (3, .int (nI g)), (4, .int (nI (cG t x y g k)))]) hx hb dX5_countBothAbove_39 hl (k := 5) rfl (nI_add k 1) (by decide) rfl (fun ls hl => ?_)
        refine lv_goto (tgt := 6) hx hb dX5_countBothAbove_42 (by decide) ?_
        exact ih_6 (k + 1) (by first | rfl | omega | (simp_all; done)) (by omega) ls (lvcv (l := [(0, .ref (a 2)), (1, .int (nI x)), (2, .int (nI y)), (3, .int (nI g)), (4, .int (nI (cG t x y g k))), (5, .int (nI (k + 1)))]) (lv_sub hl [1, 2, 3, 4, 5, 0] rfl) (lvC (lvC (lvC (lvC (lvI (congrArg nI (show cG t x y g k = cG t x y g (k + 1) from by first | rfl | (simp only [cG, sm_s]; split <;> first | omega | (simp_all; done) | (simp_all; omega)))) (lvC rfl)))))))
      refine lv_aload_n hx hb dX5_countBothAbove_25 rfl (lv_at hl 0 rfl) ?_
      refine lv_iload_n hx hb dX5_countBothAbove_26 rfl (lv_at hl 1 rfl) ?_
      refine lv_iload hx hb dX5_countBothAbove_27 (lv_at hl 5 rfl) ?_
      refine cro_i (va_runV (As := [.int (nI x), .int (nI k)]) (rest := []) ⟨hx, hb, hml, hown, hts⟩ (c_X5_groupsOf l G cI cJ (a := a) (ey := ey) (le := le) (t := t) (e := x) (d := k) (tb := by first | assumption | omega) (he := by first | assumption | omega) (hd := by first | assumption | omega) (hn := c_22.1)) (cwV 2 hts gX5_countBothAbove_X5_groupsOf rfl rfl rfl (by decide +kernel) ⟨Nat.le_of_ble_eq_true rfl, Nat.le_of_ble_eq_true rfl⟩) (preV_ro (wc := [oTe a ey le, aI cI (a 11) 1920 (oF t)]) hK hP [0, 1] rfl 5 0 rfl rfl rfl) rfl rfl hl.1 rfl (lv_room (Nat.le_of_ble_eq_true rfl)) dX5_countBothAbove_29 ⟨Nat.zero_le _, Nat.zero_le _⟩) ?_
      refine lv_iload_n hx hb dX5_countBothAbove_32 rfl (lv_at hl 3 rfl) ?_
      refine nv_icmp_le (tgt := 39) hx hb dX5_countBothAbove_33 (by decide) (by first | omega | exact Nat.le_trans (TB_le tb _) (by decide) | exact Nat.lt_of_le_of_lt (TB_le tb _) (by decide)) (by first | omega | exact Nat.le_trans (TB_le tb _) (by decide) | exact Nat.lt_of_le_of_lt (TB_le tb _) (by decide)) (fun c_33 => ?_) (fun c_33 => ?_)
      · refine lv_iinc (v := nI (k + 1)) (lv' := [(5, .int (nI (k + 1))), (0, .ref (a 2)), (1, .int (nI x)), (2, .int (nI y)), (3, .int (nI g)), (4, .int (nI (cG t x y g k)))]) hx hb dX5_countBothAbove_39 hl (k := 5) rfl (nI_add k 1) (by decide) rfl (fun ls hl => ?_)
        refine lv_goto (tgt := 6) hx hb dX5_countBothAbove_42 (by decide) ?_
        exact ih_6 (k + 1) (by first | rfl | omega | (simp_all; done)) (by omega) ls (lvcv (l := [(0, .ref (a 2)), (1, .int (nI x)), (2, .int (nI y)), (3, .int (nI g)), (4, .int (nI (cG t x y g k))), (5, .int (nI (k + 1)))]) (lv_sub hl [1, 2, 3, 4, 5, 0] rfl) (lvC (lvC (lvC (lvC (lvI (congrArg nI (show cG t x y g k = cG t x y g (k + 1) from by first | rfl | (simp only [cG, sm_s]; split <;> first | omega | (simp_all; done) | (simp_all; omega)))) (lvC rfl)))))))
      refine lv_iinc (v := nI (cG t x y g k + 1)) (lv' := [(4, .int (nI (cG t x y g k + 1))), (0, .ref (a 2)), (1, .int (nI x)), (2, .int (nI y)), (3, .int (nI g)), (5, .int (nI k))]) hx hb dX5_countBothAbove_36 hl (k := 4) rfl (nI_add (cG t x y g k) 1) (by decide) rfl (fun ls hl => ?_)
      refine lv_iinc (v := nI (k + 1)) (lv' := [(5, .int (nI (k + 1))), (4, .int (nI (cG t x y g k + 1))), (0, .ref (a 2)), (1, .int (nI x)), (2, .int (nI y)), (3, .int (nI g))]) hx hb dX5_countBothAbove_39 hl (k := 5) rfl (nI_add k 1) (by decide) rfl (fun ls hl => ?_)
      refine lv_goto (tgt := 6) hx hb dX5_countBothAbove_42 (by decide) ?_
      exact ih_6 (k + 1) (by first | rfl | omega | (simp_all; done)) (by omega) ls (lvcv (l := [(0, .ref (a 2)), (1, .int (nI x)), (2, .int (nI y)), (3, .int (nI g)), (4, .int (nI (cG t x y g k + 1))), (5, .int (nI (k + 1)))]) (lv_sub hl [2, 3, 4, 5, 1, 0] rfl) (lvC (lvC (lvC (lvC (lvI (congrArg nI (show cG t x y g k + 1 = cG t x y g (k + 1) from by first | rfl | (simp only [cG, sm_s]; split <;> first | omega | (simp_all; done) | (simp_all; omega)))) (lvC rfl)))))))
  exact lp_6 (240 - 0 + 1) 0 (by first | rfl | omega | (simp_all; done)) (by omega) ls (lvcv (l := [(0, .ref (a 2)), (1, .int (nI x)), (2, .int (nI y)), (3, .int (nI g)), (4, .int (nI 0)), (5, .int (nI 0))]) (lv_sub hl [2, 3, 4, 5, 1, 0] rfl) (lvC (lvC (lvC (lvC (lvI (congrArg nI (show 0 = cG t x y g 0 from by first | rfl | (simp only [cG, sm_s]; split <;> first | omega | (simp_all; done) | (simp_all; omega)))) (lvC rfl)))))))

set_option maxHeartbeats 400000 in
set_option maxRecDepth 100000 in
theorem c_X5_factorOf (l : Launch) (G : va_G) (cI cJ : ClassId) (a : Nat → Nat) (ey : Int32) (le : Nat) (t : Nat → Nat) (bd : Nat → Int32) (bs : Nat → Int32) (x : Nat) (y : Nat) (tb : TB t) (hT : TT t bd bs) (h_x : x < 8) (h_y : y < 8) (h_n : x ≠ y) (hle : le ≤ 100) : Met l yX5_factorOf wsX5_factorOf ({ frames := 0, cells := 0, slots := 0, locals := 0 }) (roP G cI cJ [.ref (a 2), .int (nI x), .int (nI y)] [oTe a ey (nI le), aI cI (a 12) 64 bd, aI cI (a 13) 64 bs]) (vp_Si (fun r => r = oI (fc t le x y))) 0 0 (fun _ => False) := by
  refine Met.ofW (cc := cX5_factorOf) (maxL := 6) (ret := (some .int)) (by decide) rfl ?_
  intro pg ev s mt args below meth cd s₁ B hml hv
  obtain ⟨rfl, hP, hK⟩ := hv
  have hx := B.exec
  have hb := B.bytes
  have hr := B.returns
  have hts := atoms_spec (ws := wsX5_factorOf) B.pre
  have hown : s.vm.findClass RX5 = some mt.cls := findClass_of_methodNamed B.named
  have hlocks := B.notSynchronized
  have hP : va_P G vwCl [oTe a ey (nI le), aI cI (a 12) 64 bd, aI cI (a 13) 64 bs] s.heap := hP
  have hinX5 := (show ∀ w ∈ u_ws RX5 TX5 5, w ∈ wsX5_factorOf by decide +kernel)
  have fl18 := hts (.fieldLink RX5 18 "SpotRows$Tellings" "bothSums" "[I") (by decide +kernel)
  have fl15 := hts (.fieldLink RX5 15 "SpotRows$Tellings" "bothDays" "[I") (by decide +kernel)
  have fl31 := hts (.fieldLink RX5 31 "SpotRows$Tellings" "least" "I") (by decide +kernel)
  have hl := lv_entry ([.ref (a 2), .int (nI x), .int (nI y)]) (n := 6) (Nat.le_of_ble_eq_true rfl)
  rw [lg_entry_eq]
  generalize (lg_sl ([.ref (a 2), .int (nI x), .int (nI y)]) ++ List.replicate (6 - (lg_sl ([.ref (a 2), .int (nI x), .int (nI y)])).length) Slot.unset).toArray = ls at hl ⊢
  have hl : lv_has ls 6 [(0, .ref (a 2)), (1, .int (nI x)), (2, .int (nI y))] := hl
  have hs1 := sB_le tb x y 240
  have hs2 := sB_le tb y x 240
  have hc := cB_le t x y 240
  have hq := Nat.div_le_self (sB t y x 240 * 1000) (sB t x y 240)
  refine lv_aload_n hx hb dX5_factorOf_0 rfl (lv_at hl 0 rfl) ?_
  refine va_get (D := G) (own := RX5) (ref := "SpotRows$Tellings") (ci := 5) (v := .ref (a 13)) (C := RX5) (T := TX5) (N := 5) hx hb hts hinX5 hown hK.1 hP 0 rfl rfl 2 (by decide) fl18 (fun _ h9 => h9) rfl dX5_factorOf_1 ?_
  refine lv_iload_n hx hb dX5_factorOf_4 rfl (lv_at hl 1 rfl) ?_
  refine lv_bipush (v := nI 8) hx hb dX5_factorOf_5 (by decide) ?_
  refine lv_imul hx hb dX5_factorOf_7 ?_
  refine toi (pk_mul x 8) ?_
  refine lv_iload_n hx hb dX5_factorOf_8 rfl (lv_at hl 2 rfl) ?_
  refine lv_iadd hx hb dX5_factorOf_9 ?_
  refine toi (nI_add (x * 8) y) ?_
  refine ld_I hx hb hK hP 2 (k := x * 8 + y) rfl (by omega) (by decide) dX5_factorOf_10 ?_
  refine toi (show bs (x * 8 + y) = nI (sB t x y 240) from (hT x y h_x h_y h_n).2) ?_
  refine lv_istore_n (lv' := [(3, .int (nI (sB t x y 240))), (0, .ref (a 2)), (1, .int (nI x)), (2, .int (nI y))]) hx hb dX5_factorOf_11 rfl hl (by decide) rfl (fun ls hl => ?_)
  refine lv_aload_n hx hb dX5_factorOf_12 rfl (lv_at hl 1 rfl) ?_
  refine va_get (D := G) (own := RX5) (ref := "SpotRows$Tellings") (ci := 5) (v := .ref (a 13)) (C := RX5) (T := TX5) (N := 5) hx hb hts hinX5 hown hK.1 hP 0 rfl rfl 2 (by decide) fl18 (fun _ h9 => h9) rfl dX5_factorOf_13 ?_
  refine lv_iload_n hx hb dX5_factorOf_16 rfl (lv_at hl 3 rfl) ?_
  refine lv_bipush (v := nI 8) hx hb dX5_factorOf_17 (by decide) ?_
  refine lv_imul hx hb dX5_factorOf_19 ?_
  refine toi (pk_mul y 8) ?_
  refine lv_iload_n hx hb dX5_factorOf_20 rfl (lv_at hl 2 rfl) ?_
  refine lv_iadd hx hb dX5_factorOf_21 ?_
  refine toi (nI_add (y * 8) x) ?_
  refine ld_I hx hb hK hP 2 (k := y * 8 + x) rfl (by omega) (by decide) dX5_factorOf_22 ?_
  refine toi (show bs (y * 8 + x) = nI (sB t y x 240) from (hT y x h_y h_x (Ne.symm h_n)).2) ?_
  refine lv_istore (lv' := [(4, .int (nI (sB t y x 240))), (3, .int (nI (sB t x y 240))), (0, .ref (a 2)), (1, .int (nI x)), (2, .int (nI y))]) hx hb dX5_factorOf_23 hl (by decide) rfl (fun ls hl => ?_)
  refine lv_aload_n hx hb dX5_factorOf_25 rfl (lv_at hl 2 rfl) ?_
  refine va_get (D := G) (own := RX5) (ref := "SpotRows$Tellings") (ci := 5) (v := .ref (a 12)) (C := RX5) (T := TX5) (N := 5) hx hb hts hinX5 hown hK.1 hP 0 rfl rfl 1 (by decide) fl15 (fun _ h9 => h9) rfl dX5_factorOf_26 ?_
  refine lv_iload_n hx hb dX5_factorOf_29 rfl (lv_at hl 3 rfl) ?_
  refine lv_bipush (v := nI 8) hx hb dX5_factorOf_30 (by decide) ?_
  refine lv_imul hx hb dX5_factorOf_32 ?_
  refine toi (pk_mul x 8) ?_
  refine lv_iload_n hx hb dX5_factorOf_33 rfl (lv_at hl 4 rfl) ?_
  refine lv_iadd hx hb dX5_factorOf_34 ?_
  refine toi (nI_add (x * 8) y) ?_
  refine ld_I hx hb hK hP 1 (k := x * 8 + y) rfl (by omega) (by decide) dX5_factorOf_35 ?_
  refine toi (show bd (x * 8 + y) = nI (cB t x y 240) from (hT x y h_x h_y h_n).1) ?_
  refine lv_aload_n hx hb dX5_factorOf_36 rfl (lv_at hl 2 rfl) ?_
  refine va_get (D := G) (own := RX5) (ref := "SpotRows$Tellings") (ci := 5) (v := .int (nI le)) (C := RX5) (T := TX5) (N := 5) hx hb hts hinX5 hown hK.1 hP 0 rfl rfl 4 (by decide) fl31 (fun _ h9 => h9) rfl dX5_factorOf_37 ?_
  refine nv_icmp_lt (tgt := 52) hx hb dX5_factorOf_40 (by decide) (by omega) (by omega) (fun c_40 => ?_) (fun c_40 => ?_)
  · refine lv_iconst (v := (-1)) hx hb dX5_factorOf_52 (by decide) ?_
    exact W.iret (v := (-1)) hx hb hr (fun zt ht zw => ⟨_, rfl, (m1_o.trans (congrArg oI (show 0 = fc t le x y from by unfold fc fcv; (repeat' split) <;> omega))), ht⟩) (fun q hq => absurd hq List.not_mem_nil) dX5_factorOf_53
  refine lv_iload_n hx hb dX5_factorOf_43 rfl (lv_at hl 1 rfl) ?_
  refine nv_if_le (tgt := 52) hx hb dX5_factorOf_44 (by decide) (by omega) (fun c_44 => ?_) (fun c_44 => ?_)
  · refine lv_iconst (v := (-1)) hx hb dX5_factorOf_52 (by decide) ?_
    exact W.iret (v := (-1)) hx hb hr (fun zt ht zw => ⟨_, rfl, (m1_o.trans (congrArg oI (show 0 = fc t le x y from by unfold fc fcv; (repeat' split) <;> omega))), ht⟩) (fun q hq => absurd hq List.not_mem_nil) dX5_factorOf_53
  refine lv_iload hx hb dX5_factorOf_47 (lv_at hl 0 rfl) ?_
  refine nv_if_gt (tgt := 54) hx hb dX5_factorOf_49 (by decide) (by omega) (fun c_49 => ?_) (fun c_49 => ?_)
  · refine lv_iload hx hb dX5_factorOf_54 (lv_at hl 0 rfl) ?_
    refine lv_sipush (v := nI 1000) hx hb dX5_factorOf_56 (by decide) ?_
    refine lv_imul hx hb dX5_factorOf_59 ?_
    refine toi (pk_mul (sB t y x 240) 1000) ?_
    refine lv_iload_n hx hb dX5_factorOf_60 rfl (lv_at hl 1 rfl) ?_
    refine lv_idiv hx hb dX5_factorOf_61 (nI_ne0 (by omega) (by omega)) ?_
    refine toi (pk_div (a := (sB t y x 240 * 1000)) (d := (sB t x y 240)) (by omega) (by omega) (by omega)) ?_
    refine lv_istore (lv' := [(5, .int (nI (sB t y x 240 * 1000 / sB t x y 240))), (4, .int (nI (sB t y x 240))), (3, .int (nI (sB t x y 240))), (0, .ref (a 2)), (1, .int (nI x)), (2, .int (nI y))]) hx hb dX5_factorOf_62 hl (by decide) rfl (fun ls hl => ?_)
    refine lv_iload hx hb dX5_factorOf_64 (lv_at hl 0 rfl) ?_
    refine lv_bipush (v := nI 10) hx hb dX5_factorOf_66 (by decide) ?_
    refine nv_icmp_lt (tgt := 83) hx hb dX5_factorOf_68 (by decide) (by omega) (by omega) (fun c_68 => ?_) (fun c_68 => ?_)
    · refine lv_iconst (v := (-1)) hx hb dX5_factorOf_83 (by decide) ?_
      exact W.iret (v := (-1)) hx hb hr (fun zt ht zw => ⟨_, rfl, (m1_o.trans (congrArg oI (show 0 = fc t le x y from by unfold fc fcv; (repeat' split) <;> omega))), ht⟩) (fun q hq => absurd hq List.not_mem_nil) dX5_factorOf_84
    refine lv_iload hx hb dX5_factorOf_71 (lv_at hl 0 rfl) ?_
    refine lv_ldc (own := RX5) (v := 100000) hx hb hown (hts (.constant RX5 66 (100000)) (by decide +kernel)) dX5_factorOf_73 ?_
    refine toi (show (100000 : Int32) = nI 100000 by decide) ?_
    refine nv_icmp_gt (tgt := 83) hx hb dX5_factorOf_75 (by decide) (by omega) (by omega) (fun c_75 => ?_) (fun c_75 => ?_)
    · refine lv_iconst (v := (-1)) hx hb dX5_factorOf_83 (by decide) ?_
      exact W.iret (v := (-1)) hx hb hr (fun zt ht zw => ⟨_, rfl, (m1_o.trans (congrArg oI (show 0 = fc t le x y from by unfold fc fcv; (repeat' split) <;> omega))), ht⟩) (fun q hq => absurd hq List.not_mem_nil) dX5_factorOf_84
    refine lv_iload hx hb dX5_factorOf_78 (lv_at hl 0 rfl) ?_
    refine lv_goto (tgt := 84) hx hb dX5_factorOf_80 (by decide) ?_
    exact W.iret (v := nI (sB t y x 240 * 1000 / sB t x y 240)) hx hb hr (fun zt ht zw => ⟨_, rfl, ((nI_o (sB t y x 240 * 1000 / sB t x y 240)).trans (congrArg oI (show sB t y x 240 * 1000 / sB t x y 240 + 1 = fc t le x y from by unfold fc fcv; (repeat' split) <;> omega))), ht⟩) (fun q hq => absurd hq List.not_mem_nil) dX5_factorOf_84
  refine lv_iconst (v := (-1)) hx hb dX5_factorOf_52 (by decide) ?_
  exact W.iret (v := (-1)) hx hb hr (fun zt ht zw => ⟨_, rfl, (m1_o.trans (congrArg oI (show 0 = fc t le x y from by unfold fc fcv; (repeat' split) <;> omega))), ht⟩) (fun q hq => absurd hq List.not_mem_nil) dX5_factorOf_53
end
