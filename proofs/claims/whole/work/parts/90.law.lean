/-! the law: what holds between two calls -/
theorem TS_tray {so sz : Nat → Nat} (h : TS so sz) (tr k mn : Int32) : TS (soTray so tr k mn) (szTray sz tr k mn) := by
  unfold soTray szTray
  by_cases q : okTray tr k mn
  · rw [cif_pos q, cif_pos q]
    obtain ⟨jk, hk, e1⟩ := rg_ex q.2.1
    obtain ⟨jm, hm, e2⟩ := rg_ex q.2.2
    subst e1; subst e2
    rw [nn_nI (by omega), nn_nI (by omega)]
    intro i
    unfold upN
    by_cases z : i = nn tr
    · rw [if_pos z, if_pos z]; omega
    · rw [if_neg z, if_neg z]; exact h i
  · rw [cif_neg q, cif_neg q]; exact h
theorem TZ_eye {t : Nat → Nat} {ey : Nat} (h : TZ t ey) : TZ t (eEye ey) := fun x d h1 h2 h3 => h x d (by unfold eEye at h1; split at h1 <;> omega) h2 h3
theorem eEye_le {ey : Nat} (h : ey ≤ 8) : eEye ey ≤ 8 := by unfold eEye; split <;> omega
theorem TB_tell {t : Nat → Nat} {ey : Nat} {e d g k : Int32} (h : TB t) : TB (tTell t ey e d g k) := by
  unfold tTell
  by_cases q : okTell ey e d g k
  · rw [cif_pos q]
    obtain ⟨jg, hg, e1⟩ := rg_ex q.2.2.1
    obtain ⟨jk, hk, e2⟩ := rg_ex q.2.2.2.1
    have q3 := q.2.2
    subst e1; subst e2
    rw [nn_nI (by omega), nn_nI (by omega)]
    have := (ctold_nI (g := jg) (k := jk) (by omega) (by omega)).mp q3
    exact TB_put h (Or.inr (by omega))
  · rw [cif_neg q]; exact h
theorem rg_nn {x : Int32} {k : Nat} (h : rg x k) : nn x < k := by
  have h0 : ¬ x < 0 := fun q => nrg_lt q h
  obtain ⟨j, hj, rfl⟩ := nI_of h0
  rw [nn_nI hj]; exact (rg_nIiff hj).mp h
theorem TZ_tell {t : Nat → Nat} {ey : Nat} {e d g k : Int32} (h : TZ t ey) : TZ (tTell t ey e d g k) ey := by
  unfold tTell
  by_cases q : okTell ey e d g k
  · rw [cif_pos q]; exact TZ_put h (rg_nn q.1) (rg_nn q.2.1)
  · rw [cif_neg q]; exact h
theorem qU_0 {t : Nat → Nat} {ey : Nat} {e d : Int32} (h : qUnsay t ey e d = 0) : rg e ey ∧ rg d 240 := by
  unfold qUnsay at h
  by_cases q : rg e ey ∧ rg d 240
  · exact q
  · rw [cif_neg q] at h; cases h
theorem TB_unsay {t : Nat → Nat} {ey : Nat} {e d : Int32} (h : TB t) : TB (tUnsay t ey e d) := by
  unfold tUnsay
  by_cases q : qUnsay t ey e d = 0
  · rw [if_pos q]; exact TB_put h (Or.inl rfl)
  · rw [if_neg q]; exact h
theorem TZ_unsay {t : Nat → Nat} {ey : Nat} {e d : Int32} (h : TZ t ey) : TZ (tUnsay t ey e d) ey := by
  unfold tUnsay
  by_cases q : qUnsay t ey e d = 0
  · rw [if_pos q]; exact TZ_put h (rg_nn (qU_0 q).1) (rg_nn (qU_0 q).2)
  · rw [if_neg q]; exact h
theorem TB_book {t : Nat → Nat} {ey : Nat} {so sz : Nat → Nat} {z : Nat → Int64} {x d tr mn : Int32} (h : TB t) : TB (tBook t ey so sz z x d tr mn) := by
  unfold tBook
  by_cases q : wbo ey so sz z x d tr mn = 0
  · rw [if_pos q]; exact bkT_TB h (wbo_0 q).2.2.2
  · rw [if_neg q]; exact h
theorem TZ_book {t : Nat → Nat} {ey : Nat} {so sz : Nat → Nat} {z : Nat → Int64} {x d tr mn : Int32} (h : TZ t ey) : TZ (tBook t ey so sz z x d tr mn) ey := by
  unfold tBook
  by_cases q : wbo ey so sz z x d tr mn = 0
  · rw [if_pos q]; exact bkT_TZ h (rg_nn (wbo_0 q).1.1) (wbo_0 q).1.2.2.2.2
  · rw [if_neg q]; exact h
theorem rg2_nn {x : Int32} {lo hi : Nat} (h : rg2 x lo hi) (hh : hi < 2 ^ 31) : lo ≤ nn x ∧ nn x ≤ hi := by
  obtain ⟨j, hj, rfl⟩ := rg2_ex h
  rw [nn_nI (by omega)]; exact hj
theorem le_rules {le : Nat} {x n : Int32} (h : 1 ≤ le ∧ le ≤ 100) : 1 ≤ leRules le x n ∧ leRules le x n ≤ 100 := by
  unfold leRules
  by_cases q : okRules x n
  · rw [cif_pos q]; exact rg2_nn q.1 (by decide)
  · rw [cif_neg q]; exact h
theorem en_rules {en : Nat} {x n : Int32} (h : 1 ≤ en ∧ en ≤ 10) : 1 ≤ enRules en x n ∧ enRules en x n ≤ 10 := by
  unfold enRules
  by_cases q : okRules x n
  · rw [cif_pos q]; exact rg2_nn q.2 (by decide)
  · rw [cif_neg q]; exact h
def LawI (G : va_G) (cI cJ : ClassId) (A : Nat → Prop) (a b : Nat → Nat) (H : Heap) : Prop := ∃ (st : Int32) (up : Int64) (lo : Int64) (ey : Nat) (le : Nat) (en : Nat) (t : Nat → Nat) (so : Nat → Nat) (sz : Nat → Nat) (z : Nat → Int64) (bd : Nat → Int32) (bs : Nat → Int32) (mn : Int32) (bl : Int32) (gu : Nat → Nat) (gl : Nat → Nat) (k16 : Nat → Nat) (k17 : Nat → Nat) (k18 : Nat → Nat) (k19 : Nat → Nat) (k20 : Nat → Nat) (ln : Nat → Nat) (wd : Nat → Nat) (we : Nat → Nat) (wy : Nat → Nat) (va : Nat → Nat) (sv : Nat → Nat) (ms : Nat → Nat) (mm : Nat → Nat) (mz : Nat → Int64) (gr : Nat → Int32) (sp : Nat → Int32) (cn : Nat → Nat) (su : Nat → Nat) (fa : Nat → Nat) (sg : Nat → Nat) (nx : Nat → Nat) (ti : Nat → Nat) (fx : Nat → Nat) (wyb : Nat → Nat) (web : Nat → Nat) (ro : Nat → Nat) (sm_ : Nat → Nat), va_P G vwCl [oX a st, oTr a, oTe a (nI ey) (nI le), oRa a mn, oSt a bl, oCh a, oRo a (nI en), oFr a up lo, aJ cJ (a 8) 240 z, aI cI (a 9) 4 (oF so), aI cI (a 10) 4 (nF sz), aI cI (a 11) 1920 (oF t), aI cI (a 12) 64 bd, aI cI (a 13) 64 bs, aI cI (a 14) 240 (nF gu), aI cI (a 15) 240 (nF gl), aI cI (a 16) 21 (nF k16), aI cI (a 17) 21 (nF k17), aI cI (a 18) 21 (nF k18), aI cI (a 19) 21 (nF k19), aI cI (a 20) 21 (nF k20), aI cI (a 21) 8 (oF ln), aI cI (a 22) 8 (nF wd), aI cI (a 23) 8 (oF we), aI cI (a 24) 8 (nF wy), aI cI (a 25) 24 (oF va), aI cI (a 26) 24 (oF sv), oM b st up lo (nI ey) (nI le) (nI en) (oI 0), aI cI (b 1) 4 (nF ms), aI cI (b 2) 4 (oF mm), aJ cJ (b 3) 240 mz, aI cI (b 4) 1920 gr, aI cI (b 5) 1920 sp, aI cI (b 6) 21 (nF cn), aI cI (b 7) 21 (nF su), aI cI (b 8) 8 (oF fa), aI cI (b 9) 8 (nF sg), aI cI (b 10) 8 (oF nx), aI cI (b 11) 64 (nF ti), aI cI (b 12) 64 (oF fx), aI cI (b 13) 8 (nF wyb), aI cI (b 14) 8 (oF web), aI cI (b 15) 24 (oF ro), aI cI (b 16) 24 (oF sm_)] H ∧ va_D A [oX a st, oTr a, oTe a (nI ey) (nI le), oRa a mn, oSt a bl, oCh a, oRo a (nI en), oFr a up lo, aJ cJ (a 8) 240 z, aI cI (a 9) 4 (oF so), aI cI (a 10) 4 (nF sz), aI cI (a 11) 1920 (oF t), aI cI (a 12) 64 bd, aI cI (a 13) 64 bs, aI cI (a 14) 240 (nF gu), aI cI (a 15) 240 (nF gl), aI cI (a 16) 21 (nF k16), aI cI (a 17) 21 (nF k17), aI cI (a 18) 21 (nF k18), aI cI (a 19) 21 (nF k19), aI cI (a 20) 21 (nF k20), aI cI (a 21) 8 (oF ln), aI cI (a 22) 8 (nF wd), aI cI (a 23) 8 (oF we), aI cI (a 24) 8 (nF wy), aI cI (a 25) 24 (oF va), aI cI (a 26) 24 (oF sv), oM b st up lo (nI ey) (nI le) (nI en) (oI 0), aI cI (b 1) 4 (nF ms), aI cI (b 2) 4 (oF mm), aJ cJ (b 3) 240 mz, aI cI (b 4) 1920 gr, aI cI (b 5) 1920 sp, aI cI (b 6) 21 (nF cn), aI cI (b 7) 21 (nF su), aI cI (b 8) 8 (oF fa), aI cI (b 9) 8 (nF sg), aI cI (b 10) 8 (oF nx), aI cI (b 11) 64 (nF ti), aI cI (b 12) 64 (oF fx), aI cI (b 13) 8 (nF wyb), aI cI (b 14) 8 (oF web), aI cI (b 15) 24 (oF ro), aI cI (b 16) 24 (oF sm_)] ∧ TB t ∧ TT t bd bs ∧ TZ t ey ∧ TS so sz ∧ MT so sz z ms mm mz ∧ GM t ey gr sp ∧ ey ≤ 8 ∧ (1 ≤ le ∧ le ≤ 100) ∧ (1 ≤ en ∧ en ≤ 10) ∧ WB web
def LCx (p : Program) (s : State) (m : MethodId) (c : Code) (sb L i : Nat) (xs : Nat → Int32) (G : va_G) (cI cJ : ClassId) (A : Nat → Prop) : Prop := p.tables.exec = Jvm.exec ∧ c.code = cL_law ∧ c.maxLocals = 4 ∧ s.vm.findClass RL = some m.cls ∧ (∀ w ∈ wsL_law, w.before #[Value.ref sb] s = true) ∧ KK G cI cJ s ∧ va_X sb L xs s s.heap ∧ sb < s.heap.size ∧ ¬ A sb ∧ i + 6 ≤ L ∧ L ≤ 3072
