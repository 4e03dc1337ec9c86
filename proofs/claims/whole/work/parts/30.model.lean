/-! the reference's rows against the shared numbers -/
def og (t : Nat → Nat) (i : Nat) : Nat := if t i = 0 then 0 else grp t i + 1
theorem og_eq {t : Nat → Nat} {i : Nat} : og t i = 0 ↔ t i = 0 := by unfold og; split <;> omega
theorem og_le {t : Nat → Nat} (tb : TB t) (i : Nat) : og t i ≤ 21 := by
  have := grp_le tb i
  unfold og; split <;> omega
theorem og_s {t : Nat → Nat} {i : Nat} (h : t i ≠ 0) : og t i - 1 = grp t i := by unfold og; rw [if_neg h]; rfl
theorem og_v {t : Nat → Nat} {i : Nat} (h : t i ≠ 0) : oI (og t i) = nI (grp t i) := by unfold og; rw [if_neg h]; exact oI_s _
def GM (t : Nat → Nat) (ey : Nat) (gr sp : Nat → Int32) : Prop := (∀ i, i < ey * 240 → gr i = oI (og t i)) ∧ ∀ i, i < ey * 240 → t i ≠ 0 → sp i = nI (spt t i)
def MT (so sz : Nat → Nat) (z : Nat → Int64) (ms mm : Nat → Nat) (mz : Nat → Int64) : Prop := ∀ k, k < 4 → (so k = 0 → mm k = 0) ∧ (so k ≠ 0 → ms k = so k - 1 ∧ mm k = sz k + 1 ∧ ∀ i, i < sz k → mz (60 * k + i) = z (k * 60 + i))
theorem MT_0 {so sz : Nat → Nat} {z : Nat → Int64} {ms mm : Nat → Nat} {mz : Nat → Int64} (h : MT so sz z ms mm mz) {k : Nat} (hk : k < 4) : mm k = 0 ↔ so k = 0 := by
  constructor
  · intro q
    apply Classical.byContradiction
    intro w
    have := ((h k hk).2 w).2.1
    omega
  · exact (h k hk).1
theorem MT_tray {so sz : Nat → Nat} {z : Nat → Int64} {ms mm : Nat → Nat} {mz : Nat → Int64} (ts : TS so sz) (h : MT so sz z ms mm mz) {tr k mn : Nat} (ht : tr < 4) (hm : mn ≤ 60) : MT (upN so tr (k + 1)) (upN sz tr mn) (fil z (lN 0) (tr * 60) ((tr + 1) * 60)) (upN ms tr k) (upN mm tr (mn + 1)) (fil mz (lN 0) (60 * tr) (60 * tr + mn)) := by
  intro q hq
  by_cases e : q = tr
  · subst e
    rw [upN_s, upN_s, upN_s, upN_s]
    refine ⟨fun z => by omega, fun _ => ⟨rfl, rfl, fun i hi => ?_⟩⟩
    unfold fil
    rw [if_pos (by omega), if_pos (by omega)]
  · rw [upN_n e, upN_n e, upN_n e, upN_n e]
    refine ⟨(h q hq).1, fun w => ?_⟩
    obtain ⟨a1, a2, a3⟩ := (h q hq).2 w
    refine ⟨a1, a2, fun i hi => ?_⟩
    have := (ts q).2
    unfold fil
    rw [if_neg (by omega), if_neg (by omega)]
    exact a3 i hi
theorem MT_write {so sz : Nat → Nat} {z : Nat → Int64} {ms mm : Nat → Nat} {mz : Nat → Int64} (ts : TS so sz) (h : MT so sz z ms mm mz) {tr pl : Nat} (ht : tr < 4) (hp : pl < sz tr) (v : Int64) : MT so sz (upN z (tr * 60 + pl) v) ms mm (upN mz (60 * tr + pl) v) := by
  intro q hq
  refine ⟨(h q hq).1, fun w => ?_⟩
  obtain ⟨a1, a2, a3⟩ := (h q hq).2 w
  refine ⟨a1, a2, fun i hi => ?_⟩
  have := (ts q).2
  have := (ts tr).2
  unfold upN
  by_cases e : q = tr ∧ i = pl
  · rw [if_pos (by omega), if_pos (by omega)]
  · rw [if_neg (by omega), if_neg (by omega)]; exact a3 i hi
theorem GM_put {t : Nat → Nat} {ey : Nat} {gr sp : Nat → Int32} (h : GM t ey gr sp) {i g k : Nat} (hk : k < 1000) : GM (upN t i (1000 * g + k + 1)) ey (upN gr i (nI g)) (upN sp i (nI k)) := by
  constructor
  · intro j hj
    unfold og grp upN
    by_cases e : j = i
    · simp only [if_pos e]
      rw [if_neg (by omega), show (1000 * g + k + 1 - 1) / 1000 = g from by omega]; exact nI_o g
    · simp only [if_neg e]; exact h.1 j hj
  · intro j hj
    unfold spt upN
    by_cases e : j = i
    · simp only [if_pos e]
      intro _
      rw [show (1000 * g + k + 1 - 1) % 1000 = k from by omega]
    · simp only [if_neg e]; exact h.2 j hj
theorem GM_del {t : Nat → Nat} {ey : Nat} {gr sp : Nat → Int32} (h : GM t ey gr sp) {i : Nat} : GM (upN t i 0) ey (upN gr i (-1)) sp := by
  constructor
  · intro j hj
    unfold og grp upN
    by_cases e : j = i
    · simp only [if_pos e]; exact m1_o
    · simp only [if_neg e]; exact h.1 j hj
  · intro j hj hz
    unfold spt
    by_cases e : j = i
    · subst e; rw [upN_s] at hz; exact absurd rfl hz
    · rw [upN_n e] at hz ⊢; exact h.2 j hj hz
theorem GM_eye {t : Nat → Nat} {ey : Nat} {gr sp : Nat → Int32} (h : GM t ey gr sp) (hz : TZ t ey) (hey : ey < 8) : GM t (ey + 1) (fil gr (-1) (ey * 240) (ey * 240 + 240)) sp := by
  have key : ∀ j, j < (ey + 1) * 240 → ¬ j < ey * 240 → t j = 0 := by
    intro j h1 h2
    have := hz ey (j - ey * 240) (Nat.le_refl ey) hey (by omega)
    rw [show ey * 240 + (j - ey * 240) = j from by omega] at this
    exact this
  constructor
  · intro j hj
    unfold fil
    by_cases e : j < ey * 240
    · rw [if_neg (by omega)]; exact h.1 j e
    · rw [if_pos (by omega)]
      unfold og
      rw [if_pos (key j hj e)]; exact m1_o
  · intro j hj hq
    by_cases e : j < ey * 240
    · exact h.2 j e hq
    · exact absurd (key j hj e) hq
theorem toI64 (x : Int32) : x.toInt64.toInt = x.toInt := Int32.toInt_toInt64 x
abbrev atold (g k : Int64) : Prop := 0 ≤ g.toInt ∧ g.toInt ≤ 20 ∧ g.toInt ≤ k.toInt ∧ k.toInt ≤ 200
theorem atold_i {g k : Int32} : atold g.toInt64 k.toInt64 ↔ ctold g k := by
  unfold atold ctold rg
  rw [toI64, toI64]; omega
theorem ngt_rg {x : Int32} {k : Nat} (h : nI k < x) (h2 : rg x (k + 1)) (hk : k < 2 ^ 31 := by decide) : False := by
  have h1 := Int32.lt_iff_toInt_lt.mp h
  rw [nI_toInt hk] at h1
  have := h2.2
  omega
theorem MT_b {so sz : Nat → Nat} {z : Nat → Int64} {ms mm : Nat → Nat} {mz : Nat → Int64} (ts : TS so sz) (h : MT so sz z ms mm mz) {k : Nat} (hk : k < 4) : mm k ≤ 61 := by
  have := (ts k).2
  by_cases q : so k = 0
  · rw [(h k hk).1 q]; omega
  · rw [((h k hk).2 q).2.1]; omega
theorem fa_lt64_ (a b : Int64) : a < b ↔ a.toInt < b.toInt := Int64.lt_iff_toInt_lt
theorem fa_le64_ (a b : Int64) : a ≤ b ↔ a.toInt ≤ b.toInt := Int64.le_iff_toInt_le
