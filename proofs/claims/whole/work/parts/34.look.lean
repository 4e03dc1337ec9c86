/-! the reference's look: factors, ties, levels -/
def FT (u : Nat → Nat) (le ey : Nat) (F T : Nat → Nat) (a b0 : Nat) : Prop := ∀ x y, x < ey → y < ey → (x < a ∨ (x = a ∧ y < b0)) → F (x * 8 + y) = (if x = y then 0 else fc u le x y) ∧ T (x * 8 + y) = (if x = y then 0 else cB u x y 240)
theorem FT_s {u : Nat → Nat} {le ey : Nat} {F T : Nat → Nat} {a b0 : Nat} (hey : ey ≤ 8) (hb : b0 < 8) (h : FT u le ey F T a b0) {v w : Nat} (hv : v = if a = b0 then 0 else fc u le a b0) (hw : w = if a = b0 then 0 else cB u a b0 240) : FT u le ey (upN F (a * 8 + b0) v) (upN T (a * 8 + b0) w) a (b0 + 1) := by
  intro x y hx hy hc
  by_cases q : x = a ∧ y = b0
  · obtain ⟨rfl, rfl⟩ := q
    rw [upN_s, upN_s]; exact ⟨hv, hw⟩
  · have hne : x * 8 + y ≠ a * 8 + b0 := fun e => q ((ix8 (by omega) hb).mp e)
    rw [upN_n hne, upN_n hne]
    exact h x y hx hy (by omega)
theorem FT_n {u : Nat → Nat} {le ey : Nat} {F T : Nat → Nat} {a b0 : Nat} (h : FT u le ey F T a b0) (hb : ey ≤ b0) : FT u le ey F T (a + 1) 0 := fun x y hx hy hc => h x y hx hy (by omega)
abbrev Qp (u : Nat → Nat) (le ey k j a : Nat) : Prop := nxP u le ey 0 (lvl u le ey 0 k) a (k + 1) ∧ a < j
def bas (u : Nat → Nat) (le ey k a : Nat) : Nat := if lvl u le ey 0 k a ≤ 1 then 241 else lvw u le ey 0 k a
/-- at level k + 1, far for the eyes before i, strong and next for those before j -/
def LKm (u : Nat → Nat) (le ey k i j : Nat) (fa sg nx : Nat → Nat) : Prop := ∀ a, a < ey → fa a = nxL u le ey 0 (k + 1) i (lvl u le ey 0 k) a ∧ sg a = (if Qp u le ey k j a then mxw u le (lvl u le ey 0 k) (lvw u le ey 0 k) a (k + 1) ey else bas u le ey k a) ∧ (nx a = 0 ↔ ¬ Qp u le ey k j a ∧ lvl u le ey 0 k a ≤ 1)
theorem LK_0 {u : Nat → Nat} {le ey : Nat} {fa sg nx : Nat → Nat} (h : ∀ a, a < ey → fa a = (if a = 0 then 1 else 0) ∧ sg a = 241 ∧ nx a = 0) : LKm u le ey 0 1 1 fa sg nx := by
  intro a ha
  obtain ⟨h1, h2, h3⟩ := h a ha
  have hl : lvl u le ey 0 0 a ≤ 1 := by unfold lvl; split <;> omega
  refine ⟨by rw [nxL_1, h1]; rfl, ?_, ?_⟩
  · rw [if_neg (fun q => by have := q.1.1; omega), bas, if_pos hl, h2]
  · rw [h3]; exact ⟨fun _ => ⟨fun q => by have := q.1.1; omega, hl⟩, fun _ => rfl⟩
theorem sg_min {u : Nat → Nat} {le ey k b : Nat} (hey : ey ≤ 8) (hk : k ≤ 7) (h : lvl u le ey 0 k b = k + 1) (a : Nat) : min (bas u le ey k b) (cB u a b 240) = min (cB u a b 240) (lvw u le ey 0 k b) := by
  have hc := cB_le u a b 240
  unfold bas
  by_cases q : k + 1 ≤ 1
  · have hb := (lv_CH u le ey 0 hey k hk).2.2.2.2.1 b (by omega)
    subst hb
    rw [if_pos (by omega)]
    have : lvw u le ey 0 k 0 = 240 := by rw [show k = 0 from by omega]; rfl
    omega
  · rw [if_neg (by omega)]; omega
/-- the eye a, before its b-th neighbour -/
def LKb (u : Nat → Nat) (le ey k a b0 : Nat) (fa sg nx : Nat → Nat) : Prop := (∀ a', a' < ey → a' ≠ a → fa a' = lvl u le ey 0 k a' ∧ sg a' = (if Qp u le ey k a a' then mxw u le (lvl u le ey 0 k) (lvw u le ey 0 k) a' (k + 1) ey else bas u le ey k a') ∧ (nx a' = 0 ↔ ¬ Qp u le ey k a a' ∧ lvl u le ey 0 k a' ≤ 1)) ∧
  fa a = 0 ∧ lvl u le ey 0 k a = 0 ∧ sg a = (if cN u le (lvl u le ey 0 k) a (k + 1) b0 = 0 then 241 else mxw u le (lvl u le ey 0 k) (lvw u le ey 0 k) a (k + 1) b0) ∧ (nx a = 0 ↔ cN u le (lvl u le ey 0 k) a (k + 1) b0 = 0)
theorem nxL_le1 {t : Nat → Nat} {le ey lk a : Nat} {ln : Nat → Nat} : nxL t le ey 0 lk 1 ln a = ln a := by rw [nxL_1]
theorem LKb_0 {u : Nat → Nat} {le ey k a : Nat} {fa sg nx : Nat → Nat} (ha : a < ey) (h : LKm u le ey k 1 a fa sg nx) (h0 : fa a = 0) : LKb u le ey k a 0 fa sg nx := by
  have hl : lvl u le ey 0 k a = 0 := by
    have h9 := (h a ha).1
    rw [nxL_1] at h9
    omega
  obtain ⟨h1, h2, h3⟩ := h a ha
  refine ⟨fun a' ha' hn => ?_, h0, hl, ?_, ?_⟩
  · obtain ⟨g1, g2, g3⟩ := h a' ha'
    rw [nxL_1] at g1
    exact ⟨g1, g2, g3⟩
  · rw [h2, if_neg (fun q => by omega), bas, if_pos (by omega)]; rfl
  · rw [h3]; exact ⟨fun _ => rfl, fun _ => ⟨fun q => by omega, by omega⟩⟩
theorem LKb_no {u : Nat → Nat} {le ey k a b0 : Nat} {fa sg nx : Nat → Nat} (h : LKb u le ey k a b0 fa sg nx) (hc : ¬ cnd u le (lvl u le ey 0 k) a (k + 1) b0) : LKb u le ey k a (b0 + 1) fa sg nx := by
  obtain ⟨h1, h2, h3, h4, h5⟩ := h
  have e1 : cN u le (lvl u le ey 0 k) a (k + 1) (b0 + 1) = cN u le (lvl u le ey 0 k) a (k + 1) b0 := by
    show cN u le (lvl u le ey 0 k) a (k + 1) b0 + (if cnd u le (lvl u le ey 0 k) a (k + 1) b0 then 1 else 0) = _
    rw [if_neg hc]; rfl
  have e2 : mxw u le (lvl u le ey 0 k) (lvw u le ey 0 k) a (k + 1) (b0 + 1) = mxw u le (lvl u le ey 0 k) (lvw u le ey 0 k) a (k + 1) b0 := by rw [mxw, if_neg hc]
  exact ⟨h1, h2, h3, by rw [e1, e2]; exact h4, by rw [e1]; exact h5⟩
theorem cN_y {u : Nat → Nat} {le : Nat} {ln : Nat → Nat} {a lk b0 : Nat} (hc : cnd u le ln a lk b0) : cN u le ln a lk (b0 + 1) = cN u le ln a lk b0 + 1 := by
  show cN u le ln a lk b0 + (if cnd u le ln a lk b0 then 1 else 0) = _
  rw [if_pos hc]
theorem LKb_keep {u : Nat → Nat} {le ey k a b0 : Nat} {fa sg nx : Nat → Nat} {its : Nat} (h : LKb u le ey k a b0 fa sg nx) (hc : cnd u le (lvl u le ey 0 k) a (k + 1) b0) (hi : its = min (cB u a b0 240) (lvw u le ey 0 k b0)) (hn : nx a ≠ 0) (hs : its ≤ sg a) : LKb u le ey k a (b0 + 1) fa sg nx := by
  obtain ⟨h1, h2, h3, h4, h5⟩ := h
  have hz : cN u le (lvl u le ey 0 k) a (k + 1) b0 ≠ 0 := fun q => hn (h5.mpr q)
  rw [if_neg hz] at h4
  refine ⟨h1, h2, h3, ?_, ?_⟩
  · rw [cN_y hc, if_neg (by omega), mxw, if_pos hc, ← hi, Nat.max_eq_left (by omega)]; exact h4
  · rw [cN_y hc]; exact ⟨fun q => absurd q hn, fun q => by omega⟩
theorem LKb_put {u : Nat → Nat} {le ey k a b0 : Nat} {fa sg nx : Nat → Nat} {its : Nat} (h : LKb u le ey k a b0 fa sg nx) (hc : cnd u le (lvl u le ey 0 k) a (k + 1) b0) (hi : its = min (cB u a b0 240) (lvw u le ey 0 k b0)) (hn : nx a = 0 ∨ sg a < its) : LKb u le ey k a (b0 + 1) fa (upN sg a its) (upN nx a (b0 + 1)) := by
  obtain ⟨h1, h2, h3, h4, h5⟩ := h
  refine ⟨fun a' ha' hq => ?_, h2, h3, ?_, ?_⟩
  · rw [upN_n hq, upN_n hq]; exact h1 a' ha' hq
  · rw [upN_s, cN_y hc, if_neg (by omega), mxw, if_pos hc, ← hi]
    rcases hn with q | q
    · have hz := h5.mp q
      have hm : mxw u le (lvl u le ey 0 k) (lvw u le ey 0 k) a (k + 1) b0 = 0 := by
        have key : ∀ j, j ≤ b0 → mxw u le (lvl u le ey 0 k) (lvw u le ey 0 k) a (k + 1) j = 0 := by
          intro j
          induction j with
          | zero => intro _; rfl
          | succ j ih =>
            intro hj
            rw [mxw, if_neg, ih (by omega)]
            intro hcc
            exact absurd hz (cN_pos.mpr ⟨j, by omega, hcc⟩)
        exact key b0 (Nat.le_refl b0)
      rw [hm]; omega
    · by_cases hz : cN u le (lvl u le ey 0 k) a (k + 1) b0 = 0
      · have hm : mxw u le (lvl u le ey 0 k) (lvw u le ey 0 k) a (k + 1) b0 = 0 := by
          have key : ∀ j, j ≤ b0 → mxw u le (lvl u le ey 0 k) (lvw u le ey 0 k) a (k + 1) j = 0 := by
            intro j
            induction j with
            | zero => intro _; rfl
            | succ j ih =>
              intro hj
              rw [mxw, if_neg, ih (by omega)]
              intro hcc
              exact absurd hz (cN_pos.mpr ⟨j, by omega, hcc⟩)
          exact key b0 (Nat.le_refl b0)
        rw [hm]; omega
      · rw [if_neg hz] at h4; omega
  · rw [upN_s, cN_y hc]; omega
theorem LKb_end {u : Nat → Nat} {le ey k a b0 : Nat} {fa sg nx : Nat → Nat} (ha : 1 ≤ a ∧ a < ey) (h : LKb u le ey k a b0 fa sg nx) (hb : b0 = ey) : LKm u le ey k 1 (a + 1) fa sg nx := by
  subst hb
  obtain ⟨h1, h2, h3, h4, h5⟩ := h
  intro a' ha'
  rw [nxL_1]
  by_cases q : a' = a
  · subst q
    refine ⟨by rw [h2, h3], ?_, ?_⟩
    · rw [h4]
      by_cases z : cN u le (lvl u le b0 0 k) a' (k + 1) b0 = 0
      · rw [if_pos z, if_neg (fun w => w.1.2.2.2.2 z), bas, if_pos (by omega)]
      · rw [if_neg z, if_pos ⟨⟨ha.1, ha.2, by omega, h3, z⟩, by omega⟩]
    · rw [h5]
      constructor
      · intro z; exact ⟨fun w => w.1.2.2.2.2 z, by omega⟩
      · intro z
        apply Classical.byContradiction
        intro w
        exact z.1 ⟨⟨ha.1, ha.2, by omega, h3, w⟩, by omega⟩
  · obtain ⟨g1, g2, g3⟩ := h1 a' ha' q
    have e : Qp u le b0 k a a' ↔ Qp u le b0 k (a + 1) a' := ⟨fun w => ⟨w.1, by omega⟩, fun w => ⟨w.1, by have := w.2; omega⟩⟩
    refine ⟨g1, ?_, ?_⟩
    · rw [g2]
      by_cases z : Qp u le b0 k a a'
      · rw [if_pos z, if_pos (e.mp z)]
      · rw [if_neg z, if_neg (fun w => z (e.mpr w))]
    · rw [g3]
      constructor
      · intro z; exact ⟨fun w => z.1 (e.mpr w), z.2⟩
      · intro z; exact ⟨fun w => z.1 (e.mp w), z.2⟩
theorem LKm_skip {u : Nat → Nat} {le ey k a : Nat} {fa sg nx : Nat → Nat} (h : LKm u le ey k 1 a fa sg nx) (ha : a < ey) (hf : fa a ≠ 0) : LKm u le ey k 1 (a + 1) fa sg nx := by
  have hl : lvl u le ey 0 k a ≠ 0 := by
    have h9 := (h a ha).1
    rw [nxL_1] at h9
    omega
  intro a' ha'
  obtain ⟨g1, g2, g3⟩ := h a' ha'
  have e : Qp u le ey k a a' ↔ Qp u le ey k (a + 1) a' := ⟨fun w => ⟨w.1, by omega⟩, fun w => ⟨w.1, by
    rcases Nat.lt_or_ge a' a with z | z
    · exact z
    · have : a' = a := by have := w.2; omega
      subst this
      exact absurd w.1.2.2.2.1 hl⟩⟩
  refine ⟨g1, ?_, ?_⟩
  · rw [g2]
    by_cases z : Qp u le ey k a a'
    · rw [if_pos z, if_pos (e.mp z)]
    · rw [if_neg z, if_neg (fun w => z (e.mpr w))]
  · rw [g3]
    constructor
    · intro z; exact ⟨fun w => z.1 (e.mpr w), z.2⟩
    · intro z; exact ⟨fun w => z.1 (e.mp w), z.2⟩
theorem LKm_sweep {u : Nat → Nat} {le ey k a : Nat} {fa sg nx : Nat → Nat} (h : LKm u le ey k 1 a fa sg nx) (ha : ey ≤ a) : LKm u le ey k 1 ey fa sg nx := by
  intro a' ha'
  obtain ⟨g1, g2, g3⟩ := h a' ha'
  have e : Qp u le ey k a a' ↔ Qp u le ey k ey a' := ⟨fun w => ⟨w.1, ha'⟩, fun w => ⟨w.1, by omega⟩⟩
  refine ⟨g1, ?_, ?_⟩
  · rw [g2]
    by_cases z : Qp u le ey k a a'
    · rw [if_pos z, if_pos (e.mp z)]
    · rw [if_neg z, if_neg (fun w => z (e.mpr w))]
  · rw [g3]
    constructor
    · intro z; exact ⟨fun w => z.1 (e.mpr w), z.2⟩
    · intro z; exact ⟨fun w => z.1 (e.mp w), z.2⟩
/-- far of the eye i -/
theorem LKf_put {u : Nat → Nat} {le ey k i : Nat} {fa sg nx : Nat → Nat} (h : LKm u le ey k i ey fa sg nx) (hi : 1 ≤ i ∧ i < ey) (hf : fa i = 0) (hn : nx i ≠ 0) : LKm u le ey k (i + 1) ey (upN fa i (k + 1 + 1)) sg nx := by
  obtain ⟨f1, f2, f3⟩ := h i hi.2
  rw [nxL_at] at f1
  have hP : nxP u le ey 0 (lvl u le ey 0 k) i (k + 1) := by
    apply Classical.byContradiction
    intro q
    exact hn (f3.mpr ⟨fun z => q z.1, by omega⟩)
  intro a ha
  obtain ⟨g1, g2, g3⟩ := h a ha
  refine ⟨?_, g2, g3⟩
  rw [nxL_put hP]
  by_cases q : a = i
  · subst q; rw [upN_s, upN_s]
  · rw [upN_n q, upN_n q]; exact g1
theorem LKf_skip {u : Nat → Nat} {le ey k i : Nat} {fa sg nx : Nat → Nat} (h : LKm u le ey k i ey fa sg nx) (hi : i < ey) (hn : fa i ≠ 0 ∨ nx i = 0) : LKm u le ey k (i + 1) ey fa sg nx := by
  obtain ⟨f1, f2, f3⟩ := h i hi
  rw [nxL_at] at f1
  have hP : ¬ nxP u le ey 0 (lvl u le ey 0 k) i (k + 1) := by
    intro q
    rcases hn with z | z
    · exact z (by rw [f1]; exact q.2.2.2.1)
    · exact (f3.mp z).1 ⟨q, hi⟩
  intro a ha
  obtain ⟨g1, g2, g3⟩ := h a ha
  exact ⟨by rw [nxL_skip hP]; exact g1, g2, g3⟩
theorem LKf_end {u : Nat → Nat} {le ey k i : Nat} {fa sg nx : Nat → Nat} (h : LKm u le ey k i ey fa sg nx) (hi : ey ≤ i) : LKm u le ey (k + 1) 1 1 fa sg nx := by
  intro a ha
  obtain ⟨g1, g2, g3⟩ := h a ha
  have e1 : lvl u le ey 0 (k + 1) a = nxL u le ey 0 (k + 1) i (lvl u le ey 0 k) a := by
    show nxL u le ey 0 (k + 1) ey (lvl u le ey 0 k) a = _
    unfold nxL
    by_cases q : nxP u le ey 0 (lvl u le ey 0 k) a (k + 1)
    · rw [if_pos ⟨q, ha⟩, if_pos ⟨q, by omega⟩]
    · rw [if_neg (fun z => q z.1), if_neg (fun z => q z.1)]
  rw [nxL_1]
  refine ⟨by rw [e1]; exact g1, ?_, ?_⟩
  · rw [if_neg (fun q => by have := q.1.1; omega), g2]
    by_cases q : Qp u le ey k ey a
    · have e2 : lvl u le ey 0 (k + 1) a = k + 2 := by
        show nxL u le ey 0 (k + 1) ey (lvl u le ey 0 k) a = _
        unfold nxL; rw [if_pos q]
      have e3 : lvw u le ey 0 (k + 1) a = mxw u le (lvl u le ey 0 k) (lvw u le ey 0 k) a (k + 1) ey := by
        show nxW u le ey 0 (k + 1) ey (lvl u le ey 0 k) (lvw u le ey 0 k) a = _
        unfold nxW; rw [if_pos q]
      rw [if_pos q]; unfold bas; rw [if_neg (by omega), e3]
    · have e2 : lvl u le ey 0 (k + 1) a = lvl u le ey 0 k a := by
        show nxL u le ey 0 (k + 1) ey (lvl u le ey 0 k) a = _
        unfold nxL; rw [if_neg q]
      have e3 : lvw u le ey 0 (k + 1) a = lvw u le ey 0 k a := by
        show nxW u le ey 0 (k + 1) ey (lvl u le ey 0 k) (lvw u le ey 0 k) a = _
        unfold nxW; rw [if_neg q]
      rw [if_neg q]; unfold bas; rw [e2, e3]
  · rw [g3]
    by_cases q : Qp u le ey k ey a
    · have e2 : lvl u le ey 0 (k + 1) a = k + 2 := by
        show nxL u le ey 0 (k + 1) ey (lvl u le ey 0 k) a = _
        unfold nxL; rw [if_pos q]
      exact ⟨fun z => absurd q z.1, fun z => by omega⟩
    · have e2 : lvl u le ey 0 (k + 1) a = lvl u le ey 0 k a := by
        show nxL u le ey 0 (k + 1) ey (lvl u le ey 0 k) a = _
        unfold nxL; rw [if_neg q]
      rw [e2]
      exact ⟨fun z => ⟨fun w => by have := w.1.1; have := w.2; omega, z.2⟩, fun z => ⟨q, z.2⟩⟩
/-- no level beyond the eyes: a level without eyes has none behind it; and each takes an eye -/
theorem lv_stop {u : Nat → Nat} {le ey wo k : Nat} (h : ∀ a, lvl u le ey wo k a ≠ k + 1) : ∀ m, lvl u le ey wo (k + m) = lvl u le ey wo k ∧ lvw u le ey wo (k + m) = lvw u le ey wo k
  | 0 => ⟨rfl, rfl⟩
  | m + 1 => by
    obtain ⟨i1, i2⟩ := lv_stop h m
    have hz : ∀ a, ¬ nxP u le ey wo (lvl u le ey wo (k + m)) a (k + m + 1) := by
      intro a q
      obtain ⟨n, b1, b2⟩ := cN_pos.mp q.2.2.2.2
      have t1 := lv_top u le ey wo k n
      have b3 := b2.1
      rw [i1] at b3
      rcases Nat.eq_zero_or_pos m with z | z
      · subst z; exact h n (by omega)
      · omega
    constructor
    · rw [← i1]
      funext a
      show nxL u le ey wo (k + m + 1) ey (lvl u le ey wo (k + m)) a = _
      unfold nxL; rw [if_neg (fun q => hz a q.1)]
    · rw [← i2]
      funext a
      show nxW u le ey wo (k + m + 1) ey (lvl u le ey wo (k + m)) (lvw u le ey wo (k + m)) a = _
      unfold nxW; rw [if_neg (fun q => hz a q.1)]
theorem sm_le_of {f g : Nat → Nat} : ∀ {n : Nat}, (∀ k, k < n → f k ≤ g k) → sm f n ≤ sm g n
  | 0, _ => Nat.le_refl _
  | n + 1, h => by
    have h1 := sm_le_of (n := n) (fun k hk => h k (by omega))
    have h2 := h n (by omega)
    rw [sm_s, sm_s]; omega
theorem sm_lt_of {f g : Nat → Nat} {d : Nat} : ∀ {n : Nat}, (∀ k, k < n → f k ≤ g k) → d < n → f d < g d → sm f n + 1 ≤ sm g n
  | 0, _, h, _ => absurd h (Nat.not_lt_zero d)
  | n + 1, h, hd, hl => by
    rw [sm_s, sm_s]
    rcases Nat.lt_or_ge d n with q | q
    · have h1 := sm_lt_of (n := n) (fun k hk => h k (by omega)) q hl
      have h2 := h n (by omega)
      omega
    · have h1 := sm_le_of (n := n) (fun k hk => h k (by omega))
      have : d = n := by omega
      subst this
      omega
theorem lv_in {u : Nat → Nat} {le ey wo : Nat} : ∀ {k a : Nat}, 2 ≤ lvl u le ey wo k a → a < ey
  | 0, a, h => by unfold lvl at h; split at h <;> omega
  | k + 1, a, h => by
    have e1 : lvl u le ey wo (k + 1) a = nxL u le ey wo (k + 1) ey (lvl u le ey wo k) a := rfl
    rw [e1] at h
    unfold nxL at h
    by_cases q : nxP u le ey wo (lvl u le ey wo k) a (k + 1) ∧ a < ey
    · exact q.2
    · rw [if_neg q] at h; exact lv_in h
theorem lv_keep {u : Nat → Nat} {le ey wo k a : Nat} (h : lvl u le ey wo k a ≠ 0) : lvl u le ey wo (k + 1) a = lvl u le ey wo k a := by
  show nxL u le ey wo (k + 1) ey (lvl u le ey wo k) a = _
  unfold nxL; rw [if_neg (fun q => h q.1.2.2.2.1)]
theorem lv_cnt {u : Nat → Nat} {le ey wo : Nat} (hey : 1 ≤ ey) : ∀ k, (∃ j, j ≤ k ∧ ∀ a, lvl u le ey wo j a ≠ j + 1) ∨ k + 1 ≤ sm (fun a => if lvl u le ey wo k a = 0 then 0 else 1) ey
  | 0 => by
    refine Or.inr ?_
    have := sm_lt_of (f := fun _ => 0) (g := fun a => if lvl u le ey wo 0 a = 0 then 0 else 1) (d := 0) (n := ey) (fun k _ => Nat.zero_le _) (by omega) (by show 0 < (if lvl u le ey wo 0 0 = 0 then 0 else 1); rw [if_neg (by show ¬ (1 = 0); omega)]; omega)
    omega
  | k + 1 => by
    rcases lv_cnt hey k with ⟨j, h1, h2⟩ | h
    · exact Or.inl ⟨j, by omega, h2⟩
    · by_cases q : ∃ a, lvl u le ey wo (k + 1) a = k + 1 + 1
      · obtain ⟨a, ha⟩ := q
        refine Or.inr ?_
        have t1 := lv_top u le ey wo k a
        have h0 : lvl u le ey wo k a = 0 := by
          apply Classical.byContradiction
          intro z
          rw [lv_keep z] at ha
          omega
        have := sm_lt_of (f := fun a => if lvl u le ey wo k a = 0 then 0 else 1) (g := fun a => if lvl u le ey wo (k + 1) a = 0 then 0 else 1) (d := a) (n := ey) (fun x _ => by
          by_cases z : lvl u le ey wo k x = 0
          · rw [if_pos z]; exact Nat.zero_le _
          · rw [if_neg z, if_neg (by rw [lv_keep z]; exact z)]; exact Nat.le_refl _) (lv_in (u := u) (le := le) (wo := wo) (k := k + 1) (a := a) (by omega)) (by
          show (if lvl u le ey wo k a = 0 then 0 else 1) < (if lvl u le ey wo (k + 1) a = 0 then 0 else 1)
          rw [if_pos h0, if_neg (by omega)]; omega)
        omega
      · exact Or.inl ⟨k + 1, Nat.le_refl _, fun a ha => q ⟨a, ha⟩⟩
theorem lv_full {u : Nat → Nat} {le ey wo k : Nat} (h : ∀ a, a < ey → lvl u le ey wo k a ≠ 0) : ∀ m, lvl u le ey wo (k + m) = lvl u le ey wo k ∧ lvw u le ey wo (k + m) = lvw u le ey wo k
  | 0 => ⟨rfl, rfl⟩
  | m + 1 => by
    obtain ⟨i1, i2⟩ := lv_full h m
    have hz : ∀ a, ¬ (nxP u le ey wo (lvl u le ey wo (k + m)) a (k + m + 1) ∧ a < ey) := by
      intro a q
      have := q.1.2.2.2.1
      rw [i1] at this
      exact h a q.2 this
    constructor
    · rw [← i1]
      funext a
      show nxL u le ey wo (k + m + 1) ey (lvl u le ey wo (k + m)) a = _
      unfold nxL; rw [if_neg (hz a)]
    · rw [← i2]
      funext a
      show nxW u le ey wo (k + m + 1) ey (lvl u le ey wo (k + m)) (lvw u le ey wo (k + m)) a = _
      unfold nxW; rw [if_neg (hz a)]
theorem sm_all {f : Nat → Nat} : ∀ {n : Nat}, (∀ k, f k ≤ 1) → n ≤ sm f n → ∀ k, k < n → f k = 1
  | 0, _, _, k, hk => absurd hk (Nat.not_lt_zero k)
  | n + 1, h, hs, k, hk => by
    have hb : sm f n ≤ n := by
      have := sm_le (f := f) (c := 1) (n := n) (fun j _ => h j)
      omega
    have h1 := h n
    rw [sm_s] at hs
    rcases Nat.lt_or_ge k n with q | q
    · exact sm_all h (by omega) k q
    · rw [show k = n from by omega]; omega
/-- as many sweeps as eyes are enough -/
theorem lv_7 {u : Nat → Nat} {le ey wo k : Nat} (hey : ey ≤ 8) (hk : k ≤ 7) (h : ey ≤ k + 1) : lvl u le ey wo 7 = lvl u le ey wo k ∧ lvw u le ey wo 7 = lvw u le ey wo k := by
  rcases Nat.eq_zero_or_pos ey with z | z
  · subst z
    have := lv_full (u := u) (le := le) (ey := 0) (wo := wo) (k := k) (fun a ha => absurd ha (Nat.not_lt_zero a)) (7 - k)
    rw [show k + (7 - k) = 7 from by omega] at this
    exact this
  · rcases lv_cnt (u := u) (le := le) (wo := wo) z k with ⟨j, h1, h2⟩ | h1
    · have a1 := lv_stop h2 (7 - j)
      have a2 := lv_stop h2 (k - j)
      rw [show j + (7 - j) = 7 from by omega] at a1
      rw [show j + (k - j) = k from by omega] at a2
      exact ⟨a1.1.trans a2.1.symm, a1.2.trans a2.2.symm⟩
    · have hf : ∀ a, a < ey → lvl u le ey wo k a ≠ 0 := by
        intro a ha q
        have := sm_all (f := fun a => if lvl u le ey wo k a = 0 then 0 else 1) (n := ey) (fun x => by split <;> omega) (by omega) a ha
        rw [if_pos q] at this
        cases this
      have := lv_full hf (7 - k)
      rw [show k + (7 - k) = 7 from by omega] at this
      exact this
def LF (u : Nat → Nat) (le ey : Nat) (fa sg : Nat → Nat) : Prop := ∀ a, a < ey → fa a = lnF u le ey 0 a ∧ sg a = (if lnF u le ey 0 a ≤ 1 then 241 else wdF u le ey 0 a)
theorem LF_of {u : Nat → Nat} {le ey k : Nat} {fa sg nx : Nat → Nat} (h : LKm u le ey k 1 1 fa sg nx) (hey : ey ≤ 8) (hk : k ≤ 7) (he : ey ≤ k + 1) : LF u le ey fa sg := by
  obtain ⟨e1, e2⟩ := lv_7 (u := u) (le := le) (wo := 0) hey hk he
  intro a ha
  obtain ⟨g1, g2, g3⟩ := h a ha
  rw [nxL_1] at g1
  unfold lnF wdF
  rw [e1, e2]
  refine ⟨g1, ?_⟩
  rw [g2, if_neg (fun q => by have := q.1.1; omega)]; rfl
theorem sg_b {u : Nat → Nat} {le ey k i j : Nat} {fa sg nx : Nat → Nat} (h : LKm u le ey k i j fa sg nx) (hey : ey ≤ 8) (hk : k ≤ 7) {a : Nat} (ha : a < ey) : sg a ≤ 241 := by
  obtain ⟨g1, g2, g3⟩ := h a ha
  have h1 := mxw_le u le (lvl u le ey 0 k) (lvw u le ey 0 k) a (k + 1) ey
  have h2 := (lv_CH u le ey 0 hey k hk).2.2.2.1 a
  rw [g2]; unfold bas
  split
  · omega
  · split <;> omega
theorem sg_bb {u : Nat → Nat} {le ey k a b0 : Nat} {fa sg nx : Nat → Nat} (h : LKb u le ey k a b0 fa sg nx) (hey : ey ≤ 8) (hk : k ≤ 7) {c : Nat} (hc : c < ey) : sg c ≤ 241 := by
  obtain ⟨h1, h2, h3, h4, h5⟩ := h
  by_cases q : c = a
  · subst q
    have h1 := mxw_le u le (lvl u le ey 0 k) (lvw u le ey 0 k) c (k + 1) b0
    rw [h4]; split <;> omega
  · obtain ⟨g1, g2, g3⟩ := h1 c hc q
    have h1 := mxw_le u le (lvl u le ey 0 k) (lvw u le ey 0 k) c (k + 1) ey
    have h2 := (lv_CH u le ey 0 hey k hk).2.2.2.1 c
    rw [g2]; unfold bas
    split
    · omega
    · split <;> omega
theorem fa_bb {u : Nat → Nat} {le ey k a b0 : Nat} {fa sg nx : Nat → Nat} (h : LKb u le ey k a b0 fa sg nx) {c : Nat} (hc : c < ey) : fa c = lvl u le ey 0 k c := by
  obtain ⟨h1, h2, h3, h4, h5⟩ := h
  by_cases q : c = a
  · subst q; rw [h2, h3]
  · exact (h1 c hc q).1
/-- its, as look reckons it -/
theorem its_eq {u : Nat → Nat} {le ey k a b0 : Nat} {fa sg nx : Nat → Nat} (h : LKb u le ey k a b0 fa sg nx) (hey : ey ≤ 8) (hk : k ≤ 7) (hb : b0 < ey) (hf : lvl u le ey 0 k b0 = k + 1) : min (sg b0) (cB u a b0 240) = min (cB u a b0 240) (lvw u le ey 0 k b0) := by
  obtain ⟨h1, h2, h3, h4, h5⟩ := h
  have hn : b0 ≠ a := fun q => by subst q; omega
  obtain ⟨g1, g2, g3⟩ := h1 b0 hb hn
  rw [g2, if_neg (fun q => by have := q.1.2.2.2.1; omega)]
  exact sg_min hey hk hf a

theorem fa_b {u : Nat → Nat} {le ey k i j : Nat} {fa sg nx : Nat → Nat} (h : LKm u le ey k i j fa sg nx) (hey : ey ≤ 8) (hk : k ≤ 7) {a : Nat} (ha : a < ey) : fa a ≤ 9 := by
  rw [(h a ha).1]
  have := (lv_CH u le ey 0 hey k hk).2.2.1 a
  unfold nxL; split <;> omega
theorem fa_b2 {u : Nat → Nat} {le ey k a b0 : Nat} {fa sg nx : Nat → Nat} (h : LKb u le ey k a b0 fa sg nx) (hey : ey ≤ 8) (hk : k ≤ 7) {c : Nat} (hc : c < ey) : fa c ≤ 9 := by
  rw [fa_bb h hc]
  have := (lv_CH u le ey 0 hey k hk).2.2.1 c
  omega
theorem upN_b {f : Nat → Nat} {i v n m : Nat} (h : ∀ x, x < n → f x ≤ m) (hv : v ≤ m) : ∀ x, x < n → upN f i v x ≤ m := fun x hx => by
  unfold upN; split
  · exact hv
  · exact h x hx

theorem I0_s {fa sg nx : Nat → Nat} {a v : Nat} (h : ∀ x, x < a → fa x = (if x = 0 then 1 else 0) ∧ sg x = 241 ∧ nx x = 0) (hv : v = if a = 0 then 1 else 0) : ∀ x, x < a + 1 → upN fa a v x = (if x = 0 then 1 else 0) ∧ upN sg a 241 x = 241 ∧ upN nx a 0 x = 0 := by
  intro x hx
  by_cases q : x = a
  · subst q; rw [upN_s, upN_s, upN_s]; exact ⟨hv, rfl, rfl⟩
  · rw [upN_n q, upN_n q, upN_n q]; exact h x (by omega)
