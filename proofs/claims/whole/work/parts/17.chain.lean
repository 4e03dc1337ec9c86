/-! chains: ln e = 0: lost, else 1 + how many factors lie between e and eye 0; wd: the least BOTH on the best way -/
abbrev cnd (t : Nat → Nat) (le : Nat) (ln : Nat → Nat) (e lk n : Nat) : Prop := ln n = lk ∧ fc t le e n ≠ 0
def cN (t : Nat → Nat) (le : Nat) (ln : Nat → Nat) (e lk k : Nat) : Nat := sm (fun n => if cnd t le ln e lk n then 1 else 0) k
def mxw (t : Nat → Nat) (le : Nat) (ln wd : Nat → Nat) (e lk : Nat) : Nat → Nat
  | 0 => 0
  | k + 1 => if cnd t le ln e lk k then max (mxw t le ln wd e lk k) (min (cB t e k 240) (wd k)) else mxw t le ln wd e lk k
theorem mxw_le (t : Nat → Nat) (le : Nat) (ln wd : Nat → Nat) (e lk : Nat) : ∀ k, mxw t le ln wd e lk k ≤ 240
  | 0 => by simp [mxw]
  | k + 1 => by
    have h1 := mxw_le t le ln wd e lk k
    have h2 := cB_le t e k 240
    unfold mxw; split <;> omega
theorem cN_pos {t : Nat → Nat} {le : Nat} {ln : Nat → Nat} {e lk : Nat} : ∀ {k : Nat}, cN t le ln e lk k ≠ 0 ↔ ∃ n, n < k ∧ cnd t le ln e lk n
  | 0 => ⟨fun h => absurd rfl h, fun ⟨n, h, _⟩ => absurd h (Nat.not_lt_zero n)⟩
  | k + 1 => by
    have ih := cN_pos (t := t) (le := le) (ln := ln) (e := e) (lk := lk) (k := k)
    have e1 : cN t le ln e lk (k + 1) = cN t le ln e lk k + (if cnd t le ln e lk k then 1 else 0) := rfl
    constructor
    · intro h
      by_cases h1 : cnd t le ln e lk k
      · exact ⟨k, by omega, h1⟩
      · rw [e1, if_neg h1] at h
        obtain ⟨n, h2, h3⟩ := ih.mp (by omega)
        exact ⟨n, by omega, h3⟩
    · rintro ⟨n, h2, h3⟩
      rcases Nat.lt_or_ge n k with q | q
      · have := ih.mpr ⟨n, q, h3⟩
        omega
      · have : n = k := by omega
        subst this
        rw [e1, if_pos h3]; omega
/-- the greatest is reached -/
theorem mxw_at {t : Nat → Nat} {le : Nat} {ln wd : Nat → Nat} {e lk : Nat} : ∀ {k : Nat}, cN t le ln e lk k ≠ 0 → ∃ n, n < k ∧ cnd t le ln e lk n ∧ mxw t le ln wd e lk k = min (cB t e n 240) (wd n)
  | 0, h => absurd rfl h
  | k + 1, h => by
    have e1 : cN t le ln e lk (k + 1) = cN t le ln e lk k + (if cnd t le ln e lk k then 1 else 0) := rfl
    unfold mxw
    by_cases h1 : cnd t le ln e lk k
    · rw [if_pos h1]
      rcases Nat.lt_or_ge (min (cB t e k 240) (wd k)) (mxw t le ln wd e lk k) with q | q
      · have hne : cN t le ln e lk k ≠ 0 := by
          intro h0
          have hz : ∀ j, j ≤ k → mxw t le ln wd e lk j = 0 := by
            intro j
            induction j with
            | zero => intro _; rfl
            | succ j ih =>
              intro hj
              unfold mxw
              rw [if_neg, ih (by omega)]
              intro hc
              exact absurd h0 (cN_pos.mpr ⟨j, by omega, hc⟩)
          have := hz k (Nat.le_refl k)
          omega
        obtain ⟨n, a1, a2, a3⟩ := mxw_at hne
        exact ⟨n, by omega, a2, by rw [Nat.max_eq_left (by omega)]; exact a3⟩
      · exact ⟨k, by omega, h1, by rw [Nat.max_eq_right q]⟩
    · rw [if_neg h1]
      rw [e1, if_neg h1] at h
      obtain ⟨n, a1, a2, a3⟩ := mxw_at (k := k) (by omega)
      exact ⟨n, by omega, a2, a3⟩
theorem mxw_ge {t : Nat → Nat} {le : Nat} {ln wd : Nat → Nat} {e lk : Nat} : ∀ {k n : Nat}, n < k → cnd t le ln e lk n → min (cB t e n 240) (wd n) ≤ mxw t le ln wd e lk k
  | 0, n, h, _ => absurd h (Nat.not_lt_zero n)
  | k + 1, n, h, hc => by
    unfold mxw
    rcases Nat.lt_or_ge n k with q | q
    · have := mxw_ge (wd := wd) q hc
      split <;> omega
    · have : n = k := by omega
      subst this
      rw [if_pos hc]; omega
/-- the same level's eyes, the same answers -/
theorem cN_cong {t : Nat → Nat} {le : Nat} {ln ln2 : Nat → Nat} {e lk k : Nat} (h : ∀ n, n < k → (ln n = lk ↔ ln2 n = lk)) : cN t le ln e lk k = cN t le ln2 e lk k := sm_cong (fun n hn => by
  by_cases q : cnd t le ln e lk n
  · rw [if_pos q, if_pos ⟨(h n hn).mp q.1, q.2⟩]
  · rw [if_neg q, if_neg (fun z => q ⟨(h n hn).mpr z.1, z.2⟩)])
theorem mxw_cong {t : Nat → Nat} {le : Nat} {ln ln2 wd wd2 : Nat → Nat} {e lk : Nat} : ∀ {k : Nat}, (∀ n, n < k → (ln n = lk ↔ ln2 n = lk)) → (∀ n, n < k → ln n = lk → wd n = wd2 n) → mxw t le ln wd e lk k = mxw t le ln2 wd2 e lk k
  | 0, _, _ => rfl
  | k + 1, h, h2 => by
    unfold mxw
    rw [mxw_cong (k := k) (fun n hn => h n (by omega)) (fun n hn => h2 n (by omega))]
    by_cases q : cnd t le ln e lk k
    · rw [if_pos q, if_pos ⟨(h k (by omega)).mp q.1, q.2⟩, h2 k (by omega) q.1]
    · rw [if_neg q, if_neg (fun z => q ⟨(h k (by omega)).mpr z.1, z.2⟩)]
abbrev nxP (t : Nat → Nat) (le ey wo : Nat) (ln : Nat → Nat) (e lk : Nat) : Prop := 1 ≤ e ∧ e < ey ∧ e + 1 ≠ wo ∧ ln e = 0 ∧ cN t le ln e lk ey ≠ 0
/-- the level lk + 1, for the eyes before j -/
def nxL (t : Nat → Nat) (le ey wo lk j : Nat) (ln : Nat → Nat) : Nat → Nat := fun e => if nxP t le ey wo ln e lk ∧ e < j then lk + 1 else ln e
def nxW (t : Nat → Nat) (le ey wo lk j : Nat) (ln wd : Nat → Nat) : Nat → Nat := fun e => if nxP t le ey wo ln e lk ∧ e < j then mxw t le ln wd e lk ey else wd e
def lvl (t : Nat → Nat) (le ey wo : Nat) : Nat → (Nat → Nat)
  | 0 => fun e => if e = 0 then 1 else 0
  | k + 1 => nxL t le ey wo (k + 1) ey (lvl t le ey wo k)
def lvw (t : Nat → Nat) (le ey wo : Nat) : Nat → (Nat → Nat)
  | 0 => fun e => if e = 0 then 240 else 0
  | k + 1 => nxW t le ey wo (k + 1) ey (lvl t le ey wo k) (lvw t le ey wo k)
theorem nxL_1 (t : Nat → Nat) (le ey wo lk : Nat) (ln : Nat → Nat) : nxL t le ey wo lk 1 ln = ln := by
  funext e; unfold nxL; rw [if_neg (by omega)]
theorem nxW_1 (t : Nat → Nat) (le ey wo lk : Nat) (ln wd : Nat → Nat) : nxW t le ey wo lk 1 ln wd = wd := by
  funext e; unfold nxW; rw [if_neg (by omega)]
theorem nxL_skip {t : Nat → Nat} {le ey wo lk j : Nat} {ln : Nat → Nat} (h : ¬ nxP t le ey wo ln j lk) : nxL t le ey wo lk (j + 1) ln = nxL t le ey wo lk j ln := by
  funext e; unfold nxL
  by_cases q : nxP t le ey wo ln e lk ∧ e < j
  · rw [if_pos q, if_pos ⟨q.1, by omega⟩]
  · rw [if_neg q, if_neg]
    rintro ⟨a1, a2⟩
    rcases Nat.lt_or_ge e j with z | z
    · exact q ⟨a1, z⟩
    · have : e = j := by omega
      subst this
      exact h a1
theorem nxW_skip {t : Nat → Nat} {le ey wo lk j : Nat} {ln wd : Nat → Nat} (h : ¬ nxP t le ey wo ln j lk) : nxW t le ey wo lk (j + 1) ln wd = nxW t le ey wo lk j ln wd := by
  funext e; unfold nxW
  by_cases q : nxP t le ey wo ln e lk ∧ e < j
  · rw [if_pos q, if_pos ⟨q.1, by omega⟩]
  · rw [if_neg q, if_neg]
    rintro ⟨a1, a2⟩
    rcases Nat.lt_or_ge e j with z | z
    · exact q ⟨a1, z⟩
    · have : e = j := by omega
      subst this
      exact h a1
theorem nxL_put {t : Nat → Nat} {le ey wo lk j : Nat} {ln : Nat → Nat} (h : nxP t le ey wo ln j lk) : nxL t le ey wo lk (j + 1) ln = upN (nxL t le ey wo lk j ln) j (lk + 1) := by
  funext e; unfold nxL upN
  by_cases q : e = j
  · subst q; rw [if_pos rfl, if_pos ⟨h, by omega⟩]
  · rw [if_neg q]
    show _ = (if nxP t le ey wo ln e lk ∧ e < j then lk + 1 else ln e)
    by_cases z : nxP t le ey wo ln e lk ∧ e < j
    · rw [if_pos z, if_pos ⟨z.1, by omega⟩]
    · rw [if_neg z, if_neg (fun y => z ⟨y.1, by omega⟩)]
theorem nxW_put {t : Nat → Nat} {le ey wo lk j : Nat} {ln wd : Nat → Nat} (h : nxP t le ey wo ln j lk) : nxW t le ey wo lk (j + 1) ln wd = upN (nxW t le ey wo lk j ln wd) j (mxw t le ln wd j lk ey) := by
  funext e; unfold nxW upN
  by_cases q : e = j
  · subst q; rw [if_pos rfl, if_pos ⟨h, by omega⟩]
  · rw [if_neg q]
    show _ = (if nxP t le ey wo ln e lk ∧ e < j then mxw t le ln wd e lk ey else wd e)
    by_cases z : nxP t le ey wo ln e lk ∧ e < j
    · rw [if_pos z, if_pos ⟨z.1, by omega⟩]
    · rw [if_neg z, if_neg (fun y => z ⟨y.1, by omega⟩)]
/-- within a sweep the eyes of the level before are the same -/
theorem nxL_same {t : Nat → Nat} {le ey wo lk j : Nat} {ln : Nat → Nat} (hl : 1 ≤ lk) (n : Nat) : nxL t le ey wo lk j ln n = lk ↔ ln n = lk := by
  unfold nxL
  by_cases q : nxP t le ey wo ln n lk ∧ n < j
  · rw [if_pos q]
    have := q.1.2.2.2.1
    omega
  · rw [if_neg q]
theorem nxW_same {t : Nat → Nat} {le ey wo lk j : Nat} {ln wd : Nat → Nat} (hl : 1 ≤ lk) (n : Nat) (h : ln n = lk) : nxW t le ey wo lk j ln wd n = wd n := by
  unfold nxW
  rw [if_neg]
  rintro ⟨a, -⟩
  have := a.2.2.2.1
  omega
theorem nxL_at {t : Nat → Nat} {le ey wo lk j : Nat} {ln : Nat → Nat} : nxL t le ey wo lk j ln j = ln j := by
  unfold nxL; rw [if_neg (by omega)]
theorem nxW_at {t : Nat → Nat} {le ey wo lk j : Nat} {ln wd : Nat → Nat} : nxW t le ey wo lk j ln wd j = wd j := by
  unfold nxW; rw [if_neg (by omega)]
/-- what holds of the levels -/
def CH (t : Nat → Nat) (le ey : Nat) (ln wd : Nat → Nat) : Prop := (∀ e, 2 ≤ ln e → ∃ n, n < ey ∧ ln n + 1 = ln e ∧ fc t le e n ≠ 0 ∧ wd e ≤ cB t e n 240 ∧ wd e ≤ wd n) ∧ (∀ e, ln e ≠ 0 → e < 8) ∧ (∀ e, ln e ≤ 8) ∧ (∀ e, wd e ≤ 240) ∧ (∀ e, ln e = 1 → e = 0) ∧ ln 0 = 1
theorem lv_top (t : Nat → Nat) (le ey wo : Nat) : ∀ k e, lvl t le ey wo k e ≤ k + 1
  | 0, e => by unfold lvl; split <;> omega
  | k + 1, e => by
    have := lv_top t le ey wo k e
    unfold lvl nxL; split <;> omega
theorem lv_wd0 (t : Nat → Nat) (le ey wo : Nat) : ∀ k e, lvl t le ey wo k e = 0 → lvw t le ey wo k e = 0
  | 0, e, h => by
    unfold lvl at h; unfold lvw
    by_cases q : e = 0
    · rw [if_pos q] at h; cases h
    · rw [if_neg q]
  | k + 1, e, h => by
    unfold lvl nxL at h; unfold lvw nxW
    by_cases q : nxP t le ey wo (lvl t le ey wo k) e (k + 1) ∧ e < ey
    · rw [if_pos q] at h; cases h
    · rw [if_neg q] at h; rw [if_neg q]
      exact lv_wd0 t le ey wo k e h
theorem lv_CH (t : Nat → Nat) (le ey wo : Nat) (hey : ey ≤ 8) : ∀ k, k ≤ 7 → CH t le ey (lvl t le ey wo k) (lvw t le ey wo k)
  | 0, _ => by
    refine ⟨fun e h => ?_, fun e h => ?_, fun e => ?_, fun e => ?_, fun e h => ?_, rfl⟩
    · unfold lvl at h; split at h <;> omega
    · unfold lvl at h
      by_cases q : e = 0
      · omega
      · rw [if_neg q] at h; exact absurd rfl h
    · unfold lvl; split <;> omega
    · unfold lvw; split <;> omega
    · unfold lvl at h
      by_cases q : e = 0
      · exact q
      · rw [if_neg q] at h; cases h
  | k + 1, hk => by
    obtain ⟨h1, h2, h3, h4, h5, h6⟩ := lv_CH t le ey wo hey k (by omega)
    have key : ∀ n, lvl t le ey wo k n ≠ 0 → lvl t le ey wo (k + 1) n = lvl t le ey wo k n ∧ lvw t le ey wo (k + 1) n = lvw t le ey wo k n := by
      intro n hn
      constructor
      · show nxL t le ey wo (k + 1) ey (lvl t le ey wo k) n = _
        unfold nxL; rw [if_neg (fun q => hn q.1.2.2.2.1)]
      · show nxW t le ey wo (k + 1) ey (lvl t le ey wo k) (lvw t le ey wo k) n = _
        unfold nxW; rw [if_neg (fun q => hn q.1.2.2.2.1)]
    refine ⟨fun e h => ?_, fun e h => ?_, fun e => ?_, fun e => ?_, fun e h => ?_, ?_⟩
    · by_cases q : lvl t le ey wo k e = 0
      · have hP : nxP t le ey wo (lvl t le ey wo k) e (k + 1) ∧ e < ey := by
          apply Classical.byContradiction
          intro z
          have : lvl t le ey wo (k + 1) e = lvl t le ey wo k e := by
            show nxL t le ey wo (k + 1) ey (lvl t le ey wo k) e = _
            unfold nxL; rw [if_neg z]
          omega
        have e1 : lvl t le ey wo (k + 1) e = k + 2 := by
          show nxL t le ey wo (k + 1) ey (lvl t le ey wo k) e = _
          unfold nxL; rw [if_pos hP]
        have e2 : lvw t le ey wo (k + 1) e = mxw t le (lvl t le ey wo k) (lvw t le ey wo k) e (k + 1) ey := by
          show nxW t le ey wo (k + 1) ey (lvl t le ey wo k) (lvw t le ey wo k) e = _
          unfold nxW; rw [if_pos hP]
        obtain ⟨n, a1, a2, a3⟩ := mxw_at (wd := lvw t le ey wo k) hP.1.2.2.2.2
        obtain ⟨b1, b2⟩ := key n (by omega)
        refine ⟨n, a1, by omega, a2.2, ?_, ?_⟩
        · rw [e2, a3]; omega
        · rw [e2, a3, b2]; omega
      · obtain ⟨c1, c2⟩ := key e q
        rw [c1] at h ⊢
        rw [c2]
        obtain ⟨n, a1, a2, a3, a4, a5⟩ := h1 e h
        have hn0 : lvl t le ey wo k n ≠ 0 := by omega
        obtain ⟨b1, b2⟩ := key n hn0
        exact ⟨n, a1, by omega, a3, a4, by rw [b2]; exact a5⟩
    · by_cases q : lvl t le ey wo k e = 0
      · apply Classical.byContradiction
        intro z
        apply h
        show nxL t le ey wo (k + 1) ey (lvl t le ey wo k) e = 0
        unfold nxL; rw [if_neg (by omega)]; exact q
      · exact h2 e q
    · have := lv_top t le ey wo (k + 1) e
      omega
    · show nxW t le ey wo (k + 1) ey (lvl t le ey wo k) (lvw t le ey wo k) e ≤ 240
      unfold nxW; split
      · exact mxw_le t le _ _ e (k + 1) ey
      · exact h4 e
    · by_cases q : lvl t le ey wo k e = 0
      · have : lvl t le ey wo (k + 1) e = nxL t le ey wo (k + 1) ey (lvl t le ey wo k) e := rfl
        rw [this] at h
        unfold nxL at h
        split at h
        · omega
        · omega
      · rw [(key e q).1] at h; exact h5 e h
    · rw [(key 0 (by omega)).1]; exact h6
/-- the way -/
abbrev okF (t : Nat → Nat) (le : Nat) (ln wd : Nat → Nat) (e w k : Nat) : Prop := ln k + 1 = ln e ∧ w ≤ wd k ∧ w ≤ cB t e k 240 ∧ fc t le e k ≠ 0
def fnS (t : Nat → Nat) (le : Nat) (ln wd : Nat → Nat) (e w : Nat) : Nat → Nat → Nat
  | 0, _ => 0
  | n + 1, k => if okF t le ln wd e w k then k else fnS t le ln wd e w n (k + 1)
def fnx (t : Nat → Nat) (le ey : Nat) (ln wd : Nat → Nat) (e w : Nat) : Nat := fnS t le ln wd e w ey 0
theorem fnS_ok {t : Nat → Nat} {le : Nat} {ln wd : Nat → Nat} {e w : Nat} : ∀ {n k m : Nat}, k ≤ m → m < k + n → okF t le ln wd e w m → okF t le ln wd e w (fnS t le ln wd e w n k) ∧ fnS t le ln wd e w n k ≤ m
  | 0, k, m, h1, h2, _ => by omega
  | n + 1, k, m, h1, h2, h3 => by
    unfold fnS
    by_cases q : okF t le ln wd e w k
    · rw [if_pos q]; exact ⟨q, h1⟩
    · rw [if_neg q]
      have : k ≠ m := fun z => q (by rw [z]; exact h3)
      exact fnS_ok (by omega) (by omega) h3
def wyF (t : Nat → Nat) (le ey : Nat) (ln wd : Nat → Nat) (e : Nat) : Nat → Nat
  | 0 => e
  | k + 1 => fnx t le ey ln wd (wyF t le ey ln wd e k) (wd e)
theorem wy_ok {t : Nat → Nat} {le ey : Nat} {ln wd : Nat → Nat} {e : Nat} (hc : CH t le ey ln wd) (he : ln e ≠ 0) : ∀ k, k + 1 ≤ ln e → ln (wyF t le ey ln wd e k) + k = ln e ∧ wd e ≤ wd (wyF t le ey ln wd e k) ∧ wyF t le ey ln wd e k < 8
  | 0, _ => ⟨rfl, Nat.le_refl _, hc.2.1 e he⟩
  | k + 1, h => by
    obtain ⟨a1, a2, a3⟩ := wy_ok hc he k (by omega)
    obtain ⟨n, b1, b2, b3, b4, b5⟩ := hc.1 (wyF t le ey ln wd e k) (by omega)
    obtain ⟨⟨c1, c2, c3, c4⟩, c5⟩ := fnS_ok (n := ey) (k := 0) (w := wd e) (Nat.zero_le n) (by omega) (show okF t le ln wd (wyF t le ey ln wd e k) (wd e) n from ⟨b2, by omega, by omega, b3⟩)
    exact ⟨by show ln (fnx t le ey ln wd (wyF t le ey ln wd e k) (wd e)) + (k + 1) = ln e; unfold fnx; omega, c2, hc.2.1 _ (by show ln (fnx t le ey ln wd (wyF t le ey ln wd e k) (wd e)) ≠ 0; unfold fnx; omega)⟩
theorem wy_fc {t : Nat → Nat} {le ey : Nat} {ln wd : Nat → Nat} {e : Nat} (hc : CH t le ey ln wd) (he : ln e ≠ 0) {k : Nat} (h : k + 2 ≤ ln e) : fc t le (wyF t le ey ln wd e k) (wyF t le ey ln wd e (k + 1)) ≠ 0 := by
  obtain ⟨a1, a2, a3⟩ := wy_ok hc he k (by omega)
  obtain ⟨n, b1, b2, b3, b4, b5⟩ := hc.1 (wyF t le ey ln wd e k) (by omega)
  obtain ⟨⟨c1, c2, c3, c4⟩, c5⟩ := fnS_ok (n := ey) (k := 0) (w := wd e) (Nat.zero_le n) (by omega) (show okF t le ln wd (wyF t le ey ln wd e k) (wd e) n from ⟨b2, by omega, by omega, b3⟩)
  exact c4
/-- weights -/
def wgf (t : Nat → Nat) (le : Nat) (F : Nat → Nat) : Nat → Nat → Nat
  | 0, w => w
  | k + 1, w => wgf t le F k (min (w * (fc t le (F k) (F (k + 1)) - 1) / 1000) 1000000)
def wgt (t : Nat → Nat) (le ey : Nat) (ln wd : Nat → Nat) (e : Nat) : Nat := if ln e = 0 then 0 else wgf t le (wyF t le ey ln wd e) (ln e - 1) 1000 + 1
theorem wgf_le (t : Nat → Nat) (le : Nat) (F : Nat → Nat) : ∀ k w, w ≤ 1000000 → wgf t le F k w ≤ 1000000
  | 0, w, h => h
  | k + 1, w, h => wgf_le t le F k _ (by omega)
theorem wgt_WB (t : Nat → Nat) (le ey : Nat) (ln wd : Nat → Nat) : WB (wgt t le ey ln wd) := fun e => by
  unfold wgt; split
  · omega
  · have := wgf_le t le (wyF t le ey ln wd e) (ln e - 1) 1000 (by omega)
    omega
/-! a row's content may be said otherwise, where its places have the same numbers; compares of NONE-or-a-number with a number -/
theorem extI {G : va_G} {cI : ClassId} {A : Nat → Prop} {ws : va_W} {H : Heap} {q n : Nat} {f g : Nat → Int32} (hP : va_P G vwCl ws H) (hD : va_D A ws) (k : Nat) (hk : ws[k]? = some (aI cI q n f)) (h : ∀ i, i < n → f i = g i) : va_P G vwCl (ws.set k (aI cI q n g)) H ∧ va_D A (ws.set k (aI cI q n g)) := by
  refine ⟨hP.set hD hk ?_ (fun _ _ => rfl), hD.set hk⟩
  have h1 := hP k _ hk
  show H[q]? = some (arrV cI n (fun j => .int (g j)))
  have h2 : H[q]? = some (arrV cI n (fun j => .int (f j))) := h1
  rw [h2]
  have e : (fun j : Fin n => Value.int (f j.val)) = (fun j : Fin n => Value.int (g j.val)) := funext (fun j => by rw [h j.val j.isLt])
  show some ({ cls := cI, slots := Array.ofFn (n := n) fun j => Value.int (f j.val), vm := .none } : Cell) = some ({ cls := cI, slots := Array.ofFn (n := n) fun j => Value.int (g j.val), vm := .none } : Cell)
  rw [e]
theorem oI_nI {x y : Nat} (hx : x ≤ 2 ^ 31) (hy : y < 2 ^ 31) : oI x = nI y ↔ x = y + 1 := by rw [nI_o, oI_inj hx (by omega)]
section ROWS2
variable {p : Program} {l : Launch} {e : Env} {R : Room} {s : State} {m : MethodId} {args : Array Value} {below : List Frame} {meth : Method} {c : Code} {H : Heap} {locs : List Loc} {cells slots : Nat} {Q : State → Prop} {pc : Nat} {ls : Array Slot} {rest : List Value} {cc : ByteArray}
theorem non_icmp_ne (hexec : p.tables.exec = Jvm.exec) (hb : c.code = cc) {x y : Nat} {off : Int} {tgt : Nat} (hdg : decode cc pc = .ok (.if_icmp .ne off, 3)) (ht : (pc : Int) + off = (tgt : Int)) (hX : x ≤ 2 ^ 31) (hY : y < 2 ^ 31)
    (kt : x ≠ y + 1 → W p l e R s m args below meth c H locs cells slots Q (F0 m tgt ls rest)) (kf : x = y + 1 → W p l e R s m args below meth c H locs cells slots Q (F0 m (pc + 3) ls rest)) : W p l e R s m args below meth c H locs cells slots Q (F0 m pc ls (.int (nI y) :: .int (oI x) :: rest)) :=
  lv_icmp_ne hexec hb hdg ht (fun h => kt (fun e => h ((oI_nI hX hY).mpr e))) (fun h => kf ((oI_nI hX hY).mp h))
theorem nno_icmp_eq (hexec : p.tables.exec = Jvm.exec) (hb : c.code = cc) {x y : Nat} {off : Int} {tgt : Nat} (hdg : decode cc pc = .ok (.if_icmp .eq off, 3)) (ht : (pc : Int) + off = (tgt : Int)) (hX : x < 2 ^ 31) (hY : y ≤ 2 ^ 31)
    (kt : y = x + 1 → W p l e R s m args below meth c H locs cells slots Q (F0 m tgt ls rest)) (kf : y ≠ x + 1 → W p l e R s m args below meth c H locs cells slots Q (F0 m (pc + 3) ls rest)) : W p l e R s m args below meth c H locs cells slots Q (F0 m pc ls (.int (oI y) :: .int (nI x) :: rest)) :=
  lv_icmp_eq hexec hb hdg ht (fun h => kt ((oI_nI hY hX).mp h.symm)) (fun h => kf (fun e => h ((oI_nI hY hX).mpr e).symm))
end ROWS2
/-- reach, before the k-th eye -/
def rcL (t : Nat → Nat) (le : Nat) (ln : Nat → Nat) (e lk k : Nat) : Nat → Nat := if cN t le ln e lk k = 0 then ln else upN ln e (lk + 1)
def rcW (t : Nat → Nat) (le : Nat) (ln wd : Nat → Nat) (e lk k : Nat) : Nat → Nat := upN wd e (mxw t le ln wd e lk k)
theorem rcL_same {t : Nat → Nat} {le : Nat} {ln : Nat → Nat} {e lk k n : Nat} (h0 : ln e = 0) (hl : 1 ≤ lk) : rcL t le ln e lk k n = lk ↔ ln n = lk := by
  unfold rcL
  split
  · exact Iff.rfl
  · unfold upN
    by_cases q : n = e
    · subst q; rw [if_pos rfl]; omega
    · rw [if_neg q]
theorem rcW_ne {t : Nat → Nat} {le : Nat} {ln wd : Nat → Nat} {e lk k n : Nat} (h : n ≠ e) : rcW t le ln wd e lk k n = wd n := upN_n h
theorem rcW_e {t : Nat → Nat} {le : Nat} {ln wd : Nat → Nat} {e lk k : Nat} : rcW t le ln wd e lk k e = mxw t le ln wd e lk k := upN_s
theorem rcL_le {t : Nat → Nat} {le : Nat} {ln : Nat → Nat} {e lk k n : Nat} (h : ∀ i, ln i ≤ 8) (hl : lk ≤ 7) : rcL t le ln e lk k n ≤ 8 := by
  have := h n
  unfold rcL upN; split
  · omega
  · show (if n = e then lk + 1 else ln n) ≤ 8
    split <;> omega
theorem rcW_le {t : Nat → Nat} {le : Nat} {ln wd : Nat → Nat} {e lk k n : Nat} (h : ∀ i, wd i ≤ 240) : rcW t le ln wd e lk k n ≤ 240 := by
  have h1 := h n
  have h2 := mxw_le t le ln wd e lk k
  unfold rcW upN; split <;> omega
theorem upN_twice {α : Type} (f : Nat → α) (i : Nat) (x y : α) : upN (upN f i x) i y = upN f i y := by
  funext j; unfold upN; split <;> rfl
theorem upN_same {α : Type} {f : Nat → α} {i : Nat} {x : α} (h : f i = x) : upN f i x = f := by
  funext j; unfold upN; split
  · rename_i q; rw [q, h]
  · rfl
theorem rcL_no {t : Nat → Nat} {le : Nat} {ln : Nat → Nat} {e lk k : Nat} (h : ¬ cnd t le ln e lk k) : rcL t le ln e lk (k + 1) = rcL t le ln e lk k := by
  unfold rcL
  rw [show cN t le ln e lk (k + 1) = cN t le ln e lk k from by rw [show cN t le ln e lk (k + 1) = cN t le ln e lk k + (if cnd t le ln e lk k then 1 else 0) from rfl, if_neg h]; rfl]
theorem rcW_no {t : Nat → Nat} {le : Nat} {ln wd : Nat → Nat} {e lk k : Nat} (h : ¬ cnd t le ln e lk k) : rcW t le ln wd e lk (k + 1) = rcW t le ln wd e lk k := by
  unfold rcW
  rw [show mxw t le ln wd e lk (k + 1) = mxw t le ln wd e lk k from by rw [mxw, if_neg h]]
theorem rcL_yes {t : Nat → Nat} {le : Nat} {ln : Nat → Nat} {e lk k : Nat} (h : cnd t le ln e lk k) : rcL t le ln e lk (k + 1) = upN (rcL t le ln e lk k) e (lk + 1) := by
  unfold rcL
  rw [show cN t le ln e lk (k + 1) = cN t le ln e lk k + 1 from by rw [show cN t le ln e lk (k + 1) = cN t le ln e lk k + (if cnd t le ln e lk k then 1 else 0) from rfl, if_pos h], if_neg (by omega)]
  split
  · rfl
  · rw [upN_twice]
theorem rcW_yes {t : Nat → Nat} {le : Nat} {ln wd : Nat → Nat} {e lk k : Nat} (h : cnd t le ln e lk k) : rcW t le ln wd e lk (k + 1) = upN (rcW t le ln wd e lk k) e (max (mxw t le ln wd e lk k) (min (cB t e k 240) (wd k))) := by
  unfold rcW
  rw [upN_twice, mxw, if_pos h]

theorem nxL_le {t : Nat → Nat} {le ey wo lk j : Nat} {ln : Nat → Nat} (h : ∀ i, ln i ≤ 8) (hl : lk ≤ 7) (i : Nat) : nxL t le ey wo lk j ln i ≤ 8 := by
  have := h i
  unfold nxL; split <;> omega
theorem nxW_le {t : Nat → Nat} {le ey wo lk j : Nat} {ln wd : Nat → Nat} (h : ∀ i, wd i ≤ 240) (i : Nat) : nxW t le ey wo lk j ln wd i ≤ 240 := by
  have h1 := h i
  have h2 := mxw_le t le ln wd i lk ey
  unfold nxW; split <;> omega
theorem nxL_end {t : Nat → Nat} {le ey wo lk j : Nat} {ln : Nat → Nat} (h : j ≤ ey ∨ j = 1) (h2 : ey ≤ j) : nxL t le ey wo lk j ln = nxL t le ey wo lk ey ln := by
  funext e; unfold nxL
  by_cases q : nxP t le ey wo ln e lk
  · have := q.1
    have := q.2.1
    rw [if_pos ⟨q, by omega⟩, if_pos ⟨q, by omega⟩]
  · rw [if_neg (fun z => q z.1), if_neg (fun z => q z.1)]
theorem nxW_end {t : Nat → Nat} {le ey wo lk j : Nat} {ln wd : Nat → Nat} (h : j ≤ ey ∨ j = 1) (h2 : ey ≤ j) : nxW t le ey wo lk j ln wd = nxW t le ey wo lk ey ln wd := by
  funext e; unfold nxW
  by_cases q : nxP t le ey wo ln e lk
  · have := q.1
    have := q.2.1
    rw [if_pos ⟨q, by omega⟩, if_pos ⟨q, by omega⟩]
  · rw [if_neg (fun z => q z.1), if_neg (fun z => q z.1)]
/-- one eye of a sweep, by reach -/
theorem swL {t : Nat → Nat} {le ey wo lk j : Nat} {ln : Nat → Nat} (h1 : 1 ≤ j ∧ j < ey) (h2 : j + 1 ≠ wo) (hl : 1 ≤ lk) (h0 : ln j = 0) : rcL t le (nxL t le ey wo lk j ln) j lk ey = nxL t le ey wo lk (j + 1) ln := by
  have hc : cN t le (nxL t le ey wo lk j ln) j lk ey = cN t le ln j lk ey := cN_cong (fun n _ => nxL_same hl n)
  unfold rcL
  rw [hc]
  by_cases q : cN t le ln j lk ey = 0
  · rw [if_pos q, nxL_skip (fun z => z.2.2.2.2 q)]
  · rw [if_neg q, nxL_put ⟨h1.1, h1.2, h2, h0, q⟩]
theorem swW {t : Nat → Nat} {le ey wo lk j : Nat} {ln wd : Nat → Nat} (h1 : 1 ≤ j ∧ j < ey) (h2 : j + 1 ≠ wo) (hl : 1 ≤ lk) (h0 : ln j = 0) (hw : ∀ e, ln e = 0 → wd e = 0) : rcW t le (nxL t le ey wo lk j ln) (nxW t le ey wo lk j ln wd) j lk ey = nxW t le ey wo lk (j + 1) ln wd := by
  have hm : mxw t le (nxL t le ey wo lk j ln) (nxW t le ey wo lk j ln wd) j lk ey = mxw t le ln wd j lk ey := mxw_cong (fun n _ => nxL_same hl n) (fun n _ hn => nxW_same hl n ((nxL_same hl n).mp hn))
  unfold rcW
  rw [hm]
  by_cases q : cN t le ln j lk ey = 0
  · rw [nxW_skip (fun z => z.2.2.2.2 q)]
    refine upN_same ?_
    rw [nxW_at, hw j h0]
    have hz : ∀ k, k ≤ ey → mxw t le ln wd j lk k = 0 := by
      intro k
      induction k with
      | zero => intro _; rfl
      | succ k ih =>
        intro hk
        unfold mxw
        rw [if_neg, ih (by omega)]
        intro hcc
        exact absurd q (cN_pos.mpr ⟨k, by omega, hcc⟩)
    exact (hz ey (Nat.le_refl ey)).symm
  · rw [nxW_put ⟨h1.1, h1.2, h2, h0, q⟩]
