/-! the reference's middle: the least day that has half of them not above it -/
theorem mxR {U L : Nat → Nat} {P : Nat → Prop} (hp : ∀ d, P d → 0 < L d) : ∀ {k : Nat}, (∃ d, d < k ∧ P d) → ∃ d, d < k ∧ P d ∧ ∀ e, e < k → P e → U e * L d ≤ U d * L e
  | 0, ⟨d, h, _⟩ => absurd h (Nat.not_lt_zero d)
  | k + 1, ⟨d, h1, h2⟩ => by
    by_cases q : P k
    · by_cases z : ∃ d, d < k ∧ P d
      · obtain ⟨c, c1, c2, c3⟩ := mxR hp z
        by_cases w : U k * L c ≤ U c * L k
        · refine ⟨c, by omega, c2, fun e he pe => ?_⟩
          rcases Nat.lt_or_ge e k with v | v
          · exact c3 e v pe
          · rw [show e = k from by omega]; exact w
        · refine ⟨k, by omega, q, fun e he pe => ?_⟩
          rcases Nat.lt_or_ge e k with v | v
          · exact cr_tr (hp c c2) (c3 e v pe) (by omega)
          · rw [show e = k from by omega]; exact Nat.le_refl _
      · refine ⟨k, by omega, q, fun e he pe => ?_⟩
        rcases Nat.lt_or_ge e k with v | v
        · exact absurd ⟨e, v, pe⟩ z
        · rw [show e = k from by omega]; exact Nat.le_refl _
    · have hd : d < k := by
        rcases Nat.lt_or_ge d k with v | v
        · exact v
        · exact absurd (by rw [← show d = k from by omega]; exact h2) q
      obtain ⟨c, c1, c2, c3⟩ := mxR hp ⟨d, hd, h2⟩
      refine ⟨c, by omega, c2, fun e he pe => ?_⟩
      rcases Nat.lt_or_ge e k with v | v
      · exact c3 e v pe
      · exact absurd (by rw [← show e = k from by omega]; exact pe) q
theorem sm_ex {f : Nat → Nat} : ∀ {n : Nat}, 0 < sm f n → ∃ j, j < n ∧ 0 < f j
  | 0, h => absurd h (Nat.lt_irrefl 0)
  | n + 1, h => by
    rw [sm_s] at h
    by_cases q : 0 < f n
    · exact ⟨n, by omega, q⟩
    · obtain ⟨j, h1, h2⟩ := sm_ex (f := f) (n := n) (by omega)
      exact ⟨j, by omega, h2⟩
/-- how many days are not above u over l, among the first k -/
def lesP (t : Nat → Nat) (x y u l k : Nat) : Nat := sm (fun d => if gk t x y d ∧ num t (y * 240 + d) * l ≤ u * num t (x * 240 + d) then 1 else 0) k
theorem lesP_le (t : Nat → Nat) (x y u l k : Nat) : lesP t x y u l k ≤ k := by
  have := sm_le (f := fun d => if gk t x y d ∧ num t (y * 240 + d) * l ≤ u * num t (x * 240 + d) then 1 else 0) (c := 1) (n := k) (fun j _ => by split <;> omega)
  unfold lesP; omega
theorem lesP_y {t : Nat → Nat} {x y u l k : Nat} (h : gk t x y k ∧ num t (y * 240 + k) * l ≤ u * num t (x * 240 + k)) : lesP t x y u l (k + 1) = lesP t x y u l k + 1 := by
  show lesP t x y u l k + (if gk t x y k ∧ num t (y * 240 + k) * l ≤ u * num t (x * 240 + k) then 1 else 0) = _
  rw [if_pos h]
theorem lesP_n {t : Nat → Nat} {x y u l k : Nat} (h : ¬ (gk t x y k ∧ num t (y * 240 + k) * l ≤ u * num t (x * 240 + k))) : lesP t x y u l (k + 1) = lesP t x y u l k := by
  show lesP t x y u l k + (if gk t x y k ∧ num t (y * 240 + k) * l ≤ u * num t (x * 240 + k) then 1 else 0) = _
  rw [if_neg h]; rfl
abbrev QFd (t : Nat → Nat) (x y d : Nat) : Prop := gk t x y d ∧ (gC t x y 240 + 1) / 2 ≤ lesP t x y (num t (y * 240 + d)) (num t (x * 240 + d)) 240
def MB (t : Nat → Nat) (x y k bb : Nat) : Prop := (bb = 0 → ∀ d, d < k → ¬ QFd t x y d) ∧ (bb ≠ 0 → bb - 1 < k ∧ QFd t x y (bb - 1) ∧ ∀ d, d < k → QFd t x y d → num t (y * 240 + (bb - 1)) * num t (x * 240 + d) ≤ num t (y * 240 + d) * num t (x * 240 + (bb - 1)))
theorem MB_0 (t : Nat → Nat) (x y : Nat) : MB t x y 0 0 := ⟨fun _ d h => absurd h (Nat.not_lt_zero d), fun h => absurd rfl h⟩
theorem MB_skip {t : Nat → Nat} {x y k bb : Nat} (h : MB t x y k bb) (q : ¬ QFd t x y k) : MB t x y (k + 1) bb := by
  refine ⟨fun z d hd => ?_, fun z => ?_⟩
  · rcases Nat.lt_or_ge d k with v | v
    · exact h.1 z d v
    · rw [show d = k from by omega]; exact q
  · obtain ⟨a1, a2, a3⟩ := h.2 z
    refine ⟨by omega, a2, fun d hd hq => ?_⟩
    rcases Nat.lt_or_ge d k with v | v
    · exact a3 d v hq
    · rw [show d = k from by omega] at hq; exact absurd hq q
theorem MB_put {t : Nat → Nat} {x y k bb : Nat} (h : MB t x y k bb) (q : QFd t x y k) (hc : bb = 0 ∨ num t (y * 240 + k) * num t (x * 240 + (bb - 1)) < num t (y * 240 + (bb - 1)) * num t (x * 240 + k)) : MB t x y (k + 1) (k + 1) := by
  refine ⟨fun z => by omega, fun _ => ?_⟩
  rw [Nat.add_sub_cancel]
  refine ⟨by omega, q, fun d hd hq => ?_⟩
  rcases Nat.lt_or_ge d k with v | v
  · by_cases z : bb = 0
    · exact absurd hq (h.1 z d v)
    · obtain ⟨a1, a2, a3⟩ := h.2 z
      exact cr_tr a2.1.2 (by have := hc.resolve_left z; omega) (a3 d v hq)
  · rw [show d = k from by omega]; exact Nat.le_refl _
theorem MB_keep {t : Nat → Nat} {x y k bb : Nat} (h : MB t x y k bb) (hb : bb ≠ 0) (hc : num t (y * 240 + (bb - 1)) * num t (x * 240 + k) ≤ num t (y * 240 + k) * num t (x * 240 + (bb - 1))) : MB t x y (k + 1) bb := by
  refine ⟨fun z => absurd z hb, fun z => ?_⟩
  obtain ⟨a1, a2, a3⟩ := h.2 z
  refine ⟨by omega, a2, fun d hd hq => ?_⟩
  rcases Nat.lt_or_ge d k with v | v
  · exact a3 d v hq
  · rw [show d = k from by omega]; exact hc
theorem MB_end {t : Nat → Nat} {x y bb : Nat} (h : MB t x y 240 bb) (h0 : gC t x y 240 ≠ 0) : bb ≠ 0 ∧ MID t x y (num t (y * 240 + (bb - 1)), num t (x * 240 + (bb - 1))) := by
  have hb : bb ≠ 0 := by
    intro z
    obtain ⟨j, j1, j2⟩ := sm_ex (show 0 < gC t x y 240 by omega)
    have j3 : gk t x y j := by
      apply Classical.byContradiction
      intro w; rw [if_neg w] at j2; omega
    obtain ⟨d, d1, d2, d3⟩ := mxR (U := fun d => num t (y * 240 + d)) (L := fun d => num t (x * 240 + d)) (P := gk t x y) (fun d hd => hd.2) ⟨j, j1, j3⟩
    refine h.1 z d d1 ⟨d2, ?_⟩
    have e : lesP t x y (num t (y * 240 + d)) (num t (x * 240 + d)) 240 = gC t x y 240 := sm_cong (fun e he => by
      by_cases w : gk t x y e
      · rw [if_pos w, if_pos ⟨w, d3 e he w⟩]
      · rw [if_neg w, if_neg (fun q => w q.1)])
    omega
  obtain ⟨a1, a2, a3⟩ := h.2 hb
  refine ⟨hb, a2.1.2, a2.2, ?_⟩
  apply Nat.lt_of_not_le
  intro z
  have hpos : 0 < ltC t x y (num t (y * 240 + (bb - 1))) (num t (x * 240 + (bb - 1))) := by
    have z2 : (gC t x y 240 + 1) / 2 ≤ ltC t x y (num t (y * 240 + (bb - 1))) (num t (x * 240 + (bb - 1))) := z
    omega
  obtain ⟨j, j1, j2⟩ := sm_ex hpos
  let P : Nat → Prop := fun d => gk t x y d ∧ num t (y * 240 + d) * num t (x * 240 + (bb - 1)) < num t (y * 240 + (bb - 1)) * num t (x * 240 + d)
  have j3 : P j := by
    apply Classical.byContradiction
    intro w
    have w2 : ¬ (gk t x y j ∧ num t (y * 240 + j) * num t (x * 240 + (bb - 1)) < num t (y * 240 + (bb - 1)) * num t (x * 240 + j)) := w
    rw [if_neg w2] at j2; omega
  obtain ⟨d, d1, d2, d3⟩ := mxR (U := fun d => num t (y * 240 + d)) (L := fun d => num t (x * 240 + d)) (P := P) (fun d hd => hd.1.2) ⟨j, j1, j3⟩
  have e : ltC t x y (num t (y * 240 + (bb - 1))) (num t (x * 240 + (bb - 1))) ≤ lesP t x y (num t (y * 240 + d)) (num t (x * 240 + d)) 240 := by
    refine sm_le_of (fun e he => ?_)
    by_cases w : gk t x y e ∧ num t (y * 240 + e) * num t (x * 240 + (bb - 1)) < num t (y * 240 + (bb - 1)) * num t (x * 240 + e)
    · rw [if_pos w, if_pos ⟨w.1, d3 e he w⟩]; exact Nat.le_refl _
    · rw [if_neg w]; exact Nat.zero_le _
  have hq : QFd t x y d := ⟨d2.1, Nat.le_trans z e⟩
  have := a3 d d1 hq
  have := d2.2
  omega
