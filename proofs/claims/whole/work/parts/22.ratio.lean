/-! the fractions of two eyes, and the middle one -/
abbrev gk (t : Nat → Nat) (x y d : Nat) : Prop := bo t x y d ∧ 0 < num t (x * 240 + d)
def gC (t : Nat → Nat) (x y k : Nat) : Nat := sm (fun d => if gk t x y d then 1 else 0) k
theorem gC_le (t : Nat → Nat) (x y k : Nat) : gC t x y k ≤ k := by
  have := sm_le (f := fun d => if gk t x y d then 1 else 0) (c := 1) (n := k) (fun j _ => by split <;> omega)
  unfold gC; omega
theorem gC_y {t : Nat → Nat} {x y k : Nat} (h : gk t x y k) : gC t x y (k + 1) = gC t x y k + 1 := by
  show gC t x y k + (if gk t x y k then 1 else 0) = _
  rw [if_pos h]
theorem gC_n {t : Nat → Nat} {x y k : Nat} (h : ¬ gk t x y k) : gC t x y (k + 1) = gC t x y k := by
  show gC t x y k + (if gk t x y k then 1 else 0) = _
  rw [if_neg h]; rfl
def gU (t : Nat → Nat) (x y : Nat) (f : Nat → Nat) : Nat → (Nat → Nat)
  | 0 => f
  | k + 1 => if gk t x y k then upN (gU t x y f k) (gC t x y k) (num t (y * 240 + k)) else gU t x y f k
def gL (t : Nat → Nat) (x y : Nat) (f : Nat → Nat) : Nat → (Nat → Nat)
  | 0 => f
  | k + 1 => if gk t x y k then upN (gL t x y f k) (gC t x y k) (num t (x * 240 + k)) else gL t x y f k
theorem sm_gather (t : Nat → Nat) (x y : Nat) (f g : Nat → Nat) (p : Nat → Nat → Nat) : ∀ k, sm (fun j => p (gU t x y f k j) (gL t x y g k j)) (gC t x y k) = sm (fun d => if gk t x y d then p (num t (y * 240 + d)) (num t (x * 240 + d)) else 0) k
  | 0 => rfl
  | k + 1 => by
    have ih := sm_gather t x y f g p k
    rw [sm_s]
    by_cases h : gk t x y k
    · have e1 : gU t x y f (k + 1) = upN (gU t x y f k) (gC t x y k) (num t (y * 240 + k)) := by rw [gU, if_pos h]
      have e2 : gL t x y g (k + 1) = upN (gL t x y g k) (gC t x y k) (num t (x * 240 + k)) := by rw [gL, if_pos h]
      rw [gC_y h, sm_s, if_pos h, ← ih, e1, e2, upN_s, upN_s]
      congr 1
      refine sm_cong (fun j hj => ?_)
      rw [upN_n (by omega), upN_n (by omega)]
    · have e1 : gU t x y f (k + 1) = gU t x y f k := by rw [gU, if_neg h]
      have e2 : gL t x y g (k + 1) = gL t x y g k := by rw [gL, if_neg h]
      rw [gC_n h, if_neg h, ← ih, e1, e2]; rfl
/-- sums over a row, the same for every reading -/
def SE (U L U2 L2 : Nat → Nat) (n : Nat) : Prop := ∀ p : Nat → Nat → Nat, sm (fun j => p (U2 j) (L2 j)) n = sm (fun j => p (U j) (L j)) n
def BN (U L : Nat → Nat) (n : Nat) : Prop := ∀ j, j < n → U j ≤ 400 ∧ L j ≤ 400 ∧ 0 < L j
theorem sm_0 {f : Nat → Nat} : ∀ {n : Nat}, (∀ j, j < n → f j = 0) → sm f n = 0
  | 0, _ => rfl
  | n + 1, h => by rw [sm_s, sm_0 (fun j hj => h j (by omega)), h n (by omega)]
theorem sm_z {f : Nat → Nat} : ∀ {n : Nat}, sm f n = 0 → ∀ j, j < n → f j = 0
  | 0, _, j, h => absurd h (Nat.not_lt_zero j)
  | n + 1, h, j, hj => by
    rw [sm_s] at h
    rcases Nat.lt_or_ge j n with q | q
    · exact sm_z (by omega) j q
    · rw [show j = n from by omega]; omega
theorem BN_of {U L U2 L2 : Nat → Nat} {n : Nat} (h : SE U L U2 L2 n) (hb : BN U L n) : BN U2 L2 n := by
  have h1 := h (fun u l => if u ≤ 400 ∧ l ≤ 400 ∧ 0 < l then 0 else 1)
  rw [sm_0 (f := fun j => (fun u l => if u ≤ 400 ∧ l ≤ 400 ∧ 0 < l then 0 else 1) (U j) (L j)) (fun j hj => if_pos (hb j hj))] at h1
  intro j hj
  have h2 := sm_z h1 j hj
  apply Classical.byContradiction
  intro q
  have h3 : (if U2 j ≤ 400 ∧ L2 j ≤ 400 ∧ 0 < L2 j then 0 else 1) = 0 := h2
  rw [if_neg q] at h3
  cases h3
theorem SE_rf (U L : Nat → Nat) (n : Nat) : SE U L U L n := fun _ => rfl
theorem SE_tr {U L U2 L2 U3 L3 : Nat → Nat} {n : Nat} (h : SE U L U2 L2 n) (h2 : SE U2 L2 U3 L3 n) : SE U L U3 L3 n := fun p => (h2 p).trans (h p)
def srt (U L : Nat → Nat) (n : Nat) : Prop := ∀ i j, i < j → j < n → U i * L j ≤ U j * L i
theorem sm_swap {f g : Nat → Nat} {n i j : Nat} (hi : i < n) (hj : j < n) (hij : i ≠ j) (h1 : g i = f j) (h2 : g j = f i) (h3 : ∀ k, k ≠ i → k ≠ j → g k = f k) : sm g n = sm f n := by
  have a1 := sm_chg (f := f) (g := upN f i (f j)) hi (fun k _ hk => upN_n hk)
  have a2 := sm_chg (f := upN f i (f j)) (g := g) hj (fun k _ hk => by
    by_cases q : k = i
    · subst q; rw [upN_s, h1]
    · rw [upN_n q, h3 k q hk])
  rw [upN_s] at a1
  rw [upN_n (Ne.symm hij), h2] at a2
  omega
/-- one step of sink: the place at holds what stood a gap ahead -/
theorem sink_SE {U L U1 L1 : Nat → Nat} {u l at_ gap n : Nat} (hg : 1 ≤ gap) (ha : gap ≤ at_) (hn : at_ < n) (h : SE U L (upN U1 at_ u) (upN L1 at_ l) n) : SE U L (upN (upN U1 at_ (U1 (at_ - gap))) (at_ - gap) u) (upN (upN L1 at_ (L1 (at_ - gap))) (at_ - gap) l) n := by
  intro p
  rw [← h p]
  refine sm_swap (i := at_) (j := at_ - gap) (by omega) (by omega) (by omega) ?_ ?_ (fun k h1 h2 => ?_)
  · show p _ _ = p _ _
    rw [upN_n (by omega), upN_s, upN_n (by omega), upN_s, upN_n (by omega), upN_n (by omega)]
  · show p _ _ = p _ _
    rw [upN_s, upN_s, upN_s, upN_s]
  · show p _ _ = p _ _
    rw [upN_n h2, upN_n h1, upN_n h2, upN_n h1, upN_n h1, upN_n h1]
theorem cr_tr {u1 l1 u2 l2 u3 l3 : Nat} (h0 : 0 < l2) (h1 : u1 * l2 ≤ u2 * l1) (h2 : u2 * l3 ≤ u3 * l2) : u1 * l3 ≤ u3 * l1 := by
  have a1 : u1 * l2 * l3 ≤ u2 * l1 * l3 := Nat.mul_le_mul_right l3 h1
  have a2 : u2 * l3 * l1 ≤ u3 * l2 * l1 := Nat.mul_le_mul_right l1 h2
  have e1 : u1 * l2 * l3 = l2 * (u1 * l3) := by rw [Nat.mul_comm u1 l2, Nat.mul_assoc]
  have e2 : u2 * l1 * l3 = u2 * l3 * l1 := by rw [Nat.mul_assoc, Nat.mul_comm l1 l3, ← Nat.mul_assoc]
  have e3 : u3 * l2 * l1 = l2 * (u3 * l1) := by rw [Nat.mul_comm u3 l2, Nat.mul_assoc]
  exact Nat.le_of_mul_le_mul_left (by omega) h0
/-- the places up to pl, but for the hole at_: in order; those behind the hole are above the one that is moved -/
def hol (U1 L1 : Nat → Nat) (u l at_ pl : Nat) : Prop := (∀ i j, i < j → j ≤ pl → i ≠ at_ → j ≠ at_ → U1 i * L1 j ≤ U1 j * L1 i) ∧ ∀ j, at_ < j → j ≤ pl → u * L1 j ≤ U1 j * l
theorem hol_0 {U L : Nat → Nat} {u l pl : Nat} (h : srt U L pl) : hol U L u l pl pl := ⟨fun i j h1 h2 _ h4 => h i j h1 (by omega), fun j h1 h2 => by omega⟩
theorem hol_s {U1 L1 : Nat → Nat} {u l at_ pl : Nat} (ha : 1 ≤ at_) (hp : at_ ≤ pl) (h : hol U1 L1 u l at_ pl) (hc : u * L1 (at_ - 1) < U1 (at_ - 1) * l) : hol (upN U1 at_ (U1 (at_ - 1))) (upN L1 at_ (L1 (at_ - 1))) u l (at_ - 1) pl := by
  constructor
  · intro i j h1 h2 h3 h4
    by_cases q : j = at_
    · subst q
      rw [upN_s, upN_s, upN_n (by omega), upN_n (by omega)]
      exact h.1 i (j - 1) (by omega) (by omega) (by omega) (by omega)
    · by_cases z : i = at_
      · subst z
        rw [upN_s, upN_s, upN_n q, upN_n q]
        exact h.1 (i - 1) j (by omega) h2 (by omega) q
      · rw [upN_n q, upN_n q, upN_n z, upN_n z]
        exact h.1 i j h1 h2 z q
  · intro j h1 h2
    by_cases q : j = at_
    · subst q; rw [upN_s, upN_s]; exact Nat.le_of_lt hc
    · rw [upN_n q, upN_n q]; exact h.2 j (by omega) h2
theorem hol_e {U1 L1 : Nat → Nat} {u l at_ pl : Nat} (hp : at_ ≤ pl) (hl : ∀ j, j ≤ pl → 0 < L1 j) (h : hol U1 L1 u l at_ pl) (hc : at_ = 0 ∨ U1 (at_ - 1) * l ≤ u * L1 (at_ - 1)) : srt (upN U1 at_ u) (upN L1 at_ l) (pl + 1) := by
  intro i j h1 h2
  by_cases q : j = at_
  · subst q
    rw [upN_s, upN_s, upN_n (by omega), upN_n (by omega)]
    rcases hc with z | z
    · omega
    · by_cases y : i = j - 1
      · subst y; exact z
      · exact cr_tr (hl (j - 1) (by omega)) (h.1 i (j - 1) (by omega) (by omega) (by omega) (by omega)) z
  · by_cases z : i = at_
    · subst z
      rw [upN_s, upN_s, upN_n q, upN_n q]
      exact h.2 j h1 (by omega)
    · rw [upN_n q, upN_n q, upN_n z, upN_n z]
      exact h.1 i j h1 (by omega) z q
theorem mul400 {x y : Nat} (hx : x ≤ 400) (hy : y ≤ 400) : x * y ≤ 160000 := Nat.mul_le_mul hx hy
/-! the middle -/
def lesC (t : Nat → Nat) (x y u l : Nat) : Nat := sm (fun d => if gk t x y d ∧ num t (y * 240 + d) * l ≤ u * num t (x * 240 + d) then 1 else 0) 240
def ltC (t : Nat → Nat) (x y u l : Nat) : Nat := sm (fun d => if gk t x y d ∧ num t (y * 240 + d) * l < u * num t (x * 240 + d) then 1 else 0) 240
def MID (t : Nat → Nat) (x y : Nat) (q : Nat × Nat) : Prop := 0 < q.2 ∧ (gC t x y 240 + 1) / 2 ≤ lesC t x y q.1 q.2 ∧ ltC t x y q.1 q.2 < (gC t x y 240 + 1) / 2
theorem MID_one {t : Nat → Nat} {x y u l u2 l2 : Nat} (h : MID t x y (u, l)) (h2 : MID t x y (u2, l2)) : u2 * l ≤ u * l2 := by
  apply Nat.le_of_not_lt
  intro q
  have a1 : lesC t x y u l ≤ ltC t x y u2 l2 := by
    have : ∀ n, sm (fun d => if gk t x y d ∧ num t (y * 240 + d) * l ≤ u * num t (x * 240 + d) then 1 else 0) n ≤ sm (fun d => if gk t x y d ∧ num t (y * 240 + d) * l2 < u2 * num t (x * 240 + d) then 1 else 0) n := by
      intro n
      induction n with
      | zero => exact Nat.le_refl 0
      | succ n ih =>
        rw [sm_s, sm_s]
        have : (if gk t x y n ∧ num t (y * 240 + n) * l ≤ u * num t (x * 240 + n) then 1 else 0) ≤ (if gk t x y n ∧ num t (y * 240 + n) * l2 < u2 * num t (x * 240 + n) then 1 else 0) := by
          by_cases z : gk t x y n ∧ num t (y * 240 + n) * l ≤ u * num t (x * 240 + n)
          · rw [if_pos z, if_pos]
            · exact Nat.le_refl 1
            · refine ⟨z.1, ?_⟩
              -- r_n ≤ u/l < u2/l2
              have hx := z.1.2
              apply Nat.lt_of_not_le
              intro w
              have b1 := cr_tr (u1 := u2) (l1 := l2) (u2 := num t (y * 240 + n)) (l2 := num t (x * 240 + n)) (u3 := u) (l3 := l) hx w z.2
              omega
          · rw [if_neg z]; exact Nat.zero_le _
        omega
    exact this 240
  have b1 := h.2.1
  have b2 := h2.2.2
  dsimp only at b1 b2
  omega
theorem red_eq {u l u2 l2 : Nat} (hl : 0 < l) (hl2 : 0 < l2) (h : u * l2 = u2 * l) : u / Nat.gcd u l = u2 / Nat.gcd u2 l2 ∧ l / Nat.gcd u l = l2 / Nat.gcd u2 l2 := by
  have g1 := Nat.gcd_pos_of_pos_right u hl
  have g2 := Nat.gcd_pos_of_pos_right u2 hl2
  -- gcd u l * l2 = gcd u2 l2 * l
  have k1 : Nat.gcd u l * l2 = Nat.gcd u2 l2 * l := by
    rw [← Nat.gcd_mul_right, ← Nat.gcd_mul_right, h, Nat.mul_comm l l2]
  have e2 : l / Nat.gcd u l = l2 / Nat.gcd u2 l2 := by
    obtain ⟨c1, hc1⟩ := Nat.gcd_dvd_right u l
    obtain ⟨c2, hc2⟩ := Nat.gcd_dvd_right u2 l2
    have d1 : l / Nat.gcd u l = c1 := Nat.div_eq_of_eq_mul_right g1 hc1
    have d2 : l2 / Nat.gcd u2 l2 = c2 := Nat.div_eq_of_eq_mul_right g2 hc2
    rw [d1, d2]
    have k2 : Nat.gcd u l * (Nat.gcd u2 l2 * c2) = Nat.gcd u2 l2 * (Nat.gcd u l * c1) := by rw [← hc2, ← hc1]; exact k1
    have k3 : Nat.gcd u l * Nat.gcd u2 l2 * c2 = Nat.gcd u l * Nat.gcd u2 l2 * c1 := by
      rw [Nat.mul_assoc, k2, ← Nat.mul_assoc, Nat.mul_comm (Nat.gcd u2 l2) (Nat.gcd u l)]
    exact (Nat.eq_of_mul_eq_mul_left (Nat.mul_pos g1 g2) k3).symm
  refine ⟨?_, e2⟩
  obtain ⟨c1, hc1⟩ := Nat.gcd_dvd_left u l
  obtain ⟨c2, hc2⟩ := Nat.gcd_dvd_left u2 l2
  obtain ⟨b1, hb1⟩ := Nat.gcd_dvd_right u l
  obtain ⟨b2, hb2⟩ := Nat.gcd_dvd_right u2 l2
  have d1 : u / Nat.gcd u l = c1 := Nat.div_eq_of_eq_mul_right g1 hc1
  have d2 : u2 / Nat.gcd u2 l2 = c2 := Nat.div_eq_of_eq_mul_right g2 hc2
  have f1 : l / Nat.gcd u l = b1 := Nat.div_eq_of_eq_mul_right g1 hb1
  have f2 : l2 / Nat.gcd u2 l2 = b2 := Nat.div_eq_of_eq_mul_right g2 hb2
  rw [d1, d2]
  rw [f1, f2] at e2
  subst e2
  have hb0 : 0 < b1 := by
    rcases Nat.eq_zero_or_pos b1 with z | z
    · rw [z, Nat.mul_zero] at hb1; omega
    · exact z
  have k2 : (Nat.gcd u l * c1) * (Nat.gcd u2 l2 * b1) = (Nat.gcd u2 l2 * c2) * (Nat.gcd u l * b1) := by rw [← hc1, ← hb2, ← hc2, ← hb1]; exact h
  have k3 : (Nat.gcd u l * Nat.gcd u2 l2 * b1) * c1 = (Nat.gcd u l * Nat.gcd u2 l2 * b1) * c2 := by
    have w1 : (Nat.gcd u l * c1) * (Nat.gcd u2 l2 * b1) = (Nat.gcd u l * Nat.gcd u2 l2 * b1) * c1 := by
      simp only [Nat.mul_assoc, Nat.mul_comm, Nat.mul_left_comm]
    have w2 : (Nat.gcd u2 l2 * c2) * (Nat.gcd u l * b1) = (Nat.gcd u l * Nat.gcd u2 l2 * b1) * c2 := by
      simp only [Nat.mul_assoc, Nat.mul_comm, Nat.mul_left_comm]
    rw [← w1, ← w2]; exact k2
  exact Nat.eq_of_mul_eq_mul_left (Nat.mul_pos (Nat.mul_pos g1 g2) hb0) k3
noncomputable def anyOf (P : Nat × Nat → Prop) : Nat × Nat := @dite _ (∃ q, P q) (Classical.propDecidable _) (fun h => h.choose) (fun _ => (0, 1))
theorem anyOf_ok {P : Nat × Nat → Prop} {q : Nat × Nat} (h : P q) : P (anyOf P) := by
  have h1 : ∃ q, P q := ⟨q, h⟩
  unfold anyOf
  rw [dif_pos h1]
  exact h1.choose_spec
noncomputable def midU (t : Nat → Nat) (x y : Nat) : Nat := (anyOf (MID t x y)).1 / Nat.gcd (anyOf (MID t x y)).1 (anyOf (MID t x y)).2
noncomputable def midL (t : Nat → Nat) (x y : Nat) : Nat := (anyOf (MID t x y)).2 / Nat.gcd (anyOf (MID t x y)).1 (anyOf (MID t x y)).2
theorem mid_eq {t : Nat → Nat} {x y u l : Nat} (h : MID t x y (u, l)) : u / Nat.gcd u l = midU t x y ∧ l / Nat.gcd u l = midL t x y := by
  have h2 := anyOf_ok h
  generalize he : anyOf (MID t x y) = q at h2
  obtain ⟨u2, l2⟩ := q
  have a1 : u2 * l ≤ u * l2 := MID_one h h2
  have a2 : u * l2 ≤ u2 * l := MID_one h2 h
  unfold midU midL
  rw [he]
  exact red_eq h.1 h2.1 (Nat.le_antisymm a2 a1)
theorem pos_red {u l : Nat} (hl : 0 < l) : 0 < u / Nat.gcd u l ↔ 0 < u := by
  have g1 := Nat.gcd_pos_of_pos_right u hl
  constructor
  · intro h
    rcases Nat.eq_zero_or_pos u with z | z
    · rw [z, Nat.zero_div] at h; omega
    · exact z
  · intro h
    exact Nat.div_pos (Nat.le_of_dvd h (Nat.gcd_dvd_left u l)) g1
/-- the one in the middle of a row in order -/
theorem mid_srt {t : Nat → Nat} {x y : Nat} {U L U0 L0 : Nat → Nat} (hs : srt U L (gC t x y 240)) (hb : BN U L (gC t x y 240)) (he : SE (gU t x y U0 240) (gL t x y L0 240) U L (gC t x y 240)) (h0 : 0 < gC t x y 240) : MID t x y (U ((gC t x y 240 - 1) / 2), L ((gC t x y 240 - 1) / 2)) := by
  generalize hn : gC t x y 240 = n at *
  generalize hm : (n - 1) / 2 = m at *
  have hmn : m < n := by omega
  have c1 : sm (fun j => if U j * L m ≤ U m * L j then 1 else 0) n = sm (fun d => if gk t x y d then (if num t (y * 240 + d) * L m ≤ U m * num t (x * 240 + d) then 1 else 0) else 0) 240 := (he (fun u l => if u * L m ≤ U m * l then 1 else 0)).trans (by
    rw [← hn]; exact sm_gather t x y U0 L0 (fun u l => if u * L m ≤ U m * l then 1 else 0) 240)
  have c2 : sm (fun j => if U j * L m < U m * L j then 1 else 0) n = sm (fun d => if gk t x y d then (if num t (y * 240 + d) * L m < U m * num t (x * 240 + d) then 1 else 0) else 0) 240 := (he (fun u l => if u * L m < U m * l then 1 else 0)).trans (by
    rw [← hn]; exact sm_gather t x y U0 L0 (fun u l => if u * L m < U m * l then 1 else 0) 240)
  refine ⟨(hb m hmn).2.2, ?_, ?_⟩
  · have e1 : lesC t x y (U m) (L m) = sm (fun j => if U j * L m ≤ U m * L j then 1 else 0) n := by
      rw [c1]
      refine sm_cong (fun d _ => ?_)
      by_cases q : gk t x y d
      · by_cases z : num t (y * 240 + d) * L m ≤ U m * num t (x * 240 + d)
        · rw [if_pos ⟨q, z⟩, if_pos q, if_pos z]
        · rw [if_neg (fun w => z w.2), if_pos q, if_neg z]
      · rw [if_neg (fun w => q w.1), if_neg q]
    show (gC t x y 240 + 1) / 2 ≤ _
    rw [hn]
    show (n + 1) / 2 ≤ lesC t x y (U m) (L m)
    rw [e1]
    have key : ∀ k, k ≤ n → min k (m + 1) ≤ sm (fun j => if U j * L m ≤ U m * L j then 1 else 0) k := by
      intro k
      induction k with
      | zero => intro _; simp
      | succ k ih =>
        intro hk
        have := ih (by omega)
        rw [sm_s]
        rcases Nat.lt_or_ge m k with q | q
        · omega
        · have : U k * L m ≤ U m * L k := by
            rcases Nat.lt_or_ge k m with z | z
            · exact hs k m z hmn
            · rw [show k = m from by omega]; exact Nat.le_refl _
          rw [if_pos this]; omega
    have := key n (Nat.le_refl n)
    omega
  · have e1 : ltC t x y (U m) (L m) = sm (fun j => if U j * L m < U m * L j then 1 else 0) n := by
      rw [c2]
      refine sm_cong (fun d _ => ?_)
      by_cases q : gk t x y d
      · by_cases z : num t (y * 240 + d) * L m < U m * num t (x * 240 + d)
        · rw [if_pos ⟨q, z⟩, if_pos q, if_pos z]
        · rw [if_neg (fun w => z w.2), if_pos q, if_neg z]
      · rw [if_neg (fun w => q w.1), if_neg q]
    show _ < (gC t x y 240 + 1) / 2
    rw [hn]
    show ltC t x y (U m) (L m) < (n + 1) / 2
    rw [e1]
    have key : ∀ k, k ≤ n → sm (fun j => if U j * L m < U m * L j then 1 else 0) k ≤ min k m := by
      intro k
      induction k with
      | zero => intro _; simp [sm]
      | succ k ih =>
        intro hk
        have := ih (by omega)
        rw [sm_s]
        rcases Nat.lt_or_ge k m with q | q
        · split <;> omega
        · have : ¬ U k * L m < U m * L k := by
            apply Nat.not_lt.mpr
            rcases Nat.lt_or_ge m k with z | z
            · exact hs m k z (by omega)
            · rw [show k = m from by omega]; exact Nat.le_refl _
          rw [if_neg this]; omega
    have := key n (Nat.le_refl n)
    omega
theorem gather_BN {t : Nat → Nat} (tb : TB t) (x y : Nat) (f g : Nat → Nat) : BN (gU t x y f 240) (gL t x y g 240) (gC t x y 240) := by
  have h1 := sm_gather t x y f g (fun u l => if u ≤ 400 ∧ l ≤ 400 ∧ 0 < l then 0 else 1) 240
  rw [sm_0 (f := fun d => if gk t x y d then _ else 0) (fun d hd => by
    by_cases q : gk t x y d
    · rw [if_pos q]; exact if_pos ⟨num_le tb _, num_le tb _, q.2⟩
    · rw [if_neg q])] at h1
  intro j hj
  have h2 := sm_z h1 j hj
  apply Classical.byContradiction
  intro q
  have h3 : (if gU t x y f 240 j ≤ 400 ∧ gL t x y g 240 j ≤ 400 ∧ 0 < gL t x y g 240 j then 0 else 1) = 0 := h2
  rw [if_neg q] at h3
  cases h3
noncomputable def qMid (t : Nat → Nat) (ey : Nat) (x y : Int32) : Nat := cif (pr ey x y) (if gC t (nn x) (nn y) 240 = 0 then 6 else 0) 1
def frM (q v : Nat) (o : Int64) : Int64 := if q = 0 then lN v else o
