/-! pour and book of the reference -/
theorem rsub2_toInt {a b : Nat} (ha : a < 2 ^ 31) (hb : b < 2 ^ 31) : (nI a - nI b).toInt = (a : Int) - b := by
  rw [Int32.toInt_sub, nI_toInt ha, nI_toInt hb]
  exact Int.bmod_eq_of_le (by omega) (by omega)
theorem rsub2_lt {a b c : Nat} (ha : a < 2 ^ 31) (hb : b < 2 ^ 31) (hc : c < 2 ^ 31) : nI a - nI b < nI c ↔ a < c + b := by
  rw [Int32.lt_iff_toInt_lt, rsub2_toInt ha hb, nI_toInt hc]; omega
theorem rsub2_le {a b c : Nat} (ha : a < 2 ^ 31) (hb : b < 2 ^ 31) (hc : c < 2 ^ 31) : nI c ≤ nI a - nI b ↔ c + b ≤ a := by
  rw [Int32.le_iff_toInt_le, rsub2_toInt ha hb, nI_toInt hc]; omega
theorem wpo_v {so sz : Nat → Nat} {fr pl to at_ mn : Nat} (h1 : fr < 4) (h2 : pl < 2 ^ 31) (h3 : to < 4) (h4 : at_ < 2 ^ 31) (h5 : mn < 2 ^ 31) : wpo so sz (nI fr) (nI pl) (nI to) (nI at_) (nI mn) = if so fr = 0 ∨ so to = 0 then 2 else if so fr ≠ so to then 7 else if pl + mn ≤ sz fr ∧ at_ + mn ≤ sz to then 0 else 3 := by
  unfold wpo
  rw [cif_pos ⟨rg_nI h1 (by decide), rg_nI h3 (by decide), nI_pos h2, nI_pos h4, nI_pos h5⟩, nn_nI (by omega), nn_nI (by omega), nn_nI h2, nn_nI h4, nn_nI h5]
/-- the places from lo to hi - 1 behind bt hold what stands behind bf -/
def cpx {α : Type} (f : Nat → α) (bf bt lo hi : Nat) : Nat → α := fun j => if bt + lo ≤ j ∧ j < bt + hi then f (j - bt + bf) else f j
theorem cpx_0 {α : Type} (f : Nat → α) (bf bt : Nat) {lo hi : Nat} (h : hi ≤ lo) : cpx f bf bt lo hi = f := by
  funext j; unfold cpx; rw [if_neg (by omega)]
theorem cpx_up {α : Type} (f : Nat → α) {bf bt k : Nat} (h : ¬ (bt ≤ bf + k ∧ bf + k < bt + k)) : upN (cpx f bf bt 0 k) (bt + k) (cpx f bf bt 0 k (bf + k)) = cpx f bf bt 0 (k + 1) := by
  funext j; unfold upN cpx
  by_cases q : j = bt + k
  · rw [if_pos q, if_neg (by omega), if_pos (by omega), q, show bt + k - bt + bf = bf + k from by omega]
  · rw [if_neg q]
    by_cases w : bt + 0 ≤ j ∧ j < bt + k
    · rw [if_pos w, if_pos (by omega)]
    · rw [if_neg w, if_neg (by omega)]
theorem cpx_dn {α : Type} (f : Nat → α) {bf bt k hi : Nat} (hk : k < hi) (h : ¬ (bt + (k + 1) ≤ bf + k ∧ bf + k < bt + hi)) : upN (cpx f bf bt (k + 1) hi) (bt + k) (cpx f bf bt (k + 1) hi (bf + k)) = cpx f bf bt k hi := by
  funext j; unfold upN cpx
  by_cases q : j = bt + k
  · rw [if_pos q, if_neg (by omega), if_pos (by omega), q, show bt + k - bt + bf = bf + k from by omega]
  · rw [if_neg q]
    by_cases w : bt + (k + 1) ≤ j ∧ j < bt + hi
    · rw [if_pos w, if_pos (by omega)]
    · rw [if_neg w, if_neg (by omega)]
def cpw {α : Type} (f : Nat → α) (bf bt pl at_ mn i : Nat) : Nat → α := if pl < at_ then cpx f bf bt (mn - i) mn else cpx f bf bt 0 i
theorem cpw_0 {α : Type} (f : Nat → α) (bf bt pl at_ mn : Nat) : cpw f bf bt pl at_ mn 0 = f := by
  unfold cpw; split
  · exact cpx_0 f bf bt (by omega)
  · exact cpx_0 f bf bt (by omega)
theorem cpw_e {α : Type} (f : Nat → α) (bf bt pl at_ mn : Nat) : cpw f bf bt pl at_ mn mn = cpx f bf bt 0 mn := by
  unfold cpw; split
  · rw [Nat.sub_self]
  · rfl
theorem cpw_dn {α : Type} (f : Nat → α) {fr to pl at_ mn i : Nat} (h : pl < at_) (hi : i < mn) (h1 : pl + mn ≤ 60) (h2 : at_ + mn ≤ 60) : upN (cpw f (60 * fr + pl) (60 * to + at_) pl at_ mn i) (60 * to + at_ + (mn - 1 - i)) (cpw f (60 * fr + pl) (60 * to + at_) pl at_ mn i (60 * fr + pl + (mn - 1 - i))) = cpw f (60 * fr + pl) (60 * to + at_) pl at_ mn (i + 1) := by
  unfold cpw
  rw [if_pos h, if_pos h, show mn - i = (mn - 1 - i) + 1 from by omega, show mn - (i + 1) = mn - 1 - i from by omega]
  exact cpx_dn f (by omega) (by omega)
theorem cpw_up {α : Type} (f : Nat → α) {fr to pl at_ mn i : Nat} (h : at_ ≤ pl) (hi : i < mn) (h1 : pl + mn ≤ 60) (h2 : at_ + mn ≤ 60) : upN (cpw f (60 * fr + pl) (60 * to + at_) pl at_ mn i) (60 * to + at_ + i) (cpw f (60 * fr + pl) (60 * to + at_) pl at_ mn i (60 * fr + pl + i)) = cpw f (60 * fr + pl) (60 * to + at_) pl at_ mn (i + 1) := by
  unfold cpw
  rw [if_neg (by omega), if_neg (by omega)]
  exact cpx_up f (by omega)
theorem MT_pour {so sz : Nat → Nat} {z : Nat → Int64} {ms mm : Nat → Nat} {mz : Nat → Int64} (ts : TS so sz) (h : MT so sz z ms mm mz) {fr pl to at_ mn : Nat} (hf : fr < 4) (hto : to < 4) (h0 : so fr ≠ 0) (h1 : pl + mn ≤ sz fr) (h2 : at_ + mn ≤ sz to) : MT so sz (va_cpy z z (fr * 60 + pl) (to * 60 + at_) mn) ms mm (cpx mz (60 * fr + pl) (60 * to + at_) 0 mn) := by
  intro q hq
  refine ⟨(h q hq).1, fun w => ?_⟩
  obtain ⟨a1, a2, a3⟩ := (h q hq).2 w
  refine ⟨a1, a2, fun i hi => ?_⟩
  have b1 := (ts q).2
  have b2 := (ts to).2
  have b3 := (ts fr).2
  unfold cpx va_cpy
  by_cases e : q = to ∧ at_ ≤ i ∧ i < at_ + mn
  · rw [if_pos (by omega), if_pos (by omega), show 60 * q + i - (60 * to + at_) + (60 * fr + pl) = 60 * fr + (pl + (i - at_)) from by omega, show fr * 60 + pl + (q * 60 + i - (to * 60 + at_)) = fr * 60 + (pl + (i - at_)) from by omega]
    exact ((h fr hf).2 h0).2.2 _ (by omega)
  · rw [if_neg (by omega), if_neg (by omega)]; exact a3 i hi
theorem okc_at {v : Int64} (h : ¬ v < lN 0) : atold (v / lN 1000) (v - v / lN 1000 * lN 1000) ↔ okc v := by
  obtain ⟨n, hn, rfl⟩ := pk_lOf h
  rw [pk_lRem hn (by decide) (by decide), pk_lDiv hn (by decide) (by decide)]
  have e1 := pk_lT (n := n / 1000) (by omega)
  have e2 := pk_lT (n := n % 1000) (by omega)
  unfold atold
  rw [e1, e2]
  constructor
  · intro q
    exact Or.inr ⟨n, rfl, ⟨by omega, by omega, by omega, by omega⟩⟩
  · rintro (q | ⟨k, q, hk⟩)
    · exfalso
      have h1 := congrArg Int64.toInt q
      rw [pk_lT hn] at h1
      have h2 : (-1 : Int64).toInt = -1 := by decide
      omega
    · have hk1 := hk.1
      have : n = k := (pk_lEQ hn (by omega)).mp q
      subst this
      obtain ⟨k1, k2, k3, k4⟩ := hk
      omega
theorem okc_lt {v : Int64} (h : v < lN 0) (h2 : ¬ v = -1) : ¬ okc v := by
  rintro (q | ⟨k, rfl, hk⟩)
  · exact h2 q
  · have := (pk_lLT (a := k) (b := 0) (by have := hk.1; omega) (by decide)).mp h
    omega
theorem GM_bk {t : Nat → Nat} {ey i : Nat} {gr sp : Nat → Int32} (h : GM t ey gr sp) {v : Int64} (hv : okc v) (hn : ¬ v = -1) : GM (upN t i (cod v)) ey (upN gr i (v / lN 1000).toInt32) (upN sp i (v - v / lN 1000 * lN 1000).toInt32) := by
  rcases hv with q | ⟨n, rfl, hk⟩
  · exact absurd q hn
  · have k1 := hk.1
    rw [pk_lRem (by omega) (by decide) (by decide), pk_lDiv (by omega) (by decide) (by decide), lN_i, lN_i, cod_lN (by omega), show n + 1 = 1000 * (n / 1000) + n % 1000 + 1 from by omega]
    exact GM_put h (by omega)
theorem GM_b0 {t : Nat → Nat} {ey i : Nat} {gr sp : Nat → Int32} (h : GM t ey gr sp) {v : Int64} (hn : v = -1) : GM (upN t i (cod v)) ey (upN gr i (-1)) sp := by
  rw [hn, cod_m1]; exact GM_del h
