/-! what each call answers, and its status: the one value that both sides are tied to -/
abbrev okTray (tr k mn : Int32) : Prop := rg tr 4 ∧ rg k 4 ∧ rg mn 61
noncomputable def qTray (tr k mn : Int32) : Nat := cif (okTray tr k mn) 0 1
noncomputable def soTray (so : Nat → Nat) (tr k mn : Int32) : Nat → Nat := cif (okTray tr k mn) (upN so (nn tr) (nn k + 1)) so
noncomputable def szTray (sz : Nat → Nat) (tr k mn : Int32) : Nat → Nat := cif (okTray tr k mn) (upN sz (nn tr) (nn mn)) sz
noncomputable def zTray (z : Nat → Int64) (tr k mn : Int32) : Nat → Int64 := cif (okTray tr k mn) (fil z (lN 0) (nn tr * 60) ((nn tr + 1) * 60)) z
theorem wnp_le (so sz : Nat → Nat) (tr pl : Int32) : wnp so sz tr pl ≤ 3 := by
  unfold wnp cif
  (repeat' split) <;> omega
theorem wpo_le (so sz : Nat → Nat) (fr pl to at' mn : Int32) : wpo so sz fr pl to at' mn ≤ 7 := by
  unfold wpo cif
  (repeat' split) <;> omega
theorem wnp_0 {so sz : Nat → Nat} {tr pl : Int32} (h : wnp so sz tr pl = 0) : rg tr 4 ∧ so (nn tr) ≠ 0 ∧ rg pl (sz (nn tr)) := by
  unfold wnp at h
  by_cases h1 : rg tr 4
  · rw [cif_pos h1] at h
    by_cases h2 : so (nn tr) = 0
    · rw [if_pos h2] at h; cases h
    · rw [if_neg h2] at h
      by_cases h3 : rg pl (sz (nn tr))
      · exact ⟨h1, h2, h3⟩
      · rw [cif_neg h3] at h; cases h
  · rw [cif_neg h1] at h; cases h
theorem wpo_0 {so sz : Nat → Nat} {fr pl to at' mn : Int32} (h : wpo so sz fr pl to at' mn = 0) : rg fr 4 ∧ rg to 4 ∧ ¬ pl < 0 ∧ ¬ at' < 0 ∧ ¬ mn < 0 ∧ nn pl + nn mn ≤ sz (nn fr) ∧ nn at' + nn mn ≤ sz (nn to) := by
  unfold wpo at h
  by_cases h1 : rg fr 4 ∧ rg to 4 ∧ ¬ pl < 0 ∧ ¬ at' < 0 ∧ ¬ mn < 0
  · rw [cif_pos h1] at h
    by_cases h2 : so (nn fr) = 0 ∨ so (nn to) = 0
    · rw [if_pos h2] at h; cases h
    · rw [if_neg h2] at h
      by_cases h3 : so (nn fr) ≠ so (nn to)
      · rw [if_pos h3] at h; cases h
      · rw [if_neg h3] at h
        by_cases h4 : nn pl + nn mn ≤ sz (nn fr) ∧ nn at' + nn mn ≤ sz (nn to)
        · exact ⟨h1.1, h1.2.1, h1.2.2.1, h1.2.2.2.1, h1.2.2.2.2, h4.1, h4.2⟩
        · rw [if_neg h4] at h; cases h
  · rw [cif_neg h1] at h; cases h
noncomputable def zWrite (so sz : Nat → Nat) (z : Nat → Int64) (tr pl : Int32) (v : Int64) : Nat → Int64 := if wnp so sz tr pl = 0 then upN z (nn tr * 60 + nn pl) (cutF (so (nn tr) - 1) v) else z
noncomputable def rRead (so sz : Nat → Nat) (z : Nat → Int64) (tr pl : Int32) : Int64 := if wnp so sz tr pl = 0 then z (nn tr * 60 + nn pl) else -1
noncomputable def zPour (so sz : Nat → Nat) (z : Nat → Int64) (fr pl to at' mn : Int32) : Nat → Int64 := if wpo so sz fr pl to at' mn = 0 then va_cpy z z (nn fr * 60 + nn pl) (nn to * 60 + nn at') (nn mn) else z
def qEye (ey : Nat) : Nat := if ey < 8 then 0 else 4
def rEye (ey : Nat) : Nat := if ey < 8 then ey + 1 else 0
def eEye (ey : Nat) : Nat := if ey < 8 then ey + 1 else ey
abbrev okTell (ey : Nat) (e d g k : Int32) : Prop := rg e ey ∧ rg d 240 ∧ ctold g k
noncomputable def qTell (ey : Nat) (e d g k : Int32) : Nat := cif (okTell ey e d g k) 0 1
noncomputable def tTell (t : Nat → Nat) (ey : Nat) (e d g k : Int32) : Nat → Nat := cif (okTell ey e d g k) (upN t (nn e * 240 + nn d) (1000 * nn g + nn k + 1)) t
noncomputable def qUnsay (t : Nat → Nat) (ey : Nat) (e d : Int32) : Nat := cif (rg e ey ∧ rg d 240) (if t (nn e * 240 + nn d) = 0 then 5 else 0) 1
noncomputable def tUnsay (t : Nat → Nat) (ey : Nat) (e d : Int32) : Nat → Nat := if qUnsay t ey e d = 0 then upN t (nn e * 240 + nn d) 0 else t
noncomputable def qTold (t : Nat → Nat) (ey : Nat) (e d w : Int32) : Nat := cif (rg e ey ∧ rg d 240 ∧ rg w 3) (if t (nn e * 240 + nn d) = 0 then 5 else 0) 1
noncomputable def rTold (t : Nat → Nat) (ey : Nat) (e d w : Int32) : Nat := if qTold t ey e d w = 0 then (if nn w = 0 then grp t (nn e * 240 + nn d) else if nn w = 1 then spt t (nn e * 240 + nn d) else num t (nn e * 240 + nn d)) + 1 else 0
noncomputable def q1 (P : Prop) : Nat := cif P 0 1
noncomputable def rDays (t : Nat → Nat) (ey : Nat) (e : Int32) : Nat := cif (rg e ey) (cD t (nn e) 0 240 + 1) 0
def rg2 (x : Int32) (lo hi : Nat) : Prop := (lo : Int) ≤ x.toInt ∧ x.toInt ≤ (hi : Int)
theorem rg2_nI {j lo hi : Nat} (hj : j < 2 ^ 31) : rg2 (nI j) lo hi ↔ lo ≤ j ∧ j ≤ hi := by
  unfold rg2; rw [nI_toInt hj]; omega
theorem rg2_of {x : Int32} {lo hi : Nat} (hl : lo < 2 ^ 31) (hh : hi < 2 ^ 31) (h1 : ¬ x < nI lo) (h2 : ¬ nI hi < x) : rg2 x lo hi := by
  have a1 := Int32.le_iff_toInt_le.mp (Int32.not_lt.mp h1)
  have a2 := Int32.le_iff_toInt_le.mp (Int32.not_lt.mp h2)
  rw [nI_toInt hl] at a1
  rw [nI_toInt hh] at a2
  exact ⟨a1, a2⟩
theorem nrg2_lt {x : Int32} {lo hi : Nat} (hl : lo < 2 ^ 31) (h : x < nI lo) : ¬ rg2 x lo hi := by
  intro h2
  have a1 := Int32.lt_iff_toInt_lt.mp h
  rw [nI_toInt hl] at a1
  have := h2.1
  omega
theorem nrg2_gt {x : Int32} {lo hi : Nat} (hh : hi < 2 ^ 31) (h : nI hi < x) : ¬ rg2 x lo hi := by
  intro h2
  have a1 := Int32.lt_iff_toInt_lt.mp h
  rw [nI_toInt hh] at a1
  have := h2.2
  omega
theorem rg2_ex {x : Int32} {lo hi : Nat} (h : rg2 x lo hi) : ∃ j : Nat, (lo ≤ j ∧ j ≤ hi) ∧ x = nI j := by
  have h0 : ¬ x < 0 := by
    intro hx
    have h1 := Int32.lt_iff_toInt_lt.mp hx
    have h2 : (0 : Int32).toInt = 0 := by decide
    have := h.1
    omega
  obtain ⟨j, hj, rfl⟩ := nI_of h0
  exact ⟨j, (rg2_nI hj).mp h, rfl⟩
abbrev okRules (l n : Int32) : Prop := rg2 l 1 100 ∧ rg2 n 1 10
noncomputable def leRules (le : Nat) (l n : Int32) : Nat := cif (okRules l n) (nn l) le
noncomputable def enRules (en : Nat) (l n : Int32) : Nat := cif (okRules l n) (nn n) en
abbrev pr (ey : Nat) (x y : Int32) : Prop := rg x ey ∧ rg y ey ∧ x ≠ y
noncomputable def rBoth (t : Nat → Nat) (ey : Nat) (x y : Int32) : Nat := cif (pr ey x y) (cB t (nn x) (nn y) 240 + 1) 0
noncomputable def rFactor (t : Nat → Nat) (ey le : Nat) (x y : Int32) : Nat := cif (pr ey x y) (fc t le (nn x) (nn y)) 0
noncomputable def qFactor (t : Nat → Nat) (ey le : Nat) (x y : Int32) : Nat := cif (pr ey x y) (if fc t le (nn x) (nn y) = 0 then 6 else 0) 1
/-- the least s from k on with no more above it than seen, at most n tries -/
def blin (t : Nat → Nat) (x y seen : Nat) : Nat → Nat → Nat
  | 0, k => k
  | n + 1, k => if k < 20 ∧ seen < cG t y x k 240 then blin t x y seen n (k + 1) else k
noncomputable def qBlind (t : Nat → Nat) (ey : Nat) (x y : Int32) : Nat := cif (pr ey x y) (if cB t (nn x) (nn y) 240 = 0 then 6 else 0) 1
noncomputable def rBlind (t : Nat → Nat) (ey : Nat) (x y : Int32) : Nat := if qBlind t ey x y = 0 then blin t (nn x) (nn y) (cG t (nn x) (nn y) 0 240) 20 0 + 1 else 0
abbrev okActive (ey : Nat) (e fr to : Int32) : Prop := rg e ey ∧ rg fr 240 ∧ rg to 240 ∧ nn fr ≤ nn to
noncomputable def qActive (t : Nat → Nat) (ey : Nat) (e fr to : Int32) : Nat := cif (okActive ey e fr to) (if cD t (nn e) (nn fr) (nn to + 1 - nn fr) = 0 then 5 else 0) 1
def upActive (t : Nat → Nat) (e fr to : Int32) : Nat := cA t (nn e) (nn fr) (nn to + 1 - nn fr)
def loActive (t : Nat → Nat) (e fr to : Int32) : Nat := cD t (nn e) (nn fr) (nn to + 1 - nn fr)
/-- a fraction is told: reduced -/
def frU (q x y : Nat) (o : Int64) : Int64 := if q = 0 then lN (x / Nat.gcd x y) else o
def frL (q x y : Nat) (o : Int64) : Int64 := if q = 0 then lN (y / Nat.gcd x y) else o
noncomputable def rFr (q x : Nat) : Nat := if q = 0 then (if 0 < x then 1 else 0) + 1 else 0
abbrev okLoop (ey : Nat) (x y w : Int32) : Prop := pr ey x y ∧ pr ey y w ∧ nn x ≠ nn w
noncomputable def qLoop (t : Nat → Nat) (ey le : Nat) (x y w : Int32) : Nat := cif (okLoop ey x y w) (if fc t le (nn x) (nn y) = 0 ∨ fc t le (nn y) (nn w) = 0 ∨ fc t le (nn w) (nn x) = 0 then 6 else 0) 1
noncomputable def rLoop (t : Nat → Nat) (ey le : Nat) (x y w : Int32) : Nat := if qLoop t ey le x y w = 0 then (fc t le (nn x) (nn y) - 1) * (fc t le (nn y) (nn w) - 1) * (fc t le (nn w) (nn x) - 1) / 1000000 + 1 else 0

theorem qLoop_no {t : Nat → Nat} {ey le : Nat} {x y w : Int32} (h : ¬ okLoop ey x y w) : qLoop t ey le x y w = 1 ∧ rLoop t ey le x y w = 0 := by
  have h1 : qLoop t ey le x y w = 1 := cif_neg h
  exact ⟨h1, by rw [rLoop, h1]; rfl⟩
theorem mul3 {x y z c : Nat} (hx : x ≤ c) (hy : y ≤ c) (hz : z ≤ c) : x * y * z ≤ c * c * c := Nat.mul_le_mul (Nat.mul_le_mul hx hy) hz
/-- books -/
noncomputable def wbo (ey : Nat) (so sz : Nat → Nat) (z : Nat → Int64) (x d tr mn : Int32) : Nat :=
  cif (rg x ey ∧ rg d 240 ∧ rg tr 4 ∧ rg2 mn 1 60 ∧ nn d + nn mn ≤ 240) (if so (nn tr) = 0 then 2 else if sz (nn tr) < nn mn then 3 else cif (∀ i, i < nn mn → okc (z (nn tr * 60 + i))) 0 1) 1
def cod (v : Int64) : Nat := (v.toInt + 1).toNat
theorem cod_m1 : cod (-1) = 0 := by decide
theorem cod_lN {n : Nat} (h : n < 2 ^ 31) : cod (lN n) = n + 1 := by unfold cod; rw [lN_toInt h]; omega
theorem okc_i {v : Int64} (h : okc v) : v.toInt32 = oI (cod v) := by
  rcases h with rfl | ⟨n, rfl, hn⟩
  · decide
  · have := hn.1
    rw [cod_lN (by omega), lN_i, nI_o]
theorem okc_w {v : Int64} (h : okc v) : cod v = 0 ∨ ((cod v - 1) / 1000 ≤ 20 ∧ (cod v - 1) / 1000 ≤ (cod v - 1) % 1000 ∧ (cod v - 1) % 1000 ≤ 200) := by
  rcases h with rfl | ⟨n, rfl, hn⟩
  · exact Or.inl cod_m1
  · obtain ⟨h1, h2, h3, h4⟩ := hn
    rw [cod_lN (by omega)]
    exact Or.inr ⟨by omega, by omega, by omega⟩
def bkT (t : Nat → Nat) (z : Nat → Int64) (x d tr : Nat) : Nat → (Nat → Nat)
  | 0 => t
  | k + 1 => upN (bkT t z x d tr k) (x * 240 + (d + k)) (cod (z (tr * 60 + k)))
noncomputable def tBook (t : Nat → Nat) (ey : Nat) (so sz : Nat → Nat) (z : Nat → Int64) (x d tr mn : Int32) : Nat → Nat := if wbo ey so sz z x d tr mn = 0 then bkT t z (nn x) (nn d) (nn tr) (nn mn) else t
theorem wbo_0 {ey : Nat} {so sz : Nat → Nat} {z : Nat → Int64} {x d tr mn : Int32} (h : wbo ey so sz z x d tr mn = 0) : (rg x ey ∧ rg d 240 ∧ rg tr 4 ∧ rg2 mn 1 60 ∧ nn d + nn mn ≤ 240) ∧ so (nn tr) ≠ 0 ∧ nn mn ≤ sz (nn tr) ∧ ∀ i, i < nn mn → okc (z (nn tr * 60 + i)) := by
  unfold wbo at h
  by_cases h1 : rg x ey ∧ rg d 240 ∧ rg tr 4 ∧ rg2 mn 1 60 ∧ nn d + nn mn ≤ 240
  · rw [cif_pos h1] at h
    by_cases h2 : so (nn tr) = 0
    · rw [if_pos h2] at h; cases h
    · rw [if_neg h2] at h
      by_cases h3 : sz (nn tr) < nn mn
      · rw [if_pos h3] at h; cases h
      · rw [if_neg h3] at h
        by_cases h4 : ∀ i, i < nn mn → okc (z (nn tr * 60 + i))
        · exact ⟨h1, h2, by omega, h4⟩
        · rw [cif_neg h4] at h; cases h
  · rw [cif_neg h1] at h; cases h
theorem wbo_le (ey : Nat) (so sz : Nat → Nat) (z : Nat → Int64) (x d tr mn : Int32) : wbo ey so sz z x d tr mn ≤ 3 := by
  unfold wbo cif
  (repeat' split) <;> omega
theorem bkT_TB {t : Nat → Nat} {z : Nat → Int64} {x d tr : Nat} (h : TB t) : ∀ {n : Nat}, (∀ i, i < n → okc (z (tr * 60 + i))) → TB (bkT t z x d tr n)
  | 0, _ => h
  | n + 1, hz => TB_put (bkT_TB h (fun i hi => hz i (by omega))) (okc_w (hz n (by omega)))
theorem bkT_TZ {t : Nat → Nat} {z : Nat → Int64} {x d tr ey : Nat} (h : TZ t ey) (hx : x < ey) : ∀ {n : Nat}, d + n ≤ 240 → TZ (bkT t z x d tr n) ey
  | 0, _ => h
  | n + 1, hn => TZ_put (bkT_TZ h hx (by omega)) hx (by omega)
