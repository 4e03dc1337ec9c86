/-! what each call answers, and its status: the one value that both sides are tied to -/
abbrev okTray (tr k mn : Int32) : Prop := rg tr 4 ∧ rg k 4 ∧ rg mn 61
noncomputable def qTray (tr k mn : Int32) : Nat := cif (okTray tr k mn) 0 1
noncomputable def soTray (so : Nat → Nat) (tr k mn : Int32) : Nat → Nat := cif (okTray tr k mn) (upN so (nn tr) (nn k + 1)) so
noncomputable def szTray (sz : Nat → Nat) (tr k mn : Int32) : Nat → Nat := cif (okTray tr k mn) (upN sz (nn tr) (nn mn)) sz
noncomputable def zTray (z : Nat → Int64) (tr k mn : Int32) : Nat → Int64 := cif (okTray tr k mn) (fil z (lN 0) (nn tr * 60) ((nn tr + 1) * 60)) z
theorem wnp_le (so sz : Nat → Nat) (tr pl : Int32) : wnp so sz tr pl ≤ 3 := by
  unfold wnp cif
  (repeat' split) <;> omega
theorem wpo_le (so sz : Nat → Nat) (fr pl to at' mn : Int32) : wpo so sz fr pl to at' mn ≤ 7 := by
  unfold wpo cif
  (repeat' split) <;> omega
theorem wnp_0 {so sz : Nat → Nat} {tr pl : Int32} (h : wnp so sz tr pl = 0) : rg tr 4 ∧ so (nn tr) ≠ 0 ∧ rg pl (sz (nn tr)) := by
  unfold wnp at h
  by_cases h1 : rg tr 4
  · rw [cif_pos h1] at h
    by_cases h2 : so (nn tr) = 0
    · rw [if_pos h2] at h; cases h
    · rw [if_neg h2] at h
      by_cases h3 : rg pl (sz (nn tr))
      · exact ⟨h1, h2, h3⟩
      · rw [cif_neg h3] at h; cases h
  · rw [cif_neg h1] at h; cases h
theorem wpo_0 {so sz : Nat → Nat} {fr pl to at' mn : Int32} (h : wpo so sz fr pl to at' mn = 0) : rg fr 4 ∧ rg to 4 ∧ ¬ pl < 0 ∧ ¬ at' < 0 ∧ ¬ mn < 0 ∧ nn pl + nn mn ≤ sz (nn fr) ∧ nn at' + nn mn ≤ sz (nn to) := by
  unfold wpo at h
  by_cases h1 : rg fr 4 ∧ rg to 4 ∧ ¬ pl < 0 ∧ ¬ at' < 0 ∧ ¬ mn < 0
  · rw [cif_pos h1] at h
    by_cases h2 : so (nn fr) = 0 ∨ so (nn to) = 0
    · rw [if_pos h2] at h; cases h
    · rw [if_neg h2] at h
      by_cases h3 : so (nn fr) ≠ so (nn to)
      · rw [if_pos h3] at h; cases h
      · rw [if_neg h3] at h
        by_cases h4 : nn pl + nn mn ≤ sz (nn fr) ∧ nn at' + nn mn ≤ sz (nn to)
        · exact ⟨h1.1, h1.2.1, h1.2.2.1, h1.2.2.2.1, h1.2.2.2.2, h4.1, h4.2⟩
        · rw [if_neg h4] at h; cases h
  · rw [cif_neg h1] at h; cases h
noncomputable def zWrite (so sz : Nat → Nat) (z : Nat → Int64) (tr pl : Int32) (v : Int64) : Nat → Int64 := if wnp so sz tr pl = 0 then upN z (nn tr * 60 + nn pl) (cutF (so (nn tr) - 1) v) else z
noncomputable def rRead (so sz : Nat → Nat) (z : Nat → Int64) (tr pl : Int32) : Int64 := if wnp so sz tr pl = 0 then z (nn tr * 60 + nn pl) else -1
noncomputable def zPour (so sz : Nat → Nat) (z : Nat → Int64) (fr pl to at' mn : Int32) : Nat → Int64 := if wpo so sz fr pl to at' mn = 0 then va_cpy z z (nn fr * 60 + nn pl) (nn to * 60 + nn at') (nn mn) else z
def qEye (ey : Nat) : Nat := if ey < 8 then 0 else 4
def rEye (ey : Nat) : Nat := if ey < 8 then ey + 1 else 0
def eEye (ey : Nat) : Nat := if ey < 8 then ey + 1 else ey
abbrev okTell (ey : Nat) (e d g k : Int32) : Prop := rg e ey ∧ rg d 240 ∧ ctold g k
noncomputable def qTell (ey : Nat) (e d g k : Int32) : Nat := cif (okTell ey e d g k) 0 1
noncomputable def tTell (t : Nat → Nat) (ey : Nat) (e d g k : Int32) : Nat → Nat := cif (okTell ey e d g k) (upN t (nn e * 240 + nn d) (1000 * nn g + nn k + 1)) t
noncomputable def qUnsay (t : Nat → Nat) (ey : Nat) (e d : Int32) : Nat := cif (rg e ey ∧ rg d 240) (if t (nn e * 240 + nn d) = 0 then 5 else 0) 1
noncomputable def tUnsay (t : Nat → Nat) (ey : Nat) (e d : Int32) : Nat → Nat := if qUnsay t ey e d = 0 then upN t (nn e * 240 + nn d) 0 else t
noncomputable def qTold (t : Nat → Nat) (ey : Nat) (e d w : Int32) : Nat := cif (rg e ey ∧ rg d 240 ∧ rg w 3) (if t (nn e * 240 + nn d) = 0 then 5 else 0) 1
noncomputable def rTold (t : Nat → Nat) (ey : Nat) (e d w : Int32) : Nat := if qTold t ey e d w = 0 then (if nn w = 0 then grp t (nn e * 240 + nn d) else if nn w = 1 then spt t (nn e * 240 + nn d) else num t (nn e * 240 + nn d)) + 1 else 0
noncomputable def q1 (P : Prop) : Nat := cif P 0 1
noncomputable def rDays (t : Nat → Nat) (ey : Nat) (e : Int32) : Nat := cif (rg e ey) (cD t (nn e) 0 240 + 1) 0
abbrev okRules (l n : Int32) : Prop := rg (l - 1) 100 ∧ rg (n - 1) 10
abbrev pr (ey : Nat) (x y : Int32) : Prop := rg x ey ∧ rg y ey ∧ x ≠ y
noncomputable def rBoth (t : Nat → Nat) (ey : Nat) (x y : Int32) : Nat := cif (pr ey x y) (cB t (nn x) (nn y) 240 + 1) 0
noncomputable def rFactor (t : Nat → Nat) (ey le : Nat) (x y : Int32) : Nat := cif (pr ey x y) (fc t le (nn x) (nn y)) 0
noncomputable def qFactor (t : Nat → Nat) (ey le : Nat) (x y : Int32) : Nat := cif (pr ey x y) (if fc t le (nn x) (nn y) = 0 then 6 else 0) 1
/-- the least s from k on with no more above it than seen, at most n tries -/
def blin (t : Nat → Nat) (x y seen : Nat) : Nat → Nat → Nat
  | 0, k => k
  | n + 1, k => if k < 20 ∧ seen < cG t y x k 240 then blin t x y seen n (k + 1) else k
noncomputable def qBlind (t : Nat → Nat) (ey : Nat) (x y : Int32) : Nat := cif (pr ey x y) (if cB t (nn x) (nn y) 240 = 0 then 6 else 0) 1
noncomputable def rBlind (t : Nat → Nat) (ey : Nat) (x y : Int32) : Nat := if qBlind t ey x y = 0 then blin t (nn x) (nn y) (cG t (nn x) (nn y) 0 240) 20 0 + 1 else 0
abbrev okActive (ey : Nat) (e fr to : Int32) : Prop := rg e ey ∧ rg fr 240 ∧ rg to 240 ∧ fr.toInt ≤ to.toInt
noncomputable def qActive (t : Nat → Nat) (ey : Nat) (e fr to : Int32) : Nat := cif (okActive ey e fr to) (if cD t (nn e) (nn fr) (nn to + 1 - nn fr) = 0 then 5 else 0) 1
def upActive (t : Nat → Nat) (e fr to : Int32) : Nat := cA t (nn e) (nn fr) (nn to + 1 - nn fr)
def loActive (t : Nat → Nat) (e fr to : Int32) : Nat := cD t (nn e) (nn fr) (nn to + 1 - nn fr)
/-- a fraction is told: reduced -/
def frU (q x y : Nat) (o : Int64) : Int64 := if q = 0 then lN (x / Nat.gcd x y) else o
def frL (q x y : Nat) (o : Int64) : Int64 := if q = 0 then lN (y / Nat.gcd x y) else o
noncomputable def rFr (q x : Nat) : Nat := if q = 0 then (if 0 < x then 2 else 1) else 0
abbrev okLoop (ey : Nat) (x y w : Int32) : Prop := pr ey x y ∧ pr ey y w ∧ x ≠ w
noncomputable def qLoop (t : Nat → Nat) (ey le : Nat) (x y w : Int32) : Nat := cif (okLoop ey x y w) (if fc t le (nn x) (nn y) = 0 ∨ fc t le (nn y) (nn w) = 0 ∨ fc t le (nn w) (nn x) = 0 then 6 else 0) 1
noncomputable def rLoop (t : Nat → Nat) (ey le : Nat) (x y w : Int32) : Nat := if qLoop t ey le x y w = 0 then (fc t le (nn x) (nn y) - 1) * (fc t le (nn y) (nn w) - 1) * (fc t le (nn w) (nn x) - 1) / 1000000 + 1 else 0
