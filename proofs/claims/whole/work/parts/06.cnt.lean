/-! the kept counts of pairs stay the counts -/
theorem nI_big (b : Nat) : nI (4294967296 * b) = 0 := by
  rw [← pk_mul, show nI 4294967296 = 0 from by decide, Int32.zero_mul]
theorem nI_ws {x1 x2 al be : Nat} (h : x2 + al = x1 + be) : nI x1 + (-1) * nI al + nI 1 * nI be = nI x2 := by
  rw [show (-1 : Int32) = nI 4294967295 from by decide, pk_mul, pk_mul, nI_add, nI_add, show x1 + 4294967295 * al + 1 * be = x2 + 4294967296 * al from by omega, ← nI_add, nI_big, Int32.add_zero]
theorem ix8 {x y u v : Nat} (hy : y < 8) (hv : v < 8) : x * 8 + y = u * 8 + v ↔ x = u ∧ y = v := by omega
/-- the share of eye e and day d in the pair x, y -/
abbrev hit (t : Nat → Nat) (e d x y : Nat) : Prop := (x = e ∨ y = e) ∧ bo t x y d
theorem bdL_at (t : Nat → Nat) (e d : Nat) (sg : Int32) (f : Nat → Int32) (he : e < 8) : ∀ k, k ≤ 8 → ∀ x y, x < 8 → y < 8 → x ≠ y →
    bdL t e d sg k f (x * 8 + y) = f (x * 8 + y) + sg * nI (if (x = e ∧ y < k ∧ t (y * 240 + d) ≠ 0) ∨ (y = e ∧ x < k ∧ t (x * 240 + d) ≠ 0) then 1 else 0)
  | 0, _, x, y, hx, hy, hn => by
    rw [if_neg (by omega), show nI 0 = 0 from rfl, Int32.mul_zero, Int32.add_zero]; rfl
  | k + 1, hk, x, y, hx, hy, hn => by
    have ih := bdL_at t e d sg f he k (by omega)
    have h0 := ih x y hx hy hn
    unfold bdL
    by_cases hc : k = e ∨ t (k * 240 + d) = 0
    · rw [if_pos hc, h0]
      congr 3
      by_cases h1 : (x = e ∧ y < k ∧ t (y * 240 + d) ≠ 0) ∨ (y = e ∧ x < k ∧ t (x * 240 + d) ≠ 0)
      · rw [if_pos h1, if_pos (by omega)]
      · rw [if_neg h1, if_neg]
        rintro (⟨a1, a2, a3⟩ | ⟨a1, a2, a3⟩)
        · rcases Nat.lt_or_ge y k with q | q
          · exact h1 (Or.inl ⟨a1, q, a3⟩)
          · have e1 : y = k := by omega
            subst e1
            rcases hc with c | c
            · omega
            · exact a3 c
        · rcases Nat.lt_or_ge x k with q | q
          · exact h1 (Or.inr ⟨a1, q, a3⟩)
          · have e1 : x = k := by omega
            subst e1
            rcases hc with c | c
            · omega
            · exact a3 c
    · rw [if_neg hc]
      have hke : k ≠ e := fun c => hc (Or.inl c)
      have htk : t (k * 240 + d) ≠ 0 := fun c => hc (Or.inr c)
      unfold upN
      by_cases h1 : x * 8 + y = k * 8 + e
      · obtain ⟨rfl, rfl⟩ := (ix8 hy he).mp h1
        rw [if_pos rfl, if_neg (by omega), h0, if_neg (by omega), if_pos (by omega), show nI 0 = 0 from rfl, Int32.mul_zero, Int32.add_zero, show nI 1 = 1 from rfl, Int32.mul_one]
      · rw [if_neg h1]
        by_cases h2 : x * 8 + y = e * 8 + k
        · obtain ⟨rfl, rfl⟩ := (ix8 hy (by omega)).mp h2
          rw [if_pos rfl, h0, if_neg (by omega), if_pos (by omega), show nI 0 = 0 from rfl, Int32.mul_zero, Int32.add_zero, show nI 1 = 1 from rfl, Int32.mul_one]
        · rw [if_neg h2, h0]
          congr 3
          by_cases h3 : (x = e ∧ y < k ∧ t (y * 240 + d) ≠ 0) ∨ (y = e ∧ x < k ∧ t (x * 240 + d) ≠ 0)
          · rw [if_pos h3, if_pos (by omega)]
          · rw [if_neg h3, if_neg]
            rintro (⟨a1, a2, a3⟩ | ⟨a1, a2, a3⟩)
            · exact h3 (Or.inl ⟨a1, by
                rcases Nat.lt_or_ge y k with q | q
                · exact q
                · exact absurd ((ix8 hy (by omega)).mpr ⟨a1, show y = k by omega⟩) h2, a3⟩)
            · exact h3 (Or.inr ⟨a1, by
                rcases Nat.lt_or_ge x k with q | q
                · exact q
                · exact absurd ((ix8 hy he).mpr ⟨show x = k by omega, a1⟩) h1, a3⟩)
theorem bsL_at (t : Nat → Nat) (e d : Nat) (sg : Int32) (f : Nat → Int32) (he : e < 8) : ∀ k, k ≤ 8 → ∀ x y, x < 8 → y < 8 → x ≠ y →
    bsL t e d sg k f (x * 8 + y) = f (x * 8 + y) + sg * nI (if (x = e ∧ y < k ∧ t (y * 240 + d) ≠ 0) ∨ (y = e ∧ x < k ∧ t (x * 240 + d) ≠ 0) then num t (x * 240 + d) else 0)
  | 0, _, x, y, hx, hy, hn => by
    rw [if_neg (by omega), show nI 0 = 0 from rfl, Int32.mul_zero, Int32.add_zero]; rfl
  | k + 1, hk, x, y, hx, hy, hn => by
    have ih := bsL_at t e d sg f he k (by omega)
    have h0 := ih x y hx hy hn
    unfold bsL
    by_cases hc : k = e ∨ t (k * 240 + d) = 0
    · rw [if_pos hc, h0]
      congr 3
      by_cases h1 : (x = e ∧ y < k ∧ t (y * 240 + d) ≠ 0) ∨ (y = e ∧ x < k ∧ t (x * 240 + d) ≠ 0)
      · rw [if_pos h1, if_pos (by omega)]
      · rw [if_neg h1, if_neg]
        rintro (⟨a1, a2, a3⟩ | ⟨a1, a2, a3⟩)
        · rcases Nat.lt_or_ge y k with q | q
          · exact h1 (Or.inl ⟨a1, q, a3⟩)
          · have e1 : y = k := by omega
            subst e1
            rcases hc with c | c
            · omega
            · exact a3 c
        · rcases Nat.lt_or_ge x k with q | q
          · exact h1 (Or.inr ⟨a1, q, a3⟩)
          · have e1 : x = k := by omega
            subst e1
            rcases hc with c | c
            · omega
            · exact a3 c
    · rw [if_neg hc]
      have hke : k ≠ e := fun c => hc (Or.inl c)
      have htk : t (k * 240 + d) ≠ 0 := fun c => hc (Or.inr c)
      unfold upN
      by_cases h1 : x * 8 + y = k * 8 + e
      · obtain ⟨rfl, rfl⟩ := (ix8 hy he).mp h1
        rw [if_pos rfl, if_neg (by omega), h0, if_neg (by omega), if_pos (by omega), show nI 0 = 0 from rfl, Int32.mul_zero, Int32.add_zero]
      · rw [if_neg h1]
        by_cases h2 : x * 8 + y = e * 8 + k
        · obtain ⟨rfl, rfl⟩ := (ix8 hy (by omega)).mp h2
          rw [if_pos rfl, h0, if_neg (by omega), if_pos (by omega), show nI 0 = 0 from rfl, Int32.mul_zero, Int32.add_zero]
        · rw [if_neg h2, h0]
          congr 3
          by_cases h3 : (x = e ∧ y < k ∧ t (y * 240 + d) ≠ 0) ∨ (y = e ∧ x < k ∧ t (x * 240 + d) ≠ 0)
          · rw [if_pos h3, if_pos (by omega)]
          · rw [if_neg h3, if_neg]
            rintro (⟨a1, a2, a3⟩ | ⟨a1, a2, a3⟩)
            · exact h3 (Or.inl ⟨a1, by
                rcases Nat.lt_or_ge y k with q | q
                · exact q
                · exact absurd ((ix8 hy (by omega)).mpr ⟨a1, show y = k by omega⟩) h2, a3⟩)
            · exact h3 (Or.inr ⟨a1, by
                rcases Nat.lt_or_ge x k with q | q
                · exact q
                · exact absurd ((ix8 hy he).mpr ⟨show x = k by omega, a1⟩) h1, a3⟩)
/-- nothing is told by eyes that aren't there -/
def TZ (t : Nat → Nat) (ey : Nat) : Prop := ∀ x d, ey ≤ x → x < 8 → d < 240 → t (x * 240 + d) = 0
theorem cInD_at {t : Nat → Nat} {e d ey : Nat} {sg : Int32} {f : Nat → Int32} (he : e < 8) (hey : ey ≤ 8) (hd : d < 240) (hz : TZ t ey) {x y : Nat} (hx : x < 8) (hy : y < 8) (hn : x ≠ y) :
    cInD t e d sg ey f (x * 8 + y) = f (x * 8 + y) + sg * nI (if hit t e d x y then 1 else 0) := by
  unfold cInD
  by_cases h0 : t (e * 240 + d) = 0
  · rw [if_pos h0, if_neg, show nI 0 = 0 from rfl, Int32.mul_zero, Int32.add_zero]
    rintro ⟨rfl | rfl, h1, h2⟩
    · exact h1 h0
    · exact h2 h0
  · rw [if_neg h0, bdL_at t e d sg f he ey hey x y hx hy hn]
    congr 3
    by_cases h1 : hit t e d x y
    · rw [if_pos h1, if_pos]
      obtain ⟨rfl | rfl, h2, h3⟩ := h1
      · exact Or.inl ⟨rfl, Nat.lt_of_not_le (fun q => h3 (hz y d q hy hd)), h3⟩
      · exact Or.inr ⟨rfl, Nat.lt_of_not_le (fun q => h2 (hz x d q hx hd)), h2⟩
    · rw [if_neg h1, if_neg]
      rintro (⟨rfl, a2, a3⟩ | ⟨rfl, a2, a3⟩)
      · exact h1 ⟨Or.inl rfl, h0, a3⟩
      · exact h1 ⟨Or.inr rfl, a3, h0⟩
theorem cInS_at {t : Nat → Nat} {e d ey : Nat} {sg : Int32} {f : Nat → Int32} (he : e < 8) (hey : ey ≤ 8) (hd : d < 240) (hz : TZ t ey) {x y : Nat} (hx : x < 8) (hy : y < 8) (hn : x ≠ y) :
    cInS t e d sg ey f (x * 8 + y) = f (x * 8 + y) + sg * nI (if hit t e d x y then num t (x * 240 + d) else 0) := by
  unfold cInS
  by_cases h0 : t (e * 240 + d) = 0
  · rw [if_pos h0, if_neg, show nI 0 = 0 from rfl, Int32.mul_zero, Int32.add_zero]
    rintro ⟨rfl | rfl, h1, h2⟩
    · exact h1 h0
    · exact h2 h0
  · rw [if_neg h0, bsL_at t e d sg f he ey hey x y hx hy hn]
    congr 3
    by_cases h1 : hit t e d x y
    · rw [if_pos h1, if_pos]
      obtain ⟨rfl | rfl, h2, h3⟩ := h1
      · exact Or.inl ⟨rfl, Nat.lt_of_not_le (fun q => h3 (hz y d q hy hd)), h3⟩
      · exact Or.inr ⟨rfl, Nat.lt_of_not_le (fun q => h2 (hz x d q hx hd)), h2⟩
    · rw [if_neg h1, if_neg]
      rintro (⟨rfl, a2, a3⟩ | ⟨rfl, a2, a3⟩)
      · exact h1 ⟨Or.inl rfl, h0, a3⟩
      · exact h1 ⟨Or.inr rfl, a3, h0⟩
/-- a sum in which one summand changes -/
theorem sm_chg {f g : Nat → Nat} {d : Nat} : ∀ {n : Nat}, d < n → (∀ k, k < n → k ≠ d → g k = f k) → sm g n + f d = sm f n + g d
  | 0, h, _ => absurd h (Nat.not_lt_zero d)
  | n + 1, h, hk => by
    rw [sm_s, sm_s]
    rcases Nat.lt_or_ge d n with q | q
    · have h1 := sm_chg q (fun k h2 h3 => hk k (by omega) h3)
      have h2 := hk n (by omega) (by omega)
      omega
    · have e : d = n := by omega
      subst e
      have h1 : sm g d = sm f d := sm_cong (fun k h2 => hk k (by omega) (by omega))
      omega
theorem ix240 {x k u v : Nat} (hk : k < 240) (hv : v < 240) : x * 240 + k = u * 240 + v ↔ x = u ∧ k = v := by omega
theorem upN_ix {t : Nat → Nat} {e d w x k : Nat} (hk : k < 240) (hd : d < 240) : upN t (e * 240 + d) w (x * 240 + k) = if x = e ∧ k = d then w else t (x * 240 + k) := by
  unfold upN
  by_cases h : x = e ∧ k = d
  · rw [if_pos h, if_pos ((ix240 hk hd).mpr h)]
  · rw [if_neg h, if_neg (fun q => h ((ix240 hk hd).mp q))]
theorem bo_up {t : Nat → Nat} {e d w x y k : Nat} (hk : k < 240) (hd : d < 240) (h : k ≠ d ∨ (x ≠ e ∧ y ≠ e)) : bo (upN t (e * 240 + d) w) x y k ↔ bo t x y k := by
  unfold bo
  rw [upN_ix hk hd, upN_ix hk hd, if_neg (by omega), if_neg (by omega)]
theorem num_up {t : Nat → Nat} {i w j : Nat} (h : j ≠ i) : num (upN t i w) j = num t j := by
  unfold num grp spt; rw [upN_n h]
theorem cB_put {t : Nat → Nat} {e d w x y : Nat} (hd : d < 240) : cB (upN t (e * 240 + d) w) x y 240 + (if hit t e d x y then 1 else 0) = cB t x y 240 + (if hit (upN t (e * 240 + d) w) e d x y then 1 else 0) := by
  by_cases h : x = e ∨ y = e
  · have h1 := sm_chg (f := fun k => if bo t x y k then 1 else 0) (g := fun k => if bo (upN t (e * 240 + d) w) x y k then 1 else 0) (n := 240) hd (fun k hk hn => by
      by_cases h2 : bo t x y k
      · rw [if_pos h2, if_pos ((bo_up hk hd (Or.inl hn)).mpr h2)]
      · rw [if_neg h2, if_neg (fun q => h2 ((bo_up hk hd (Or.inl hn)).mp q))])
    have e1 : (if hit t e d x y then 1 else 0) = (if bo t x y d then 1 else 0) := by
      by_cases h2 : bo t x y d
      · rw [if_pos h2, if_pos ⟨h, h2⟩]
      · rw [if_neg h2, if_neg (fun q => h2 q.2)]
    have e2 : (if hit (upN t (e * 240 + d) w) e d x y then 1 else 0) = (if bo (upN t (e * 240 + d) w) x y d then 1 else 0) := by
      by_cases h2 : bo (upN t (e * 240 + d) w) x y d
      · rw [if_pos h2, if_pos ⟨h, h2⟩]
      · rw [if_neg h2, if_neg (fun q => h2 q.2)]
    rw [e1, e2]
    exact h1
  · rw [if_neg (fun q => h q.1), if_neg (fun q => h q.1)]
    have : cB (upN t (e * 240 + d) w) x y 240 = cB t x y 240 := sm_cong (fun k hk => by
      by_cases h2 : bo t x y k
      · rw [if_pos h2, if_pos ((bo_up hk hd (Or.inr (by omega))).mpr h2)]
      · rw [if_neg h2, if_neg (fun q => h2 ((bo_up hk hd (Or.inr (by omega))).mp q))])
    rw [this]
theorem sB_put {t : Nat → Nat} {e d w x y : Nat} (hd : d < 240) : sB (upN t (e * 240 + d) w) x y 240 + (if hit t e d x y then num t (x * 240 + d) else 0) = sB t x y 240 + (if hit (upN t (e * 240 + d) w) e d x y then num (upN t (e * 240 + d) w) (x * 240 + d) else 0) := by
  by_cases h : x = e ∨ y = e
  · have h1 := sm_chg (f := fun k => if bo t x y k then num t (x * 240 + k) else 0) (g := fun k => if bo (upN t (e * 240 + d) w) x y k then num (upN t (e * 240 + d) w) (x * 240 + k) else 0) (n := 240) hd (fun k hk hn => by
      by_cases h2 : bo t x y k
      · rw [if_pos h2, if_pos ((bo_up hk hd (Or.inl hn)).mpr h2), num_up (by omega)]
      · rw [if_neg h2, if_neg (fun q => h2 ((bo_up hk hd (Or.inl hn)).mp q))])
    have e1 : (if hit t e d x y then num t (x * 240 + d) else 0) = (if bo t x y d then num t (x * 240 + d) else 0) := by
      by_cases h2 : bo t x y d
      · rw [if_pos h2, if_pos ⟨h, h2⟩]
      · rw [if_neg h2, if_neg (fun q => h2 q.2)]
    have e2 : (if hit (upN t (e * 240 + d) w) e d x y then num (upN t (e * 240 + d) w) (x * 240 + d) else 0) = (if bo (upN t (e * 240 + d) w) x y d then num (upN t (e * 240 + d) w) (x * 240 + d) else 0) := by
      by_cases h2 : bo (upN t (e * 240 + d) w) x y d
      · rw [if_pos h2, if_pos ⟨h, h2⟩]
      · rw [if_neg h2, if_neg (fun q => h2 q.2)]
    rw [e1, e2]
    exact h1
  · rw [if_neg (fun q => h q.1), if_neg (fun q => h q.1)]
    have : sB (upN t (e * 240 + d) w) x y 240 = sB t x y 240 := sm_cong (fun k hk => by
      by_cases h2 : bo t x y k
      · rw [if_pos h2, if_pos ((bo_up hk hd (Or.inr (by omega))).mpr h2), num_up (by omega)]
      · rw [if_neg h2, if_neg (fun q => h2 ((bo_up hk hd (Or.inr (by omega))).mp q))])
    rw [this]
theorem TZ_put {t : Nat → Nat} {e d w ey : Nat} (hz : TZ t ey) (he : e < ey) (hd : d < 240) : TZ (upN t (e * 240 + d) w) ey := by
  intro x k h1 h2 h3
  rw [upN_ix h3 hd, if_neg (by omega)]
  exact hz x k h1 h2 h3
theorem TT_put {t : Nat → Nat} {bd bs : Nat → Int32} {e d w ey : Nat} (hT : TT t bd bs) (hz : TZ t ey) (he : e < ey) (hey : ey ≤ 8) (hd : d < 240) :
    TT (upN t (e * 240 + d) w) (cInD (upN t (e * 240 + d) w) e d (nI 1) ey (cInD t e d (-1) ey bd)) (cInS (upN t (e * 240 + d) w) e d (nI 1) ey (cInS t e d (-1) ey bs)) := by
  intro x y hx hy hn
  have hz2 := TZ_put (w := w) hz he hd
  obtain ⟨h1, h2⟩ := hT x y hx hy hn
  constructor
  · rw [cInD_at (by omega) hey hd hz2 hx hy hn, cInD_at (by omega) hey hd hz hx hy hn, h1]
    exact nI_ws (cB_put hd)
  · rw [cInS_at (by omega) hey hd hz2 hx hy hn, cInS_at (by omega) hey hd hz hx hy hn, h2]
    exact nI_ws (sB_put hd)
theorem TB_put {t : Nat → Nat} {i w : Nat} (h : TB t) (hw : w = 0 ∨ ((w - 1) / 1000 ≤ 20 ∧ (w - 1) / 1000 ≤ (w - 1) % 1000 ∧ (w - 1) % 1000 ≤ 200)) : TB (upN t i w) := by
  intro j
  unfold grp spt upN
  by_cases e : j = i
  · rw [if_pos e]
    rcases hw with q | q
    · exact Or.inl q
    · rcases Nat.eq_zero_or_pos w with z | z
      · exact Or.inl z
      · exact Or.inr ⟨q.1, q.2.1, q.2.2, by omega⟩
  · rw [if_neg e]
    exact h j
