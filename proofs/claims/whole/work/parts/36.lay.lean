/-! the reference's lay: the way of an eye -/
theorem wd0_240 (t : Nat → Nat) (le ey wo : Nat) : ∀ k, lvw t le ey wo k 0 = 240
  | 0 => rfl
  | k + 1 => by
    show nxW t le ey wo (k + 1) ey (lvl t le ey wo k) (lvw t le ey wo k) 0 = 240
    unfold nxW
    rw [if_neg (fun q => by have := q.1.1; omega)]
    exact wd0_240 t le ey wo k
theorem wy_nx {t : Nat → Nat} {le ey : Nat} {ln wd : Nat → Nat} {e : Nat} (hc : CH t le ey ln wd) (he : ln e ≠ 0) {k : Nat} (h : 1 ≤ k ∧ k + 1 ≤ ln e) : okF t le ln wd (wyF t le ey ln wd e (k - 1)) (wd e) (wyF t le ey ln wd e k) ∧ wyF t le ey ln wd e k < ey ∧ ∀ c, c < ey → okF t le ln wd (wyF t le ey ln wd e (k - 1)) (wd e) c → wyF t le ey ln wd e k ≤ c := by
  obtain ⟨j, rfl⟩ : ∃ j, k = j + 1 := ⟨k - 1, by omega⟩
  rw [Nat.add_sub_cancel]
  obtain ⟨a1, a2, a3⟩ := wy_ok hc he j (by omega)
  obtain ⟨n, b1, b2, b3, b4, b5⟩ := hc.1 (wyF t le ey ln wd e j) (by omega)
  obtain ⟨c1, c2⟩ := fnS_ok (n := ey) (k := 0) (w := wd e) (Nat.zero_le n) (by omega) (show okF t le ln wd (wyF t le ey ln wd e j) (wd e) n from ⟨b2, by omega, by omega, b3⟩)
  refine ⟨c1, Nat.lt_of_le_of_lt c2 b1, fun c hcl ho => ?_⟩
  exact (fnS_ok (n := ey) (k := 0) (Nat.zero_le c) (by omega) ho).2
theorem wy_lt {t : Nat → Nat} {le ey : Nat} {ln wd : Nat → Nat} {e : Nat} (hc : CH t le ey ln wd) (he : ln e ≠ 0) (hx : e < ey) {k : Nat} (h : k + 1 ≤ ln e) : wyF t le ey ln wd e k < ey := by
  rcases Nat.eq_zero_or_pos k with z | z
  · subst z; exact hx
  · exact (wy_nx hc he ⟨z, h⟩).2.1
theorem lay_ok {u : Nat → Nat} {le ey : Nat} {fa sg fx ti : Nat → Nat} {x h c : Nat} (hL : LF u le ey fa sg) (hF : FT u le ey fx ti ey 0) (hey : ey ≤ 8) (hx : x < ey) (hh : h < ey) (hc : c < ey) (h2 : 2 ≤ fa x) (h3 : 2 ≤ fa h) : okF u le (lnF u le ey 0) (wdF u le ey 0) h (wdF u le ey 0 x) c ↔ (fa c = fa h - 1 - 1 + 1 ∧ fx (h * 8 + c) ≠ 0 ∧ sg x ≤ min (sg c) (ti (h * 8 + c))) := by
  obtain ⟨a1, a2⟩ := hL x hx
  obtain ⟨b1, b2⟩ := hL h hh
  obtain ⟨c1, c2⟩ := hL c hc
  obtain ⟨d1, d2⟩ := hF h c hh hc (Or.inl hh)
  have hch := lnF_CH u le ey 0 hey
  have w1 := hch.2.2.2.1 x
  rw [if_neg (by omega)] at a2
  have key : lnF u le ey 0 c + 1 = lnF u le ey 0 h → h ≠ c := fun q z => by rw [z] at q; omega
  constructor
  · rintro ⟨q1, q2, q3, q4⟩
    rw [if_neg (key q1)] at d1 d2
    refine ⟨by omega, by rw [d1]; exact q4, ?_⟩
    by_cases z : lnF u le ey 0 c ≤ 1
    · rw [if_pos z] at c2; omega
    · rw [if_neg z] at c2; omega
  · rintro ⟨q1, q2, q3⟩
    have q5 : lnF u le ey 0 c + 1 = lnF u le ey 0 h := by omega
    rw [if_neg (key q5)] at d1 d2
    refine ⟨q5, ?_, by omega, by rw [← d1]; exact q2⟩
    by_cases z : lnF u le ey 0 c ≤ 1
    · have z1 : c = 0 := hch.2.2.2.2.1 c (by omega)
      subst z1
      have z2 : wdF u le ey 0 0 = 240 := wd0_240 u le ey 0 7
      omega
    · rw [if_neg z] at c2; omega
