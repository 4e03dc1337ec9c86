/-! values of days and months, smooths, turns -/
theorem sm_le2 {f g : Nat → Nat} {c : Nat} : ∀ {n : Nat}, (∀ k, k < n → f k ≤ g k * c) → sm f n ≤ sm g n * c
  | 0, _ => by simp [sm]
  | n + 1, h => by
    have h1 := sm_le2 (n := n) (fun k hk => h k (by omega))
    have h2 := h n (by omega)
    rw [sm_s, sm_s, Nat.add_mul]
    omega
def WB (we : Nat → Nat) : Prop := ∀ e, we e ≤ 1000001
def VB (va : Nat → Nat) : Prop := ∀ i, va i ≤ 400000001
def vS (t we : Nat → Nat) (d k : Nat) : Nat := sm (fun e => if we e = 0 ∨ t (e * 240 + d) = 0 then 0 else num t (e * 240 + d) * (we e - 1)) k
def vC (t we : Nat → Nat) (d k : Nat) : Nat := sm (fun e => if we e = 0 ∨ t (e * 240 + d) = 0 then 0 else 1) k
def vD (t we : Nat → Nat) (ey d : Nat) : Nat := if vC t we d ey = 0 then 0 else vS t we d ey / vC t we d ey + 1
theorem vC_le (t we : Nat → Nat) (d k : Nat) : vC t we d k ≤ k := by
  have := sm_le (f := fun e => if we e = 0 ∨ t (e * 240 + d) = 0 then 0 else 1) (c := 1) (n := k) (fun j _ => by split <;> omega)
  unfold vC; omega
theorem vS_le {t we : Nat → Nat} (h : TB t) (hw : WB we) (d k : Nat) : vS t we d k ≤ vC t we d k * 400000000 := by
  refine sm_le2 (fun e _ => ?_)
  by_cases q : we e = 0 ∨ t (e * 240 + d) = 0
  · simp only [q, if_true]; omega
  · simp only [q, if_false]
    have h1 := num_le h (e * 240 + d)
    have h2 := hw e
    have h3 : num t (e * 240 + d) * (we e - 1) ≤ 400 * 1000000 := Nat.mul_le_mul h1 (by omega)
    omega
theorem vD_le {t we : Nat → Nat} (h : TB t) (hw : WB we) (ey d : Nat) : vD t we ey d ≤ 400000001 := by
  unfold vD
  split
  · omega
  · have h1 : vS t we d ey / vC t we d ey ≤ 400000000 := Nat.div_le_of_le_mul (vS_le h hw d ey)
    omega
def mS (t we : Nat → Nat) (ey m k : Nat) : Nat := sm (fun j => vD t we ey (m * 10 + j) - 1) k
def mC (t we : Nat → Nat) (ey m k : Nat) : Nat := sm (fun j => if vD t we ey (m * 10 + j) = 0 then 0 else 1) k
def mV (t we : Nat → Nat) (ey en m : Nat) : Nat := if mC t we ey m 10 = 0 ∨ mC t we ey m 10 < en then 0 else mS t we ey m 10 / mC t we ey m 10 + 1
theorem mC_le (t we : Nat → Nat) (ey m k : Nat) : mC t we ey m k ≤ k := by
  have := sm_le (f := fun j => if vD t we ey (m * 10 + j) = 0 then 0 else 1) (c := 1) (n := k) (fun j _ => by split <;> omega)
  unfold mC; omega
theorem mS_le {t we : Nat → Nat} (h : TB t) (hw : WB we) (ey m k : Nat) : mS t we ey m k ≤ mC t we ey m k * 400000000 := by
  refine sm_le2 (fun j _ => ?_)
  have h1 := vD_le h hw ey (m * 10 + j)
  split <;> omega
theorem mV_le {t we : Nat → Nat} (h : TB t) (hw : WB we) (ey en m : Nat) : mV t we ey en m ≤ 400000001 := by
  unfold mV
  split
  · omega
  · have h1 : mS t we ey m 10 / mC t we ey m 10 ≤ 400000000 := Nat.div_le_of_le_mul (mS_le h hw ey m 10)
    omega
/-- the first k places are g's -/
def pfx {α : Type} (g f : Nat → α) (k : Nat) : Nat → α := fun i => if i < k then g i else f i
theorem pfx_0 {α : Type} (g f : Nat → α) : pfx g f 0 = f := by
  funext i; unfold pfx; rw [if_neg (by omega)]
theorem pfx_s {α : Type} (g f : Nat → α) (k : Nat) : upN (pfx g f k) k (g k) = pfx g f (k + 1) := by
  funext i; unfold pfx upN
  by_cases e : i = k
  · subst e; rw [if_pos rfl, if_pos (by omega)]
  · rw [if_neg e]
    show (if i < k then g i else f i) = _
    by_cases e2 : i < k
    · rw [if_pos e2, if_pos (by omega)]
    · rw [if_neg e2, if_neg (by omega)]
theorem pfx_in {α : Type} {g f : Nat → α} {k i : Nat} (h : i < k) : pfx g f k i = g i := if_pos h
theorem pfx_cong {α : Type} {g g2 f : Nat → α} {k : Nat} (h : ∀ i, i < k → g i = g2 i) : pfx g f k = pfx g2 f k := by
  funext i; unfold pfx
  by_cases e : i < k
  · rw [if_pos e, if_pos e, h i e]
  · rw [if_neg e, if_neg e]
theorem VB_pfx {g f : Nat → Nat} {k : Nat} (hg : VB g) (hf : VB f) : VB (pfx g f k) := fun i => by
  unfold pfx; split
  · exact hg i
  · exact hf i
def sS (va : Nat → Nat) (lo k : Nat) : Nat := sm (fun j => va (lo + j) - 1) k
def sC (va : Nat → Nat) (lo k : Nat) : Nat := sm (fun j => if va (lo + j) = 0 then 0 else 1) k
theorem sC_le (va : Nat → Nat) (lo k : Nat) : sC va lo k ≤ k := by
  have := sm_le (f := fun j => if va (lo + j) = 0 then 0 else 1) (c := 1) (n := k) (fun j _ => by split <;> omega)
  unfold sC; omega
theorem sS_le {va : Nat → Nat} (h : VB va) (lo k : Nat) : sS va lo k ≤ sC va lo k * 400000000 := by
  refine sm_le2 (fun j _ => ?_)
  have h1 := h (lo + j)
  split <;> omega
def smV (va : Nat → Nat) (m w : Nat) : Nat := if va m = 0 ∨ sC va (m - (w - 1) / 2) (min (m + (w - 1) / 2) 23 + 1 - (m - (w - 1) / 2)) = 0 then 0 else sS va (m - (w - 1) / 2) (min (m + (w - 1) / 2) 23 + 1 - (m - (w - 1) / 2)) / sC va (m - (w - 1) / 2) (min (m + (w - 1) / 2) 23 + 1 - (m - (w - 1) / 2)) + 1
theorem smV_le {va : Nat → Nat} (h : VB va) (m w : Nat) : smV va m w ≤ 400000001 := by
  unfold smV
  split
  · omega
  · have h1 := Nat.div_le_of_le_mul (sS_le h (m - (w - 1) / 2) (min (m + (w - 1) / 2) 23 + 1 - (m - (w - 1) / 2)))
    omega
theorem sb_lt {x y : Nat} (hx : x < 2 ^ 30) (hy : y < 2 ^ 30) : nI x - nI y < 0 ↔ x < y := by
  rw [Int32.lt_iff_toInt_lt, pk_sub_toInt hx hy, show (0 : Int32).toInt = 0 from by decide]; omega
theorem sb_le {x y : Nat} (hx : x < 2 ^ 30) (hy : y < 2 ^ 30) : nI x - nI y ≤ 0 ↔ x ≤ y := by
  rw [Int32.le_iff_toInt_le, pk_sub_toInt hx hy, show (0 : Int32).toInt = 0 from by decide]; omega
theorem mx0 {x y : Nat} (hx : x < 2 ^ 30) (hy : y < 2 ^ 30) : (if nI x - nI y < nI 0 then nI 0 else nI x - nI y) = nI (x - y) := by
  rw [show nI 0 = 0 from rfl]
  by_cases h : x < y
  · rw [if_pos ((sb_lt hx hy).mpr h), Nat.sub_eq_zero_of_le (Nat.le_of_lt h)]; rfl
  · rw [if_neg (fun q => h ((sb_lt hx hy).mp q)), pk_sub (by omega)]
def outd (sv : Nat → Nat) (n m : Nat) (hi : Prop) : Prop := (n < m ∧ ((hi ∧ sv m ≤ sv n) ∨ (¬ hi ∧ sv n ≤ sv m))) ∨ (m ≤ n ∧ ((hi ∧ sv m < sv n) ∨ (¬ hi ∧ sv n < sv m)))
def isT (sv : Nat → Nat) (m r : Nat) (hi : Prop) : Prop := sv m ≠ 0 ∧ ∀ n, m - r ≤ n → n ≤ min (m + r) 23 → n ≠ m → sv n ≠ 0 → ¬ outd sv n m hi
noncomputable def ftv (sv : Nat → Nat) (r : Nat) (hi : Prop) (k : Nat) : Nat → Nat → Nat → Nat
  | 0, _, _ => 0
  | n + 1, m, b => cif (isT sv m r hi) (if b = k then m + 1 else ftv sv r hi k n (m + 1) (b + 1)) (ftv sv r hi k n (m + 1) b)
def wid (x : Int32) : Prop := rg2 x 1 7 ∧ nn x % 2 = 1
