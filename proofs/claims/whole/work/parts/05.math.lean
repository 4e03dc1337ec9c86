/-! numbers of the system: t i = 0: nothing is told at the place i = 240 * eye + day; else 1 + 1000 * groups + spots -/
def sm (f : Nat → Nat) : Nat → Nat
  | 0 => 0
  | n + 1 => sm f n + f n
theorem sm_s (f : Nat → Nat) (n : Nat) : sm f (n + 1) = sm f n + f n := rfl
theorem sm_cong {f g : Nat → Nat} : ∀ {n : Nat}, (∀ k, k < n → f k = g k) → sm f n = sm g n
  | 0, _ => rfl
  | n + 1, h => by rw [sm_s, sm_s, sm_cong (fun k hk => h k (by omega)), h n (by omega)]
theorem sm_le {f : Nat → Nat} {c : Nat} : ∀ {n : Nat}, (∀ k, k < n → f k ≤ c) → sm f n ≤ n * c
  | 0, _ => by simp [sm]
  | n + 1, h => by
    have h1 := sm_le (n := n) (fun k hk => h k (by omega))
    have h2 := h n (by omega)
    rw [sm_s, Nat.succ_mul]
    omega
def grp (t : Nat → Nat) (i : Nat) : Nat := (t i - 1) / 1000
def spt (t : Nat → Nat) (i : Nat) : Nat := (t i - 1) % 1000
def num (t : Nat → Nat) (i : Nat) : Nat := 10 * grp t i + spt t i
/-- told as it may be -/
def TB (t : Nat → Nat) : Prop := ∀ i, t i = 0 ∨ (grp t i ≤ 20 ∧ grp t i ≤ spt t i ∧ spt t i ≤ 200 ∧ t i = 1000 * grp t i + spt t i + 1)
theorem TB_le {t : Nat → Nat} (h : TB t) (i : Nat) : t i ≤ 20201 := by
  rcases h i with e | ⟨h1, h2, h3, h4⟩ <;> omega
theorem grp_le {t : Nat → Nat} (h : TB t) (i : Nat) : grp t i ≤ 20 := by
  rcases h i with e | ⟨h1, h2, h3, h4⟩
  · unfold grp; rw [e]; decide
  · exact h1
theorem spt_le {t : Nat → Nat} (h : TB t) (i : Nat) : spt t i ≤ 200 := by
  rcases h i with e | ⟨h1, h2, h3, h4⟩
  · unfold spt; rw [e]; decide
  · exact h3
theorem num_le {t : Nat → Nat} (h : TB t) (i : Nat) : num t i ≤ 400 := by
  have h1 := grp_le h i
  have h2 := spt_le h i
  unfold num; omega
/-- days told of eye e among the k from the day lo on -/
def cD (t : Nat → Nat) (e lo k : Nat) : Nat := sm (fun j => if t (e * 240 + (lo + j)) = 0 then 0 else 1) k
theorem cD_le (t : Nat → Nat) (e lo k : Nat) : cD t e lo k ≤ k := by
  have := sm_le (f := fun j => if t (e * 240 + (lo + j)) = 0 then 0 else 1) (c := 1) (n := k) (fun j _ => by split <;> omega)
  unfold cD; omega
def cA (t : Nat → Nat) (e lo k : Nat) : Nat := sm (fun j => if t (e * 240 + (lo + j)) = 0 ∨ grp t (e * 240 + (lo + j)) = 0 then 0 else 1) k
theorem cA_le (t : Nat → Nat) (e lo k : Nat) : cA t e lo k ≤ k := by
  have := sm_le (f := fun j => if t (e * 240 + (lo + j)) = 0 ∨ grp t (e * 240 + (lo + j)) = 0 then 0 else 1) (c := 1) (n := k) (fun j _ => by split <;> omega)
  unfold cA; omega
/-- both tell of the day d -/
abbrev bo (t : Nat → Nat) (a b d : Nat) : Prop := t (a * 240 + d) ≠ 0 ∧ t (b * 240 + d) ≠ 0
def cB (t : Nat → Nat) (a b k : Nat) : Nat := sm (fun d => if bo t a b d then 1 else 0) k
theorem cB_le (t : Nat → Nat) (a b k : Nat) : cB t a b k ≤ k := by
  have := sm_le (f := fun d => if bo t a b d then 1 else 0) (c := 1) (n := k) (fun j _ => by split <;> omega)
  unfold cB; omega
/-- the numbers of a on the days of both, together -/
def sB (t : Nat → Nat) (a b k : Nat) : Nat := sm (fun d => if bo t a b d then num t (a * 240 + d) else 0) k
theorem sB_le {t : Nat → Nat} (h : TB t) (a b k : Nat) : sB t a b k ≤ k * 400 := by
  refine sm_le (fun j _ => ?_)
  have := num_le h (a * 240 + j)
  split <;> omega
/-- days of both on which a has more groups than g -/
def cG (t : Nat → Nat) (a b g k : Nat) : Nat := sm (fun d => if bo t a b d ∧ g < grp t (a * 240 + d) then 1 else 0) k
theorem cG_le (t : Nat → Nat) (a b g k : Nat) : cG t a b g k ≤ k := by
  have := sm_le (f := fun d => if bo t a b d ∧ g < grp t (a * 240 + d) then 1 else 0) (c := 1) (n := k) (fun j _ => by split <;> omega)
  unfold cG; omega
