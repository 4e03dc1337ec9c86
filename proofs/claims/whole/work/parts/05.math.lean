/-! numbers of the system: t i = 0: nothing is told at the place i = 240 * eye + day; else 1 + 1000 * groups + spots -/
def sm (f : Nat → Nat) : Nat → Nat
  | 0 => 0
  | n + 1 => sm f n + f n
theorem sm_s (f : Nat → Nat) (n : Nat) : sm f (n + 1) = sm f n + f n := rfl
theorem sm_cong {f g : Nat → Nat} : ∀ {n : Nat}, (∀ k, k < n → f k = g k) → sm f n = sm g n
  | 0, _ => rfl
  | n + 1, h => by rw [sm_s, sm_s, sm_cong (fun k hk => h k (by omega)), h n (by omega)]
theorem sm_le {f : Nat → Nat} {c : Nat} : ∀ {n : Nat}, (∀ k, k < n → f k ≤ c) → sm f n ≤ n * c
  | 0, _ => by simp [sm]
  | n + 1, h => by
    have h1 := sm_le (n := n) (fun k hk => h k (by omega))
    have h2 := h n (by omega)
    rw [sm_s, Nat.succ_mul]
    omega
def grp (t : Nat → Nat) (i : Nat) : Nat := (t i - 1) / 1000
def spt (t : Nat → Nat) (i : Nat) : Nat := (t i - 1) % 1000
def num (t : Nat → Nat) (i : Nat) : Nat := 10 * grp t i + spt t i
/-- told as it may be -/
def TB (t : Nat → Nat) : Prop := ∀ i, t i = 0 ∨ (grp t i ≤ 20 ∧ grp t i ≤ spt t i ∧ spt t i ≤ 200 ∧ t i = 1000 * grp t i + spt t i + 1)
theorem TB_le {t : Nat → Nat} (h : TB t) (i : Nat) : t i ≤ 20201 := by
  rcases h i with e | ⟨h1, h2, h3, h4⟩ <;> omega
theorem grp_le {t : Nat → Nat} (h : TB t) (i : Nat) : grp t i ≤ 20 := by
  rcases h i with e | ⟨h1, h2, h3, h4⟩
  · unfold grp; rw [e]; decide
  · exact h1
theorem spt_le {t : Nat → Nat} (h : TB t) (i : Nat) : spt t i ≤ 200 := by
  rcases h i with e | ⟨h1, h2, h3, h4⟩
  · unfold spt; rw [e]; decide
  · exact h3
theorem num_le {t : Nat → Nat} (h : TB t) (i : Nat) : num t i ≤ 400 := by
  have h1 := grp_le h i
  have h2 := spt_le h i
  unfold num; omega
/-- days told of eye e among the k from the day lo on -/
def cD (t : Nat → Nat) (e lo k : Nat) : Nat := sm (fun j => if t (e * 240 + (lo + j)) = 0 then 0 else 1) k
theorem cD_le (t : Nat → Nat) (e lo k : Nat) : cD t e lo k ≤ k := by
  have := sm_le (f := fun j => if t (e * 240 + (lo + j)) = 0 then 0 else 1) (c := 1) (n := k) (fun j _ => by split <;> omega)
  unfold cD; omega
def cA (t : Nat → Nat) (e lo k : Nat) : Nat := sm (fun j => if t (e * 240 + (lo + j)) = 0 ∨ grp t (e * 240 + (lo + j)) = 0 then 0 else 1) k
theorem cA_le (t : Nat → Nat) (e lo k : Nat) : cA t e lo k ≤ k := by
  have := sm_le (f := fun j => if t (e * 240 + (lo + j)) = 0 ∨ grp t (e * 240 + (lo + j)) = 0 then 0 else 1) (c := 1) (n := k) (fun j _ => by split <;> omega)
  unfold cA; omega
/-- both tell of the day d -/
abbrev bo (t : Nat → Nat) (a b d : Nat) : Prop := t (a * 240 + d) ≠ 0 ∧ t (b * 240 + d) ≠ 0
def cB (t : Nat → Nat) (a b k : Nat) : Nat := sm (fun d => if bo t a b d then 1 else 0) k
theorem cB_le (t : Nat → Nat) (a b k : Nat) : cB t a b k ≤ k := by
  have := sm_le (f := fun d => if bo t a b d then 1 else 0) (c := 1) (n := k) (fun j _ => by split <;> omega)
  unfold cB; omega
/-- the numbers of a on the days of both, together -/
def sB (t : Nat → Nat) (a b k : Nat) : Nat := sm (fun d => if bo t a b d then num t (a * 240 + d) else 0) k
theorem sB_le {t : Nat → Nat} (h : TB t) (a b k : Nat) : sB t a b k ≤ k * 400 := by
  refine sm_le (fun j _ => ?_)
  have := num_le h (a * 240 + j)
  split <;> omega
/-- days of both on which a has more groups than g -/
def cG (t : Nat → Nat) (a b g k : Nat) : Nat := sm (fun d => if bo t a b d ∧ g < grp t (a * 240 + d) then 1 else 0) k
theorem cG_le (t : Nat → Nat) (a b g k : Nat) : cG t a b g k ≤ k := by
  have := sm_le (f := fun d => if bo t a b d ∧ g < grp t (a * 240 + d) then 1 else 0) (c := 1) (n := k) (fun j _ => by split <;> omega)
  unfold cG; omega

/-- what can be told, by the arguments -/
abbrev ctold (g k : Int32) : Prop := rg g 21 ∧ rg k 201 ∧ g.toInt ≤ k.toInt
/-- a number of a book -/
def okn (n : Nat) : Prop := n ≤ 20200 ∧ n / 1000 ≤ 20 ∧ n / 1000 ≤ n % 1000 ∧ n % 1000 ≤ 200
def okc (v : Int64) : Prop := v = -1 ∨ ∃ n : Nat, v = lN n ∧ okn n
theorem ctold_nI {g k : Nat} (hg : g < 2 ^ 31) (hk : k < 2 ^ 31) : ctold (nI g) (nI k) ↔ g ≤ 20 ∧ g ≤ k ∧ k ≤ 200 := by
  unfold ctold rg
  rw [nI_toInt hg, nI_toInt hk]
  omega
theorem okc_lN {n : Nat} (hn : n ≤ 20200) : okc (lN n) ↔ okn n := by
  constructor
  · rintro (h | ⟨k, h, hk⟩)
    · exfalso
      have h1 := congrArg Int64.toInt h
      rw [lN_toInt (by omega)] at h1
      have h2 : (-1 : Int64).toInt = -1 := by decide
      omega
    · have hk1 := hk.1
      have := (pk_lEQ (a := n) (b := k) (by omega) (by omega)).mp h
      rw [this]; exact hk
  · intro h; exact Or.inr ⟨n, rfl, h⟩
theorem okc_ex {v : Int64} (h : ¬ v < 0) (h2 : v ≤ lN 20200) : ∃ n : Nat, n ≤ 20200 ∧ v = lN n := by
  obtain ⟨k, hk, rfl⟩ := pk_lOf h
  exact ⟨k, (pk_lLE hk (by decide)).mp h2, rfl⟩
theorem okc_no {v : Int64} (h0 : ¬ v = -1) (h : v < 0 ∨ ¬ v ≤ lN 20200) : ¬ okc v := by
  rintro (e | ⟨k, e, hk⟩)
  · exact h0 e
  · subst e
    have hk1 := hk.1
    rcases h with h | h
    · have := (pk_lLT (a := k) (b := 0) (by omega) (by decide)).mp h
      omega
    · exact h ((pk_lLE (by omega) (by decide)).mpr hk1)
/-- the counts of pairs, changed by what eye e tells of the day d (sg: 1 comes, -1 goes) -/
def bdL (t : Nat → Nat) (e d : Nat) (sg : Int32) : Nat → (Nat → Int32) → (Nat → Int32)
  | 0, f => f
  | k + 1, f => if k = e ∨ t (k * 240 + d) = 0 then bdL t e d sg k f else upN (upN (bdL t e d sg k f) (e * 8 + k) (bdL t e d sg k f (e * 8 + k) + sg)) (k * 8 + e) (upN (bdL t e d sg k f) (e * 8 + k) (bdL t e d sg k f (e * 8 + k) + sg) (k * 8 + e) + sg)
def bsL (t : Nat → Nat) (e d : Nat) (sg : Int32) : Nat → (Nat → Int32) → (Nat → Int32)
  | 0, f => f
  | k + 1, f => if k = e ∨ t (k * 240 + d) = 0 then bsL t e d sg k f else upN (upN (bsL t e d sg k f) (e * 8 + k) (bsL t e d sg k f (e * 8 + k) + sg * nI (num t (e * 240 + d)))) (k * 8 + e) (upN (bsL t e d sg k f) (e * 8 + k) (bsL t e d sg k f (e * 8 + k) + sg * nI (num t (e * 240 + d))) (k * 8 + e) + sg * nI (num t (k * 240 + d)))
def cInD (t : Nat → Nat) (e d : Nat) (sg : Int32) (ey : Nat) (f : Nat → Int32) : Nat → Int32 := if t (e * 240 + d) = 0 then f else bdL t e d sg ey f
def cInS (t : Nat → Nat) (e d : Nat) (sg : Int32) (ey : Nat) (f : Nat → Int32) : Nat → Int32 := if t (e * 240 + d) = 0 then f else bsL t e d sg ey f
/-- the kept counts are the counts -/
def TT (t : Nat → Nat) (bd bs : Nat → Int32) : Prop := ∀ x y, x < 8 → y < 8 → x ≠ y → bd (x * 8 + y) = nI (cB t x y 240) ∧ bs (x * 8 + y) = nI (sB t x y 240)
def fcv (n own oth le : Nat) : Nat := if n < le ∨ own = 0 ∨ oth = 0 then 0 else if 10 ≤ oth * 1000 / own ∧ oth * 1000 / own ≤ 100000 then oth * 1000 / own + 1 else 0
/-- FACTOR of x to y: 0 if there is none, else 1 more -/
def fc (t : Nat → Nat) (le x y : Nat) : Nat := fcv (cB t x y 240) (sB t x y 240) (sB t y x 240) le
theorem fc_le (t : Nat → Nat) (le x y : Nat) : fc t le x y ≤ 100001 := by
  unfold fc fcv; split
  · omega
  · split <;> omega

/-! trays: sort + 1 (0: missing), sizes, numbers -/
def TS (so sz : Nat → Nat) : Prop := ∀ k, so k ≤ 4 ∧ sz k ≤ 60
noncomputable def wnp (so sz : Nat → Nat) (tr pl : Int32) : Nat := cif (rg tr 4) (if so (nn tr) = 0 then 2 else cif (rg pl (sz (nn tr))) 0 3) 1
def cutF (k : Nat) (v : Int64) : Int64 := if k = 0 then v.toInt32.toInt8.toInt32.toInt64 else if k = 1 then v.toInt32.toInt16.toInt32.toInt64 else if k = 2 then v.toInt32.toInt64 else v
/-- the places lo to hi - 1 hold v -/
def fil {α : Type} (f : Nat → α) (v : α) (lo hi : Nat) : Nat → α := fun i => if lo ≤ i ∧ i < hi then v else f i
theorem fil_0 {α : Type} (f : Nat → α) (v : α) (lo : Nat) : fil f v lo lo = f := by
  funext i; unfold fil; rw [if_neg (by omega)]
theorem fil_s {α : Type} (f : Nat → α) (v : α) {lo k : Nat} (h : lo ≤ k) : upN (fil f v lo k) k v = fil f v lo (k + 1) := by
  funext i; unfold fil upN
  by_cases e : i = k
  · subst e; rw [if_pos rfl, if_pos (by omega)]
  · rw [if_neg e]
    show (if lo ≤ i ∧ i < k then v else f i) = _
    by_cases e2 : lo ≤ i ∧ i < k
    · rw [if_pos e2, if_pos (by omega)]
    · rw [if_neg e2, if_neg (by omega)]
noncomputable def wpo (so sz : Nat → Nat) (fr pl to at' mn : Int32) : Nat := cif (rg fr 4 ∧ rg to 4 ∧ ¬ pl < 0 ∧ ¬ at' < 0 ∧ ¬ mn < 0) (if so (nn fr) = 0 ∨ so (nn to) = 0 then 2 else if so (nn fr) ≠ so (nn to) then 7 else if nn pl + nn mn ≤ sz (nn fr) ∧ nn at' + nn mn ≤ sz (nn to) then 0 else 3) 1
/-- two steps of Euclid halve -/
theorem mod_half {g r : Nat} (h0 : 0 < r) (h : r ≤ g) : 2 * (g % r) ≤ g := by
  have h1 := Nat.div_add_mod g r
  have h2 := Nat.mod_lt g h0
  have h3 : 1 ≤ g / r := (Nat.one_le_div_iff h0).mpr h
  have h4 : r * 1 ≤ r * (g / r) := Nat.mul_le_mul_left r h3
  omega
theorem euc_r {i g r y : Nat} (hq : i = 0 ∨ (r ≤ g ∧ g * 2 ^ ((i - 1) / 2) ≤ y)) (hr : r * 2 ^ (i / 2) ≤ y) (h0 : 0 < r) : g % r * 2 ^ ((i + 1) / 2) ≤ y := by
  have hm := Nat.mod_lt g h0
  rcases Nat.mod_two_eq_zero_or_one i with e | e
  · have e2 : (i + 1) / 2 = i / 2 := by omega
    rw [e2]
    exact Nat.le_trans (Nat.mul_le_mul_right _ (Nat.le_of_lt hm)) hr
  · rcases hq with z | ⟨h1, h2⟩
    · omega
    · have e2 : (i + 1) / 2 = (i - 1) / 2 + 1 := by omega
      rw [e2, Nat.pow_succ]
      have h3 := mod_half h0 h1
      have h4 : (2 * (g % r)) * 2 ^ ((i - 1) / 2) ≤ g * 2 ^ ((i - 1) / 2) := Nat.mul_le_mul_right _ h3
      have h5 : g % r * (2 ^ ((i - 1) / 2) * 2) = 2 * (g % r) * 2 ^ ((i - 1) / 2) := by
        rw [Nat.mul_comm (2 ^ ((i - 1) / 2)) 2, ← Nat.mul_assoc, Nat.mul_comm (g % r) 2]
      omega
theorem euc_g {i g r y : Nat} (hr : r * 2 ^ (i / 2) ≤ y) (h0 : 0 < r) : i + 1 = 0 ∨ (g % r ≤ r ∧ r * 2 ^ ((i + 1 - 1) / 2) ≤ y) := Or.inr ⟨Nat.le_of_lt (Nat.mod_lt g h0), hr⟩
theorem euc_64 {i r y : Nat} (hy : y < 2 ^ 31) (hi : 64 ≤ i) (hr : r * 2 ^ (i / 2) ≤ y) : r = 0 := by
  rcases Nat.eq_zero_or_pos r with e | e
  · exact e
  · have h1 : 2 ^ 32 ≤ 2 ^ (i / 2) := Nat.pow_le_pow_right (by decide) (by omega)
    have h2 : 1 * 2 ^ (i / 2) ≤ r * 2 ^ (i / 2) := Nat.mul_le_mul_right _ e
    omega
