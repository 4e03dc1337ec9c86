/-! the reference with one eye left out: u is what it sees -/
def UW (t u : Nat → Nat) (wo : Nat) : Prop := ∀ x d, d < 240 → u (x * 240 + d) = if wo = x + 1 then 0 else t (x * 240 + d)
theorem UW_0 (t : Nat → Nat) : UW t t 0 := fun x d _ => by rw [if_neg (by omega)]
theorem UW_ne {t u : Nat → Nat} {wo x d : Nat} (h : UW t u wo) (hd : d < 240) : u (x * 240 + d) ≠ 0 ↔ (wo ≠ x + 1 ∧ t (x * 240 + d) ≠ 0) := by
  rw [h x d hd]
  by_cases q : wo = x + 1
  · rw [if_pos q]; exact ⟨fun z => absurd rfl z, fun z => absurd q z.1⟩
  · rw [if_neg q]; exact ⟨fun z => ⟨q, z⟩, fun z => z.2⟩
theorem UW_t {t u : Nat → Nat} {wo x d : Nat} (h : UW t u wo) (hd : d < 240) (hn : u (x * 240 + d) ≠ 0) : t (x * 240 + d) ≠ 0 := ((UW_ne h hd).mp hn).2
theorem UW_num {t u : Nat → Nat} {wo x d : Nat} (h : UW t u wo) (hd : d < 240) (hn : u (x * 240 + d) ≠ 0) : num t (x * 240 + d) = num u (x * 240 + d) := by
  have h1 := h x d hd
  rw [if_neg ((UW_ne h hd).mp hn).1] at h1
  unfold num grp spt; rw [h1]
theorem cG_20 {t : Nat → Nat} (tb : TB t) (a b : Nat) {g : Nat} (hg : 20 ≤ g) (n : Nat) : cG t a b g n = 0 := sm_0 (fun d _ => by
  have := grp_le tb (a * 240 + d)
  rw [if_neg (by omega)])
theorem blin_stop {t : Nat → Nat} {x y seen n k : Nat} (h : ¬ (k < 20 ∧ seen < cG t y x k 240)) : blin t x y seen n k = k := by
  cases n with
  | zero => rfl
  | succ n => rw [blin, if_neg h]
theorem wid_no {x : Int32} (h1 : ¬ x = nI 1) (h3 : ¬ x = nI 3) (h5 : ¬ x = nI 5) (h7 : x ≠ nI 7) : ¬ wid x := by
  rintro ⟨a, b⟩
  obtain ⟨j, hj, rfl⟩ := rg2_ex a
  rw [nn_nI (by omega)] at b
  rcases (show j = 1 ∨ j = 3 ∨ j = 5 ∨ j = 7 by omega) with rfl | rfl | rfl | rfl
  · exact h1 rfl
  · exact h3 rfl
  · exact h5 rfl
  · exact h7 rfl
