/-! steps: levels, blocks that are pooled, the line below all points -/
def lS (t : Nat → Nat) (x y k g : Nat) : Nat := sm (fun d => if bo t x y d ∧ grp t (x * 240 + d) = g then grp t (y * 240 + d) else 0) k
def lD (t : Nat → Nat) (x y k g : Nat) : Nat := sm (fun d => if bo t x y d ∧ grp t (x * 240 + d) = g then 1 else 0) k
theorem lS_y {t : Nat → Nat} {x y k : Nat} (h : bo t x y k) : upN (lS t x y k) (grp t (x * 240 + k)) (lS t x y k (grp t (x * 240 + k)) + grp t (y * 240 + k)) = lS t x y (k + 1) := by
  funext g
  show _ = lS t x y k g + (if bo t x y k ∧ grp t (x * 240 + k) = g then grp t (y * 240 + k) else 0)
  unfold upN
  by_cases q : g = grp t (x * 240 + k)
  · subst q; rw [if_pos rfl, if_pos ⟨h, rfl⟩]
  · rw [if_neg q, if_neg (fun z => q z.2.symm)]; rfl
theorem lD_y {t : Nat → Nat} {x y k : Nat} (h : bo t x y k) : upN (lD t x y k) (grp t (x * 240 + k)) (lD t x y k (grp t (x * 240 + k)) + 1) = lD t x y (k + 1) := by
  funext g
  show _ = lD t x y k g + (if bo t x y k ∧ grp t (x * 240 + k) = g then 1 else 0)
  unfold upN
  by_cases q : g = grp t (x * 240 + k)
  · subst q; rw [if_pos rfl, if_pos ⟨h, rfl⟩]
  · rw [if_neg q, if_neg (fun z => q z.2.symm)]; rfl
theorem lS_n {t : Nat → Nat} {x y k : Nat} (h : ¬ bo t x y k) : lS t x y (k + 1) = lS t x y k := by
  funext g
  show lS t x y k g + (if bo t x y k ∧ grp t (x * 240 + k) = g then grp t (y * 240 + k) else 0) = _
  rw [if_neg (fun z => h z.1)]; rfl
theorem lD_n {t : Nat → Nat} {x y k : Nat} (h : ¬ bo t x y k) : lD t x y (k + 1) = lD t x y k := by
  funext g
  show lD t x y k g + (if bo t x y k ∧ grp t (x * 240 + k) = g then 1 else 0) = _
  rw [if_neg (fun z => h z.1)]; rfl
/-- the levels together are at most the days -/
theorem lD_sum (t : Nat → Nat) (x y : Nat) (n : Nat) : ∀ k, sm (lD t x y k) n ≤ k
  | 0 => by rw [sm_0 (f := lD t x y 0) (fun _ _ => rfl)]; omega
  | k + 1 => by
    have ih := lD_sum t x y n k
    by_cases h : bo t x y k
    · rw [← lD_y h]
      rcases Nat.lt_or_ge (grp t (x * 240 + k)) n with q | q
      · have := sm_chg (f := lD t x y k) (g := upN (lD t x y k) (grp t (x * 240 + k)) (lD t x y k (grp t (x * 240 + k)) + 1)) q (fun j _ hj => upN_n hj)
        rw [upN_s] at this
        omega
      · rw [sm_cong (g := lD t x y k) (fun j hj => upN_n (by omega))]; omega
    · rw [lD_n h]; omega
theorem lS_lD {t : Nat → Nat} (tb : TB t) (x y k g : Nat) : lS t x y k g ≤ lD t x y k g * 20 := by
  refine sm_le2 (fun d _ => ?_)
  have := grp_le tb (y * 240 + d)
  split <;> omega
theorem sm_mono (f : Nat → Nat) {a b : Nat} (h : a ≤ b) : sm f a ≤ sm f b := by
  induction b with
  | zero => rw [show a = 0 from by omega]; exact Nat.le_refl _
  | succ b ih =>
    rcases Nat.lt_or_ge b a with q | q
    · rw [show a = b + 1 from by omega]; exact Nat.le_refl _
    · rw [sm_s]; have := ih q; omega
/-- the end of block j -/
def en (bF : Nat → Nat) (n g j : Nat) : Nat := if j + 1 < n then bF (j + 1) else g
/-- the blocks before level g; their means don't fall up to the m-th -/
def PV (S D bS bD bF : Nat → Nat) (n g m : Nat) : Prop :=
  (n ≤ g ∧ ∀ j, j < n → bF j < en bF n g j) ∧ (∀ j, j < n → 0 < D (bF j) ∧ 0 < bD j ∧ bF j < g) ∧
  (∀ j, j < n → sm D (en bF n g j) = sm D (bF j) + bD j ∧ sm S (en bF n g j) = sm S (bF j) + bS j) ∧
  ((n = 0 → sm D g = 0 ∧ sm S g = 0) ∧ (0 < n → sm D (bF 0) = 0 ∧ sm S (bF 0) = 0)) ∧
  (∀ j, j < n → ∀ c, bF j ≤ c → c ≤ en bF n g j → bS j * sm D c + sm S (bF j) * bD j ≤ sm S c * bD j + bS j * sm D (bF j)) ∧
  (∀ j, j + 1 < m → bS j * bD (j + 1) ≤ bS (j + 1) * bD j)
theorem PV_0 (S D bS bD bF : Nat → Nat) : PV S D bS bD bF 0 0 0 := ⟨⟨Nat.le_refl 0, fun j h => absurd h (Nat.not_lt_zero j)⟩, fun j h => absurd h (Nat.not_lt_zero j), fun j h => absurd h (Nat.not_lt_zero j), ⟨fun _ => ⟨rfl, rfl⟩, fun h => absurd h (Nat.lt_irrefl 0)⟩, fun j h => absurd h (Nat.not_lt_zero j), fun j h => absurd h (Nat.not_lt_zero _)⟩
theorem en_l {bF : Nat → Nat} {n g j : Nat} (h : ¬ j + 1 < n) : en bF n g j = g := if_neg h
theorem en_i {bF : Nat → Nat} {n g j : Nat} (h : j + 1 < n) : en bF n g j = bF (j + 1) := if_pos h
theorem PV_skip {S D bS bD bF : Nat → Nat} {n g m : Nat} (h : PV S D bS bD bF n g m) (hd : D g = 0) (hs : S g = 0) : PV S D bS bD bF n (g + 1) m := by
  obtain ⟨⟨h1, h1b⟩, h2, h3, h4, h5, h6⟩ := h
  have d1 : sm D (g + 1) = sm D g := by rw [sm_s, hd]; rfl
  have s1 : sm S (g + 1) = sm S g := by rw [sm_s, hs]; rfl
  refine ⟨⟨by omega, fun j hj => ?_⟩, fun j hj => ⟨(h2 j hj).1, (h2 j hj).2.1, Nat.lt_succ_of_lt (h2 j hj).2.2⟩, fun j hj => ?_, ⟨fun z => by rw [d1, s1]; exact h4.1 z, h4.2⟩, fun j hj c c1 c2 => ?_, h6⟩
  · by_cases q : j + 1 < n
    · have := h1b j hj; rw [en_i q] at this ⊢; exact this
    · rw [en_l q]; have := (h2 j hj).2.2; omega
  · by_cases q : j + 1 < n
    · have := h3 j hj; rw [en_i q] at this ⊢; exact this
    · have := h3 j hj; rw [en_l q] at this ⊢; rw [d1, s1]; exact this
  · by_cases q : j + 1 < n
    · rw [en_i q] at c2
      exact h5 j hj c c1 (by rw [en_i q]; exact c2)
    · rw [en_l q] at c2
      rcases Nat.lt_or_ge c (g + 1) with z | z
      · exact h5 j hj c c1 (by rw [en_l q]; omega)
      · have e1 : c = g + 1 := by omega
        subst e1
        rw [d1, s1]
        have := (h2 j hj).2.2
        exact h5 j hj g (by omega) (by rw [en_l q]; exact Nat.le_refl g)
theorem PV_push {S D bS bD bF : Nat → Nat} {n g : Nat} (h : PV S D bS bD bF n g n) (hd : 0 < D g) : PV S D (upN bS n (S g)) (upN bD n (D g)) (upN bF n g) (n + 1) (g + 1) n := by
  obtain ⟨⟨h1, h1b⟩, h2, h3, h4, h5, h6⟩ := h
  have old : ∀ j, j < n → en (upN bF n g) (n + 1) (g + 1) j = en bF n g j := by
    intro j hj
    rw [en_i (by omega)]
    by_cases q : j + 1 < n
    · rw [en_i q, upN_n (by omega)]
    · rw [en_l q, show j + 1 = n from by omega, upN_s]
  have neu : en (upN bF n g) (n + 1) (g + 1) n = g + 1 := en_l (by omega)
  refine ⟨⟨by omega, fun j hj => ?_⟩, fun j hj => ?_, fun j hj => ?_, ⟨fun z => by omega, fun _ => ?_⟩, fun j hj c c1 c2 => ?_, fun j hj => ?_⟩
  · by_cases q : j = n
    · subst q; rw [neu, upN_s]; omega
    · rw [old j (by omega), upN_n q]; exact h1b j (by omega)
  · by_cases q : j = n
    · subst q; rw [upN_s, upN_s]; exact ⟨hd, hd, by omega⟩
    · rw [upN_n q, upN_n q]; have := h2 j (by omega); exact ⟨this.1, this.2.1, by omega⟩
  · by_cases q : j = n
    · subst q; rw [neu, upN_s, upN_s, upN_s]; exact ⟨rfl, rfl⟩
    · rw [old j (by omega), upN_n q, upN_n q, upN_n q]; exact h3 j (by omega)
  · by_cases q : n = 0
    · subst q; rw [upN_s]; exact h4.1 rfl
    · rw [upN_n (by omega)]; exact h4.2 (by omega)
  · by_cases q : j = n
    · subst q
      rw [neu] at c2
      rw [upN_s] at c1
      rw [upN_s, upN_s, upN_s]
      rcases Nat.lt_or_ge c (g + 1) with z | z
      · rw [show c = g from by omega]; omega
      · rw [show c = g + 1 from by omega, sm_s, sm_s, Nat.mul_add, Nat.add_mul]
        have : S g * D g = D g * S g := Nat.mul_comm _ _
        omega
    · rw [old j (by omega)] at c2
      rw [upN_n q] at c1
      rw [upN_n q, upN_n q, upN_n q]
      exact h5 j (by omega) c c1 c2
  · rw [upN_n (by omega), upN_n (by omega), upN_n (by omega), upN_n (by omega)]
    exact h6 j hj
/-- numbers of a merge: within the first block -/
theorem mg_1 {a b c d xc xi yc yi : Nat} (hb : 0 < b) (hf : c * b ≤ a * d) (h : a * xc + yi * b ≤ yc * b + a * xi) (hx : xi ≤ xc) : (a + c) * xc + yi * (b + d) ≤ yc * (b + d) + (a + c) * xi := by
  obtain ⟨x, rfl⟩ : ∃ x, xc = xi + x := ⟨xc - xi, by omega⟩
  have h1 : a * x + yi * b ≤ yc * b := by rw [Nat.mul_add] at h; omega
  have h2 : b * (c * x + yi * d) ≤ b * (yc * d) := by
    have k1 : c * b * x ≤ a * d * x := Nat.mul_le_mul_right x hf
    have k2 : (a * x + yi * b) * d ≤ yc * b * d := Nat.mul_le_mul_right d h1
    have e1 : b * (c * x + yi * d) = c * b * x + yi * b * d := by
      rw [Nat.mul_add]; congr 1
      · rw [← Nat.mul_assoc, Nat.mul_comm b c]
      · rw [← Nat.mul_assoc, Nat.mul_comm b yi]
    have e2 : a * d * x = a * x * d := by rw [Nat.mul_assoc, Nat.mul_comm d x, ← Nat.mul_assoc]
    have e3 : b * (yc * d) = yc * b * d := by rw [← Nat.mul_assoc, Nat.mul_comm b yc]
    rw [Nat.add_mul] at k2
    omega
  have h3 := Nat.le_of_mul_le_mul_left h2 hb
  simp only [Nat.mul_add, Nat.add_mul]
  omega
/-- within the second -/
theorem mg_2 {a b c d xc xi yc yi : Nat} (hd : 0 < d) (hf : c * b ≤ a * d) (h : c * xc + (yi + a) * d ≤ yc * d + c * (xi + b)) (hx : xc ≤ xi + b + d) (hx2 : xi + b ≤ xc) : (a + c) * xc + yi * (b + d) ≤ yc * (b + d) + (a + c) * xi := by
  obtain ⟨x, rfl⟩ : ∃ x, xc = xi + b + x := ⟨xc - (xi + b), by omega⟩
  obtain ⟨w, rfl⟩ : ∃ w, d = x + w := ⟨d - x, by omega⟩
  -- c x + (yi + a) d ≤ yc d
  have h1 : c * x + (yi + a) * (x + w) ≤ yc * (x + w) := by rw [Nat.mul_add c (xi + b) x] at h; omega
  -- wanted: a x + c b + c x + yi (b + d) + a b ≤ yc (b + d), by d > 0
  have k1 : c * b * w ≤ a * (x + w) * w := Nat.mul_le_mul_right w hf
  have k2 : (c * x + (yi + a) * (x + w)) * b ≤ yc * (x + w) * b := Nat.mul_le_mul_right b h1
  have h2 : (x + w) * (c * b + yi * b + a * b) ≤ (x + w) * (yc * b + a * w) := by
    have e1 : (x + w) * (c * b + yi * b + a * b) = c * b * x + c * b * w + (yi + a) * (x + w) * b := by
      simp only [Nat.mul_add, Nat.add_mul, Nat.mul_comm, Nat.mul_left_comm, Nat.mul_assoc]; omega
    have e2 : (x + w) * (yc * b + a * w) = yc * (x + w) * b + a * (x + w) * w := by
      simp only [Nat.mul_add, Nat.add_mul, Nat.mul_comm, Nat.mul_left_comm, Nat.mul_assoc]
    have e3 : (c * x + (yi + a) * (x + w)) * b = c * b * x + (yi + a) * (x + w) * b := by
      simp only [Nat.mul_add, Nat.add_mul, Nat.mul_comm, Nat.mul_left_comm, Nat.mul_assoc]
    omega
  have h3 := Nat.le_of_mul_le_mul_left h2 hd
  have g1 : (a + c) * (xi + b + x) = (a + c) * xi + a * b + a * x + c * b + c * x := by simp only [Nat.mul_add, Nat.add_mul]; omega
  have g2 : (yi + a) * (x + w) = yi * (x + w) + a * x + a * w := by simp only [Nat.mul_add, Nat.add_mul]; omega
  have g3 : yi * (b + (x + w)) = yi * b + yi * (x + w) := Nat.mul_add _ _ _
  have g4 : yc * (b + (x + w)) = yc * b + yc * (x + w) := Nat.mul_add _ _ _
  omega
theorem PV_join {S D bS bD bF : Nat → Nat} {n g : Nat} (hn : 2 ≤ n) (h : PV S D bS bD bF n g (n - 1)) (hf : bS (n - 1) * bD (n - 2) < bS (n - 2) * bD (n - 1)) : PV S D (upN bS (n - 2) (bS (n - 2) + bS (n - 1))) (upN bD (n - 2) (bD (n - 2) + bD (n - 1))) bF (n - 1) g (n - 1 - 1) := by
  obtain ⟨⟨h1, h1b⟩, h2, h3, h4, h5, h6⟩ := h
  have old : ∀ j, j < n - 2 → en bF (n - 1) g j = en bF n g j := by
    intro j hj; rw [en_i (by omega), en_i (by omega)]
  have neu : en bF (n - 1) g (n - 2) = g := en_l (by omega)
  have a1 := h3 (n - 2) (by omega)
  have a2 := h3 (n - 1) (by omega)
  rw [en_i (by omega), show n - 2 + 1 = n - 1 from by omega] at a1
  rw [en_l (by omega)] at a2
  have b1 := h2 (n - 2) (by omega)
  have b2 := h2 (n - 1) (by omega)
  have b3 := h1b (n - 2) (by omega)
  rw [en_i (by omega), show n - 2 + 1 = n - 1 from by omega] at b3
  refine ⟨⟨by omega, fun j hj => ?_⟩, fun j hj => ?_, fun j hj => ?_, ⟨fun z => by omega, fun _ => h4.2 (by omega)⟩, fun j hj c c1 c2 => ?_, fun j hj => ?_⟩
  · by_cases q : j = n - 2
    · subst q; rw [neu]; exact b1.2.2
    · rw [old j (by omega)]; exact h1b j (by omega)
  · by_cases q : j = n - 2
    · subst q; rw [upN_s]; exact ⟨b1.1, by omega, b1.2.2⟩
    · rw [upN_n q]; exact h2 j (by omega)
  · by_cases q : j = n - 2
    · subst q; rw [neu, upN_s, upN_s]; omega
    · rw [old j (by omega), upN_n q, upN_n q]; exact h3 j (by omega)
  · by_cases q : j = n - 2
    · subst q
      rw [neu] at c2
      rw [upN_s, upN_s]
      rcases Nat.lt_or_ge (bF (n - 1)) c with z | z
      · have k1 := h5 (n - 1) (by omega) c (by omega) (by rw [en_l (by omega)]; exact c2)
        have m1 := sm_mono D (show bF (n - 1) ≤ c by omega)
        have m2 := sm_mono D c2
        refine mg_2 b2.2.1 (Nat.le_of_lt hf) ?_ ?_ ?_
        · rw [← a1.1, ← a1.2]; exact k1
        · omega
        · omega
      · have k1 := h5 (n - 2) (by omega) c c1 (by rw [en_i (by omega), show n - 2 + 1 = n - 1 from by omega]; exact z)
        exact mg_1 b1.2.1 (Nat.le_of_lt hf) k1 (sm_mono D c1)
    · rw [old j (by omega)] at c2
      rw [upN_n q, upN_n q]
      exact h5 j (by omega) c c1 c2
  · rw [upN_n (by omega), upN_n (by omega), upN_n (by omega), upN_n (by omega)]
    exact h6 j (by omega)
theorem PV_ok {S D bS bD bF : Nat → Nat} {n g : Nat} (h : PV S D bS bD bF n g (n - 1)) (hf : n < 2 ∨ ¬ bS (n - 1) * bD (n - 2) < bS (n - 2) * bD (n - 1)) : PV S D bS bD bF n g n := by
  obtain ⟨h1, h2, h3, h4, h5, h6⟩ := h
  refine ⟨h1, h2, h3, h4, h5, fun j hj => ?_⟩
  rcases Nat.lt_or_ge (j + 1) (n - 1) with q | q
  · exact h6 j q
  · rcases hf with z | z
    · omega
    · have e1 : j = n - 2 := by omega
      rw [e1, show n - 2 + 1 = n - 1 from by omega]
      omega
theorem ln_hi {a b u l xc xi yc yi xq yq : Nat} (hb : 0 < b) (h1 : a * xc + yi * b ≤ yc * b + a * xi) (h2 : u * b ≤ a * l) (h3 : xi ≤ xc) (h4 : u * xi + yq * l ≤ yi * l + u * xq) : u * xc + yq * l ≤ yc * l + u * xq := by
  obtain ⟨x, rfl⟩ : ∃ x, xc = xi + x := ⟨xc - xi, by omega⟩
  have k0 : a * x + yi * b ≤ yc * b := by rw [Nat.mul_add] at h1; omega
  have k1 : u * b * x ≤ a * l * x := Nat.mul_le_mul_right x h2
  have k2 : (a * x + yi * b) * l ≤ yc * b * l := Nat.mul_le_mul_right l k0
  have h5 : b * (u * x + yi * l) ≤ b * (yc * l) := by
    have e1 : b * (u * x + yi * l) = u * b * x + yi * b * l := by
      rw [Nat.mul_add]; congr 1
      · rw [← Nat.mul_assoc, Nat.mul_comm b u]
      · rw [← Nat.mul_assoc, Nat.mul_comm b yi]
    have e2 : a * l * x = a * x * l := by rw [Nat.mul_assoc, Nat.mul_comm l x, ← Nat.mul_assoc]
    have e3 : b * (yc * l) = yc * b * l := by rw [← Nat.mul_assoc, Nat.mul_comm b yc]
    rw [Nat.add_mul] at k2
    omega
  have h6 := Nat.le_of_mul_le_mul_left h5 hb
  rw [Nat.mul_add]
  omega
theorem ln_lo {a b u l xc xi yc yi xq yq : Nat} (hb : 0 < b) (h1 : a * xc + yi * b ≤ yc * b + a * xi) (h2 : a * l ≤ u * b) (h3 : xc ≤ xi + b) (h4 : u * (xi + b) + yq * l ≤ (yi + a) * l + u * xq) : u * xc + yq * l ≤ yc * l + u * xq := by
  obtain ⟨w, hw⟩ : ∃ w, xi + b = xc + w := ⟨xi + b - xc, by omega⟩
  have k0 : (yi + a) * b ≤ yc * b + a * w := by
    have e1 : a * (xi + b) = a * (xc + w) := by rw [hw]
    simp only [Nat.mul_add, Nat.add_mul] at e1 h1 ⊢
    omega
  have k1 : a * l * w ≤ u * b * w := Nat.mul_le_mul_right w h2
  have k2 : (yi + a) * b * l ≤ (yc * b + a * w) * l := Nat.mul_le_mul_right l k0
  have h5 : b * ((yi + a) * l) ≤ b * (yc * l + u * w) := by
    have e1 : b * ((yi + a) * l) = (yi + a) * b * l := by rw [← Nat.mul_assoc, Nat.mul_comm b (yi + a)]
    have e2 : (yc * b + a * w) * l = yc * b * l + a * l * w := by
      rw [Nat.add_mul]; congr 1
      rw [Nat.mul_assoc, Nat.mul_comm w l, ← Nat.mul_assoc]
    have e3 : b * (yc * l + u * w) = yc * b * l + u * b * w := by
      rw [Nat.mul_add]; congr 1
      · rw [← Nat.mul_assoc, Nat.mul_comm b yc]
      · rw [← Nat.mul_assoc, Nat.mul_comm b u]
    omega
  have h6 := Nat.le_of_mul_le_mul_left h5 hb
  rw [hw, Nat.mul_add] at h4
  omega
theorem sl_le {bS bD : Nat → Nat} {n : Nat} (hm : ∀ j, j + 1 < n → bS j * bD (j + 1) ≤ bS (j + 1) * bD j) (hp : ∀ j, j < n → 0 < bD j) (i : Nat) : ∀ k, i + k < n → bS i * bD (i + k) ≤ bS (i + k) * bD i
  | 0, _ => Nat.le_refl _
  | k + 1, h => cr_tr (hp (i + k) (by omega)) (sl_le hm hp i k (by omega)) (hm (i + k) (by omega))
/-- no point lies below a block's line -/
theorem PV_sup {S D bS bD bF : Nat → Nat} {n g : Nat} (h : PV S D bS bD bF n g n) {j : Nat} (hj : j < n) {c : Nat} (hc0 : bF 0 ≤ c) (hc : c ≤ g) : bS j * sm D c + sm S (bF j) * bD j ≤ sm S c * bD j + bS j * sm D (bF j) := by
  obtain ⟨⟨h1, h1b⟩, h2, h3, h4, h5, h6⟩ := h
  have hp : ∀ i, i < n → 0 < bD i := fun i hi => (h2 i hi).2.1
  -- the blocks' beginnings behind j
  have r1 : ∀ k, j + k < n → bS j * sm D (bF (j + k)) + sm S (bF j) * bD j ≤ sm S (bF (j + k)) * bD j + bS j * sm D (bF j) := by
    intro k
    induction k with
    | zero => intro _; rw [Nat.add_zero]; omega
    | succ k ih =>
      intro hk
      have i1 := ih (by omega)
      have e1 := h3 (j + k) (by omega)
      rw [en_i (by omega), show j + k + 1 = j + (k + 1) from by omega] at e1
      refine ln_hi (hp (j + k) (by omega)) (a := bS (j + k)) (xi := sm D (bF (j + k))) (yi := sm S (bF (j + k))) ?_ (sl_le h6 hp j k (by omega)) (by omega) i1
      exact h5 (j + k) (by omega) _ (by have := h1b (j + k) (by omega); rw [en_i (by omega), show j + k + 1 = j + (k + 1) from by omega] at this; omega) (by rw [en_i (by omega), show j + k + 1 = j + (k + 1) from by omega]; exact Nat.le_refl _)
  -- and ahead of it
  have r2 : ∀ k, k ≤ j → bS j * sm D (bF (j - k)) + sm S (bF j) * bD j ≤ sm S (bF (j - k)) * bD j + bS j * sm D (bF j) := by
    intro k
    induction k with
    | zero => intro _; rw [Nat.sub_zero]; omega
    | succ k ih =>
      intro hk
      have i1 := ih (by omega)
      have e1 := h3 (j - (k + 1)) (by omega)
      rw [en_i (by omega), show j - (k + 1) + 1 = j - k from by omega] at e1
      rw [e1.1, e1.2] at i1
      have s1 := sl_le h6 hp (j - (k + 1)) (k + 1) (by omega)
      rw [show j - (k + 1) + (k + 1) = j from by omega] at s1
      refine ln_lo (hp (j - (k + 1)) (by omega)) (a := bS (j - (k + 1))) (xi := sm D (bF (j - (k + 1)))) (yi := sm S (bF (j - (k + 1)))) (by omega) s1 (by omega) i1
  -- the block of c
  have hb : ∀ k, k < n → c ≤ en bF n g k → ∃ i, i ≤ k ∧ bF i ≤ c ∧ c ≤ en bF n g i := by
    intro k
    induction k with
    | zero => intro hk hce; exact ⟨0, Nat.le_refl 0, hc0, hce⟩
    | succ k ih =>
      intro hk hce
      rcases Nat.lt_or_ge c (bF (k + 1)) with z | z
      · obtain ⟨i, a1, a2, a3⟩ := ih (by omega) (by rw [en_i (by omega)]; omega)
        exact ⟨i, by omega, a2, a3⟩
      · exact ⟨k + 1, Nat.le_refl _, z, hce⟩
  obtain ⟨i, a1, a2, a3⟩ := hb (n - 1) (by omega) (by rw [en_l (by omega)]; exact hc)
  have hin : i < n := by omega
  have k5 := h5 i hin c a2 a3
  rcases Nat.lt_or_ge i j with z | z
  · have e1 := h3 i hin
    have i1 := r2 (j - (i + 1)) (by omega)
    rw [show j - (j - (i + 1)) = i + 1 from by omega] at i1
    rw [en_i (by omega)] at e1
    rw [e1.1, e1.2] at i1
    have s1 := sl_le h6 hp i (j - i) (by omega)
    rw [show i + (j - i) = j from by omega] at s1
    have m1 := sm_mono D a3
    rw [en_i (by omega)] at m1
    exact ln_lo (hp i hin) k5 s1 (by omega) i1
  · have i1 := r1 (i - j) (by omega)
    rw [show j + (i - j) = i from by omega] at i1
    have s1 := sl_le h6 hp j (i - j) (by omega)
    rw [show j + (i - j) = i from by omega] at s1
    exact ln_hi (hp i hin) k5 s1 (sm_mono D a2) i1
/-- the value of a step, by its property -/
def SPX (S D : Nat → Nat) (g : Nat) (q : Nat × Nat) : Prop := 0 < q.2 ∧
  (∃ a, a ≤ g ∧ 0 < D a ∧ ∀ b, g ≤ b → b ≤ 20 → 0 < D b → q.1 * (sm D (b + 1) - sm D a) ≤ (sm S (b + 1) - sm S a) * q.2) ∧
  (∀ a, a ≤ g → 0 < D a → ∃ b, g ≤ b ∧ b ≤ 20 ∧ 0 < D b ∧ (sm S (b + 1) - sm S a) * q.2 ≤ q.1 * (sm D (b + 1) - sm D a))
theorem SPX_one {S D : Nat → Nat} {g u l u2 l2 : Nat} (h : SPX S D g (u, l)) (h2 : SPX S D g (u2, l2)) : u2 * l ≤ u * l2 := by
  obtain ⟨-, ⟨a, a1, a2, a3⟩, -⟩ := h2
  obtain ⟨-, -, hB⟩ := h
  obtain ⟨b, b1, b2, b3, b4⟩ := hB a a1 a2
  have c1 := a3 b b1 b2 b3
  have c2 : 0 < sm D (b + 1) - sm D a := by
    have m1 := sm_mono D (show a + 1 ≤ b + 1 by omega)
    rw [sm_s] at m1
    omega
  exact cr_tr c2 c1 b4
noncomputable def stU (S D : Nat → Nat) (g : Nat) : Nat := (anyOf (SPX S D g)).1 / Nat.gcd (anyOf (SPX S D g)).1 (anyOf (SPX S D g)).2
noncomputable def stL (S D : Nat → Nat) (g : Nat) : Nat := (anyOf (SPX S D g)).2 / Nat.gcd (anyOf (SPX S D g)).1 (anyOf (SPX S D g)).2
theorem st_eq {S D : Nat → Nat} {g u l : Nat} (h : SPX S D g (u, l)) : u / Nat.gcd u l = stU S D g ∧ l / Nat.gcd u l = stL S D g := by
  have h2 := anyOf_ok h
  generalize he : anyOf (SPX S D g) = q at h2
  obtain ⟨u2, l2⟩ := q
  have a1 : u2 * l ≤ u * l2 := SPX_one h h2
  have a2 : u * l2 ≤ u2 * l := SPX_one h2 h
  unfold stU stL
  rw [he]
  exact red_eq h.1 h2.1 (Nat.le_antisymm a2 a1)
/-- the greatest level not above g that there is: 0 if none, else 1 more -/
def efl (D : Nat → Nat) : Nat → Nat
  | 0 => if D 0 = 0 then 0 else 1
  | g + 1 => if D (g + 1) = 0 then efl D g else g + 2
theorem efl_0 {D : Nat → Nat} : ∀ {g : Nat}, efl D g = 0 → ∀ i, i ≤ g → D i = 0
  | 0, h, i, hi => by
    unfold efl at h
    rw [show i = 0 from by omega]
    by_cases q : D 0 = 0
    · exact q
    · rw [if_neg q] at h; cases h
  | g + 1, h, i, hi => by
    unfold efl at h
    by_cases q : D (g + 1) = 0
    · rw [if_pos q] at h
      rcases Nat.lt_or_ge i (g + 1) with z | z
      · exact efl_0 h i (by omega)
      · rw [show i = g + 1 from by omega]; exact q
    · rw [if_neg q] at h; cases h
theorem efl_s {D : Nat → Nat} : ∀ {g : Nat}, efl D g ≠ 0 → efl D g - 1 ≤ g ∧ 0 < D (efl D g - 1) ∧ ∀ i, efl D g - 1 < i → i ≤ g → D i = 0
  | 0, h => by
    unfold efl at h ⊢
    by_cases q : D 0 = 0
    · rw [if_pos q] at h; exact absurd rfl h
    · rw [if_neg q]; exact ⟨by omega, Nat.pos_of_ne_zero q, fun i h1 h2 => by omega⟩
  | g + 1, h => by
    unfold efl at h ⊢
    by_cases q : D (g + 1) = 0
    · rw [if_pos q] at h ⊢
      obtain ⟨a1, a2, a3⟩ := efl_s h
      refine ⟨by omega, a2, fun i h1 h2 => ?_⟩
      rcases Nat.lt_or_ge i (g + 1) with z | z
      · exact a3 i h1 (by omega)
      · rw [show i = g + 1 from by omega]; exact q
    · rw [if_neg q]
      exact ⟨by omega, by show 0 < D (g + 1); omega, fun i h1 h2 => by omega⟩
def bfo (bF : Nat → Nat) (g : Nat) : Nat → Nat
  | 0 => 0
  | k + 1 => if bF k ≤ g then k + 1 else bfo bF g k
theorem bfo_0 {bF : Nat → Nat} {g : Nat} : ∀ {n : Nat}, bfo bF g n = 0 → ∀ j, j < n → g < bF j
  | 0, _, j, h => absurd h (Nat.not_lt_zero j)
  | n + 1, h, j, hj => by
    unfold bfo at h
    by_cases q : bF n ≤ g
    · rw [if_pos q] at h; cases h
    · rw [if_neg q] at h
      rcases Nat.lt_or_ge j n with z | z
      · exact bfo_0 h j z
      · rw [show j = n from by omega]; omega
theorem bfo_s {bF : Nat → Nat} {g : Nat} : ∀ {n : Nat}, bfo bF g n ≠ 0 → bfo bF g n - 1 < n ∧ bF (bfo bF g n - 1) ≤ g ∧ ∀ j, bfo bF g n - 1 < j → j < n → g < bF j
  | 0, h => absurd rfl h
  | n + 1, h => by
    unfold bfo at h ⊢
    by_cases q : bF n ≤ g
    · rw [if_pos q]; exact ⟨by omega, q, fun j h1 h2 => by omega⟩
    · rw [if_neg q] at h ⊢
      obtain ⟨a1, a2, a3⟩ := bfo_s h
      refine ⟨by omega, a2, fun j h1 h2 => ?_⟩
      rcases Nat.lt_or_ge j n with z | z
      · exact a3 j h1 z
      · rw [show j = n from by omega]; omega
theorem sm_flat {f : Nat → Nat} {a : Nat} : ∀ {b : Nat}, a ≤ b → (∀ i, a ≤ i → i < b → f i = 0) → sm f b = sm f a
  | 0, h, _ => by rw [show a = 0 from by omega]
  | b + 1, h, hz => by
    rcases Nat.lt_or_ge b a with q | q
    · rw [show a = b + 1 from by omega]
    · rw [sm_s, sm_flat q (fun i h1 h2 => hz i h1 (by omega)), hz b q (by omega)]; rfl
theorem PV_none {S D bS bD bF : Nat → Nat} {n g : Nat} (h : PV S D bS bD bF n 21 n) (hg : g ≤ 20) (h0 : bfo bF g n = 0) : efl D g = 0 := by
  apply Classical.byContradiction
  intro q
  obtain ⟨a1, a2, a3⟩ := efl_s q
  obtain ⟨⟨h1, h1b⟩, h2, h3, h4, h5, h6⟩ := h
  have hz := bfo_0 h0
  rcases Nat.eq_zero_or_pos n with z | z
  · have := sm_z (h4.1 z).1 (efl D g - 1) (by omega)
    omega
  · have := hz 0 z
    have := sm_z (h4.2 z).1 (efl D g - 1) (by omega)
    omega
theorem PV_some {S D bS bD bF : Nat → Nat} {n g : Nat} (h : PV S D bS bD bF n 21 n) (hSD : ∀ i, D i = 0 → S i = 0) (hg : g ≤ 20) (h0 : bfo bF g n ≠ 0) : efl D g ≠ 0 ∧ SPX S D (efl D g - 1) (bS (bfo bF g n - 1), bD (bfo bF g n - 1)) := by
  obtain ⟨j1, j2, j3⟩ := bfo_s h0
  generalize hj : bfo bF g n - 1 = j at *
  have hsup := fun {c : Nat} (hc0 : bF 0 ≤ c) (hc : c ≤ 21) => PV_sup h j1 hc0 hc
  obtain ⟨⟨h1, h1b⟩, h2, h3, h4, h5, h6⟩ := h
  have hq : efl D g ≠ 0 := by
    intro z
    have := efl_0 z (bF j) j2
    have := (h2 j j1).1
    omega
  obtain ⟨a1, a2, a3⟩ := efl_s hq
  generalize hv : efl D g - 1 = v at *
  have b1 : bF j ≤ v := by
    apply Nat.le_of_not_lt
    intro z
    have := a3 (bF j) z j2
    have := (h2 j j1).1
    omega
  have b2 : v < en bF n 21 j := by
    by_cases q : j + 1 < n
    · rw [en_i q]; have := j3 (j + 1) (by omega) q; omega
    · rw [en_l q]; omega
  have hE := h3 j j1
  have hEle : en bF n 21 j ≤ 21 := by
    by_cases q : j + 1 < n
    · rw [en_i q]; have := (h2 (j + 1) q).2.2; omega
    · rw [en_l q]; exact Nat.le_refl _
  have mono0 : ∀ i, i < n → bF 0 ≤ bF i := by
    intro i
    induction i with
    | zero => intro _; exact Nat.le_refl _
    | succ i ih =>
      intro hi
      have k1 := ih (by omega)
      have k2 := h1b i (by omega)
      rw [en_i hi] at k2
      omega
  refine ⟨hq, (h2 j j1).2.1, ⟨bF j, b1, (h2 j j1).1, fun b c1 c2 c3 => ?_⟩, fun a c1 c2 => ?_⟩
  · have k1 := hsup (c := b + 1) (by have := mono0 j j1; omega) (by omega)
    have m1 := sm_mono D (show bF j ≤ b + 1 by omega)
    have m2 := sm_mono S (show bF j ≤ b + 1 by omega)
    obtain ⟨x, hx⟩ : ∃ x, sm D (b + 1) = sm D (bF j) + x := ⟨sm D (b + 1) - sm D (bF j), by omega⟩
    obtain ⟨w, hw⟩ : ∃ w, sm S (b + 1) = sm S (bF j) + w := ⟨sm S (b + 1) - sm S (bF j), by omega⟩
    show bS j * (sm D (b + 1) - sm D (bF j)) ≤ (sm S (b + 1) - sm S (bF j)) * bD j
    rw [hx, hw] at k1 ⊢
    rw [Nat.add_sub_cancel_left, Nat.add_sub_cancel_left]
    simp only [Nat.mul_add, Nat.add_mul] at k1
    omega
  · -- the last level of the block that there is
    have hex : ∃ b, v ≤ b ∧ b < en bF n 21 j ∧ 0 < D b ∧ ∀ i, b < i → i < en bF n 21 j → D i = 0 := by
      have hqe : efl D (en bF n 21 j - 1) ≠ 0 := by
        intro z
        have := efl_0 z v (by omega)
        omega
      obtain ⟨d1, d2, d3⟩ := efl_s hqe
      refine ⟨efl D (en bF n 21 j - 1) - 1, ?_, by omega, d2, fun i e1 e2 => d3 i e1 (by omega)⟩
      apply Nat.le_of_not_lt
      intro z
      have := d3 v z (by omega)
      omega
    obtain ⟨b, d1, d2, d3, d4⟩ := hex
    have f1 : sm D (en bF n 21 j) = sm D (b + 1) := sm_flat (by omega) (fun i e1 e2 => d4 i (by omega) e2)
    have f2 : sm S (en bF n 21 j) = sm S (b + 1) := sm_flat (by omega) (fun i e1 e2 => hSD i (d4 i (by omega) e2))
    refine ⟨b, d1, by omega, d3, ?_⟩
    have ha0 : bF 0 ≤ a := by
      apply Nat.le_of_not_lt
      intro z
      have := sm_z (h4.2 (by omega)).1 a z
      omega
    have k1 := hsup (c := a) ha0 (by omega)
    have m1 := sm_mono D (show a ≤ b + 1 by omega)
    have m2 := sm_mono S (show a ≤ b + 1 by omega)
    obtain ⟨x, hx⟩ : ∃ x, sm D (b + 1) = sm D a + x := ⟨sm D (b + 1) - sm D a, by omega⟩
    obtain ⟨w, hw⟩ : ∃ w, sm S (b + 1) = sm S a + w := ⟨sm S (b + 1) - sm S a, by omega⟩
    show (sm S (b + 1) - sm S a) * bD j ≤ bS j * (sm D (b + 1) - sm D a)
    rw [hx, hw, Nat.add_sub_cancel_left, Nat.add_sub_cancel_left]
    rw [f1, f2, hx, hw] at hE
    -- sm S a + w = sm S (bF j) + bS j; sm D a + x = sm D (bF j) + bD j
    have e1 : (sm S a + w) * bD j = (sm S (bF j) + bS j) * bD j := by rw [hE.2]
    have e2 : bS j * (sm D a + x) = bS j * (sm D (bF j) + bD j) := by rw [hE.1]
    simp only [Nat.mul_add, Nat.add_mul] at e1 e2
    omega
abbrev okStep (ey : Nat) (x y g : Int32) : Prop := pr ey x y ∧ rg g 21
noncomputable def qStep (t : Nat → Nat) (ey : Nat) (x y g : Int32) : Nat := cif (okStep ey x y g) (if efl (lD t (nn x) (nn y) 240) (nn g) = 0 then 6 else 0) 1
noncomputable def upStep (t : Nat → Nat) (x y g : Int32) : Nat := stU (lS t (nn x) (nn y) 240) (lD t (nn x) (nn y) 240) (efl (lD t (nn x) (nn y) 240) (nn g) - 1)
noncomputable def loStep (t : Nat → Nat) (x y g : Int32) : Nat := stL (lS t (nn x) (nn y) 240) (lD t (nn x) (nn y) 240) (efl (lD t (nn x) (nn y) 240) (nn g) - 1)
theorem PV_b {S D bS bD bF : Nat → Nat} {n g m : Nat} (h : PV S D bS bD bF n g m) {j : Nat} (hj : j < n) : bS j ≤ sm S g ∧ bD j ≤ sm D g ∧ bF j < g := by
  obtain ⟨⟨h1, h1b⟩, h2, h3, h4, h5, h6⟩ := h
  have hE : en bF n g j ≤ g := by
    by_cases q : j + 1 < n
    · rw [en_i q]; exact Nat.le_of_lt (h2 (j + 1) q).2.2
    · rw [en_l q]; exact Nat.le_refl _
  have m1 := sm_mono D hE
  have m2 := sm_mono S hE
  have := h3 j hj
  exact ⟨by omega, by omega, (h2 j hj).2.2⟩
theorem mulB {x y : Nat} (hx : x ≤ 4800) (hy : y ≤ 240) : x * y ≤ 1152000 := Nat.mul_le_mul hx hy
theorem sS_tot {t : Nat → Nat} (tb : TB t) (x y : Nat) : sm (lS t x y 240) 21 ≤ 4800 := by
  have h1 := sm_le2 (f := lS t x y 240) (g := lD t x y 240) (c := 20) (n := 21) (fun k _ => lS_lD tb x y 240 k)
  have h2 := lD_sum t x y 21 240
  omega
