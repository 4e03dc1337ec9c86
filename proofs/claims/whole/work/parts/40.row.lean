/-! smooths, turns and changes of the reference -/
theorem sS_in {va : Nat → Nat} {m j h : Nat} (h1 : h ≤ m + j) (h2 : m + j - h < 24) : sS va (m - h) (min (m + (j + 1) - h) 24 - (m - h)) = sS va (m - h) (min (m + j - h) 24 - (m - h)) + (va (m + j - h) - 1) := by
  rw [show min (m + (j + 1) - h) 24 - (m - h) = (min (m + j - h) 24 - (m - h)) + 1 from by omega]
  show sS va (m - h) (min (m + j - h) 24 - (m - h)) + (va ((m - h) + (min (m + j - h) 24 - (m - h))) - 1) = _
  rw [show (m - h) + (min (m + j - h) 24 - (m - h)) = m + j - h from by omega]
theorem sC_in {va : Nat → Nat} {m j h : Nat} (h1 : h ≤ m + j) (h2 : m + j - h < 24) : sC va (m - h) (min (m + (j + 1) - h) 24 - (m - h)) = sC va (m - h) (min (m + j - h) 24 - (m - h)) + (if va (m + j - h) = 0 then 0 else 1) := by
  rw [show min (m + (j + 1) - h) 24 - (m - h) = (min (m + j - h) 24 - (m - h)) + 1 from by omega]
  show sC va (m - h) (min (m + j - h) 24 - (m - h)) + (if va ((m - h) + (min (m + j - h) 24 - (m - h))) = 0 then 0 else 1) = _
  rw [show (m - h) + (min (m + j - h) 24 - (m - h)) = m + j - h from by omega]
theorem win_out {m j h : Nat} (q : ¬ (h ≤ m + j ∧ m + j - h < 24)) : min (m + (j + 1) - h) 24 - (m - h) = min (m + j - h) 24 - (m - h) := by omega
theorem win_end {m h : Nat} : min (m + (2 * h + 1) - h) 24 - (m - h) = min (m + h) 23 + 1 - (m - h) := by omega
theorem sC_pos {va : Nat → Nat} {m h : Nat} (hm : m < 24) (hv : va m ≠ 0) : 0 < sC va (m - h) (min (m + (2 * h + 1) - h) 24 - (m - h)) := by
  have := sm_lt_of (f := fun _ => 0) (g := fun j => if va ((m - h) + j) = 0 then 0 else 1) (d := m - (m - h)) (n := min (m + (2 * h + 1) - h) 24 - (m - h)) (fun k _ => Nat.zero_le _) (by omega) (by
    show 0 < (if va ((m - h) + (m - (m - h))) = 0 then 0 else 1)
    rw [show (m - h) + (m - (m - h)) = m from by omega, if_neg hv]; omega)
  unfold sC; omega
theorem rsub_toInt {a b : Nat} (ha : a < 2 ^ 30) (hb : b < 2 ^ 30) : (nI a - nI b).toInt = (a : Int) - (b : Int) := pk_sub_toInt ha hb
theorem rsub_gt {a b c : Nat} (ha : a < 2 ^ 30) (hb : b < 2 ^ 30) (hc : c < 2 ^ 30) : nI c < nI a - nI b ↔ c + b < a := by
  rw [Int32.lt_iff_toInt_lt, rsub_toInt ha hb, nI_toInt (by omega)]; omega
theorem rsub_rg {a b k : Nat} (ha : a < 2 ^ 30) (hb : b < 2 ^ 30) : rg (nI a - nI b) k ↔ b ≤ a ∧ a - b < k := by
  unfold rg
  rw [rsub_toInt ha hb]; omega
theorem rsub_inc (a b : Nat) : nI a - nI b + 1 = nI (a + 1) - nI b := by
  have h1 : nI (a + 1) = nI a + 1 := by rw [← nI_add]; rfl
  rw [h1, Int32.sub_eq_add_neg, Int32.sub_eq_add_neg, Int32.add_assoc, Int32.add_assoc, Int32.add_comm (-nI b) 1]
theorem k_dec (k : Int32) (b : Nat) : k - nI b + (-1) = k - nI (b + 1) := by
  have h1 : nI (b + 1) = nI b + 1 := by rw [← nI_add]; rfl
  rw [h1, Int32.sub_eq_add_neg, Int32.sub_eq_add_neg, Int32.neg_add, Int32.sub_eq_add_neg, Int32.add_assoc]
theorem k_0 (k : Int32) : k = k - nI 0 := by
  rw [show nI 0 = 0 from rfl, Int32.sub_zero]
theorem mx1 {x y : Nat} (hx : x < 2 ^ 30) (hy : y < 2 ^ 30) : (if nI 0 < nI x - nI y then nI x - nI y else nI 0) = nI (x - y) := by
  by_cases h : y < x
  · rw [if_pos ((rsub_gt hx hy (by decide)).mpr (by omega)), pk_sub (by omega)]
  · rw [if_neg (fun q => h (by have := (rsub_gt hx hy (by decide)).mp q; omega)), show x - y = 0 from by omega]
theorem nI_nn {k : Int32} (h : ¬ k < 0) : k = nI (nn k) ∧ nn k < 2 ^ 31 := by
  obtain ⟨j, hj, rfl⟩ := nI_of h
  rw [nn_nI hj]; exact ⟨rfl, hj⟩
theorem sgd_lt {hi : Prop} {sg : Int32} (h : (hi ∧ sg = nI 1) ∨ (¬ hi ∧ sg = -1)) {a b : Nat} (ha : a < 2 ^ 30) (hb : b < 2 ^ 30) : sg * nI a - sg * nI b < 0 ↔ (hi ∧ a < b) ∨ (¬ hi ∧ b < a) := by
  rcases h with ⟨h1, rfl⟩ | ⟨h1, rfl⟩
  · rw [show nI 1 = 1 from rfl, Int32.one_mul, Int32.one_mul, sb_lt ha hb]
    exact ⟨fun q => Or.inl ⟨h1, q⟩, fun q => q.elim (fun z => z.2) (fun z => absurd h1 z.1)⟩
  · rw [show (-1 : Int32) * nI a - (-1) * nI b = nI b - nI a from by
      rw [Int32.neg_mul, Int32.neg_mul, Int32.one_mul, Int32.one_mul, Int32.sub_eq_add_neg, Int32.neg_neg, Int32.add_comm, ← Int32.sub_eq_add_neg], sb_lt hb ha]
    exact ⟨fun q => Or.inr ⟨h1, q⟩, fun q => q.elim (fun z => absurd z.1 h1) (fun z => z.2)⟩
theorem sgd_le {hi : Prop} {sg : Int32} (h : (hi ∧ sg = nI 1) ∨ (¬ hi ∧ sg = -1)) {a b : Nat} (ha : a < 2 ^ 30) (hb : b < 2 ^ 30) : sg * nI a - sg * nI b ≤ 0 ↔ (hi ∧ a ≤ b) ∨ (¬ hi ∧ b ≤ a) := by
  rcases h with ⟨h1, rfl⟩ | ⟨h1, rfl⟩
  · rw [show nI 1 = 1 from rfl, Int32.one_mul, Int32.one_mul, sb_le ha hb]
    exact ⟨fun q => Or.inl ⟨h1, q⟩, fun q => q.elim (fun z => z.2) (fun z => absurd h1 z.1)⟩
  · rw [show (-1 : Int32) * nI a - (-1) * nI b = nI b - nI a from by
      rw [Int32.neg_mul, Int32.neg_mul, Int32.one_mul, Int32.one_mul, Int32.sub_eq_add_neg, Int32.neg_neg, Int32.add_comm, ← Int32.sub_eq_add_neg], sb_le hb ha]
    exact ⟨fun q => Or.inr ⟨h1, q⟩, fun q => q.elim (fun z => absurd z.1 h1) (fun z => z.2)⟩
theorem out_lt {sv : Nat → Nat} {n m : Nat} {hi : Prop} {sg : Int32} (h : (hi ∧ sg = nI 1) ∨ (¬ hi ∧ sg = -1)) (hb : VB sv) (h1 : sv n ≠ 0) (h2 : sv m ≠ 0) (hl : n < m) : sg * nI (sv n - 1) - sg * nI (sv m - 1) < 0 ↔ ¬ outd sv n m hi := by
  have b1 := hb n
  have b2 := hb m
  rw [sgd_lt h (by omega) (by omega)]
  unfold outd
  by_cases q : hi
  · simp only [q, true_and, not_true, false_and, or_false]; omega
  · simp only [q, not_false_eq_true, true_and, false_and, false_or]; omega
theorem out_le {sv : Nat → Nat} {n m : Nat} {hi : Prop} {sg : Int32} (h : (hi ∧ sg = nI 1) ∨ (¬ hi ∧ sg = -1)) (hb : VB sv) (h1 : sv n ≠ 0) (h2 : sv m ≠ 0) (hl : m ≤ n) : sg * nI (sv n - 1) - sg * nI (sv m - 1) ≤ 0 ↔ ¬ outd sv n m hi := by
  have b1 := hb n
  have b2 := hb m
  rw [sgd_le h (by omega) (by omega)]
  unfold outd
  by_cases q : hi
  · simp only [q, true_and, not_true, false_and, or_false]; omega
  · simp only [q, not_false_eq_true, true_and, false_and, false_or]; omega
/-- one eye left out -/
def uw (t : Nat → Nat) (wo : Nat) : Nat → Nat := fun i => if wo = i / 240 + 1 then 0 else t i
theorem UW_uw (t : Nat → Nat) (wo : Nat) : UW t (uw t wo) wo := fun x d hd => by
  unfold uw
  rw [show (x * 240 + d) / 240 = x from by omega]
theorem TB_uw {t : Nat → Nat} (h : TB t) (wo : Nat) : TB (uw t wo) := fun i => by
  unfold uw
  by_cases q : wo = i / 240 + 1
  · exact Or.inl (if_pos q)
  · have := h i
    unfold grp spt at this ⊢
    simp only [if_neg q]
    exact this
theorem cB_out {t : Nat → Nat} {wo a b : Nat} (h : wo = a + 1 ∨ wo = b + 1) : cB (uw t wo) a b 240 = 0 := sm_0 (fun d hd => by
  refine if_neg (fun q => ?_)
  rcases h with z | z
  · exact ((UW_ne (UW_uw t wo) hd).mp q.1).1 z
  · exact ((UW_ne (UW_uw t wo) hd).mp q.2).1 z)
theorem uw_at {t : Nat → Nat} {wo x d : Nat} (h : wo ≠ x + 1) (hd : d < 240) : uw t wo (x * 240 + d) = t (x * 240 + d) := by
  rw [UW_uw t wo x d hd, if_neg h]
theorem cB_in {t : Nat → Nat} {wo a b : Nat} (h1 : wo ≠ a + 1) (h2 : wo ≠ b + 1) : cB (uw t wo) a b 240 = cB t a b 240 := sm_cong (fun d hd => by
  show (if bo (uw t wo) a b d then 1 else 0) = _
  unfold bo; rw [uw_at h1 hd, uw_at h2 hd])
theorem sB_in {t : Nat → Nat} {wo a b : Nat} (h1 : wo ≠ a + 1) (h2 : wo ≠ b + 1) : sB (uw t wo) a b 240 = sB t a b 240 := sm_cong (fun d hd => by
  show (if bo (uw t wo) a b d then num (uw t wo) (a * 240 + d) else 0) = _
  unfold bo num grp spt; rw [uw_at h1 hd, uw_at h2 hd])
theorem fc_out {t : Nat → Nat} {le wo a b : Nat} (hle : 1 ≤ le) (h : wo = a + 1 ∨ wo = b + 1) : fc (uw t wo) le a b = 0 := by
  unfold fc fcv; rw [cB_out h, if_pos (Or.inl (by omega))]
theorem fc_in {t : Nat → Nat} {le wo a b : Nat} (h1 : wo ≠ a + 1) (h2 : wo ≠ b + 1) : fc (uw t wo) le a b = fc t le a b := by
  unfold fc; rw [cB_in h1 h2, sB_in h1 h2, sB_in h2 h1]
theorem cN_uw {t : Nat → Nat} {le wo e lk k : Nat} {ln : Nat → Nat} (h1 : wo ≠ e + 1) (h0 : ∀ x, wo = x + 1 → ln x = 0) (hlk : 1 ≤ lk) : cN (uw t wo) le ln e lk k = cN t le ln e lk k := sm_cong (fun n _ => by
  show (if cnd (uw t wo) le ln e lk n then 1 else 0) = (if cnd t le ln e lk n then 1 else 0)
  by_cases q : wo = n + 1
  · rw [if_neg (fun z => by have := z.1; rw [h0 n q] at this; omega), if_neg (fun z => by have := z.1; rw [h0 n q] at this; omega)]
  · unfold cnd; rw [fc_in h1 q])
theorem mxw_uw {t : Nat → Nat} {le wo e lk : Nat} {ln wd : Nat → Nat} (h1 : wo ≠ e + 1) (h0 : ∀ x, wo = x + 1 → ln x = 0) (hlk : 1 ≤ lk) : ∀ k, mxw (uw t wo) le ln wd e lk k = mxw t le ln wd e lk k
  | 0 => rfl
  | k + 1 => by
    unfold mxw
    rw [mxw_uw h1 h0 hlk k]
    by_cases q : wo = k + 1
    · rw [if_neg (fun z => by have := z.1; rw [h0 k q] at this; omega), if_neg (fun z => by have := z.1; rw [h0 k q] at this; omega)]
    · rw [cB_in h1 q]; unfold cnd; rw [fc_in h1 q]
theorem lv_uw {t : Nat → Nat} {le ey wo : Nat} (hle : 1 ≤ le) (hwo : 2 ≤ wo) : ∀ k, lvl (uw t wo) le ey 0 k = lvl t le ey wo k ∧ lvw (uw t wo) le ey 0 k = lvw t le ey wo k ∧ ∀ x, wo = x + 1 → lvl t le ey wo k x = 0
  | 0 => ⟨rfl, rfl, fun x hx => by unfold lvl; rw [if_neg (by omega)]⟩
  | k + 1 => by
    obtain ⟨i1, i2, i3⟩ := lv_uw (t := t) (ey := ey) hle hwo k
    have key : ∀ e, nxP (uw t wo) le ey 0 (lvl t le ey wo k) e (k + 1) ↔ nxP t le ey wo (lvl t le ey wo k) e (k + 1) := by
      intro e
      by_cases q : wo = e + 1
      · constructor
        · intro z
          obtain ⟨n, b1, b2⟩ := cN_pos.mp z.2.2.2.2
          exact absurd (fc_out hle (Or.inl q)) b2.2
        · intro z; exact absurd q.symm z.2.2.1
      · unfold nxP
        rw [cN_uw q i3 (by omega)]
        exact ⟨fun z => ⟨z.1, z.2.1, fun w => q w.symm, z.2.2.2.1, z.2.2.2.2⟩, fun z => ⟨z.1, z.2.1, by omega, z.2.2.2.1, z.2.2.2.2⟩⟩
    refine ⟨?_, ?_, ?_⟩
    · funext e
      show nxL (uw t wo) le ey 0 (k + 1) ey (lvl (uw t wo) le ey 0 k) e = nxL t le ey wo (k + 1) ey (lvl t le ey wo k) e
      rw [i1]; unfold nxL
      by_cases q : nxP t le ey wo (lvl t le ey wo k) e (k + 1) ∧ e < ey
      · rw [if_pos q, if_pos ⟨(key e).mpr q.1, q.2⟩]
      · rw [if_neg q, if_neg (fun z => q ⟨(key e).mp z.1, z.2⟩)]
    · funext e
      show nxW (uw t wo) le ey 0 (k + 1) ey (lvl (uw t wo) le ey 0 k) (lvw (uw t wo) le ey 0 k) e = nxW t le ey wo (k + 1) ey (lvl t le ey wo k) (lvw t le ey wo k) e
      rw [i1, i2]; unfold nxW
      by_cases q : nxP t le ey wo (lvl t le ey wo k) e (k + 1) ∧ e < ey
      · rw [if_pos q, if_pos ⟨(key e).mpr q.1, q.2⟩, mxw_uw (fun z => q.1.2.2.1 z.symm) i3 (by omega)]
      · rw [if_neg q, if_neg (fun z => q ⟨(key e).mp z.1, z.2⟩)]
    · intro x hx
      show nxL t le ey wo (k + 1) ey (lvl t le ey wo k) x = 0
      unfold nxL
      rw [if_neg (fun z => z.1.2.2.1 hx.symm)]
      exact i3 x hx
theorem fnS_uw {t : Nat → Nat} {le wo h w : Nat} {ln wd : Nat → Nat} (h0 : ∀ x, wo = x + 1 → ln x = 0) (h2 : 2 ≤ ln h) : ∀ n k, fnS (uw t wo) le ln wd h w n k = fnS t le ln wd h w n k
  | 0, _ => rfl
  | n + 1, k => by
    have hh : wo ≠ h + 1 := fun z => by have := h0 h z; omega
    have e : okF (uw t wo) le ln wd h w k ↔ okF t le ln wd h w k := by
      by_cases q : wo = k + 1
      · have h3 := h0 k q
        exact ⟨fun z => by have := z.1; omega, fun z => by have := z.1; omega⟩
      · unfold okF; rw [cB_in hh q, fc_in hh q]
    unfold fnS
    rw [fnS_uw h0 h2 n (k + 1)]
    by_cases q : okF t le ln wd h w k
    · rw [if_pos q, if_pos (e.mpr q)]
    · rw [if_neg q, if_neg (fun z => q (e.mp z))]
theorem wy_uw {t : Nat → Nat} {le ey wo e : Nat} {ln wd : Nat → Nat} (hc : CH t le ey ln wd) (he : ln e ≠ 0) (h0 : ∀ x, wo = x + 1 → ln x = 0) : ∀ k, k + 1 ≤ ln e → wyF (uw t wo) le ey ln wd e k = wyF t le ey ln wd e k
  | 0, _ => rfl
  | k + 1, h => by
    show fnx (uw t wo) le ey ln wd (wyF (uw t wo) le ey ln wd e k) (wd e) = fnx t le ey ln wd (wyF t le ey ln wd e k) (wd e)
    rw [wy_uw hc he h0 k (by omega)]
    have := (wy_ok hc he k (by omega)).1
    exact fnS_uw h0 (by omega) _ _
theorem wgf_uw {t : Nat → Nat} {le wo : Nat} {F F2 : Nat → Nat} : ∀ {n w : Nat}, (∀ k, k ≤ n → F k = F2 k) → (∀ k, k ≤ n → wo ≠ F2 k + 1) → wgf (uw t wo) le F n w = wgf t le F2 n w
  | 0, _, _, _ => rfl
  | n + 1, w, h1, h2 => by
    unfold wgf
    rw [h1 n (by omega), h1 (n + 1) (Nat.le_refl _), fc_in (h2 n (by omega)) (h2 (n + 1) (Nat.le_refl _))]
    exact wgf_uw (fun k hk => h1 k (by omega)) (fun k hk => h2 k (by omega))
theorem weF_uw {t : Nat → Nat} {le ey wo : Nat} (hle : 1 ≤ le) (hwo : 2 ≤ wo) (hey : ey ≤ 8) (e : Nat) : weF (uw t wo) le ey 0 e = weF t le ey wo e := by
  obtain ⟨i1, i2, i3⟩ := lv_uw (t := t) (ey := ey) hle hwo 7
  have hc := lv_CH t le ey wo hey 7 (by omega)
  unfold weF
  rw [i1, i2]
  unfold wgt
  by_cases q : lvl t le ey wo 7 e = 0
  · rw [if_pos q, if_pos q]
  · rw [if_neg q, if_neg q]
    rw [wgf_uw (F2 := wyF t le ey (lvl t le ey wo 7) (lvw t le ey wo 7) e) (fun k hk => wy_uw hc q i3 k (by omega)) (fun k hk z => by
      have := (wy_ok hc q k (by omega)).1
      have := i3 _ z
      omega)]
theorem weF_wo {t : Nat → Nat} {le ey wo x : Nat} (hle : 1 ≤ le) (hwo : 2 ≤ wo) (h : wo = x + 1) : weF t le ey wo x = 0 := by
  unfold weF wgt
  rw [if_pos ((lv_uw (t := t) (ey := ey) hle hwo 7).2.2 x h)]
theorem vD_uw {t : Nat → Nat} {le ey wo d : Nat} (hle : 1 ≤ le) (hwo : 2 ≤ wo) (hey : ey ≤ 8) (hd : d < 240) : vD (uw t wo) (weF (uw t wo) le ey 0) ey d = vD t (weF t le ey wo) ey d := by
  have e1 : vC (uw t wo) (weF (uw t wo) le ey 0) d ey = vC t (weF t le ey wo) d ey := sm_cong (fun e _ => by
    show (if weF (uw t wo) le ey 0 e = 0 ∨ uw t wo (e * 240 + d) = 0 then 0 else 1) = (if weF t le ey wo e = 0 ∨ t (e * 240 + d) = 0 then 0 else 1)
    rw [weF_uw hle hwo hey]
    by_cases q : wo = e + 1
    · rw [if_pos (Or.inl (weF_wo hle hwo q)), if_pos (Or.inl (weF_wo hle hwo q))]
    · rw [uw_at q hd])
  have e2 : vS (uw t wo) (weF (uw t wo) le ey 0) d ey = vS t (weF t le ey wo) d ey := sm_cong (fun e _ => by
    show (if weF (uw t wo) le ey 0 e = 0 ∨ uw t wo (e * 240 + d) = 0 then 0 else num (uw t wo) (e * 240 + d) * (weF (uw t wo) le ey 0 e - 1)) = (if weF t le ey wo e = 0 ∨ t (e * 240 + d) = 0 then 0 else num t (e * 240 + d) * (weF t le ey wo e - 1))
    rw [weF_uw hle hwo hey]
    by_cases q : wo = e + 1
    · rw [if_pos (Or.inl (weF_wo hle hwo q)), if_pos (Or.inl (weF_wo hle hwo q))]
    · unfold num grp spt; rw [uw_at q hd])
  unfold vD; rw [e1, e2]
theorem mV_uw {t : Nat → Nat} {le ey wo en m : Nat} (hle : 1 ≤ le) (hwo : 2 ≤ wo) (hey : ey ≤ 8) (hm : m < 24) : mV (uw t wo) (weF (uw t wo) le ey 0) ey en m = mV t (weF t le ey wo) ey en m := by
  have e1 : mC (uw t wo) (weF (uw t wo) le ey 0) ey m 10 = mC t (weF t le ey wo) ey m 10 := sm_cong (fun j hj => by rw [vD_uw hle hwo hey (by omega)])
  have e2 : mS (uw t wo) (weF (uw t wo) le ey 0) ey m 10 = mS t (weF t le ey wo) ey m 10 := sm_cong (fun j hj => by rw [vD_uw hle hwo hey (by omega)])
  unfold mV; rw [e1, e2]
theorem smV_w2 {va : Nat → Nat} {m w j : Nat} (hw : w % 2 = 1) (hm : m < 24) (hj : j = 2 * (w / 2) + 1) (hv : va m ≠ 0) : smV va m w = sS va (m - w / 2) (min (m + j - w / 2) 24 - (m - w / 2)) / sC va (m - w / 2) (min (m + j - w / 2) 24 - (m - w / 2)) + 1 := by
  subst hj
  have h2 := sC_pos (h := w / 2) hm hv
  rw [win_end] at h2 ⊢
  unfold smV
  rw [show (w - 1) / 2 = w / 2 from by omega, if_neg (fun q => q.elim hv (by omega))]
