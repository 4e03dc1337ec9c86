/-! weights of the reference: only the eyes' own places are read -/
theorem WB_pfx {g f : Nat → Nat} {k : Nat} (hg : WB g) (hf : WB f) : WB (pfx g f k) := fun i => by
  unfold pfx; split
  · exact hg i
  · exact hf i
theorem vS_cong {t w w2 : Nat → Nat} {d k : Nat} (h : ∀ e, e < k → w e = w2 e) : vS t w d k = vS t w2 d k := sm_cong (fun e he => by rw [h e he])
theorem vC_cong {t w w2 : Nat → Nat} {d k : Nat} (h : ∀ e, e < k → w e = w2 e) : vC t w d k = vC t w2 d k := sm_cong (fun e he => by rw [h e he])
theorem vD_cong {t w w2 : Nat → Nat} {ey d : Nat} (h : ∀ e, e < ey → w e = w2 e) : vD t w ey d = vD t w2 ey d := by
  unfold vD; rw [vS_cong h, vC_cong h]
theorem mV_cong {t w w2 : Nat → Nat} {ey en m : Nat} (h : ∀ e, e < ey → w e = w2 e) : mV t w ey en m = mV t w2 ey en m := by
  have e1 : mC t w ey m 10 = mC t w2 ey m 10 := sm_cong (fun j _ => by rw [vD_cong h])
  have e2 : mS t w ey m 10 = mS t w2 ey m 10 := sm_cong (fun j _ => by rw [vD_cong h])
  unfold mV; rw [e1, e2]
theorem vD_pfx (t g f : Nat → Nat) (ey d : Nat) : vD t (pfx g f ey) ey d = vD t g ey d := vD_cong (fun _ h => pfx_in h)
theorem mV_pfx (t g f : Nat → Nat) (ey en m : Nat) : mV t (pfx g f ey) ey en m = mV t g ey en m := mV_cong (fun _ h => pfx_in h)
