/-! the reference's step: the greatest of the least means -/
theorem lN_o (n : Nat) : lN n = oL (n + 1) := by rw [oL_pos (by omega)]; rfl
theorem m1_oL : (-1 : Int64) = oL 0 := by decide
theorem oI_m1 {n : Nat} (h : n ≠ 0) : oI n + (-1) = oI (n - 1) := by
  rw [oI_pos h]
  show nI (n - 1) + (-1) = nI (n - 1) - 1
  rw [Int32.sub_eq_add_neg]
theorem oI_lt0 {n : Nat} (h : n ≤ 2 ^ 31) : oI n < 0 ↔ n = 0 := by
  rw [Int32.lt_iff_toInt_lt, oI_toInt h, show (0 : Int32).toInt = 0 from by decide]; omega
theorem oL_toInt {n : Nat} (h : n ≤ 2 ^ 31) : (oL n).toInt = (n : Int) - 1 := by
  rcases Nat.eq_zero_or_pos n with e | e
  · subst e; decide
  · rw [oL_pos (by omega), lN_toInt (by omega)]; omega
theorem oL_lt0 {n : Nat} (h : n ≤ 2 ^ 31) : oL n < lN 0 ↔ n = 0 := by
  rw [Int64.lt_iff_toInt_lt, oL_toInt h, lN_toInt (by decide)]; omega
section ROWS4
variable {p : Program} {l : Launch} {e : Env} {R : Room} {s : State} {m : MethodId} {args : Array Value} {below : List Frame} {meth : Method} {c : Code} {H : Heap} {locs : List Loc} {cells slots : Nat} {Q : State → Prop} {pc : Nat} {ls : Array Slot} {rest : List Value} {cc : ByteArray}
theorem no_if_lt (hexec : p.tables.exec = Jvm.exec) (hb : c.code = cc) {x : Nat} {off : Int} {tgt : Nat} (hdg : decode cc pc = .ok (.ifCond .lt off, 3)) (ht : (pc : Int) + off = (tgt : Int)) (hX : x ≤ 2 ^ 31)
    (kt : x = 0 → W p l e R s m args below meth c H locs cells slots Q (F0 m tgt ls rest)) (kf : x ≠ 0 → W p l e R s m args below meth c H locs cells slots Q (F0 m (pc + 3) ls rest)) : W p l e R s m args below meth c H locs cells slots Q (F0 m pc ls (.int (oI x) :: rest)) :=
  lv_if_lt hexec hb hdg ht (fun h => kt ((oI_lt0 hX).mp h)) (fun h => kf (fun q => h ((oI_lt0 hX).mpr q)))
theorem no_if_ge (hexec : p.tables.exec = Jvm.exec) (hb : c.code = cc) {x : Nat} {off : Int} {tgt : Nat} (hdg : decode cc pc = .ok (.ifCond .ge off, 3)) (ht : (pc : Int) + off = (tgt : Int)) (hX : x ≤ 2 ^ 31)
    (kt : x ≠ 0 → W p l e R s m args below meth c H locs cells slots Q (F0 m tgt ls rest)) (kf : x = 0 → W p l e R s m args below meth c H locs cells slots Q (F0 m (pc + 3) ls rest)) : W p l e R s m args below meth c H locs cells slots Q (F0 m pc ls (.int (oI x) :: rest)) :=
  lv_if_ge hexec hb hdg ht (fun h => kt (fun q => absurd ((oI_lt0 hX).mpr q) (Int32.not_lt.mpr h))) (fun h => kf ((oI_lt0 hX).mp (Int32.not_le.mp h)))
theorem nol_if_lt (hexec : p.tables.exec = Jvm.exec) (hb : c.code = cc) {x : Nat} {off : Int} {tgt : Nat} (hd0 : decode cc pc = .ok (.lcmp, 1)) (hdg : decode cc (pc + 1) = .ok (.ifCond .lt off, 3)) (ht : ((pc + 1 : Nat) : Int) + off = (tgt : Int)) (hX : x ≤ 2 ^ 31)
    (kt : x = 0 → W p l e R s m args below meth c H locs cells slots Q (F0 m tgt ls rest)) (kf : x ≠ 0 → W p l e R s m args below meth c H locs cells slots Q (F0 m (pc + 1 + 3) ls rest)) : W p l e R s m args below meth c H locs cells slots Q (F0 m pc ls (.long (lN 0) :: .long (oL x) :: rest)) :=
  rl_if_lt hexec hb hd0 hdg ht (fun h => kt ((oL_lt0 hX).mp h)) (fun h => kf (fun q => h ((oL_lt0 hX).mpr q)))
end ROWS4
theorem smd {f : Nat → Nat} {a b : Nat} (h : a ≤ b) : sm f b - sm f a + f b = sm f (b + 1) - sm f a := by
  have := sm_mono f h
  rw [sm_s]; omega
theorem efl_is {D : Nat → Nat} {g gg : Nat} (h0 : gg ≠ 0) (h1 : gg ≤ g + 1) (h2 : D (gg - 1) ≠ 0) (h3 : ∀ i, gg ≤ i → i ≤ g → D i = 0) : efl D g = gg := by
  by_cases q : efl D g = 0
  · exact absurd (efl_0 q (gg - 1) (by omega)) h2
  · obtain ⟨a1, a2, a3⟩ := efl_s q
    apply Classical.byContradiction
    intro w
    rcases Nat.lt_or_ge (efl D g - 1) (gg - 1) with v | v
    · exact h2 (a3 (gg - 1) v (by omega))
    · have := h3 (efl D g - 1) (by omega) a1
      omega
theorem efl_no {D : Nat → Nat} {g : Nat} (h3 : ∀ i, 0 ≤ i → i ≤ g → D i = 0) : efl D g = 0 := by
  apply Classical.byContradiction
  intro q
  obtain ⟨a1, a2, a3⟩ := efl_s q
  have := h3 _ (Nat.zero_le _) a1
  omega
def INV (S D : Nat → Nat) (G f to n m : Nat) : Prop := (n = 0 → ∀ b, G ≤ b → b < to → D b = 0) ∧ (n ≠ 0 → 0 < m ∧ (∃ b, G ≤ b ∧ b < to ∧ 0 < D b ∧ n - 1 = sm S (b + 1) - sm S f ∧ m = sm D (b + 1) - sm D f) ∧ ∀ b, G ≤ b → b < to → 0 < D b → (n - 1) * (sm D (b + 1) - sm D f) ≤ (sm S (b + 1) - sm S f) * m)
theorem INV_0 (S D : Nat → Nat) {G f : Nat} (m : Nat) (h : f ≤ G) : INV S D G f f 0 m := ⟨fun _ b h1 h2 => by omega, fun q => absurd rfl q⟩
theorem INV_skip {S D : Nat → Nat} {G f to n m : Nat} (h : INV S D G f to n m) (hs : to < G ∨ D to = 0) : INV S D G f (to + 1) n m := by
  have key : ∀ b, G ≤ b → b < to + 1 → 0 < D b → b < to := by
    intro b h1 h2 h3
    rcases Nat.lt_or_ge b to with v | v
    · exact v
    · rw [show b = to from by omega] at h1 h3; omega
  refine ⟨fun q b h1 h2 => ?_, fun q => ?_⟩
  · apply Classical.byContradiction
    intro z
    exact z (h.1 q b h1 (key b h1 h2 (by omega)))
  · obtain ⟨a1, ⟨b, b1, b2, b3, b4, b5⟩, a3⟩ := h.2 q
    exact ⟨a1, ⟨b, b1, by omega, b3, b4, b5⟩, fun b h1 h2 h3 => a3 b h1 (key b h1 h2 h3) h3⟩
theorem INV_put {S D : Nat → Nat} {G f to n m : Nat} (h : INV S D G f to n m) (hG : G ≤ to) (hf : f ≤ to) (hd : D to ≠ 0) (hc : n = 0 ∨ (sm S (to + 1) - sm S f) * m < (n - 1) * (sm D (to + 1) - sm D f)) : INV S D G f (to + 1) (sm S (to + 1) - sm S f + 1) (sm D (to + 1) - sm D f) := by
  have hp : 0 < sm D (to + 1) - sm D f := by
    have := sm_mono D hf
    rw [sm_s]; omega
  refine ⟨fun q => by omega, fun _ => ⟨hp, ⟨to, hG, by omega, by omega, by omega, rfl⟩, fun b h1 h2 h3 => ?_⟩⟩
  rw [Nat.add_sub_cancel]
  rcases Nat.lt_or_ge b to with v | v
  · by_cases z : n = 0
    · have := h.1 z b h1 v; omega
    · obtain ⟨a1, -, a3⟩ := h.2 z
      exact cr_tr a1 (Nat.le_of_lt (hc.resolve_left z)) (a3 b h1 v h3)
  · rw [show b = to from by omega]; exact Nat.le_refl _
theorem INV_keep {S D : Nat → Nat} {G f to n m : Nat} (h : INV S D G f to n m) (hn : n ≠ 0) (hc : (n - 1) * (sm D (to + 1) - sm D f) ≤ (sm S (to + 1) - sm S f) * m) : INV S D G f (to + 1) n m := by
  refine ⟨fun q => absurd q hn, fun q => ?_⟩
  obtain ⟨a1, ⟨b, b1, b2, b3, b4, b5⟩, a3⟩ := h.2 q
  refine ⟨a1, ⟨b, b1, by omega, b3, b4, b5⟩, fun b h1 h2 h3 => ?_⟩
  rcases Nat.lt_or_ge b to with v | v
  · exact a3 b h1 v h3
  · rw [show b = to from by omega]; exact hc
def OUT (S D : Nat → Nat) (G f up lw : Nat) : Prop := (up = 0 → ∀ a, a < f → D a = 0) ∧ (up ≠ 0 → 0 < lw ∧ (∃ a, a < f ∧ 0 < D a ∧ ∀ b, G ≤ b → b ≤ 20 → 0 < D b → (up - 1) * (sm D (b + 1) - sm D a) ≤ (sm S (b + 1) - sm S a) * lw) ∧
  ∀ a, a < f → 0 < D a → ∃ b, G ≤ b ∧ b ≤ 20 ∧ 0 < D b ∧ (sm S (b + 1) - sm S a) * lw ≤ (up - 1) * (sm D (b + 1) - sm D a))
theorem OUT_0 (S D : Nat → Nat) (G lw : Nat) : OUT S D G 0 0 lw := ⟨fun _ a h => absurd h (Nat.not_lt_zero a), fun q => absurd rfl q⟩
theorem OUT_skip {S D : Nat → Nat} {G f up lw : Nat} (h : OUT S D G f up lw) (hd : D f = 0) : OUT S D G (f + 1) up lw := by
  refine ⟨fun q a ha => ?_, fun q => ?_⟩
  · rcases Nat.lt_or_ge a f with v | v
    · exact h.1 q a v
    · rw [show a = f from by omega]; exact hd
  · obtain ⟨a1, ⟨a, b1, b2, b3⟩, a3⟩ := h.2 q
    refine ⟨a1, ⟨a, by omega, b2, b3⟩, fun a ha hda => ?_⟩
    rcases Nat.lt_or_ge a f with v | v
    · exact a3 a v hda
    · rw [show a = f from by omega] at hda; omega
theorem OUT_put {S D : Nat → Nat} {G f up lw n m : Nat} (h : OUT S D G f up lw) (hd : D f ≠ 0) (hi : INV S D G f 21 n m) (hn : n ≠ 0) (hc : up = 0 ∨ (up - 1) * m < (n - 1) * lw) : OUT S D G (f + 1) n m := by
  obtain ⟨i1, ⟨b, b1, b2, b3, b4, b5⟩, i3⟩ := hi.2 hn
  refine ⟨fun q => absurd q hn, fun _ => ⟨i1, ⟨f, by omega, by omega, fun b h1 h2 h3 => i3 b h1 (by omega) h3⟩, fun a ha hda => ?_⟩⟩
  rcases Nat.lt_or_ge a f with v | v
  · by_cases z : up = 0
    · have := h.1 z a v; omega
    · obtain ⟨a1, -, a3⟩ := h.2 z
      obtain ⟨b', c1, c2, c3, c4⟩ := a3 a v hda
      exact ⟨b', c1, c2, c3, cr_tr a1 c4 (Nat.le_of_lt (hc.resolve_left z))⟩
  · rw [show a = f from by omega]
    exact ⟨b, b1, by omega, b3, by rw [b4, b5]; exact Nat.le_refl _⟩
theorem OUT_keep {S D : Nat → Nat} {G f up lw n m : Nat} (h : OUT S D G f up lw) (hi : INV S D G f 21 n m) (hn : n ≠ 0) (hu : up ≠ 0) (hc : (n - 1) * lw ≤ (up - 1) * m) : OUT S D G (f + 1) up lw := by
  obtain ⟨i1, ⟨b, b1, b2, b3, b4, b5⟩, i3⟩ := hi.2 hn
  refine ⟨fun q => absurd q hu, fun _ => ?_⟩
  obtain ⟨a1, ⟨a, c1, c2, c3⟩, a3⟩ := h.2 hu
  refine ⟨a1, ⟨a, by omega, c2, c3⟩, fun a ha hda => ?_⟩
  rcases Nat.lt_or_ge a f with v | v
  · exact a3 a v hda
  · rw [show a = f from by omega]
    exact ⟨b, b1, by omega, b3, by rw [← b4, ← b5]; exact hc⟩
theorem INV_ne {S D : Nat → Nat} {G f n m : Nat} (h : INV S D G f 21 n m) (hG : G ≤ 20) (hd : D G ≠ 0) : n ≠ 0 := fun q => hd (h.1 q G (Nat.le_refl _) (by omega))
theorem INV_b {S D : Nat → Nat} {G f to n m : Nat} (h : INV S D G f to n m) (ht : to ≤ 21) (hS : sm S 21 ≤ 4800) (hD : sm D 21 ≤ 240) : n ≤ 4801 ∧ (n ≠ 0 → m ≤ 240) := by
  by_cases z : n = 0
  · exact ⟨by omega, fun q => absurd z q⟩
  · obtain ⟨a1, ⟨b, b1, b2, b3, b4, b5⟩, a3⟩ := h.2 z
    have m1 := sm_mono S (show b + 1 ≤ 21 by omega)
    have m2 := sm_mono D (show b + 1 ≤ 21 by omega)
    exact ⟨by omega, fun _ => by omega⟩
theorem OUT_end {S D : Nat → Nat} {G f up lw : Nat} (h : OUT S D G f up lw) (hf : f = G + 1) (hd : D G ≠ 0) : up ≠ 0 ∧ SPX S D G (up - 1, lw) := by
  subst hf
  have hu : up ≠ 0 := fun q => hd (h.1 q G (by omega))
  obtain ⟨a1, ⟨a, c1, c2, c3⟩, a3⟩ := h.2 hu
  exact ⟨hu, a1, ⟨a, by omega, c2, c3⟩, fun a ha => a3 a (by omega)⟩
theorem sm_sub_le {f : Nat → Nat} {b a c : Nat} (hb : b ≤ 21) (h : sm f 21 ≤ c) : sm f b - sm f a ≤ c := by
  have := sm_mono f hb
  omega
