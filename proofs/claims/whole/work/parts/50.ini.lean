/-! making: rows for new arrays, contracts of constructors -/
def inP (G : va_G) (cI cJ : ClassId) (h0 : Nat) (w0 : va_W) (sz : Nat) : Array Value → State → Prop := va_Pc [.ref h0] (fun U => U.heap.size = sz ∧ va_P G vwCl w0 U.heap ∧ va_D (fun _ => True) w0 ∧ KK G cI cJ U)
abbrev inQ (G : va_G) (w0 : va_W) (sz : Nat) (po : (Nat → Nat) → Prop) (wf : (Nat → Nat) → va_W) : Array Value → State → Outcome → State → Prop := va_Qv po (fun u t => va_P G vwCl (wf u) t.heap ∧ va_D (va_A w0 sz) (wf u)) (va_A w0 sz)
theorem inP_blind {G : va_G} {cI cJ : ClassId} {h0 : Nat} {w0 : va_W} {sz : Nat} : FrameBlind (inP G cI cJ h0 w0 sz) := fun a U g mk q => by
  obtain ⟨q0, q1, qP, qD, qK⟩ := q
  exact ⟨q0, q1, qP, qD, KK_call a g mk qK⟩
section INI
variable {p : Program} {l : Launch} {e : Env} {R : Room} {s : State} {m : MethodId} {args : Array Value} {below : List Frame} {meth : Method} {c : Code} {H : Heap} {locs : List Loc} {cells slots : Nat} {Q : State → Prop} {pc : Nat} {ls : Array Slot} {rest st0 : List Value} {cc : ByteArray}
variable {G : va_G} {cI cJ : ClassId} {ws : va_W} {A : Nat → Prop} {H0 : Heap}
theorem nw_I (hx : p.tables.exec = Jvm.exec) (hb : c.code = cc) (harr : (Cond.arrayClass .int).before args s = true) (hK : KK G cI cJ s) (hP : va_P G vwCl ws H) (hD : va_D A ws) (hS : va_S A H0 H locs) (hA : ∀ q, H0.size ≤ q → A q) {N : Nat} (hN : N < 2 ^ 20) (hcells : cells + 1 ≤ R.cells) (hslots : slots + N ≤ R.slots) (hdg : decode cc pc = .ok (.newarray .int, 2))
    (kk : ∀ (q : Nat) (H1 : Heap), va_P G vwCl (ws ++ [aI cI q N (nF (fun _ => 0))]) H1 → va_D A (ws ++ [aI cI q N (nF (fun _ => 0))]) → va_S A H0 H1 locs → W p l e R s m args below meth c H1 locs (cells + 1) (slots + N) Q (F0 m (pc + 2) ls (.ref q :: rest))) : W p l e R s m args below meth c H locs cells slots Q (F0 m pc ls (.int (nI N) :: rest)) := by
  refine va_newa (D := G) (cl := vwCl) (tys := []) hx hb (atype := .int) harr (ty := .int) rfl (hK.1.sub [] rfl) hP hD hS hA (N' := N) (a0 := (N, .inl (nF (fun _ => 0)))) (fun cA => rfl) (nI_pos (by omega)) (nI_clamp (by omega)) (by show N * 4 ≤ 536870912; omega) hcells hslots hdg (fun q cA H1 hK1 hP1 hD1 hS1 => ?_)
  have h1 : s.vm.findClass "[I" = some cA := (hK1.2 0 (cA, .int) rfl).2
  have h2 : cA = cI := Option.some.inj (h1.symm.trans hK.2.2.1)
  subst h2
  exact kk q H1 hP1 hD1 hS1
theorem nw_J (hx : p.tables.exec = Jvm.exec) (hb : c.code = cc) (harr : (Cond.arrayClass .long).before args s = true) (hK : KK G cI cJ s) (hP : va_P G vwCl ws H) (hD : va_D A ws) (hS : va_S A H0 H locs) (hA : ∀ q, H0.size ≤ q → A q) {N : Nat} (hN : N < 2 ^ 20) (hcells : cells + 1 ≤ R.cells) (hslots : slots + N ≤ R.slots) (hdg : decode cc pc = .ok (.newarray .long, 2))
    (kk : ∀ (q : Nat) (H1 : Heap), va_P G vwCl (ws ++ [aJ cJ q N (fun _ => lN 0)]) H1 → va_D A (ws ++ [aJ cJ q N (fun _ => lN 0)]) → va_S A H0 H1 locs → W p l e R s m args below meth c H1 locs (cells + 1) (slots + N) Q (F0 m (pc + 2) ls (.ref q :: rest))) : W p l e R s m args below meth c H locs cells slots Q (F0 m pc ls (.int (nI N) :: rest)) := by
  refine va_newa (D := G) (cl := vwCl) (tys := []) hx hb (atype := .long) harr (ty := .long) rfl (hK.1.sub [] rfl) hP hD hS hA (N' := N) (a0 := (N, .inr (.inl (fun _ => lN 0)))) (fun cA => rfl) (nI_pos (by omega)) (nI_clamp (by omega)) (by show N * 8 ≤ 536870912; omega) hcells hslots hdg (fun q cA H1 hK1 hP1 hD1 hS1 => ?_)
  have h1 : s.vm.findClass "[J" = some cA := (hK1.2 0 (cA, .long) rfl).2
  have h2 : cA = cJ := Option.some.inj (h1.symm.trans hK.2.2.2)
  subst h2
  exact kk q H1 hP1 hD1 hS1
theorem preS_in {h0 : Nat} {wc : va_W} (hK : KK G cI cJ s) (hP : va_P G vwCl ws H) (hD : va_D A ws) (is : List Nat) (hn : va_nd is = true) (hs : is.map (fun i => ws[i]?) = wc.map some) : PreS s H (inP G cI cJ h0 wc H.size) [.ref h0] :=
  ⟨inP_blind, fun U hU hW => ⟨rfl, by rw [hU], by rw [hU]; exact subP hP is hs, subD hD is hn hs, KK_warm hW hK⟩⟩
theorem cin {mc ms : Nat} {wc wr : va_W} {a : Array Value} {po : (Nat → Nat) → Prop} {wf : (Nat → Nat) → va_W} (hr : va_Run p l e R s m args below meth c H locs cells slots mc ms (F0 m pc ls st0) rest (inQ G wc H.size po wf a) (va_A wc H.size)) (hP : va_P G vwCl ws H) (hD : va_D A ws) (hS : va_S A H0 H locs) (hA : ∀ q, H0.size ≤ q → A q) (isC isR : List Nat) (hC : isC.map (fun i => ws[i]?) = wc.map some) (hR : isR.map (fun i => ws[i]?) = wr.map some) (hn : va_nd isR = true) (hdis : ∀ i ∈ isR, i ∉ isC)
    (kk : ∀ (u : Nat → Nat) (H1 : Heap) (locs1 : List Loc), po u → va_P G vwCl (wr ++ wf u) H1 → va_D A (wr ++ wf u) → va_S A H0 H1 locs1 → W p l e R s m args below meth c H1 locs1 (cells + mc) (slots + ms) Q (F0 m (pc + 3) ls rest)) : W p l e R s m args below meth c H locs cells slots Q (F0 m pc ls st0) := by
  have hF := va_free (wc := wc) hD hS hA isC hC
  refine va_callv hr hS (fun q _ h => hF q h) hF (fun u t H1 locs1 ht hvm hw hB hz1 hk1 hS1 => ?_)
  subst ht
  obtain ⟨h1, h2⟩ := va_join hP hD isC isR hC hR hn hdis hk1 hF hB.1 hB.2
  exact kk u _ locs1 hw h1 h2 hS1
end INI
theorem c0_1 : nI 0 = oI 1 := by decide
theorem fil_o {n : Nat} : ∀ i, i < n → fil (nF (fun _ => 0)) (-1) 0 n i = oF (fun _ => 0) i := fun i hi => by
  show fil (nF (fun _ => 0)) (-1) 0 n i = oI 0
  unfold fil; rw [if_pos ⟨Nat.zero_le i, hi⟩]; exact m1_o
theorem up4_o : ∀ i, i < 4 → (upN (upN (upN (upN (nF (fun _ => 0)) 0 (-1)) 1 (-1)) 2 (-1)) 3 (-1)) i = oF (fun _ => 0) i := by
  intro i hi
  rcases (show i = 0 ∨ i = 1 ∨ i = 2 ∨ i = 3 by omega) with rfl | rfl | rfl | rfl <;> exact m1_o
