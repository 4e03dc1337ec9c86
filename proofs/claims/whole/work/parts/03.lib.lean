/-! own library: what every contract speaks of, rows for calls, compares on numbers -/
abbrev tyz (cI cJ : ClassId) : List (ClassId × FieldType) := [(cI, .int), (cJ, .long)]
def nnw : List Cond := [
  .fieldLinkNest "SpotRows" 112 "SpotRows$Tellings" "eyes" "I" "SpotRows",
  .fieldLinkNest "SpotRows" 153 "SpotRows$Tellings" "least" "I" "SpotRows",
  .fieldLinkNest "SpotRows" 156 "SpotRows$Row" "enough" "I" "SpotRows",
  .fieldLinkNest "SpotRows" 175 "SpotRows$Ratios" "many" "I" "SpotRows",
  .fieldLinkNest "SpotRows" 181 "SpotRows$Ratios" "uppers" "[I" "SpotRows",
  .fieldLinkNest "SpotRows" 185 "SpotRows$Ratios" "lowers" "[I" "SpotRows",
  .fieldLinkNest "SpotRows" 198 "SpotRows$Steps" "blockSums" "[I" "SpotRows",
  .fieldLinkNest "SpotRows" 201 "SpotRows$Steps" "blockDays" "[I" "SpotRows",
  .fieldLinkNest "SpotRows" 214 "SpotRows$Chains" "links" "[I" "SpotRows",
  .fieldLinkNest "SpotRows" 220 "SpotRows$Chains" "way" "[I" "SpotRows",
  .fieldLinkNest "SpotRows" 223 "SpotRows$Chains" "weights" "[I" "SpotRows",
  .fieldLinkNest "SpotRows" 62 "SpotRows$Fraction" "upper" "J" "SpotRows",
  .fieldLinkNest "SpotRows" 66 "SpotRows$Fraction" "lower" "J" "SpotRows",
  .fieldLinkNest "SpotRows$Chains" 30 "SpotRows$Tellings" "eyes" "I" "SpotRows",
  .fieldLinkNest "SpotRows$Row" 22 "SpotRows$Tellings" "eyes" "I" "SpotRows",
  .fieldLinkNest "SpotRows$Row" 27 "SpotRows$Chains" "weights" "[I" "SpotRows",
  .methodLinkNest "SpotRows$Tellings" 34 yX7_isWithin "SpotRows",
  .methodLinkNest "SpotRows$Trays" 28 yX7_isWithin "SpotRows"]
def NN (U : State) : Prop := ∀ w ∈ nnw, va_Nw w U
theorem NN_same {u U : State} (h : u.vm = U.vm) (hZ : NN u) : NN U := by
  intro w hw
  have h2 := hZ w hw
  simp only [nnw, List.mem_cons, List.not_mem_nil, or_false] at hw
  rcases hw with rfl | rfl | rfl | rfl | rfl | rfl | rfl | rfl | rfl | rfl | rfl | rfl | rfl | rfl | rfl | rfl | rfl | rfl <;> exact va_Nw.same rfl h h2
theorem NN_warm {s U : State} (hW : s.WarmedH U.vm) (hZ : NN s) : NN U := by
  intro w hw
  have h2 := hZ w hw
  simp only [nnw, List.mem_cons, List.not_mem_nil, or_false] at hw
  rcases hw with rfl | rfl | rfl | rfl | rfl | rfl | rfl | rfl | rfl | rfl | rfl | rfl | rfl | rfl | rfl | rfl | rfl | rfl <;> first | exact va_Nw.warmF hW h2 | exact va_Nw.warmM hW h2
/-- what is known of the classes, wherever a method of the system runs -/
def KK (G : va_G) (cI cJ : ClassId) (U : State) : Prop := va_K G vwCl (tyz cI cJ) U ∧ NN U ∧ U.vm.findClass "[I" = some cI ∧ U.vm.findClass "[J" = some cJ
theorem KK_call {G : va_G} {cI cJ : ClassId} {U : State} (a : Array Value) (g : JFrame) (mk) (h : KK G cI cJ U) : KK G cI cJ (U.calling g mk a) :=
  ⟨va_K.moved (u := U) (U := U.calling g mk a) (Vm.Alike.refl U.vm) h.1, NN_same (u := U) rfl h.2.1, h.2.2.1, h.2.2.2⟩
theorem KK_warm {G : va_G} {cI cJ : ClassId} {s U : State} (hW : s.WarmedH U.vm) (h : KK G cI cJ s) : KK G cI cJ U :=
  ⟨va_K.moved hW.alike h.1, NN_warm hW h.2.1, by rw [hW.alike.findClass]; exact h.2.2.1, by rw [hW.alike.findClass]; exact h.2.2.2⟩
def roP (G : va_G) (cI cJ : ClassId) (av : List Value) (ws : va_W) : Array Value → State → Prop := va_Pc av (fun U => va_P G vwCl ws U.heap ∧ KK G cI cJ U)
def rwP (G : va_G) (cI cJ : ClassId) (av : List Value) (ws : va_W) : Array Value → State → Prop := va_Pc av (fun U => va_P G vwCl ws U.heap ∧ va_D (fun _ => True) ws ∧ KK G cI cJ U)
/-- the addresses of a list of cells -/
def ads (ws : va_W) : Nat → Prop := fun q => ∃ (k : Nat) (e : va_E), ws[k]? = some (q, e)
abbrev rwQv (G : va_G) (ws : va_W) {S : Type} (post : S → Prop) (wf : S → va_W) : Array Value → State → Outcome → State → Prop := va_Qv post (fun u t => va_P G vwCl (wf u) t.heap) (ads ws)
abbrev rwQi (G : va_G) (ws : va_W) {S : Type} (post : Int32 → S → Prop) (wf : S → va_W) : Array Value → State → Outcome → State → Prop := va_Qi post (fun u t => va_P G vwCl (wf u) t.heap) (ads ws)
abbrev rwQl (G : va_G) (ws : va_W) {S : Type} (post : Int64 → S → Prop) (wf : S → va_W) : Array Value → State → Outcome → State → Prop := va_Ql post (fun u t => va_P G vwCl (wf u) t.heap) (ads ws)
theorem roP_blind {G : va_G} {cI cJ : ClassId} {av : List Value} {ws : va_W} : FrameBlind (roP G cI cJ av ws) := fun a U g mk q => by
  obtain ⟨q0, qP, qK⟩ := q
  exact ⟨q0, qP, KK_call a g mk qK⟩
theorem rwP_blind {G : va_G} {cI cJ : ClassId} {av : List Value} {ws : va_W} : FrameBlind (rwP G cI cJ av ws) := fun a U g mk q => by
  obtain ⟨q0, qP, qD, qK⟩ := q
  exact ⟨q0, qP, qD, KK_call a g mk qK⟩
theorem subP {D : va_G} {cl : List vw_C} {ws wc : va_W} {H : Heap} (hP : va_P D cl ws H) (is : List Nat) (hs : is.map (fun i => ws[i]?) = wc.map some) : va_P D cl wc H := by
  intro k q hq
  have h1 : (is.map (fun i => ws[i]?))[k]? = some (some q) := by rw [hs, List.getElem?_map, hq]; rfl
  rw [List.getElem?_map] at h1
  cases hi : is[k]? with
  | none => rw [hi] at h1; cases h1
  | some i => rw [hi] at h1; exact hP i q (Option.some.inj h1)
/-- the list of cells with those at the places 'is' put anew -/
def rep : va_W → List Nat → va_W → va_W
  | ws, i :: is, c :: w => rep (ws.set i c) is w
  | ws, _, _ => ws
theorem rep_get : ∀ (is : List Nat) (w ws : va_W) (k : Nat) (q : Nat × va_E), is.length = w.length → (rep ws is w)[k]? = some q → (∃ j : Nat, is[j]? = some k ∧ w[j]? = some q) ∨ (k ∉ is ∧ ws[k]? = some q)
  | [], [], ws, k, q, _, h => Or.inr ⟨List.not_mem_nil, h⟩
  | [], _ :: _, _, _, _, hl, _ => by simp at hl
  | _ :: _, [], _, _, _, hl, _ => by simp at hl
  | i :: is, c :: w, ws, k, q, hl, h => by
    rcases rep_get is w (ws.set i c) k q (by simpa using hl) h with ⟨j, h1, h2⟩ | ⟨h1, h2⟩
    · exact Or.inl ⟨j + 1, by simpa using h1, by simpa using h2⟩
    · rw [List.getElem?_set] at h2
      by_cases e : i = k
      · subst e
        rw [if_pos rfl] at h2
        split at h2
        · exact Or.inl ⟨0, rfl, by simpa using h2⟩
        · cases h2
      · rw [if_neg e] at h2
        refine Or.inr ⟨fun hm => ?_, h2⟩
        rcases List.mem_cons.mp hm with z | z
        · exact e z.symm
        · exact h1 z
theorem rep_ad : ∀ (is : List Nat) (w ws : va_W), is.map (fun i => ws[i]?.map (·.1)) = w.map (fun c => some c.1) → ∀ k : Nat, (rep ws is w)[k]?.map (·.1) = ws[k]?.map (·.1)
  | [], _, ws, _, k => by unfold rep; rfl
  | _ :: _, [], ws, h, k => by simp at h
  | i :: is, c :: w, ws, h, k => by
    rw [List.map_cons, List.map_cons, List.cons.injEq] at h
    have key : ∀ k : Nat, (ws.set i c)[k]?.map (·.1) = ws[k]?.map (·.1) := by
      intro k
      rw [List.getElem?_set]
      by_cases e : i = k
      · subst e
        rw [if_pos rfl, h.1]
        split
        · rfl
        · rename_i hlt
          have h1 := h.1
          rw [List.getElem?_eq_none (by omega)] at h1
          cases h1
      · rw [if_neg e]
    have h2 := rep_ad is w (ws.set i c) (by rw [← h.2]; exact List.map_congr_left (fun j _ => key j)) k
    unfold rep
    rw [h2, key k]
theorem va_rep {A : Nat → Prop} {D : va_G} {cl : List vw_C} {ws wc w1 : va_W} {H H1 : Heap} (hP : va_P D cl ws H) (hD : va_D A ws) (is : List Nat) (hC : is.map (fun i => ws[i]?) = wc.map some) (ha : w1.map (·.1) = wc.map (·.1))
    (hk : ∀ q : Nat, q < H.size → ¬ ads wc q → H1[q]? = H[q]?) (hP1 : va_P D cl w1 H1) : va_P D cl (rep ws is w1) H1 ∧ va_D A (rep ws is w1) := by
  have hl1 : is.length = w1.length := by
    have h1 := congrArg List.length hC
    have h2 := congrArg List.length ha
    simp only [List.length_map] at h1 h2
    omega
  have had : is.map (fun i => ws[i]?.map (·.1)) = w1.map (fun c => some c.1) := by
    have h1 : is.map (fun i => ws[i]?.map (·.1)) = (is.map (fun i => ws[i]?)).map (fun o => o.map (·.1)) := by rw [List.map_map]; rfl
    have h2 : w1.map (fun c => some c.1) = (w1.map (·.1)).map some := by rw [List.map_map]; rfl
    rw [h1, hC, h2, ha, List.map_map, List.map_map]; rfl
  have hads : ∀ (k : Nat) (q : Nat × va_E), (rep ws is w1)[k]? = some q → ∃ q0, ws[k]? = some q0 ∧ q0.1 = q.1 := by
    intro k q hq
    have h := rep_ad is w1 ws had k
    rw [hq] at h
    cases hw : ws[k]? with
    | none => rw [hw] at h; cases h
    | some q0 => rw [hw] at h; exact ⟨q0, rfl, (Option.some.inj h).symm⟩
  refine ⟨fun k q hq => ?_, ?_, fun k q hq => ?_⟩
  · rcases rep_get is w1 ws k q hl1 hq with ⟨j, h1, h2⟩ | ⟨h1, h2⟩
    · exact hP1 j q h2
    · refine (hP k q h2).kept (hk q.1 ((hP k q h2).lt) ?_)
      rintro ⟨j, e, hj⟩
      have h3 : (is.map (fun i => ws[i]?))[j]? = some (some (q.1, e)) := by rw [hC, List.getElem?_map, hj]; rfl
      rw [List.getElem?_map] at h3
      cases hi : is[j]? with
      | none => rw [hi] at h3; cases h3
      | some i =>
        rw [hi] at h3
        have h4 : ws[i]? = some (q.1, e) := Option.some.inj h3
        have := hD.1 i k (q.1, e) q h4 h2 rfl
        subst this
        exact h1 (List.mem_of_getElem? hi)
  · intro i j p q hp hq hpq
    obtain ⟨p0, h1, h2⟩ := hads i p hp
    obtain ⟨q0, h3, h4⟩ := hads j q hq
    exact hD.1 i j p0 q0 h1 h3 (by rw [h2, h4, hpq])
  · obtain ⟨q0, h1, h2⟩ := hads k q hq
    rw [← h2]
    exact hD.2 k q0 h1
theorem ads_self {A : Nat → Prop} {ws : va_W} (h : va_D A ws) : va_D (ads ws) ws := ⟨h.1, fun k q hq => ⟨k, q.2, hq⟩⟩
theorem ads_in {A : Nat → Prop} {ws wc : va_W} (hD : va_D A ws) (is : List Nat) (hC : is.map (fun i => ws[i]?) = wc.map some) : ∀ q, ads wc q → A q := by
  rintro q ⟨j, e, hj⟩
  have h3 : (is.map (fun i => ws[i]?))[j]? = some (some (q, e)) := by rw [hC, List.getElem?_map, hj]; rfl
  rw [List.getElem?_map] at h3
  cases hi : is[j]? with
  | none => rw [hi] at h3; cases h3
  | some i =>
    rw [hi] at h3
    exact hD.2 i _ (Option.some.inj h3)
theorem subD {A : Nat → Prop} {ws wc : va_W} (hD : va_D A ws) (is : List Nat) (hn : va_nd is = true) (hC : is.map (fun i => ws[i]?) = wc.map some) : va_D (fun _ => True) wc := (hD.sub is hn hC).weaken (fun _ _ _ _ => trivial)
section LIB
variable {p : Program} {l : Launch} {e : Env} {R : Room} {s : State} {m : MethodId} {args : Array Value} {below : List Frame} {meth : Method} {c : Code} {H : Heap} {locs : List Loc} {cells slots : Nat} {Q : State → Prop} {pc : Nat} {ls : Array Slot} {rest st0 : List Value} {a : Array Value}
theorem toi {v v' : Int32} (h : v = v') (k : W p l e R s m args below meth c H locs cells slots Q (F0 m pc ls (.int v' :: rest))) : W p l e R s m args below meth c H locs cells slots Q (F0 m pc ls (.int v :: rest)) := by rw [h]; exact k
theorem tol {v v' : Int64} (h : v = v') (k : W p l e R s m args below meth c H locs cells slots Q (F0 m pc ls (.long v' :: rest))) : W p l e R s m args below meth c H locs cells slots Q (F0 m pc ls (.long v :: rest)) := by rw [h]; exact k
/-- a call that changes nothing -/
theorem cro_i {v : Int32} (hr : va_Run p l e R s m args below meth c H locs cells slots 0 0 (F0 m pc ls st0) rest (vp_Si (fun r => r = v) a) (fun _ => False))
    (kk : W p l e R s m args below meth c H locs cells slots Q (F0 m (pc + 3) ls (.int v :: rest))) : W p l e R s m args below meth c H locs cells slots Q (F0 m pc ls st0) := by
  intro T hT X
  obtain ⟨v1, st₀, t, T', L, h0, X', hL, e1, -, ⟨r, hv, hp, hh⟩, st⟩ := hr T hT X
  cases hv
  subst hp
  have hL0 : L = [] := List.eq_nil_iff_forall_not_mem.mpr (fun q hq => hL q hq)
  subst hL0
  rw [List.append_nil] at X'
  obtain ⟨t2, a1, b1⟩ := kk T' (by rw [e1, hh, h0]) X'
  exact ⟨t2, st t2 a1, b1⟩
theorem cro_v (hr : va_Run p l e R s m args below meth c H locs cells slots 0 0 (F0 m pc ls st0) rest (va_Sv (fun _ => True) a) (fun _ => False))
    (kk : W p l e R s m args below meth c H locs cells slots Q (F0 m (pc + 3) ls rest)) : W p l e R s m args below meth c H locs cells slots Q (F0 m pc ls st0) := by
  intro T hT X
  obtain ⟨v1, st₀, t, T', L, h0, X', hL, e1, -, ⟨hv, hp, hh⟩, st⟩ := hr T hT X
  cases hv
  have hL0 : L = [] := List.eq_nil_iff_forall_not_mem.mpr (fun q hq => hL q hq)
  subst hL0
  rw [List.append_nil] at X'
  obtain ⟨t2, a1, b1⟩ := kk T' (by rw [e1, hh, h0]) X'
  exact ⟨t2, st t2 a1, b1⟩
theorem cro_l {v : Int64} (hr : va_Run p l e R s m args below meth c H locs cells slots 0 0 (F0 m pc ls st0) rest (vp_Sl (fun r => r = v) a) (fun _ => False))
    (kk : W p l e R s m args below meth c H locs cells slots Q (F0 m (pc + 3) ls (.long v :: rest))) : W p l e R s m args below meth c H locs cells slots Q (F0 m pc ls st0) := by
  intro T hT X
  obtain ⟨v1, st₀, t, T', L, h0, X', hL, e1, -, ⟨r, hv, hp, hh⟩, st⟩ := hr T hT X
  cases hv
  subst hp
  have hL0 : L = [] := List.eq_nil_iff_forall_not_mem.mpr (fun q hq => hL q hq)
  subst hL0
  rw [List.append_nil] at X'
  obtain ⟨t2, a1, b1⟩ := kk T' (by rw [e1, hh, h0]) X'
  exact ⟨t2, st t2 a1, b1⟩
variable {G : va_G} {cI cJ : ClassId} {ws wc : va_W} {A : Nat → Prop} {H0 : Heap}
theorem preV_ro {As : List Value} {C : String} {b : Nat} {q : vw_C} {fs : List Value} (hK : KK G cI cJ s) (hP : va_P G vwCl ws H) (is : List Nat) (hs : is.map (fun i => ws[i]?) = wc.map some) (ci q0 : Nat) (hc : vwCl[ci]? = some q) (he : ws[q0]? = some (b, .inr (ci, fs))) (hC : q.1 = C) : PreV s H C b (roP G cI cJ (.ref b :: As) wc) As :=
  ⟨roP_blind, by rw [← hC]; exact va_recv hK.1 hP hc he, fun U hU hW => ⟨rfl, by rw [hU]; exact subP hP is hs, KK_warm hW hK⟩⟩
theorem preS_ro {As : List Value} (hK : KK G cI cJ s) (hP : va_P G vwCl ws H) (is : List Nat) (hs : is.map (fun i => ws[i]?) = wc.map some) : PreS s H (roP G cI cJ As wc) As :=
  ⟨roP_blind, fun U hU hW => ⟨rfl, by rw [hU]; exact subP hP is hs, KK_warm hW hK⟩⟩
theorem preV_rw {As : List Value} {C : String} {b : Nat} {q : vw_C} {fs : List Value} (hK : KK G cI cJ s) (hP : va_P G vwCl ws H) (hD : va_D A ws) (is : List Nat) (hn : va_nd is = true) (hs : is.map (fun i => ws[i]?) = wc.map some) (ci q0 : Nat) (hc : vwCl[ci]? = some q) (he : ws[q0]? = some (b, .inr (ci, fs))) (hC : q.1 = C) : PreV s H C b (rwP G cI cJ (.ref b :: As) wc) As :=
  ⟨rwP_blind, by rw [← hC]; exact va_recv hK.1 hP hc he, fun U hU hW => ⟨rfl, by rw [hU]; exact subP hP is hs, subD hD is hn hs, KK_warm hW hK⟩⟩
theorem preS_rw {As : List Value} (hK : KK G cI cJ s) (hP : va_P G vwCl ws H) (hD : va_D A ws) (is : List Nat) (hn : va_nd is = true) (hs : is.map (fun i => ws[i]?) = wc.map some) : PreS s H (rwP G cI cJ As wc) As :=
  ⟨rwP_blind, fun U hU hW => ⟨rfl, by rw [hU]; exact subP hP is hs, subD hD is hn hs, KK_warm hW hK⟩⟩
/-- a call that writes in its own cells -/
theorem crw_v {S : Type} {post : S → Prop} {wf : S → va_W} {free : Addr → Prop} (hr : va_Run p l e R s m args below meth c H locs cells slots 0 0 (F0 m pc ls st0) rest (rwQv G wc post wf a) (ads wc)) (hP : va_P G vwCl ws H) (hD : va_D A ws) (hS : va_S A H0 H locs) (is : List Nat) (hs : is.map (fun i => ws[i]?) = wc.map some) (ad : List Nat) (ha : ∀ u, (wf u).map (·.1) = ad) (hc : wc.map (·.1) = ad)
    (kk : ∀ (u : S) (H1 : Heap) (locs1 : List Loc), post u → va_P G vwCl (rep ws is (wf u)) H1 → va_D A (rep ws is (wf u)) → va_S A H0 H1 locs1 → W p l e R s m args below meth c H1 locs1 cells slots Q (F0 m (pc + 3) ls rest)) : W p l e R s m args below meth c H locs cells slots Q (F0 m pc ls st0) := by
  refine va_callv hr hS (fun q _ h => ads_in hD is hs q h) (ads_in hD is hs) (fun u t H1 locs1 ht hvm hw hB hz1 hk1 hS1 => ?_)
  subst ht
  obtain ⟨h1, h2⟩ := va_rep hP hD is hs ((ha u).trans hc.symm) hk1 hB
  exact kk u _ _ hw h1 h2 hS1
theorem crw_i {S : Type} {post : Int32 → S → Prop} {wf : S → va_W} (hr : va_Run p l e R s m args below meth c H locs cells slots 0 0 (F0 m pc ls st0) rest (rwQi G wc post wf a) (ads wc)) (hP : va_P G vwCl ws H) (hD : va_D A ws) (hS : va_S A H0 H locs) (is : List Nat) (hs : is.map (fun i => ws[i]?) = wc.map some) (ad : List Nat) (ha : ∀ u, (wf u).map (·.1) = ad) (hc : wc.map (·.1) = ad)
    (kk : ∀ (r : Int32) (u : S) (H1 : Heap) (locs1 : List Loc), post r u → va_P G vwCl (rep ws is (wf u)) H1 → va_D A (rep ws is (wf u)) → va_S A H0 H1 locs1 → W p l e R s m args below meth c H1 locs1 cells slots Q (F0 m (pc + 3) ls (.int r :: rest))) : W p l e R s m args below meth c H locs cells slots Q (F0 m pc ls st0) := by
  refine va_calli hr hS (fun q _ h => ads_in hD is hs q h) (ads_in hD is hs) (fun r u t H1 locs1 ht hvm hw hB hz1 hk1 hS1 => ?_)
  subst ht
  obtain ⟨h1, h2⟩ := va_rep hP hD is hs ((ha u).trans hc.symm) hk1 hB
  exact kk r u _ _ hw h1 h2 hS1
theorem crw_l {S : Type} {post : Int64 → S → Prop} {wf : S → va_W} (hr : va_Run p l e R s m args below meth c H locs cells slots 0 0 (F0 m pc ls st0) rest (rwQl G wc post wf a) (ads wc)) (hP : va_P G vwCl ws H) (hD : va_D A ws) (hS : va_S A H0 H locs) (is : List Nat) (hs : is.map (fun i => ws[i]?) = wc.map some) (ad : List Nat) (ha : ∀ u, (wf u).map (·.1) = ad) (hc : wc.map (·.1) = ad)
    (kk : ∀ (r : Int64) (u : S) (H1 : Heap) (locs1 : List Loc), post r u → va_P G vwCl (rep ws is (wf u)) H1 → va_D A (rep ws is (wf u)) → va_S A H0 H1 locs1 → W p l e R s m args below meth c H1 locs1 cells slots Q (F0 m (pc + 3) ls (.long r :: rest))) : W p l e R s m args below meth c H locs cells slots Q (F0 m pc ls st0) := by
  refine va_calll hr hS (fun q _ h => ads_in hD is hs q h) (ads_in hD is hs) (fun r u t H1 locs1 ht hvm hw hB hz1 hk1 hS1 => ?_)
  subst ht
  obtain ⟨h1, h2⟩ := va_rep hP hD is hs ((ha u).trans hc.symm) hk1 hB
  exact kk r u _ _ hw h1 h2 hS1
end LIB
