/-! what the calls of chains and of the row answer -/
theorem nI_oI_le {x y : Nat} (hx : x < 2 ^ 31) (hy : y ≤ 2 ^ 31) : nI x ≤ oI y ↔ x < y := by
  rw [Int32.le_iff_toInt_le, nI_toInt hx, oI_toInt hy]; omega
section ROWS3
variable {p : Program} {l : Launch} {e : Env} {R : Room} {s : State} {m : MethodId} {args : Array Value} {below : List Frame} {meth : Method} {c : Code} {H : Heap} {locs : List Loc} {cells slots : Nat} {Q : State → Prop} {pc : Nat} {ls : Array Slot} {rest : List Value} {cc : ByteArray}
theorem nno_icmp_le (hexec : p.tables.exec = Jvm.exec) (hb : c.code = cc) {x y : Nat} {off : Int} {tgt : Nat} (hdg : decode cc pc = .ok (.if_icmp .le off, 3)) (ht : (pc : Int) + off = (tgt : Int)) (hX : x < 2 ^ 31) (hY : y ≤ 2 ^ 31)
    (kt : x < y → W p l e R s m args below meth c H locs cells slots Q (F0 m tgt ls rest)) (kf : y ≤ x → W p l e R s m args below meth c H locs cells slots Q (F0 m (pc + 3) ls rest)) : W p l e R s m args below meth c H locs cells slots Q (F0 m pc ls (.int (oI y) :: .int (nI x) :: rest)) :=
  lv_icmp_le hexec hb hdg ht (fun h => kt ((nI_oI_le hX hY).mp h)) (fun h => kf (Nat.not_lt.mp (fun e => h ((nI_oI_le hX hY).mpr e))))
end ROWS3
def lnF (t : Nat → Nat) (le ey wo : Nat) : Nat → Nat := lvl t le ey wo 7
def wdF (t : Nat → Nat) (le ey wo : Nat) : Nat → Nat := lvw t le ey wo 7
def weF (t : Nat → Nat) (le ey wo : Nat) : Nat → Nat := wgt t le ey (lvl t le ey wo 7) (lvw t le ey wo 7)
theorem weF_WB (t : Nat → Nat) (le ey wo : Nat) : WB (weF t le ey wo) := wgt_WB _ _ _ _ _
theorem lnF_CH (t : Nat → Nat) (le ey wo : Nat) (hey : ey ≤ 8) : CH t le ey (lnF t le ey wo) (wdF t le ey wo) := lv_CH t le ey wo hey 7 (by omega)
noncomputable def qChain (t : Nat → Nat) (ey le : Nat) (x k : Int32) : Nat := cif (rg x ey) (cif (¬ k < 0 ∧ nn k < lnF t le ey 0 (nn x)) 0 6) 1
noncomputable def rChain (t : Nat → Nat) (ey le : Nat) (x k : Int32) : Nat := if qChain t ey le x k = 0 then wyF t le ey (lnF t le ey 0) (wdF t le ey 0) (nn x) (nn k) + 1 else 0
noncomputable def qO (P : Prop) (v w : Nat) : Nat := cif P (if v = 0 then w else 0) 1
noncomputable def rO (P : Prop) (v : Nat) : Nat := cif P v 0
abbrev vMon (t : Nat → Nat) (le ey en wo m : Nat) : Nat := mV t (weF t le ey wo) ey en m
abbrev okSmooth (m w : Int32) : Prop := rg m 24 ∧ wid w
def vSmo (t : Nat → Nat) (le ey en m w : Nat) : Nat := smV (mV t (weF t le ey 0) ey en) m w
theorem mV_VB {t : Nat → Nat} (h : TB t) {we : Nat → Nat} (hw : WB we) (ey en : Nat) : VB (mV t we ey en) := fun i => mV_le h hw ey en i
theorem smV_VB {va : Nat → Nat} (h : VB va) (w : Nat) : VB (fun i => smV va i w) := fun i => smV_le h i w
abbrev okTurn (w rc : Int32) : Prop := wid w ∧ rg2 rc 1 8
noncomputable def vTurn (t : Nat → Nat) (le ey en k w rc : Nat) (hi : Prop) : Nat := ftv (fun i => smV (mV t (weF t le ey 0) ey en) i w) rc hi k 24 0 0
noncomputable def qTurn (t : Nat → Nat) (le ey en : Nat) (k w rc : Int32) (hi : Prop) : Nat := cif (okTurn w rc) (cif (k < 0) 6 (if vTurn t le ey en (nn k) (nn w) (nn rc) hi = 0 then 6 else 0)) 1
noncomputable def rTurn (t : Nat → Nat) (le ey en : Nat) (k w rc : Int32) (hi : Prop) : Nat := cif (okTurn w rc) (cif (k < 0) 0 (vTurn t le ey en (nn k) (nn w) (nn rc) hi)) 0
theorem ftv_le (sv : Nat → Nat) (r : Nat) (hi : Prop) (k : Nat) : ∀ n m b, ftv sv r hi k n m b ≤ m + n
  | 0, m, b => by unfold ftv; omega
  | n + 1, m, b => by
    unfold ftv
    have h1 := ftv_le sv r hi k n (m + 1) (b + 1)
    have h2 := ftv_le sv r hi k n (m + 1) b
    by_cases q : isT sv m r hi
    · rw [cif_pos q]; split <;> omega
    · rw [cif_neg q]; omega
abbrev okChange (ey : Nat) (m x : Int32) : Prop := rg m 24 ∧ rg x ey ∧ nn x ≠ 0
noncomputable def qChange (t : Nat → Nat) (le ey en : Nat) (m x : Int32) : Nat := cif (okChange ey m x) (if vMon t le ey en 0 (nn m) = 0 ∨ vMon t le ey en (nn x + 1) (nn m) = 0 then 5 else 0) 1
noncomputable def rChange (t : Nat → Nat) (le ey en : Nat) (m x : Int32) : Int32 := if qChange t le ey en m x = 0 then nI (vMon t le ey en 0 (nn m) - 1) - nI (vMon t le ey en (nn x + 1) (nn m) - 1) else -1
theorem qChange_no {t : Nat → Nat} {le ey en : Nat} {m x : Int32} (h : ¬ okChange ey m x) : qChange t le ey en m x = 1 ∧ rChange t le ey en m x = -1 := by
  have h1 : qChange t le ey en m x = 1 := cif_neg h
  exact ⟨h1, by rw [rChange, h1]; rfl⟩
