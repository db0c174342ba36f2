theorem isW_I {n : Nat} (h : n + 1 < 2 ^ 31) (x : Int32) : isW x (nI n) = isI x (nI (n + 1)) := by
  unfold isW isI
  have a : nI n < x ↔ nI (n + 1) ≤ x := by
    rw [Int32.lt_iff_toInt_lt, Int32.le_iff_toInt_le]
    have a1 : (nI n).toInt = n := Int32.toInt_ofNat_of_lt (by omega)
    have a2 : (nI (n + 1)).toInt = ((n + 1 : Nat) : Int) := Int32.toInt_ofNat_of_lt h
    rw [a1, a2]
    omega
  exact decide_eq_decide.mpr (and_congr_right (fun _ => not_congr a))
theorem isW_6 (x : Int32) : isW x 5 = isI x 6 := isW_I (n := 5) (by decide) x
theorem isW_22 (x : Int32) : isW x 21 = isI x 22 := isW_I (n := 21) (by decide) x
theorem isW_256 (x : Int32) : isW x 255 = isI x 256 := isW_I (n := 255) (by decide) x
theorem isW_64 (x : Int32) : isW x 63 = isI x 64 := isW_I (n := 63) (by decide) x
theorem isI_ex {x : Int32} {N : Nat} (hN : N < 2 ^ 31) (h : isI x (nI N) = true) : ∃ p, p < N ∧ x = nI p := by
  unfold isI at h
  have h2 := of_decide_eq_true h
  have a1 : ¬ x.toInt < 0 := fun q => h2.1 (Int32.lt_iff_toInt_lt.mpr q)
  have a2 : ¬ (nI N).toInt ≤ x.toInt := fun q => h2.2 (Int32.le_iff_toInt_le.mpr q)
  have a3 : (nI N).toInt = N := Int32.toInt_ofNat_of_lt hN
  rw [a3] at a2
  refine ⟨x.toInt.toNat, by omega, ?_⟩
  have e : ((x.toInt.toNat : Nat) : Int) = x.toInt := Int.toNat_of_nonneg (by omega)
  have e2 : Int32.ofInt ((x.toInt.toNat : Nat) : Int) = x := by rw [e]; exact Int32.ofInt_toInt x
  exact e2.symm.trans Int32.ofInt_eq_ofNat
theorem cnt_out {x : Int32} (h : isI x 9 = false) : x.toInt < 0 ∨ 2 < x.toInt := by
  unfold isI at h
  have h2 := of_decide_eq_false h
  by_cases c : x.toInt < 0
  · exact Or.inl c
  · right
    refine Int.not_le.mp (fun q => h2 ⟨fun z => c (Int32.lt_iff_toInt_lt.mp z), fun z => ?_⟩)
    have z2 := Int32.le_iff_toInt_le.mp z
    have z3 : (9 : Int32).toInt = 9 := rfl
    rw [z3] at z2
    omega
theorem cnt_no {x : Int32} (h : isI x 9 = false) : isW (x - 3) 5 = false := by
  cases hw : isW (x - 3) 5 with
  | false => rfl
  | true =>
    rw [isW_6] at hw
    obtain ⟨q, hq, e⟩ := isI_ex (N := 6) (by decide) hw
    have e2 : x = nI (q + 3) := by
      have e3 : x - 3 + 3 = nI q + 3 := by rw [e]
      rw [Int32.sub_add_cancel] at e3
      exact e3.trans (nI_add q 3)
    have e4 : isI x 9 = true := by
      rw [e2]
      exact isI_t (p := q + 3) (N := 9) (by omega) (by decide)
    rw [e4] at h
    cases h
def eInv (E : XS) : Prop := ∀ j, j < 6 → pOk (eP E j)
theorem eInv_perf {th : Bool} {p : Nat} {E E2 : XS} {r : Int32} (e : (r, E2) = xePerf th p E) (h : eInv E) : eInv E2 := by
  have e2 : E2 = (xePerf th p E).2 := congrArg (fun t : Int32 × XS => t.2) e
  rw [e2]
  unfold eInv
  rw [(xe_get th p E).1]
  exact h
theorem xU_t {th : Bool} {p : Nat} {E : XS} (h : th = true) : xRun (eP E p) (20 + nI p) (eU E p) = xU th p E := by
  unfold xU xNm
  rw [if_pos h]
theorem xU_f {th : Bool} {p : Nat} {E : XS} (h : th = false) : xRun (eP E p) 10 (eU E p) = xU th p E := by
  unfold xU xNm
  rw [if_neg (by rw [h]; decide)]
theorem xP_tz {th : Bool} {p : Nat} {E : XS} (h : th = true) (ho : xOutcome (xU th p E) = 0) : (xOutcome (xU th p E), tC (tT (tR (tU E (va_up (eU E) p (xU th p E))) (eR E + 1)) (eT E + 1)) (eC E + gCnt (xU th p E))) = xePerf th p E := by
  unfold xePerf xe3 xe2 xe1
  rw [if_pos ho, if_pos h]
theorem xP_tn {th : Bool} {p : Nat} {E : XS} (h : th = true) (ho : ¬ xOutcome (xU th p E) = 0) : (xOutcome (xU th p E), tC (tB (tT (tR (tU E (va_up (eU E) p (xU th p E))) (eR E + 1)) (eT E + 1)) (eB E + 1)) (eC E + gCnt (xU th p E))) = xePerf th p E := by
  unfold xePerf xe3 xe2 xe1
  rw [if_neg ho, if_pos h]
theorem xP_fz {th : Bool} {p : Nat} {E : XS} (h : th = false) (ho : xOutcome (xU th p E) = 0) : (xOutcome (xU th p E), tC (tR (tU E (va_up (eU E) p (xU th p E))) (eR E + 1)) (eC E + gCnt (xU th p E))) = xePerf th p E := by
  unfold xePerf xe3 xe2 xe1
  rw [if_pos ho, if_neg (by rw [h]; decide)]
theorem xP_fn {th : Bool} {p : Nat} {E : XS} (h : th = false) (ho : ¬ xOutcome (xU th p E) = 0) : (xOutcome (xU th p E), tC (tB (tR (tU E (va_up (eU E) p (xU th p E))) (eR E + 1)) (eB E + 1)) (eC E + gCnt (xU th p E))) = xePerf th p E := by
  unfold xePerf xe3 xe2 xe1
  rw [if_neg ho, if_neg (by rw [h]; decide)]
theorem bit_1 {x : Nat} (h : nI (x % 2) = 1) : x % 2 = 1 := (nI_eq (b := 1) (by omega) (by decide)).mp h
theorem bitn1 {x : Nat} (h : ¬ nI (x % 2) = 1) : ¬ x % 2 = 1 := fun q => h (congrArg nI q)
theorem xeAll_skip {k n p : Nat} {c : Int32} {E : XS} (h : ¬ k / 2 ^ p % 2 = 1) : xeAll k (n + 1) p c E = xeAll k n (p + 1) c E := if_neg h
theorem xeAll_not {k n p : Nat} {c r : Int32} {E E2 : XS} (h : k / 2 ^ p % 2 = 1) (e : (r, E2) = xePerf true p E) (hr : r = 0) : xeAll k (n + 1) p c E = xeAll k n (p + 1) c E2 := by
  refine (if_pos h).trans ?_
  rw [← e, if_pos hr]
theorem xeAll_one {k n p : Nat} {c r : Int32} {E E2 : XS} (h : k / 2 ^ p % 2 = 1) (e : (r, E2) = xePerf true p E) (hr : ¬ r = 0) : xeAll k (n + 1) p c E = xeAll k n (p + 1) (c + 1) E2 := by
  refine (if_pos h).trans ?_
  rw [← e, if_neg hr]
def cx_Pc (D : va_G) (cI cP cR : ClassId) (av : List Value) (ws : va_W) : Array Value → State → Prop := va_Pc av (fun U => va_P D vwCl ws U.heap ∧ va_K D vwCl [(cI, .int), (cP, .object RPg), (cR, .object RRn)] U ∧ ce_N U)
theorem cx_blind {D : va_G} {cI cP cR : ClassId} {av : List Value} {ws : va_W} : FrameBlind (cx_Pc D cI cP cR av ws) := fun a U g mk q => ⟨q.1, q.2.1, va_K.moved (u := U) (U := U.calling g mk a) (Vm.Alike.refl U.vm) q.2.2.1, va_Nw.same rfl (u := U) (U := U.calling g mk a) rfl q.2.2.2⟩
theorem cx_at {D : va_G} {cI cP cR : ClassId} {av : List Value} {ws : va_W} {s : State} {H : Heap} (hP : va_P D vwCl ws H) (hK : va_K D vwCl [(cI, .int), (cP, .object RPg), (cR, .object RRn)] s) (hN : ce_N s) : ∀ U : State, U.heap = H → s.WarmedH U.vm → cx_Pc D cI cP cR av ws av.toArray U := fun U hU hW => ⟨rfl, by rw [hU]; exact hP, va_K.moved hW.alike hK, va_Nw.warmM hW hN⟩
section CX4
variable {p : Program} {l : Launch} {e : Env} {R : Room} {s : State} {m : MethodId} {args : Array Value} {below : List Frame} {meth : Method} {c : Code} {H : Heap} {locs : List Loc} {cells slots : Nat} {Q : State → Prop}
variable {cc : ByteArray} {pc nL : Nat} {ls : Array Slot} {rest st0 : List Value} {D : va_G} {cI cP cR : ClassId} {b : Nat → Nat} {E : XS} {w0 : Cond} {H0 : Heap} {own : String} {index : Nat}
variable {y : MethodName} {bb : ByteArray} {maxL n : Nat} {rm : Room} {As : List Value}
/-- a call on the executor itself that answers an int -/
theorem cx_vi {post : Int32 → XS → Prop} (F : CallFix p m c cc nL s args (w0 :: ce_W) own) (hM : Met l y (ce_ws y bb maxL (some .int)) rm (cx_Pc D cI cP cR (.ref (b 0) :: As) (wX b cI cP cR E)) (va_Qi post (fun E2 t => va_P D vwCl (wX b cI cP cR E2) t.heap) (aX b)) 0 0 (aX b)) (hm : ce_M y bb maxL (some .int) n) (hl : Cond.methodLink own index y ∈ ce_W) (hi : Cond.instanceMethod y ∈ ce_W ∧ Cond.selects REx y y ∈ ce_W) (hR : rm.frames + 1 ≤ R.frames ∧ 8 + (maxL + 11) + rm.locals ≤ R.locals) (hrc : rm.cells = 0 ∧ rm.slots = 0) (hK : va_K D vwCl [(cI, .int), (cP, .object RPg), (cR, .object RRn)] s) (hN : ce_N s) (hP : va_P D vwCl (wX b cI cP cR E) H) (hS : va_S (aX b) H0 H locs) (hn : As.length = n) (hsz : ls.size = nL) (hst : st0 = As.reverse ++ .ref (b 0) :: rest) (hw : (rest.map fun v => v.category).sum ≤ 8) (hdg : decode cc pc = .ok (.invokevirtual index, 3)) (hc : cells + 0 ≤ R.cells ∧ slots + 0 ≤ R.slots)
    (kk : ∀ (r : Int32) (E2 : XS) (H1 : Heap) (locs1 : List Loc), post r E2 → va_P D vwCl (wX b cI cP cR E2) H1 → va_S (aX b) H0 H1 locs1 → W p l e R s m args below meth c H1 locs1 cells slots Q (F0 m (pc + 3) ls (.int r :: rest))) : W p l e R s m args below meth c H locs cells slots Q (F0 m pc ls st0) :=
  va_calli (va_runV F hM (ce_cV F.2.2.2.2 (ce_good hm.1) hm hrc.1 hrc.2 hl hi hR (ce_tl w0)) ⟨cx_blind, va_recv hK hP (ci := 2) (q0 := 0) rfl rfl, cx_at hP hK hN⟩ rfl hn hsz hst (lv_room hw) hdg hc) hS (fun _ _ h => h) (fun _ h => h) (fun r u1 t H1 locs1 ht _ hp hB _ _ hS1 => kk r u1 H1 locs1 hp (ht ▸ hB) hS1)
/-- a call on program j that answers nothing -/
theorem cx_pv {post : PR → Prop} {j : Nat} (hj : j < 6) (F : CallFix p m c cc nL s args (w0 :: ce_W) own) (hM : Met l y (ce_ws y bb maxL none) rm (ce_Pc D cI (.ref (adr b j 1) :: As) (wP (adr b j) cI (eP E j))) (va_Qv post (fun P2 t => va_P D vwCl (wP (adr b j) cI P2) t.heap) (aP (adr b j))) 0 0 (aP (adr b j))) (hm : ce_M y bb maxL none n) (hl : Cond.methodLink own index y ∈ ce_W) (hi : Cond.instanceMethod y ∈ ce_W ∧ Cond.selects RPg y y ∈ ce_W) (hR : rm.frames + 1 ≤ R.frames ∧ 8 + (maxL + 11) + rm.locals ≤ R.locals) (hrc : rm.cells = 0 ∧ rm.slots = 0) (hK : va_K D vwCl [(cI, .int), (cP, .object RPg), (cR, .object RRn)] s) (hN : ce_N s) (hd : dX b) (hP : va_P D vwCl (wX b cI cP cR E) H) (hS : va_S (aX b) H0 H locs) (hn : As.length = n) (hsz : ls.size = nL) (hst : st0 = As.reverse ++ .ref (adr b j 1) :: rest) (hw : (rest.map fun v => v.category).sum ≤ 8) (hdg : decode cc pc = .ok (.invokevirtual index, 3)) (hc : cells + 0 ≤ R.cells ∧ slots + 0 ≤ R.slots)
    (kk : ∀ (P2 : PR) (H1 : Heap) (locs1 : List Loc), post P2 → va_P D vwCl (wX b cI cP cR (tP E (va_up (eP E) j P2))) H1 → va_S (aX b) H0 H1 locs1 → W p l e R s m args below meth c H1 locs1 cells slots Q (F0 m (pc + 3) ls rest)) : W p l e R s m args below meth c H locs cells slots Q (F0 m pc ls st0) := by
  have hPj := (wX_P.mp hP).2 j hj
  have hPp := hPj.sub (ws' := wP (adr b j) cI (eP E j)) [1, 2, 3] rfl
  have hK1 := hK.sub (tys' := [(cI, .int)]) [0] rfl
  refine va_callv (va_runV F hM (ce_cV F.2.2.2.2 (ce_good hm.1) hm hrc.1 hrc.2 hl hi hR (ce_tl w0)) ⟨ce_blind, va_recv hK1 hPp (ci := 0) (q0 := 0) rfl rfl, ce_at hPp hK1 hN⟩ rfl hn hsz hst (lv_room hw) hdg hc) hS (fun q _ h => aX_R hj q (aP_R q h)) (fun q h => aX_R hj q (aP_R q h)) (fun P2 t H1 locs1 ht _ hp hB _ hk hS1 => kk P2 H1 locs1 hp (wX_back hd hj hP (fun q h1 h2 => hk q h1 (fun h3 => h2 (aP_R q h3))) ?_ rfl ?_) hS1)
  · show va_P D vwCl (wR (adr b j) cI (va_up (eP E) j P2 j) (eU E j)) H1
    rw [va_up_self]
    exact wR_back (dX_R hd hj) hPj hk (ht ▸ hB)
  · intro k _ hkj
    exact ⟨va_up_ne _ _ hkj, rfl⟩
end CX4
