theorem eP_tP (E : XS) (x : Nat → PR) : eP (tP E x) = x := rfl
theorem eP_tU (E : XS) (x : Nat → RS) : eP (tU E x) = eP E := rfl
theorem eP_tC (E : XS) (x : Int64) : eP (tC E x) = eP E := rfl
theorem eP_tR (E : XS) (x : Int32) : eP (tR E x) = eP E := rfl
theorem eP_tT (E : XS) (x : Int32) : eP (tT E x) = eP E := rfl
theorem eP_tB (E : XS) (x : Int32) : eP (tB E x) = eP E := rfl
theorem eU_tP (E : XS) (x : Nat → PR) : eU (tP E x) = eU E := rfl
theorem eU_tU (E : XS) (x : Nat → RS) : eU (tU E x) = x := rfl
theorem eU_tC (E : XS) (x : Int64) : eU (tC E x) = eU E := rfl
theorem eU_tR (E : XS) (x : Int32) : eU (tR E x) = eU E := rfl
theorem eU_tT (E : XS) (x : Int32) : eU (tT E x) = eU E := rfl
theorem eU_tB (E : XS) (x : Int32) : eU (tB E x) = eU E := rfl
theorem eC_tP (E : XS) (x : Nat → PR) : eC (tP E x) = eC E := rfl
theorem eC_tU (E : XS) (x : Nat → RS) : eC (tU E x) = eC E := rfl
theorem eC_tC (E : XS) (x : Int64) : eC (tC E x) = x := rfl
theorem eC_tR (E : XS) (x : Int32) : eC (tR E x) = eC E := rfl
theorem eC_tT (E : XS) (x : Int32) : eC (tT E x) = eC E := rfl
theorem eC_tB (E : XS) (x : Int32) : eC (tB E x) = eC E := rfl
theorem eR_tP (E : XS) (x : Nat → PR) : eR (tP E x) = eR E := rfl
theorem eR_tU (E : XS) (x : Nat → RS) : eR (tU E x) = eR E := rfl
theorem eR_tC (E : XS) (x : Int64) : eR (tC E x) = eR E := rfl
theorem eR_tR (E : XS) (x : Int32) : eR (tR E x) = x := rfl
theorem eR_tT (E : XS) (x : Int32) : eR (tT E x) = eR E := rfl
theorem eR_tB (E : XS) (x : Int32) : eR (tB E x) = eR E := rfl
theorem eT_tP (E : XS) (x : Nat → PR) : eT (tP E x) = eT E := rfl
theorem eT_tU (E : XS) (x : Nat → RS) : eT (tU E x) = eT E := rfl
theorem eT_tC (E : XS) (x : Int64) : eT (tC E x) = eT E := rfl
theorem eT_tR (E : XS) (x : Int32) : eT (tR E x) = eT E := rfl
theorem eT_tT (E : XS) (x : Int32) : eT (tT E x) = x := rfl
theorem eT_tB (E : XS) (x : Int32) : eT (tB E x) = eT E := rfl
theorem eB_tP (E : XS) (x : Nat → PR) : eB (tP E x) = eB E := rfl
theorem eB_tU (E : XS) (x : Nat → RS) : eB (tU E x) = eB E := rfl
theorem eB_tC (E : XS) (x : Int64) : eB (tC E x) = eB E := rfl
theorem eB_tR (E : XS) (x : Int32) : eB (tR E x) = eB E := rfl
theorem eB_tT (E : XS) (x : Int32) : eB (tT E x) = eB E := rfl
theorem eB_tB (E : XS) (x : Int32) : eB (tB E x) = x := rfl
-- THE EXECUTOR'S METHODS AS FUNCTIONS
def eForget (E : XS) (p : Nat) : XS := tU E (va_up (eU E) p (sKnown (eU E p) false))
def eAdd1 (E : XS) (p o g : Nat) : XS := tP E (va_up (eP E) p (pAdd (eP E p) o g).2)
def xeAdd (E : XS) (p o g : Nat) : Int32 × XS := if (pAdd (eP E p) o g).1 = -2 then ((pAdd (eP E p) o g).1, eAdd1 E p o g) else ((pAdd (eP E p) o g).1, eForget (eAdd1 E p o g) p)
def xeClear (E : XS) (p : Nat) : XS := tP (eForget E p) (va_up (eP (eForget E p)) p (sZ (eP (eForget E p) p) 0))
def xNm (th : Bool) (p : Nat) : Int32 := if th = true then 20 + nI p else 10
def xU (th : Bool) (p : Nat) (E : XS) : RS := xRun (eP E p) (xNm th p) (eU E p)
def xe1 (th : Bool) (p : Nat) (E : XS) : XS := tR (tU E (va_up (eU E) p (xU th p E))) (eR E + 1)
def xe2 (th : Bool) (p : Nat) (E : XS) : XS := if th = true then tT (xe1 th p E) (eT E + 1) else xe1 th p E
def xe3 (th : Bool) (p : Nat) (E : XS) : XS := if xOutcome (xU th p E) = 0 then xe2 th p E else tB (xe2 th p E) (eB E + 1)
def xePerf (th : Bool) (p : Nat) (E : XS) : Int32 × XS := (xOutcome (xU th p E), tC (xe3 th p E) (eC E + gCnt (xU th p E)))
def xeAll (k : Nat) : Nat → Nat → Int32 → XS → Int32 × XS
  | 0, _, c, E => (c, E)
  | n + 1, p, c, E => if k / 2 ^ p % 2 = 1 then xeAll k n (p + 1) (if (xePerf true p E).1 = 0 then c else c + 1) (xePerf true p E).2 else xeAll k n (p + 1) c E
def xeTold (E : XS) (p k : Nat) : Int32 := if gKnown (eU E p) = true then xTell (eU E p) k else -3
def xeCell (E : XS) (p k : Nat) : Int32 := if gKnown (eU E p) = true then gCells (eU E p) k else 0
def xeCount (E : XS) (k : Nat) : Int32 := match k with
  | 0 => eR E
  | 1 => eT E
  | 2 => eB E
  | k + 3 => nI (eP E k).2.2
theorem xe_get (th : Bool) (p : Nat) (E : XS) : eP (xePerf th p E).2 = eP E ∧ eU (xePerf th p E).2 = va_up (eU E) p (xU th p E) ∧ eC (xePerf th p E).2 = eC E + gCnt (xU th p E) ∧ eR (xePerf th p E).2 = eR E + 1 ∧ eT (xePerf th p E).2 = (if th = true then eT E + 1 else eT E) ∧ eB (xePerf th p E).2 = (if xOutcome (xU th p E) = 0 then eB E else eB E + 1) := by
  unfold xePerf xe3 xe2 xe1
  generalize xU th p E = u
  by_cases c : xOutcome u = 0
  · rw [if_pos c, if_pos c]
    cases th <;> exact ⟨rfl, rfl, rfl, rfl, rfl, rfl⟩
  · rw [if_neg c, if_neg c]
    cases th <;> exact ⟨rfl, rfl, rfl, rfl, rfl, rfl⟩
-- BOTH SIDE BY SIDE
def pSame (P : PR) (m : MS) (j : Nat) : Prop := pOk P ∧ qSize m j = P.2.2 ∧ ∀ i, i < 14 → qOp m (j * 14 + i) = P.1 i ∧ qArg m (j * 14 + i) = P.2.1 i
def uSame (u : RS) (m : MS) (j : Nat) : Prop := qRan m j = gKnown u ∧ (gKnown u = true → ∀ k, k < 8 → qTold m (j * 8 + k) = xTell u k) ∧ ∀ k, k < 8 → qCls m (j * 8 + k) = if gKnown u = true then gCells u k else 0
def LR (E : XS) (m : MS) : Prop := (∀ j, j < 6 → pSame (eP E j) m j) ∧ (∀ j, j < 6 → uSame (eU E j) m j) ∧ qCtr m = eC E ∧ qRuns m = eR E ∧ qThr m = eT E ∧ qTrd m = eB E
theorem LR.inv {E : XS} {m : MS} (h : LR E m) : mInv m := by
  intro j hj
  obtain ⟨h1, h2, h3⟩ := h.1 j hj
  rw [h2]
  refine ⟨h1.1, fun i hi => ?_⟩
  have h14 : i < 14 := Nat.lt_of_lt_of_le hi h1.1
  rw [(h3 i h14).1, (h3 i h14).2]
  exact h1.2 i hi
theorem blk8_in {f g : Nat → Int32} {p k : Nat} (hk : k < 8) : blk8 f p g (p * 8 + k) = g k := by
  unfold blk8
  rw [if_pos ⟨by omega, by omega⟩, Nat.add_sub_cancel_left]
theorem blk8_out {f g : Nat → Int32} {p j k : Nat} (hk : k < 8) (hj : j ≠ p) : blk8 f p g (j * 8 + k) = f (j * 8 + k) := by
  unfold blk8
  refine if_neg (fun q => ?_)
  rcases (show j < p ∨ p < j by omega) with c | c
  · omega
  · omega
theorem at14 {α : Type} {f : Nat → α} {x : α} {p z j i : Nat} (hz : z < 14) (hi : i < 14) : va_up f (p * 14 + z) x (j * 14 + i) = if j = p then va_up (fun q => f (p * 14 + q)) z x i else f (j * 14 + i) := by
  unfold va_up
  by_cases c : j = p
  · subst c
    rw [if_pos rfl]
    by_cases c2 : i = z
    · subst c2
      rw [if_pos rfl, if_pos rfl]
    · rw [if_neg (by omega), if_neg c2]
  · rw [if_neg c, if_neg (by omega)]
theorem LR.told {E : XS} {m : MS} (h : LR E m) {p k : Nat} (hp : p < 6) (hk : k < 8) : (if qRan m p = true then qTold m (p * 8 + k) else -3) = xeTold E p k := by
  obtain ⟨h1, h2, _⟩ := h.2.1 p hp
  unfold xeTold
  rw [h1]
  by_cases c : gKnown (eU E p) = true
  · rw [if_pos c, if_pos c]
    exact h2 c k hk
  · rw [if_neg c, if_neg c]
theorem LR.cell {E : XS} {m : MS} (h : LR E m) {p k : Nat} (hp : p < 6) (hk : k < 8) : qCls m (p * 8 + k) = xeCell E p k := (h.2.1 p hp).2.2 k hk
theorem LR.count {E : XS} {m : MS} (h : LR E m) {k : Nat} (hk : k < 9) : mCount m k = xeCount E k := by
  match k, hk with
  | 0, _ => exact h.2.2.2.1
  | 1, _ => exact h.2.2.2.2.1
  | 2, _ => exact h.2.2.2.2.2
  | k + 3, hk => exact congrArg nI (h.1 k (by omega)).2.1
theorem uSame_no {u : RS} {m : MS} {j : Nat} (h1 : qRan m j = false) (h2 : ∀ k, k < 8 → qCls m (j * 8 + k) = 0) : uSame (sKnown u false) m j := by
  refine ⟨h1, fun q => absurd (show false = true from q) (by decide), fun k hk => ?_⟩
  rw [h2 k hk]
  rfl
theorem LR.clear {E : XS} {m : MS} (h : LR E m) {p : Nat} (hp : p < 6) : LR (xeClear E p) (mForget (zSize m (va_up (qSize m) p 0)) p) := by
  generalize hg : mForget (zSize m (va_up (qSize m) p 0)) p = g
  have e1 : qOp g = qOp m := by rw [← hg]; unfold mForget; rw [qOp_zCls, qOp_zRan, qOp_zSize]
  have e2 : qArg g = qArg m := by rw [← hg]; unfold mForget; rw [qArg_zCls, qArg_zRan, qArg_zSize]
  have e3 : qSize g = va_up (qSize m) p 0 := by rw [← hg]; unfold mForget; rw [qSize_zCls, qSize_zRan, qSize_zSize]
  have e4 : qRan g = va_up (qRan m) p false := by rw [← hg]; unfold mForget; rw [qRan_zCls, qRan_zRan, qRan_zSize]
  have e5 : qTold g = qTold m := by rw [← hg]; unfold mForget; rw [qTold_zCls, qTold_zRan, qTold_zSize]
  have e6 : qCls g = blk8 (qCls m) p (fun _ => 0) := by rw [← hg]; unfold mForget; rw [qCls_zCls, qCls_zSize]
  have e7 : qCtr g = qCtr m := by rw [← hg]; unfold mForget; rw [qCtr_zCls, qCtr_zRan, qCtr_zSize]
  have e8 : qRuns g = qRuns m := by rw [← hg]; unfold mForget; rw [qRuns_zCls, qRuns_zRan, qRuns_zSize]
  have e9 : qThr g = qThr m := by rw [← hg]; unfold mForget; rw [qThr_zCls, qThr_zRan, qThr_zSize]
  have e10 : qTrd g = qTrd m := by rw [← hg]; unfold mForget; rw [qTrd_zCls, qTrd_zRan, qTrd_zSize]
  refine ⟨fun j hj => ?_, fun j hj => ?_, e7.trans h.2.2.1, e8.trans h.2.2.2.1, e9.trans h.2.2.2.2.1, e10.trans h.2.2.2.2.2⟩
  · obtain ⟨h1, h2, h3⟩ := h.1 j hj
    show pSame (va_up (eP E) p (sZ (eP E p) 0) j) g j
    by_cases c : j = p
    · subst c
      rw [va_up_self]
      refine ⟨⟨Nat.zero_le _, fun i hi => absurd hi (Nat.not_lt_zero i)⟩, ?_, fun i hi => ?_⟩
      · rw [e3, va_up_self]; rfl
      · rw [e1, e2]; exact h3 i hi
    · rw [va_up_ne _ _ c]
      refine ⟨h1, ?_, fun i hi => ?_⟩
      · rw [e3, va_up_ne _ _ c]; exact h2
      · rw [e1, e2]; exact h3 i hi
  · show uSame (va_up (eU E) p (sKnown (eU E p) false) j) g j
    by_cases c : j = p
    · subst c
      rw [va_up_self]
      exact uSame_no (by rw [e4, va_up_self]) (fun k hk => by rw [e6, blk8_in hk])
    · rw [va_up_ne _ _ c]
      obtain ⟨h1, h2, h3⟩ := h.2.1 j hj
      refine ⟨by rw [e4, va_up_ne _ _ c]; exact h1, fun q k hk => by rw [e5]; exact h2 q k hk, fun k hk => by rw [e6, blk8_out hk c]; exact h3 k hk⟩
theorem LR.add {E : XS} {m : MS} (h : LR E m) {p o g : Nat} (hp : p < 6) (ho : o < 22) (hg : g < 256) : (xeAdd E p o g).1 = (mAdd m p o g).1 ∧ LR (xeAdd E p o g).2 (mAdd m p o g).2 := by
  obtain ⟨hok, hsz, hrow⟩ := h.1 p hp
  have hz14 := hok.1
  by_cases cf : qSize m p = 14
  · have em : mAdd m p o g = (-2, m) := if_pos cf
    have ep : pAdd (eP E p) o g = (-2, eP E p) := if_neg (by show ¬ (eP E p).2.2 < 14; omega)
    have ee : xeAdd E p o g = (-2, eAdd1 E p o g) := by
      unfold xeAdd
      rw [ep]
      exact if_pos rfl
    have e1 : eAdd1 E p o g = E := by
      unfold eAdd1
      rw [ep]
      have : va_up (eP E) p (eP E p) = eP E := by
        funext j
        by_cases c : j = p
        · subst c; rw [va_up_self]
        · rw [va_up_ne _ _ c]
      show tP E (va_up (eP E) p (eP E p)) = E
      rw [this]
      rfl
    rw [em, ee, e1]
    exact ⟨rfl, h⟩
  · have hlt : gZ (eP E p) < 14 := by show (eP E p).2.2 < 14; omega
    have ez : gZ (eP E p) = qSize m p := hsz.symm
    generalize hq : (mAdd m p o g).2 = m2
    have em : mAdd m p o g = (nI (qSize m p), zCls (zRan (zSize (zArg (zOp m (va_up (qOp m) (p * 14 + qSize m p) o)) (va_up (qArg m) (p * 14 + qSize m p) g)) (va_up (qSize m) p (qSize m p + 1))) (va_up (qRan m) p false)) (blk8 (qCls m) p (fun _ => 0))) := if_neg cf
    have ep : pAdd (eP E p) o g = (nI (gZ (eP E p)), sZ (sA (sO (eP E p) (va_up (gO (eP E p)) (gZ (eP E p)) o)) (va_up (gA (eP E p)) (gZ (eP E p)) g)) (gZ (eP E p) + 1)) := if_pos hlt
    have er : ¬ (pAdd (eP E p) o g).1 = -2 := by
      rw [ep]
      intro q
      have q2 : nI (gZ (eP E p)) = -2 := q
      exact nI_pos (n := gZ (eP E p)) (by omega) (by rw [q2]; decide)
    have ee : xeAdd E p o g = ((pAdd (eP E p) o g).1, eForget (eAdd1 E p o g) p) := if_neg er
    rw [em] at hq ⊢
    have hq2 : zCls (zRan (zSize (zArg (zOp m (va_up (qOp m) (p * 14 + qSize m p) o)) (va_up (qArg m) (p * 14 + qSize m p) g)) (va_up (qSize m) p (qSize m p + 1))) (va_up (qRan m) p false)) (blk8 (qCls m) p (fun _ => 0)) = m2 := hq
    rw [ee]
    refine ⟨?_, ?_⟩
    · show (pAdd (eP E p) o g).1 = nI (qSize m p)
      rw [ep, ez]
    · have e1 : qOp m2 = va_up (qOp m) (p * 14 + qSize m p) o := by rw [← hq2, qOp_zCls, qOp_zRan, qOp_zSize, qOp_zArg, qOp_zOp]
      have e2 : qArg m2 = va_up (qArg m) (p * 14 + qSize m p) g := by rw [← hq2, qArg_zCls, qArg_zRan, qArg_zSize, qArg_zArg]
      have e3 : qSize m2 = va_up (qSize m) p (qSize m p + 1) := by rw [← hq2, qSize_zCls, qSize_zRan, qSize_zSize]
      have e4 : qRan m2 = va_up (qRan m) p false := by rw [← hq2, qRan_zCls, qRan_zRan]
      have e5 : qTold m2 = qTold m := by rw [← hq2, qTold_zCls, qTold_zRan, qTold_zSize, qTold_zArg, qTold_zOp]
      have e6 : qCls m2 = blk8 (qCls m) p (fun _ => 0) := by rw [← hq2, qCls_zCls]
      have e7 : qCtr m2 = qCtr m := by rw [← hq2, qCtr_zCls, qCtr_zRan, qCtr_zSize, qCtr_zArg, qCtr_zOp]
      have e8 : qRuns m2 = qRuns m := by rw [← hq2, qRuns_zCls, qRuns_zRan, qRuns_zSize, qRuns_zArg, qRuns_zOp]
      have e9 : qThr m2 = qThr m := by rw [← hq2, qThr_zCls, qThr_zRan, qThr_zSize, qThr_zArg, qThr_zOp]
      have e10 : qTrd m2 = qTrd m := by rw [← hq2, qTrd_zCls, qTrd_zRan, qTrd_zSize, qTrd_zArg, qTrd_zOp]
      refine ⟨fun j hj => ?_, fun j hj => ?_, e7.trans h.2.2.1, e8.trans h.2.2.2.1, e9.trans h.2.2.2.2.1, e10.trans h.2.2.2.2.2⟩
      · show pSame (va_up (eP E) p (pAdd (eP E p) o g).2 j) m2 j
        obtain ⟨h1, h2, h3⟩ := h.1 j hj
        by_cases c : j = p
        · subst c
          rw [va_up_self, ep]
          show pSame (va_up (eP E j).1 (eP E j).2.2 o, va_up (eP E j).2.1 (eP E j).2.2 g, (eP E j).2.2 + 1) m2 j
          have hz : (eP E j).2.2 < 14 := hlt
          refine ⟨⟨hz, fun i hi => ?_⟩, ?_, fun i hi => ?_⟩
          · have hi2 : i < (eP E j).2.2 + 1 := hi
            show va_up (eP E j).1 (eP E j).2.2 o i ≤ 21 ∧ va_up (eP E j).2.1 (eP E j).2.2 g i ≤ 255
            by_cases c2 : i = (eP E j).2.2
            · subst c2
              rw [va_up_self, va_up_self]
              exact ⟨by omega, by omega⟩
            · rw [va_up_ne _ _ c2, va_up_ne _ _ c2]
              exact h1.2 i (by omega)
          · rw [e3, va_up_self, h2]
          · rw [e1, e2, at14 (by omega) hi, at14 (by omega) hi, if_pos rfl, if_pos rfl, h2]
            show va_up (fun q => qOp m (j * 14 + q)) (eP E j).2.2 o i = va_up (eP E j).1 (eP E j).2.2 o i ∧ va_up (fun q => qArg m (j * 14 + q)) (eP E j).2.2 g i = va_up (eP E j).2.1 (eP E j).2.2 g i
            by_cases c2 : i = (eP E j).2.2
            · subst c2
              rw [va_up_self, va_up_self, va_up_self, va_up_self]
              exact ⟨rfl, rfl⟩
            · rw [va_up_ne _ _ c2, va_up_ne _ _ c2, va_up_ne _ _ c2, va_up_ne _ _ c2]
              exact h3 i hi
        · rw [va_up_ne _ _ c]
          refine ⟨h1, ?_, fun i hi => ?_⟩
          · rw [e3, va_up_ne _ _ c]; exact h2
          · rw [e1, e2, at14 (by omega) hi, at14 (by omega) hi, if_neg c, if_neg c]
            exact h3 i hi
      · show uSame (va_up (eU E) p (sKnown (eU E p) false) j) m2 j
        by_cases c : j = p
        · subst c
          rw [va_up_self]
          exact uSame_no (by rw [e4, va_up_self]) (fun k hk => by rw [e6, blk8_in hk])
        · rw [va_up_ne _ _ c]
          obtain ⟨h1, h2, h3⟩ := h.2.1 j hj
          refine ⟨by rw [e4, va_up_ne _ _ c]; exact h1, fun q k hk => by rw [e5]; exact h2 q k hk, fun k hk => by rw [e6, blk8_out hk c]; exact h3 k hk⟩
theorem mCnt_get (th : Bool) (v : MS) : qCtr (mCnt th v) = qCtr v ∧ qRuns (mCnt th v) = qRuns v + 1 ∧ qThr (mCnt th v) = (if th = true then qThr v + 1 else qThr v) ∧ qTrd (mCnt th v) = (if qTr v < 0 then qTrd v else qTrd v + 1) := by
  unfold mCnt
  by_cases c : qTr v < 0
  · rw [if_pos c, if_pos c]
    cases th <;> exact ⟨rfl, rfl, rfl, rfl⟩
  · rw [if_neg c, if_neg c]
    cases th <;> exact ⟨rfl, rfl, rfl, rfl⟩
theorem mCnt_get2 (th : Bool) (v : MS) : qTold (mCnt th v) = qTold v ∧ qCls (mCnt th v) = qCls v ∧ qRan (mCnt th v) = qRan v := by
  unfold mCnt
  by_cases c : qTr v < 0
  · rw [if_pos c]
    cases th <;> exact ⟨rfl, rfl, rfl⟩
  · rw [if_neg c]
    cases th <;> exact ⟨rfl, rfl, rfl⟩
theorem LR.perf {E : XS} {m : MS} (h : LR E m) (th : Bool) {p : Nat} (hp : p < 6) : (xePerf th p E).1 = (mPerf th p m).1 ∧ LR (xePerf th p E).2 (mPerf th p m).2 ∧ (0 < (xePerf th p E).1 ↔ ¬ (xePerf th p E).1 = 0) := by
  obtain ⟨hok, hsz, hrow⟩ := h.1 p hp
  have hpm : pM (eP E p) (mBegin m p) := by
    refine ⟨hok, ?_, fun i hi => ?_, fun i hi => ?_⟩
    · rw [qSize_mBegin, qProg_mBegin]; exact hsz
    · unfold mO
      rw [qOp_mBegin, qProg_mBegin]; exact (hrow i hi).1
    · unfold mG
      rw [qArg_mBegin, qProg_mBegin]; exact (hrow i hi).2
  obtain ⟨hS, hV, hT⟩ := sim_run (th := th) (u := eU E p) hpm
  have eu : xU th p E = sKnown (xActs (eP E p) 15 0 (eP E p).2.2 (xBegin (if th = true then 20 + nI p else 10) (eU E p))).2 true := rfl
  generalize xActs (eP E p) 15 0 (eP E p).2.2 (xBegin (if th = true then 20 + nI p else 10) (eU E p)) = x at hV hT eu
  obtain ⟨o1, o2, o3⟩ := out_rel hT
  have ht := tell_rel hV hT
  unfold mPerf
  generalize mLoop th 100000 (mBegin m p) = g at hS hV hT o1 o2 o3 ht ⊢
  have xo : xOutcome (xU th p E) = xOutcome x.2 := by rw [eu]; rfl
  have xc : gCnt (xU th p E) = gCnt x.2 := by rw [eu]; rfl
  have xt : ∀ k, xTell (xU th p E) k = xTell x.2 k := by
    intro k
    rw [eu]
    match k with
    | 0 => rfl
    | 1 => rfl
    | 2 => rfl
    | 3 => rfl
    | 4 => rfl
    | 5 => rfl
    | 6 => rfl
    | k + 7 => rfl
  have xk : gKnown (xU th p E) = true := by rw [eu]; rfl
  have xce : gCells (xU th p E) = gCells x.2 := by rw [eu]; rfl
  obtain ⟨g1, g2, g3, g4, g5, g6⟩ := xe_get th p E
  have hx1 : (xePerf th p E).1 = xOutcome x.2 := xo
  refine ⟨hx1.trans o1.symm, ?_, by rw [hx1]; exact o3⟩
  generalize (xePerf th p E).2 = E2 at g1 g2 g3 g4 g5 g6 ⊢
  obtain ⟨k1, k2, k3, k4⟩ := mCnt_get th g
  obtain ⟨k5, k6, k7⟩ := mCnt_get2 th g
  obtain ⟨t1, t2, t3⟩ := mTail_op th p g
  generalize hm2 : (mTail th p g).2 = m2 at t1 t2 t3 ⊢
  have hm3 : zRan (zCls (zTold (mCnt th g) (blk8 (qTold g) p (mTl g))) (blk8 (qCls g) p (qCell g))) (va_up (qRan g) p true) = m2 := hm2
  have b1 : qOp m2 = qOp m := t1.trans ((sm_Op hS).trans (qOp_mBegin m p))
  have b2 : qArg m2 = qArg m := t2.trans ((sm_Arg hS).trans (qArg_mBegin m p))
  have b3 : qSize m2 = qSize m := t3.trans ((sm_Size hS).trans (qSize_mBegin m p))
  have b4 : qRan m2 = va_up (qRan m) p true := by rw [← hm3, qRan_zRan, sm_Ran hS, qRan_mBegin]
  have b5 : qTold m2 = blk8 (qTold m) p (mTl g) := by rw [← hm3, qTold_zRan, qTold_zCls, qTold_zTold, sm_Told hS, qTold_mBegin]
  have b6 : qCls m2 = blk8 (qCls m) p (qCell g) := by rw [← hm3, qCls_zRan, qCls_zCls, sm_Cls hS, qCls_mBegin]
  have b7 : qCtr m2 = qCtr m + gCnt x.2 := by
    rw [← hm3, qCtr_zRan, qCtr_zCls, qCtr_zTold, k1]
    exact congrArg (fun t => t.2.2.2.2.2.2.2) hV
  have b8 : qRuns m2 = qRuns m + 1 := by rw [← hm3, qRuns_zRan, qRuns_zCls, qRuns_zTold, k2, sm_Runs hS, qRuns_mBegin]
  have b9 : qThr m2 = if th = true then qThr m + 1 else qThr m := by rw [← hm3, qThr_zRan, qThr_zCls, qThr_zTold, k3, sm_Thr hS, qThr_mBegin]
  have b10 : qTrd m2 = if qTr g < 0 then qTrd m else qTrd m + 1 := by rw [← hm3, qTrd_zRan, qTrd_zCls, qTrd_zTold, k4, sm_Trd hS, qTrd_mBegin]
  have ec : qCell g = gCells x.2 := congrArg (fun t => t.2.2.2.2.2.1) hV
  refine ⟨fun j hj => ?_, fun j hj => ?_, ?_, ?_, ?_, ?_⟩
  · rw [g1]
    obtain ⟨h1, h2, h3⟩ := h.1 j hj
    exact ⟨h1, by rw [b3]; exact h2, fun i hi => by rw [b1, b2]; exact h3 i hi⟩
  · rw [g2]
    by_cases c : j = p
    · subst c
      rw [va_up_self]
      refine ⟨by rw [b4, va_up_self, xk], fun _ k hk => ?_, fun k hk => ?_⟩
      · rw [b5, blk8_in hk, xt k]; exact ht k
      · rw [b6, blk8_in hk, if_pos xk, ec, xce]
    · rw [va_up_ne _ _ c]
      obtain ⟨h1, h2, h3⟩ := h.2.1 j hj
      exact ⟨by rw [b4, va_up_ne _ _ c]; exact h1, fun q k hk => by rw [b5, blk8_out hk c]; exact h2 q k hk, fun k hk => by rw [b6, blk8_out hk c]; exact h3 k hk⟩
  · rw [g3, b7, xc, h.2.2.1]
  · rw [g4, b8, h.2.2.2.1]
  · rw [g5, b9, h.2.2.2.2.1]
  · rw [g6, b10, h.2.2.2.2.2, xo]
    by_cases c : xOutcome x.2 = 0
    · rw [if_pos c, if_pos (o2.mp c)]
    · rw [if_neg c, if_neg (fun q => c (o2.mpr q))]
theorem LR.all {k : Nat} (n : Nat) : ∀ (p : Nat) (c : Int32) (E : XS) (m : MS), p + n ≤ 6 → LR E m → (xeAll k n p c E).1 = (mAll k n p c m).1 ∧ LR (xeAll k n p c E).2 (mAll k n p c m).2 := by
  induction n with
  | zero => intro p c E m _ h; exact ⟨rfl, h⟩
  | succ n ih =>
    intro p c E m hp h
    by_cases cb : k / 2 ^ p % 2 = 0
    · have e1 : xeAll k (n + 1) p c E = xeAll k n (p + 1) c E := if_neg (by omega)
      have e2 : mAll k (n + 1) p c m = mAll k n (p + 1) c m := if_pos cb
      rw [e1, e2]
      exact ih (p + 1) c E m (by omega) h
    · have e1 : xeAll k (n + 1) p c E = xeAll k n (p + 1) (if (xePerf true p E).1 = 0 then c else c + 1) (xePerf true p E).2 := if_pos (by omega)
      have e2 : mAll k (n + 1) p c m = mAll k n (p + 1) (if 0 < (mPerf true p m).1 then c + 1 else c) (mPerf true p m).2 := if_neg cb
      obtain ⟨h1, h2, h3⟩ := h.perf true (p := p) (by omega)
      have e3 : (if 0 < (mPerf true p m).1 then c + 1 else c) = (if (xePerf true p E).1 = 0 then c else c + 1) := by
        rw [← h1]
        by_cases c0 : (xePerf true p E).1 = 0
        · rw [if_pos c0, if_neg (fun q => h3.mp q c0)]
        · rw [if_neg c0, if_pos (h3.mpr c0)]
      rw [e1, e2, e3]
      exact ih (p + 1) _ _ _ (by omega) h2
