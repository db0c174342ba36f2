-- THE REFERENCE AS FUNCTIONS
def isI (x y : Int32) : Bool := decide (¬ x < 0 ∧ ¬ y ≤ x)
def mO (m : MS) (i : Nat) : Nat := qOp m (qProg m * 14 + i)
def mG (m : MS) (i : Nat) : Nat := qArg m (qProg m * 14 + i)
def mK (m : MS) (i : Nat) : Nat := qArg m (qProg m * 14 + i) / 16
def mRaise (m : MS) (t n : Int32) : MS := zOrg (zNum (zTr m t) n) (nI (qAt m))
def mTakes (K : Nat) (t : Int32) : Bool := if K < 11 then decide (nI K = t) else if K = 11 ∨ K = 14 then decide (t < 7 ∨ t = 8 ∨ t = 9) else if K = 12 then decide (t = 1 ∨ t = 9) else if K = 15 then true else decide (t = 7 ∨ t = 10)
def mDivide (m : MS) (v : Int32) (b : Bool) : MS := if v = 0 then mRaise m 0 (-1) else if b = true then zAcc m (qAcc m - qAcc m / v * v) else zAcc m (qAcc m / v)
def mTouch (m : MS) (v : Int32) (b : Bool) : MS := if isI v 8 = true then (if b = true then zAcc m (qCell m v.toNatClampNeg) else zCell m (upd (qCell m) v.toNatClampNeg (qAcc m))) else mRaise m 1 (-1)
def mIntr (m : MS) : MS := if qMark m = true then mRaise (zMark m false) 7 (-1) else m
def mAct (m : MS) (o : Nat) (v : Int32) (n k : Nat) : MS := match o with
  | 0 => zAcc m (qAcc m + v)
  | 1 => zAcc m (qAcc m * v)
  | 2 => mDivide m v false
  | 3 => mDivide m v true
  | 4 => mTouch m v true
  | 5 => mTouch m v false
  | 6 => if k < 6 then mRaise m (nI k) (-1) else zAcc m (nI n)
  | 7 => if 6 < k ∧ k < 11 then mRaise m (nI k) (if k = 10 then nI n else -1) else m
  | 8 => zMark m true
  | 9 => zMark (zAcc m (bI (qMark m))) false
  | 15 => if qHeld m (k % 2) = 0 then mRaise m 6 (-1) else m
  | 16 => if qHeld m (k % 2) = 0 then mRaise m 6 (-1) else mIntr m
  | 17 => mIntr m
  | 18 => zAcc m (bI (decide (0 < qHeld m (k % 2))))
  | 19 => zCtr m (qCtr m + v.toInt64)
  | _ => zStop m true
def mLim (m : MS) : Nat := if qOpen m = 0 then qSize m (qProg m) else qEnd m (qOpen m - 1)
def mPush (m : MS) (i z : Nat) : MS := zOpen (zLeft (zEnd (zBlk m (va_up (qBlk m) (qOpen m) i)) (va_up (qEnd m) (qOpen m) z)) (va_up (qLeft m) (qOpen m) (mK m i))) (qOpen m + 1)
def mEnter (m : MS) (i n : Nat) : MS := if mO m i = 14 ∧ mK m i = 0 then zAt m (min (i + 1 + n) (mLim m)) else if mO m i = 13 then zHeld (mPush m i (min (i + 1 + n) (mLim m))) (upd (qHeld m) (mK m i % 2) (qHeld m (mK m i % 2) + 1)) else mPush m i (min (i + 1 + n) (mLim m))
def mStep (th : Bool) (m : MS) : MS := if qSteps m = 400 then zStop m true else if 9 < mO m (qAt m) ∧ mO m (qAt m) < 15 then mEnter (zAt (zSteps m (qSteps m + 1)) (qAt m + 1)) (qAt m) (mG m (qAt m) % 16) else if mO m (qAt m) = 21 then zAt (zAcc (zSteps m (qSteps m + 1)) (if th = true then 20 + nI (qProg m) else 10)) (qAt m + 1) else zAt (mAct (zSteps m (qSteps m + 1)) (mO m (qAt m)) (nI (mG m (qAt m)) - 100) (mG m (qAt m) % 16) (mG m (qAt m) / 16)) (qAt m + 1)
def mPop (m : MS) (d : Nat) : MS := zAt (zOpen m d) (qEnd m d)
def mCau (m : MS) (d : Nat) : MS := zAt (zTr (zAcc (zCat (mPop m d) (qCat m + 1)) (1000 + 16 * qTr m + (if qTr m = 10 then qNum m else 0))) (-1)) (qBlk m d)
def mCaught (m : MS) (d : Nat) : MS := if mK m (qBlk m d) = 14 then zAt (zOrg (zNum (zTr (mCau m d) 10) 14) (nI (qBlk m d))) (qEnd m d) else zAt (mCau m d) (qEnd m d)
def mLeave (m : MS) (d : Nat) : MS := match mO m (qBlk m d) with
  | 10 => if ¬ qTr m < 0 ∧ mTakes (mK m (qBlk m d)) (qTr m) = true then mCaught m d else mPop m d
  | 11 => zAcc (zFin (mPop m d) (qFin m + 1)) (-qAcc m)
  | 12 => zStop (zTr (zFin (mPop m d) (qFin m + 1)) (-1)) false
  | 13 => zHeld (mPop m d) (upd (qHeld m) (mK m (qBlk m d) % 2) (qHeld m (mK m (qBlk m d) % 2) - 1))
  | _ => if qTr m < 0 ∧ qStop m = false ∧ 1 < qLeft m d then zOpen (zAt (zLeft (mPop m d) (va_up (qLeft m) d (qLeft m d - 1))) (qBlk m d + 1)) (d + 1) else mPop m d
def mGo (m : MS) : Bool := decide (qTr m < 0) && !(qStop m)
def mLoop (th : Bool) : Nat → MS → MS
  | 0, m => m
  | n + 1, m => if 0 < qOpen m ∧ (mGo m = false ∨ qAt m = qEnd m (qOpen m - 1)) then mLoop th n (mLeave m (qOpen m - 1)) else if mGo m = false ∨ qAt m = qSize m (qProg m) then m else mLoop th n (mStep th m)
/-- eight places of a row of forty-eight -/
def blk8 (f : Nat → Int32) (p : Nat) (g : Nat → Int32) : Nat → Int32 := fun q => if p * 8 ≤ q ∧ q < p * 8 + 8 then g (q - p * 8) else f q
def mBegin (m : MS) (p : Nat) : MS := zHeld (zCell (zMark (zStop (zNum (zOrg (zTr (zAt (zOpen (zAcc (zSteps (zFin (zCat (zProg m p) 0) 0) 0) 0) 0) 0) (-1)) (-1)) (-1)) false) false) (fun _ => 0)) (fun _ => 0)
def mOut (m : MS) : Int32 := if qTr m < 0 then 0 else 100 + qTr m
def mTl (m : MS) (k : Nat) : Int32 := match k with
  | 0 => mOut m
  | 1 => qAcc m
  | 2 => qSteps m
  | 3 => qFin m
  | 4 => qCat m
  | 5 => if qTr m < 0 then -1 else qOrg m
  | 6 => if qTr m = 10 then qNum m else -1
  | _ => bI (qMark m)
def mCnt (th : Bool) (m : MS) : MS := if qTr m < 0 then (if th = true then zThr (zRuns m (qRuns m + 1)) (qThr m + 1) else zRuns m (qRuns m + 1)) else (if th = true then zTrd (zThr (zRuns m (qRuns m + 1)) (qThr m + 1)) (qTrd m + 1) else zTrd (zRuns m (qRuns m + 1)) (qTrd m + 1))
def mTail (th : Bool) (p : Nat) (m : MS) : Int32 × MS := (mOut m, zRan (zCls (zTold (mCnt th m) (blk8 (qTold m) p (mTl m))) (blk8 (qCls m) p (qCell m))) (va_up (qRan m) p true))
def mPerf (th : Bool) (p : Nat) (m : MS) : Int32 × MS := mTail th p (mLoop th 100000 (mBegin m p))
def mForget (m : MS) (p : Nat) : MS := zCls (zRan m (va_up (qRan m) p false)) (blk8 (qCls m) p (fun _ => 0))
/-- what holds of the machine between its steps -/
def mOk (m : MS) : Prop := qProg m < 6 ∧ qSize m (qProg m) ≤ 14 ∧ (∀ i, i < qSize m (qProg m) → mO m i ≤ 21 ∧ mG m i ≤ 255) ∧ qOpen m < 15 ∧
  (∀ j, j < qOpen m → j ≤ qBlk m j ∧ qBlk m j < qEnd m j ∧ qEnd m j ≤ qSize m (qProg m) ∧ (∀ k, j = k + 1 → qEnd m j ≤ qEnd m k) ∧ 10 ≤ mO m (qBlk m j) ∧ mO m (qBlk m j) ≤ 14 ∧ qLeft m j < 16) ∧
  (mGo m = true → qOpen m ≤ qAt m ∧ qAt m ≤ mLim m)
