theorem zCell_self (g : MS) : zCell g (qCell g) = g := by
  obtain ⟨x0, x1, x2, x3, x4, x5, x6, x7, x8, x9, x10, x11, x12, x13, x14, x15, x16, x17, x18, x19, x20, x21, x22, x23, x24, x25, x26⟩ := g
  rfl
theorem zCls_self (g : MS) : zCls g (qCls g) = g := by
  obtain ⟨x0, x1, x2, x3, x4, x5, x6, x7, x8, x9, x10, x11, x12, x13, x14, x15, x16, x17, x18, x19, x20, x21, x22, x23, x24, x25, x26⟩ := g
  rfl
theorem wM_ch (a : Nat → Nat) (cI cZ : ClassId) (g : MS) (f x : Nat → Int32) : wM a cI cZ (zHeld (zCell g f) x) = [(a 0, .inr (3, [.ref (a 1), .ref (a 2), .ref (a 3), .ref (a 4), .ref (a 5), .ref (a 6), .long (qCtr g), .int (qRuns g), .int (qThr g), .int (qTrd g), .ref (a 7), .ref (a 8), .ref (a 9), .int (nI (qOpen g)), .ref (a 10), .ref (a 11), .int (nI (qProg g)), .int (nI (qAt g)), .int (qAcc g), .int (qSteps g), .int (qFin g), .int (qCat g), .int (qTr g), .int (qNum g), .int (qOrg g), .int (bI (qMark g)), .int (bI (qStop g))])), (a 1, .inl (cI, 84, .inl (fun i => nI (qOp g i)))), (a 2, .inl (cI, 84, .inl (fun i => nI (qArg g i)))), (a 3, .inl (cI, 6, .inl (fun i => nI (qSize g i)))), (a 4, .inl (cI, 48, .inl (qTold g))), (a 5, .inl (cI, 48, .inl (qCls g))), (a 6, .inl (cZ, 6, .inl (fun i => bI (qRan g i)))), (a 7, .inl (cI, 15, .inl (fun i => nI (qBlk g i)))), (a 8, .inl (cI, 15, .inl (fun i => nI (qEnd g i)))), (a 9, .inl (cI, 15, .inl (fun i => nI (qLeft g i)))), (a 10, .inl (cI, 8, .inl f)), (a 11, .inl (cI, 2, .inl x))] := by
  unfold wM mF
  simp only [qCtr_zHeld, qCtr_zCell, qRuns_zHeld, qRuns_zCell, qThr_zHeld, qThr_zCell, qTrd_zHeld, qTrd_zCell, qOpen_zHeld, qOpen_zCell, qProg_zHeld, qProg_zCell, qAt_zHeld, qAt_zCell, qAcc_zHeld, qAcc_zCell, qSteps_zHeld, qSteps_zCell, qFin_zHeld, qFin_zCell, qCat_zHeld, qCat_zCell, qTr_zHeld, qTr_zCell, qNum_zHeld, qNum_zCell, qOrg_zHeld, qOrg_zCell, qMark_zHeld, qMark_zCell, qStop_zHeld, qStop_zCell, qOp_zHeld, qOp_zCell, qArg_zHeld, qArg_zCell, qSize_zHeld, qSize_zCell, qTold_zHeld, qTold_zCell, qCls_zHeld, qCls_zCell, qRan_zHeld, qRan_zCell, qBlk_zHeld, qBlk_zCell, qEnd_zHeld, qEnd_zCell, qLeft_zHeld, qLeft_zCell, qCell_zHeld, qHeld_zCell, qHeld_zHeld, qCell_zCell]
theorem cm_likeCH {D : va_G} {a : Nat → Nat} {cI cZ : ClassId} {g : MS} {f x f2 x2 : Nat → Int32} {H : Heap} (h1 : ∀ j, j < 8 → f j = f2 j) (h2 : ∀ j, j < 2 → x j = x2 j) (hP : va_P D vwCl (wM a cI cZ (zHeld (zCell g f) x)) H) : va_P D vwCl (wM a cI cZ (zHeld (zCell g f2) x2)) H := by
  rw [wM_ch] at hP ⊢
  intro k q hk
  match k, hk with
  | 0, hk => exact hP 0 q hk
  | 1, hk => exact hP 1 q hk
  | 2, hk => exact hP 2 q hk
  | 3, hk => exact hP 3 q hk
  | 4, hk => exact hP 4 q hk
  | 5, hk => exact hP 5 q hk
  | 6, hk => exact hP 6 q hk
  | 7, hk => exact hP 7 q hk
  | 8, hk => exact hP 8 q hk
  | 9, hk => exact hP 9 q hk
  | 10, hk =>
    cases hk
    exact (hP 10 _ rfl).trans (congrArg some (ce_vc h1))
  | 11, hk =>
    cases hk
    exact (hP 11 _ rfl).trans (congrArg some (ce_vc h2))
  | k + 12, hk => exact absurd hk (by simp)
theorem b8_inC {f g : Nat → Int32} {p j : Nat} (h : ∀ i, i < j → f (p * 8 + i) = g i) : ∀ i, i < j + 1 → upd f (p * 8 + j) (g j) (p * 8 + i) = g i := by
  intro i hi
  unfold upd
  by_cases e : i = j
  · subst e
    rw [if_pos rfl]
  · rw [if_neg (by omega)]
    exact h i (by omega)
theorem held0 {f : Nat → Int32} {q : Nat} (h : q < 2) : upd (upd f 1 0) 0 0 q = 0 := by
  rcases (show q = 0 ∨ q = 1 by omega) with rfl | rfl <;> rfl
theorem nI_le0 {n : Nat} (hn : n < 2 ^ 31) (h : nI n ≤ 0) : n = 0 := by
  have := (nI_leI (b := 0) hn (by decide)).mp h
  omega
theorem mGo_t {m : MS} (h : 0 ≤ qTr m) : mGo m = false := by
  unfold mGo
  rw [decide_eq_false (Int32.not_lt.mpr h)]
  rfl
theorem mGo_s {m : MS} (h : ¬ bI (qStop m) = 0) : mGo m = false := by
  unfold mGo
  rw [bI1 h]
  simp
theorem mGo_y {m : MS} (h : ¬ 0 ≤ qTr m) (h2 : bI (qStop m) = 0) : mGo m = true := by
  unfold mGo
  rw [bI0 h2, decide_eq_true (Int32.not_le.mp h)]
  rfl
theorem mLoop_leave {th : Bool} {n : Nat} {m : MS} (h : 0 < qOpen m) (h2 : mGo m = false ∨ qAt m = qEnd m (qOpen m - 1)) : mLoop th (n + 1) m = mLoop th n (mLeave m (qOpen m - 1)) := if_pos ⟨h, h2⟩
theorem mLoop_stop {th : Bool} {n : Nat} {m : MS} (h : ¬ (0 < qOpen m ∧ (mGo m = false ∨ qAt m = qEnd m (qOpen m - 1)))) (h2 : mGo m = false ∨ qAt m = qSize m (qProg m)) : mLoop th (n + 1) m = m := (if_neg h).trans (if_pos h2)
theorem mLoop_step {th : Bool} {n : Nat} {m : MS} (h : ¬ (0 < qOpen m ∧ (mGo m = false ∨ qAt m = qEnd m (qOpen m - 1)))) (h2 : ¬ (mGo m = false ∨ qAt m = qSize m (qProg m))) : mLoop th (n + 1) m = mLoop th n (mStep th m) := (if_neg h).trans (if_neg h2)
theorem mCnt_nn {th : Bool} {m : MS} (h : qTr m < 0) (h2 : th = false) : zRuns m (qRuns m + 1) = mCnt th m := ((if_pos h).trans (if_neg (by rw [h2]; decide))).symm
theorem mCnt_nt {th : Bool} {m : MS} (h : qTr m < 0) (h2 : th = true) : zThr (zRuns m (qRuns m + 1)) (qThr m + 1) = mCnt th m := ((if_pos h).trans (if_pos h2)).symm
theorem mCnt_tn {th : Bool} {m : MS} (h : ¬ qTr m < 0) (h2 : th = false) : zTrd (zRuns m (qRuns m + 1)) (qTrd m + 1) = mCnt th m := ((if_neg h).trans (if_neg (by rw [h2]; decide))).symm
theorem mCnt_tt {th : Bool} {m : MS} (h : ¬ qTr m < 0) (h2 : th = true) : zTrd (zThr (zRuns m (qRuns m + 1)) (qThr m + 1)) (qTrd m + 1) = mCnt th m := ((if_neg h).trans (if_pos h2)).symm
theorem told8 {f : Nat → Int32} {p : Nat} {m : MS} {v0 v5 v6 v7 : Int32} (h0 : mOut m = v0) (h5 : (if qTr m < 0 then -1 else qOrg m) = v5) (h6 : (if qTr m = 10 then qNum m else -1) = v6) (h7 : bI (qMark m) = v7) : upd (upd (upd (upd (upd (upd (upd (upd f (p * 8) v0) (p * 8 + 1) (qAcc m)) (p * 8 + 2) (qSteps m)) (p * 8 + 3) (qFin m)) (p * 8 + 4) (qCat m)) (p * 8 + 5) v5) (p * 8 + 6) v6) (p * 8 + 7) v7 = blk8 f p (mTl m) := by
  subst h0 h5 h6 h7
  refine blk8_of (fun i h => ?_) (fun q h => ?_)
  · rcases (show i = 0 ∨ i = 1 ∨ i = 2 ∨ i = 3 ∨ i = 4 ∨ i = 5 ∨ i = 6 ∨ i = 7 by omega) with rfl | rfl | rfl | rfl | rfl | rfl | rfl | rfl <;> simp [upd, mTl]
  · simp only [upd]
    rw [if_neg (by omega), if_neg (by omega), if_neg (by omega), if_neg (by omega), if_neg (by omega), if_neg (by omega), if_neg (by omega), if_neg (by omega)]
theorem mTail_mk {th : Bool} {p : Nat} {m m0 g1 v2 : MS} {r : Int32} {T C : Nat → Int32} (hU : zTold v2 T = g1) (hv : m = mLoop th 100000 (mBegin m0 p)) (h2 : v2 = mCnt th m) (hr : mOut m = r) (hT : T = blk8 (qTold m) p (mTl m)) (hC : C = blk8 (qCls g1) p (qCell g1)) : (r, zRan (zCls g1 C) (va_up (qRan g1) p true)) = mPerf th p m0 := by
  have e : ∀ f, qCls (zTold (mCnt th m) f) = qCls m ∧ qCell (zTold (mCnt th m) f) = qCell m ∧ qRan (zTold (mCnt th m) f) = qRan m := by
    intro f
    unfold mCnt
    split <;> split <;> exact ⟨rfl, rfl, rfl⟩
  subst h2 hr hT hC hU
  obtain ⟨e1, e2, e3⟩ := e (blk8 (qTold m) p (mTl m))
  rw [e1, e2, e3]
  unfold mPerf
  rw [← hv]
  rfl
theorem mOk_lim {m : MS} (h : mOk m) : mLim m ≤ 14 := by
  obtain ⟨h1, h2, h3, h4, h5, h6⟩ := h
  unfold mLim
  split
  · exact h2
  · have := (h5 (qOpen m - 1) (by omega)).2.2.1
    omega
theorem mOk_limS {m : MS} (h : mOk m) : mLim m ≤ qSize m (qProg m) := by
  obtain ⟨h1, h2, h3, h4, h5, h6⟩ := h
  unfold mLim
  split
  · exact Nat.le_refl _
  · exact (h5 (qOpen m - 1) (by omega)).2.2.1
theorem mOk_in {m : MS} (h : mOk m) (ha : qAt m < mLim m) : mO m (qAt m) ≤ 21 ∧ mG m (qAt m) ≤ 255 := h.2.2.1 _ (Nat.lt_of_lt_of_le ha (mOk_limS h))
theorem mOk_atle {m : MS} (h : mOk m) (hg : mGo m = true) : qAt m ≤ 14 := Nat.le_trans (h.2.2.2.2.2 hg).2 (mOk_lim h)
theorem mOk_lt {m : MS} (h : mOk m) (hg : mGo m = true) (hn : ¬ (0 < qOpen m ∧ (mGo m = false ∨ qAt m = qEnd m (qOpen m - 1)))) (hs : ¬ qAt m = qSize m (qProg m)) : qAt m < mLim m := by
  have h6 := (h.2.2.2.2.2 hg).2
  by_cases h0 : qOpen m = 0
  · have e : mLim m = qSize m (qProg m) := if_pos h0
    omega
  · have e : mLim m = qEnd m (qOpen m - 1) := if_neg h0
    have : ¬ qAt m = qEnd m (qOpen m - 1) := fun q => hn ⟨by omega, Or.inr q⟩
    omega
theorem mOk_op {m : MS} (h : mOk m) (ho : 0 < qOpen m) : mO m (qBlk m (qOpen m - 1)) = 10 ∨ mO m (qBlk m (qOpen m - 1)) = 11 ∨ mO m (qBlk m (qOpen m - 1)) = 12 ∨ mO m (qBlk m (qOpen m - 1)) = 13 ∨ mO m (qBlk m (qOpen m - 1)) = 14 := by
  have := h.2.2.2.2.1 (qOpen m - 1) (by omega)
  omega
theorem mOk_arg {m : MS} (h : mOk m) (ho : 0 < qOpen m) : mG m (qBlk m (qOpen m - 1)) ≤ 255 := by
  have h5 := h.2.2.2.2.1 (qOpen m - 1) (by omega)
  exact (h.2.2.1 _ (by omega)).2
theorem qOp_mBegin (m : MS) (p : Nat) : qOp (mBegin m p) = qOp m := by
  unfold mBegin
  rw [qOp_zHeld, qOp_zCell, qOp_zMark, qOp_zStop, qOp_zNum, qOp_zOrg, qOp_zTr, qOp_zAt, qOp_zOpen, qOp_zAcc, qOp_zSteps, qOp_zFin, qOp_zCat, qOp_zProg]
theorem qArg_mBegin (m : MS) (p : Nat) : qArg (mBegin m p) = qArg m := by
  unfold mBegin
  rw [qArg_zHeld, qArg_zCell, qArg_zMark, qArg_zStop, qArg_zNum, qArg_zOrg, qArg_zTr, qArg_zAt, qArg_zOpen, qArg_zAcc, qArg_zSteps, qArg_zFin, qArg_zCat, qArg_zProg]
theorem qSize_mBegin (m : MS) (p : Nat) : qSize (mBegin m p) = qSize m := by
  unfold mBegin
  rw [qSize_zHeld, qSize_zCell, qSize_zMark, qSize_zStop, qSize_zNum, qSize_zOrg, qSize_zTr, qSize_zAt, qSize_zOpen, qSize_zAcc, qSize_zSteps, qSize_zFin, qSize_zCat, qSize_zProg]
theorem qTold_mBegin (m : MS) (p : Nat) : qTold (mBegin m p) = qTold m := by
  unfold mBegin
  rw [qTold_zHeld, qTold_zCell, qTold_zMark, qTold_zStop, qTold_zNum, qTold_zOrg, qTold_zTr, qTold_zAt, qTold_zOpen, qTold_zAcc, qTold_zSteps, qTold_zFin, qTold_zCat, qTold_zProg]
theorem qCls_mBegin (m : MS) (p : Nat) : qCls (mBegin m p) = qCls m := by
  unfold mBegin
  rw [qCls_zHeld, qCls_zCell, qCls_zMark, qCls_zStop, qCls_zNum, qCls_zOrg, qCls_zTr, qCls_zAt, qCls_zOpen, qCls_zAcc, qCls_zSteps, qCls_zFin, qCls_zCat, qCls_zProg]
theorem qRan_mBegin (m : MS) (p : Nat) : qRan (mBegin m p) = qRan m := by
  unfold mBegin
  rw [qRan_zHeld, qRan_zCell, qRan_zMark, qRan_zStop, qRan_zNum, qRan_zOrg, qRan_zTr, qRan_zAt, qRan_zOpen, qRan_zAcc, qRan_zSteps, qRan_zFin, qRan_zCat, qRan_zProg]
theorem qCtr_mBegin (m : MS) (p : Nat) : qCtr (mBegin m p) = qCtr m := by
  unfold mBegin
  rw [qCtr_zHeld, qCtr_zCell, qCtr_zMark, qCtr_zStop, qCtr_zNum, qCtr_zOrg, qCtr_zTr, qCtr_zAt, qCtr_zOpen, qCtr_zAcc, qCtr_zSteps, qCtr_zFin, qCtr_zCat, qCtr_zProg]
theorem qRuns_mBegin (m : MS) (p : Nat) : qRuns (mBegin m p) = qRuns m := by
  unfold mBegin
  rw [qRuns_zHeld, qRuns_zCell, qRuns_zMark, qRuns_zStop, qRuns_zNum, qRuns_zOrg, qRuns_zTr, qRuns_zAt, qRuns_zOpen, qRuns_zAcc, qRuns_zSteps, qRuns_zFin, qRuns_zCat, qRuns_zProg]
theorem qThr_mBegin (m : MS) (p : Nat) : qThr (mBegin m p) = qThr m := by
  unfold mBegin
  rw [qThr_zHeld, qThr_zCell, qThr_zMark, qThr_zStop, qThr_zNum, qThr_zOrg, qThr_zTr, qThr_zAt, qThr_zOpen, qThr_zAcc, qThr_zSteps, qThr_zFin, qThr_zCat, qThr_zProg]
theorem qTrd_mBegin (m : MS) (p : Nat) : qTrd (mBegin m p) = qTrd m := by
  unfold mBegin
  rw [qTrd_zHeld, qTrd_zCell, qTrd_zMark, qTrd_zStop, qTrd_zNum, qTrd_zOrg, qTrd_zTr, qTrd_zAt, qTrd_zOpen, qTrd_zAcc, qTrd_zSteps, qTrd_zFin, qTrd_zCat, qTrd_zProg]
theorem qBlk_mBegin (m : MS) (p : Nat) : qBlk (mBegin m p) = qBlk m := by
  unfold mBegin
  rw [qBlk_zHeld, qBlk_zCell, qBlk_zMark, qBlk_zStop, qBlk_zNum, qBlk_zOrg, qBlk_zTr, qBlk_zAt, qBlk_zOpen, qBlk_zAcc, qBlk_zSteps, qBlk_zFin, qBlk_zCat, qBlk_zProg]
theorem qEnd_mBegin (m : MS) (p : Nat) : qEnd (mBegin m p) = qEnd m := by
  unfold mBegin
  rw [qEnd_zHeld, qEnd_zCell, qEnd_zMark, qEnd_zStop, qEnd_zNum, qEnd_zOrg, qEnd_zTr, qEnd_zAt, qEnd_zOpen, qEnd_zAcc, qEnd_zSteps, qEnd_zFin, qEnd_zCat, qEnd_zProg]
theorem qLeft_mBegin (m : MS) (p : Nat) : qLeft (mBegin m p) = qLeft m := by
  unfold mBegin
  rw [qLeft_zHeld, qLeft_zCell, qLeft_zMark, qLeft_zStop, qLeft_zNum, qLeft_zOrg, qLeft_zTr, qLeft_zAt, qLeft_zOpen, qLeft_zAcc, qLeft_zSteps, qLeft_zFin, qLeft_zCat, qLeft_zProg]
theorem qOpen_mBegin (m : MS) (p : Nat) : qOpen (mBegin m p) = 0 := by
  unfold mBegin
  rw [qOpen_zHeld, qOpen_zCell, qOpen_zMark, qOpen_zStop, qOpen_zNum, qOpen_zOrg, qOpen_zTr, qOpen_zAt, qOpen_zOpen]
theorem qCell_mBegin (m : MS) (p : Nat) : qCell (mBegin m p) = (fun _ => 0) := by
  unfold mBegin
  rw [qCell_zHeld, qCell_zCell]
theorem qHeld_mBegin (m : MS) (p : Nat) : qHeld (mBegin m p) = (fun _ => 0) := by
  unfold mBegin
  rw [qHeld_zHeld]
theorem qProg_mBegin (m : MS) (p : Nat) : qProg (mBegin m p) = p := by
  unfold mBegin
  rw [qProg_zHeld, qProg_zCell, qProg_zMark, qProg_zStop, qProg_zNum, qProg_zOrg, qProg_zTr, qProg_zAt, qProg_zOpen, qProg_zAcc, qProg_zSteps, qProg_zFin, qProg_zCat, qProg_zProg]
theorem qAt_mBegin (m : MS) (p : Nat) : qAt (mBegin m p) = 0 := by
  unfold mBegin
  rw [qAt_zHeld, qAt_zCell, qAt_zMark, qAt_zStop, qAt_zNum, qAt_zOrg, qAt_zTr, qAt_zAt]
theorem qAcc_mBegin (m : MS) (p : Nat) : qAcc (mBegin m p) = 0 := by
  unfold mBegin
  rw [qAcc_zHeld, qAcc_zCell, qAcc_zMark, qAcc_zStop, qAcc_zNum, qAcc_zOrg, qAcc_zTr, qAcc_zAt, qAcc_zOpen, qAcc_zAcc]
theorem qSteps_mBegin (m : MS) (p : Nat) : qSteps (mBegin m p) = 0 := by
  unfold mBegin
  rw [qSteps_zHeld, qSteps_zCell, qSteps_zMark, qSteps_zStop, qSteps_zNum, qSteps_zOrg, qSteps_zTr, qSteps_zAt, qSteps_zOpen, qSteps_zAcc, qSteps_zSteps]
theorem qFin_mBegin (m : MS) (p : Nat) : qFin (mBegin m p) = 0 := by
  unfold mBegin
  rw [qFin_zHeld, qFin_zCell, qFin_zMark, qFin_zStop, qFin_zNum, qFin_zOrg, qFin_zTr, qFin_zAt, qFin_zOpen, qFin_zAcc, qFin_zSteps, qFin_zFin]
theorem qCat_mBegin (m : MS) (p : Nat) : qCat (mBegin m p) = 0 := by
  unfold mBegin
  rw [qCat_zHeld, qCat_zCell, qCat_zMark, qCat_zStop, qCat_zNum, qCat_zOrg, qCat_zTr, qCat_zAt, qCat_zOpen, qCat_zAcc, qCat_zSteps, qCat_zFin, qCat_zCat]
theorem qTr_mBegin (m : MS) (p : Nat) : qTr (mBegin m p) = (-1) := by
  unfold mBegin
  rw [qTr_zHeld, qTr_zCell, qTr_zMark, qTr_zStop, qTr_zNum, qTr_zOrg, qTr_zTr]
theorem qNum_mBegin (m : MS) (p : Nat) : qNum (mBegin m p) = (-1) := by
  unfold mBegin
  rw [qNum_zHeld, qNum_zCell, qNum_zMark, qNum_zStop, qNum_zNum]
theorem qOrg_mBegin (m : MS) (p : Nat) : qOrg (mBegin m p) = (-1) := by
  unfold mBegin
  rw [qOrg_zHeld, qOrg_zCell, qOrg_zMark, qOrg_zStop, qOrg_zNum, qOrg_zOrg]
theorem qMark_mBegin (m : MS) (p : Nat) : qMark (mBegin m p) = false := by
  unfold mBegin
  rw [qMark_zHeld, qMark_zCell, qMark_zMark]
theorem qStop_mBegin (m : MS) (p : Nat) : qStop (mBegin m p) = false := by
  unfold mBegin
  rw [qStop_zHeld, qStop_zCell, qStop_zMark, qStop_zStop]
theorem mOk_begin {m : MS} {p : Nat} (hp6 : p < 6) (hs : qSize m p ≤ 14) (hr : ∀ i, i < qSize m p → qOp m (p * 14 + i) ≤ 21 ∧ qArg m (p * 14 + i) ≤ 255) : mOk (mBegin m p) := by
  unfold mOk mO mG mLim
  rw [qProg_mBegin, qSize_mBegin, qOpen_mBegin, qOp_mBegin, qArg_mBegin, qAt_mBegin]
  exact ⟨hp6, hs, hr, by decide, fun j h => absurd h (Nat.not_lt_zero j), fun _ => ⟨Nat.le_refl _, by rw [if_pos rfl]; exact Nat.zero_le _⟩⟩
theorem mLeave_prog (m : MS) (d : Nat) : qProg (mLeave m d) = qProg m := by sorry
theorem mStep_prog (th : Bool) (m : MS) : qProg (mStep th m) = qProg m := by sorry
theorem mOk_leave {m : MS} (h : mOk m) (ho : 0 < qOpen m) (hw : mGo m = false ∨ qAt m = qEnd m (qOpen m - 1)) : mOk (mLeave m (qOpen m - 1)) := by sorry
theorem mOk_step {m : MS} (th : Bool) (h : mOk m) (hg : mGo m = true) (ha : qAt m < mLim m) : mOk (mStep th m) := by sorry
