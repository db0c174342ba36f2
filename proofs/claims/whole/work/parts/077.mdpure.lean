theorem zCell_self (g : MS) : zCell g (qCell g) = g := by
  obtain ⟨x0, x1, x2, x3, x4, x5, x6, x7, x8, x9, x10, x11, x12, x13, x14, x15, x16, x17, x18, x19, x20, x21, x22, x23, x24, x25, x26⟩ := g
  rfl
theorem zCls_self (g : MS) : zCls g (qCls g) = g := by
  obtain ⟨x0, x1, x2, x3, x4, x5, x6, x7, x8, x9, x10, x11, x12, x13, x14, x15, x16, x17, x18, x19, x20, x21, x22, x23, x24, x25, x26⟩ := g
  rfl
theorem wM_ch (a : Nat → Nat) (cI cZ : ClassId) (g : MS) (f x : Nat → Int32) : wM a cI cZ (zHeld (zCell g f) x) = [(a 0, .inr (3, [.ref (a 1), .ref (a 2), .ref (a 3), .ref (a 4), .ref (a 5), .ref (a 6), .long (qCtr g), .int (qRuns g), .int (qThr g), .int (qTrd g), .ref (a 7), .ref (a 8), .ref (a 9), .int (nI (qOpen g)), .ref (a 10), .ref (a 11), .int (nI (qProg g)), .int (nI (qAt g)), .int (qAcc g), .int (qSteps g), .int (qFin g), .int (qCat g), .int (qTr g), .int (qNum g), .int (qOrg g), .int (bI (qMark g)), .int (bI (qStop g))])), (a 1, .inl (cI, 84, .inl (fun i => nI (qOp g i)))), (a 2, .inl (cI, 84, .inl (fun i => nI (qArg g i)))), (a 3, .inl (cI, 6, .inl (fun i => nI (qSize g i)))), (a 4, .inl (cI, 48, .inl (qTold g))), (a 5, .inl (cI, 48, .inl (qCls g))), (a 6, .inl (cZ, 6, .inl (fun i => bI (qRan g i)))), (a 7, .inl (cI, 15, .inl (fun i => nI (qBlk g i)))), (a 8, .inl (cI, 15, .inl (fun i => nI (qEnd g i)))), (a 9, .inl (cI, 15, .inl (fun i => nI (qLeft g i)))), (a 10, .inl (cI, 8, .inl f)), (a 11, .inl (cI, 2, .inl x))] := by
  unfold wM mF
  simp only [qCtr_zHeld, qCtr_zCell, qRuns_zHeld, qRuns_zCell, qThr_zHeld, qThr_zCell, qTrd_zHeld, qTrd_zCell, qOpen_zHeld, qOpen_zCell, qProg_zHeld, qProg_zCell, qAt_zHeld, qAt_zCell, qAcc_zHeld, qAcc_zCell, qSteps_zHeld, qSteps_zCell, qFin_zHeld, qFin_zCell, qCat_zHeld, qCat_zCell, qTr_zHeld, qTr_zCell, qNum_zHeld, qNum_zCell, qOrg_zHeld, qOrg_zCell, qMark_zHeld, qMark_zCell, qStop_zHeld, qStop_zCell, qOp_zHeld, qOp_zCell, qArg_zHeld, qArg_zCell, qSize_zHeld, qSize_zCell, qTold_zHeld, qTold_zCell, qCls_zHeld, qCls_zCell, qRan_zHeld, qRan_zCell, qBlk_zHeld, qBlk_zCell, qEnd_zHeld, qEnd_zCell, qLeft_zHeld, qLeft_zCell, qCell_zHeld, qHeld_zCell, qHeld_zHeld, qCell_zCell]
theorem cm_likeCH {D : va_G} {a : Nat → Nat} {cI cZ : ClassId} {g : MS} {f x f2 x2 : Nat → Int32} {H : Heap} (h1 : ∀ j, j < 8 → f j = f2 j) (h2 : ∀ j, j < 2 → x j = x2 j) (hP : va_P D vwCl (wM a cI cZ (zHeld (zCell g f) x)) H) : va_P D vwCl (wM a cI cZ (zHeld (zCell g f2) x2)) H := by
  rw [wM_ch] at hP ⊢
  intro k q hk
  match k, hk with
  | 0, hk => exact hP 0 q hk
  | 1, hk => exact hP 1 q hk
  | 2, hk => exact hP 2 q hk
  | 3, hk => exact hP 3 q hk
  | 4, hk => exact hP 4 q hk
  | 5, hk => exact hP 5 q hk
  | 6, hk => exact hP 6 q hk
  | 7, hk => exact hP 7 q hk
  | 8, hk => exact hP 8 q hk
  | 9, hk => exact hP 9 q hk
  | 10, hk =>
    cases hk
    exact (hP 10 _ rfl).trans (congrArg some (ce_vc h1))
  | 11, hk =>
    cases hk
    exact (hP 11 _ rfl).trans (congrArg some (ce_vc h2))
  | k + 12, hk => exact absurd hk (by simp)
theorem b8_inC {f g : Nat → Int32} {p j : Nat} (h : ∀ i, i < j → f (p * 8 + i) = g i) : ∀ i, i < j + 1 → upd f (p * 8 + j) (g j) (p * 8 + i) = g i := by
  intro i hi
  unfold upd
  by_cases e : i = j
  · subst e
    rw [if_pos rfl]
  · rw [if_neg (by omega)]
    exact h i (by omega)
theorem held0 {f : Nat → Int32} {q : Nat} (h : q < 2) : upd (upd f 1 0) 0 0 q = 0 := by
  rcases (show q = 0 ∨ q = 1 by omega) with rfl | rfl <;> rfl
theorem nI_le0 {n : Nat} (hn : n < 2 ^ 31) (h : nI n ≤ 0) : n = 0 := by
  have := (nI_leI (b := 0) hn (by decide)).mp h
  omega
theorem mGo_t {m : MS} (h : 0 ≤ qTr m) : mGo m = false := by
  unfold mGo
  rw [decide_eq_false (Int32.not_lt.mpr h)]
  rfl
theorem mGo_s {m : MS} (h : ¬ bI (qStop m) = 0) : mGo m = false := by
  unfold mGo
  rw [bI1 h]
  simp
theorem mGo_y {m : MS} (h : ¬ 0 ≤ qTr m) (h2 : bI (qStop m) = 0) : mGo m = true := by
  unfold mGo
  rw [bI0 h2, decide_eq_true (Int32.not_le.mp h)]
  rfl
theorem mLoop_leave {th : Bool} {n : Nat} {m : MS} (h : 0 < qOpen m) (h2 : mGo m = false ∨ qAt m = qEnd m (qOpen m - 1)) : mLoop th (n + 1) m = mLoop th n (mLeave m (qOpen m - 1)) := if_pos ⟨h, h2⟩
theorem mLoop_stop {th : Bool} {n : Nat} {m : MS} (h : ¬ (0 < qOpen m ∧ (mGo m = false ∨ qAt m = qEnd m (qOpen m - 1)))) (h2 : mGo m = false ∨ qAt m = qSize m (qProg m)) : mLoop th (n + 1) m = m := (if_neg h).trans (if_pos h2)
theorem mLoop_step {th : Bool} {n : Nat} {m : MS} (h : ¬ (0 < qOpen m ∧ (mGo m = false ∨ qAt m = qEnd m (qOpen m - 1)))) (h2 : ¬ (mGo m = false ∨ qAt m = qSize m (qProg m))) : mLoop th (n + 1) m = mLoop th n (mStep th m) := (if_neg h).trans (if_neg h2)
theorem mCnt_nn {th : Bool} {m : MS} (h : qTr m < 0) (h2 : th = false) : zRuns m (qRuns m + 1) = mCnt th m := ((if_pos h).trans (if_neg (by rw [h2]; decide))).symm
theorem mCnt_nt {th : Bool} {m : MS} (h : qTr m < 0) (h2 : th = true) : zThr (zRuns m (qRuns m + 1)) (qThr m + 1) = mCnt th m := ((if_pos h).trans (if_pos h2)).symm
theorem mCnt_tn {th : Bool} {m : MS} (h : ¬ qTr m < 0) (h2 : th = false) : zTrd (zRuns m (qRuns m + 1)) (qTrd m + 1) = mCnt th m := ((if_neg h).trans (if_neg (by rw [h2]; decide))).symm
theorem mCnt_tt {th : Bool} {m : MS} (h : ¬ qTr m < 0) (h2 : th = true) : zTrd (zThr (zRuns m (qRuns m + 1)) (qThr m + 1)) (qTrd m + 1) = mCnt th m := ((if_neg h).trans (if_pos h2)).symm
theorem told8 {f : Nat → Int32} {p : Nat} {m : MS} {v0 v5 v6 v7 : Int32} (h0 : mOut m = v0) (h5 : (if qTr m < 0 then -1 else qOrg m) = v5) (h6 : (if qTr m = 10 then qNum m else -1) = v6) (h7 : bI (qMark m) = v7) : upd (upd (upd (upd (upd (upd (upd (upd f (p * 8) v0) (p * 8 + 1) (qAcc m)) (p * 8 + 2) (qSteps m)) (p * 8 + 3) (qFin m)) (p * 8 + 4) (qCat m)) (p * 8 + 5) v5) (p * 8 + 6) v6) (p * 8 + 7) v7 = blk8 f p (mTl m) := by
  subst h0 h5 h6 h7
  refine blk8_of (fun i h => ?_) (fun q h => ?_)
  · rcases (show i = 0 ∨ i = 1 ∨ i = 2 ∨ i = 3 ∨ i = 4 ∨ i = 5 ∨ i = 6 ∨ i = 7 by omega) with rfl | rfl | rfl | rfl | rfl | rfl | rfl | rfl <;> simp [upd, mTl]
  · simp only [upd]
    rw [if_neg (by omega), if_neg (by omega), if_neg (by omega), if_neg (by omega), if_neg (by omega), if_neg (by omega), if_neg (by omega), if_neg (by omega)]
theorem mTail_mk {th : Bool} {p : Nat} {m m0 g1 v2 : MS} {r : Int32} {T C : Nat → Int32} (hU : zTold v2 T = g1) (hv : m = mLoop th 100000 (mBegin m0 p)) (h2 : v2 = mCnt th m) (hr : mOut m = r) (hT : T = blk8 (qTold m) p (mTl m)) (hC : C = blk8 (qCls g1) p (qCell g1)) : (r, zRan (zCls g1 C) (va_up (qRan g1) p true)) = mPerf th p m0 := by
  have e : ∀ f, qCls (zTold (mCnt th m) f) = qCls m ∧ qCell (zTold (mCnt th m) f) = qCell m ∧ qRan (zTold (mCnt th m) f) = qRan m := by
    intro f
    unfold mCnt
    split <;> split <;> exact ⟨rfl, rfl, rfl⟩
  subst h2 hr hT hC hU
  obtain ⟨e1, e2, e3⟩ := e (blk8 (qTold m) p (mTl m))
  rw [e1, e2, e3]
  unfold mPerf
  rw [← hv]
  rfl
theorem mOk_lim {m : MS} (h : mOk m) : mLim m ≤ 14 := by
  obtain ⟨h1, h2, h3, h4, h5, h6⟩ := h
  unfold mLim
  split
  · exact h2
  · have := (h5 (qOpen m - 1) (by omega)).2.2.1
    omega
theorem mOk_limS {m : MS} (h : mOk m) : mLim m ≤ qSize m (qProg m) := by
  obtain ⟨h1, h2, h3, h4, h5, h6⟩ := h
  unfold mLim
  split
  · exact Nat.le_refl _
  · exact (h5 (qOpen m - 1) (by omega)).2.2.1
theorem mOk_in {m : MS} (h : mOk m) (ha : qAt m < mLim m) : mO m (qAt m) ≤ 21 ∧ mG m (qAt m) ≤ 255 := h.2.2.1 _ (Nat.lt_of_lt_of_le ha (mOk_limS h))
theorem mOk_atle {m : MS} (h : mOk m) (hg : mGo m = true) : qAt m ≤ 14 := Nat.le_trans (h.2.2.2.2.2 hg).2 (mOk_lim h)
theorem mOk_lt {m : MS} (h : mOk m) (hg : mGo m = true) (hn : ¬ (0 < qOpen m ∧ (mGo m = false ∨ qAt m = qEnd m (qOpen m - 1)))) (hs : ¬ qAt m = qSize m (qProg m)) : qAt m < mLim m := by
  have h6 := (h.2.2.2.2.2 hg).2
  by_cases h0 : qOpen m = 0
  · have e : mLim m = qSize m (qProg m) := if_pos h0
    omega
  · have e : mLim m = qEnd m (qOpen m - 1) := if_neg h0
    have : ¬ qAt m = qEnd m (qOpen m - 1) := fun q => hn ⟨by omega, Or.inr q⟩
    omega
theorem mOk_op {m : MS} (h : mOk m) (ho : 0 < qOpen m) : mO m (qBlk m (qOpen m - 1)) = 10 ∨ mO m (qBlk m (qOpen m - 1)) = 11 ∨ mO m (qBlk m (qOpen m - 1)) = 12 ∨ mO m (qBlk m (qOpen m - 1)) = 13 ∨ mO m (qBlk m (qOpen m - 1)) = 14 := by
  have := h.2.2.2.2.1 (qOpen m - 1) (by omega)
  omega
theorem mOk_arg {m : MS} (h : mOk m) (ho : 0 < qOpen m) : mG m (qBlk m (qOpen m - 1)) ≤ 255 := by
  have h5 := h.2.2.2.2.1 (qOpen m - 1) (by omega)
  exact (h.2.2.1 _ (by omega)).2
theorem qOp_mBegin (m : MS) (p : Nat) : qOp (mBegin m p) = qOp m := by
  unfold mBegin
  rw [qOp_zHeld, qOp_zCell, qOp_zMark, qOp_zStop, qOp_zNum, qOp_zOrg, qOp_zTr, qOp_zAt, qOp_zOpen, qOp_zAcc, qOp_zSteps, qOp_zFin, qOp_zCat, qOp_zProg]
theorem qArg_mBegin (m : MS) (p : Nat) : qArg (mBegin m p) = qArg m := by
  unfold mBegin
  rw [qArg_zHeld, qArg_zCell, qArg_zMark, qArg_zStop, qArg_zNum, qArg_zOrg, qArg_zTr, qArg_zAt, qArg_zOpen, qArg_zAcc, qArg_zSteps, qArg_zFin, qArg_zCat, qArg_zProg]
theorem qSize_mBegin (m : MS) (p : Nat) : qSize (mBegin m p) = qSize m := by
  unfold mBegin
  rw [qSize_zHeld, qSize_zCell, qSize_zMark, qSize_zStop, qSize_zNum, qSize_zOrg, qSize_zTr, qSize_zAt, qSize_zOpen, qSize_zAcc, qSize_zSteps, qSize_zFin, qSize_zCat, qSize_zProg]
theorem qTold_mBegin (m : MS) (p : Nat) : qTold (mBegin m p) = qTold m := by
  unfold mBegin
  rw [qTold_zHeld, qTold_zCell, qTold_zMark, qTold_zStop, qTold_zNum, qTold_zOrg, qTold_zTr, qTold_zAt, qTold_zOpen, qTold_zAcc, qTold_zSteps, qTold_zFin, qTold_zCat, qTold_zProg]
theorem qCls_mBegin (m : MS) (p : Nat) : qCls (mBegin m p) = qCls m := by
  unfold mBegin
  rw [qCls_zHeld, qCls_zCell, qCls_zMark, qCls_zStop, qCls_zNum, qCls_zOrg, qCls_zTr, qCls_zAt, qCls_zOpen, qCls_zAcc, qCls_zSteps, qCls_zFin, qCls_zCat, qCls_zProg]
theorem qRan_mBegin (m : MS) (p : Nat) : qRan (mBegin m p) = qRan m := by
  unfold mBegin
  rw [qRan_zHeld, qRan_zCell, qRan_zMark, qRan_zStop, qRan_zNum, qRan_zOrg, qRan_zTr, qRan_zAt, qRan_zOpen, qRan_zAcc, qRan_zSteps, qRan_zFin, qRan_zCat, qRan_zProg]
theorem qCtr_mBegin (m : MS) (p : Nat) : qCtr (mBegin m p) = qCtr m := by
  unfold mBegin
  rw [qCtr_zHeld, qCtr_zCell, qCtr_zMark, qCtr_zStop, qCtr_zNum, qCtr_zOrg, qCtr_zTr, qCtr_zAt, qCtr_zOpen, qCtr_zAcc, qCtr_zSteps, qCtr_zFin, qCtr_zCat, qCtr_zProg]
theorem qRuns_mBegin (m : MS) (p : Nat) : qRuns (mBegin m p) = qRuns m := by
  unfold mBegin
  rw [qRuns_zHeld, qRuns_zCell, qRuns_zMark, qRuns_zStop, qRuns_zNum, qRuns_zOrg, qRuns_zTr, qRuns_zAt, qRuns_zOpen, qRuns_zAcc, qRuns_zSteps, qRuns_zFin, qRuns_zCat, qRuns_zProg]
theorem qThr_mBegin (m : MS) (p : Nat) : qThr (mBegin m p) = qThr m := by
  unfold mBegin
  rw [qThr_zHeld, qThr_zCell, qThr_zMark, qThr_zStop, qThr_zNum, qThr_zOrg, qThr_zTr, qThr_zAt, qThr_zOpen, qThr_zAcc, qThr_zSteps, qThr_zFin, qThr_zCat, qThr_zProg]
theorem qTrd_mBegin (m : MS) (p : Nat) : qTrd (mBegin m p) = qTrd m := by
  unfold mBegin
  rw [qTrd_zHeld, qTrd_zCell, qTrd_zMark, qTrd_zStop, qTrd_zNum, qTrd_zOrg, qTrd_zTr, qTrd_zAt, qTrd_zOpen, qTrd_zAcc, qTrd_zSteps, qTrd_zFin, qTrd_zCat, qTrd_zProg]
theorem qBlk_mBegin (m : MS) (p : Nat) : qBlk (mBegin m p) = qBlk m := by
  unfold mBegin
  rw [qBlk_zHeld, qBlk_zCell, qBlk_zMark, qBlk_zStop, qBlk_zNum, qBlk_zOrg, qBlk_zTr, qBlk_zAt, qBlk_zOpen, qBlk_zAcc, qBlk_zSteps, qBlk_zFin, qBlk_zCat, qBlk_zProg]
theorem qEnd_mBegin (m : MS) (p : Nat) : qEnd (mBegin m p) = qEnd m := by
  unfold mBegin
  rw [qEnd_zHeld, qEnd_zCell, qEnd_zMark, qEnd_zStop, qEnd_zNum, qEnd_zOrg, qEnd_zTr, qEnd_zAt, qEnd_zOpen, qEnd_zAcc, qEnd_zSteps, qEnd_zFin, qEnd_zCat, qEnd_zProg]
theorem qLeft_mBegin (m : MS) (p : Nat) : qLeft (mBegin m p) = qLeft m := by
  unfold mBegin
  rw [qLeft_zHeld, qLeft_zCell, qLeft_zMark, qLeft_zStop, qLeft_zNum, qLeft_zOrg, qLeft_zTr, qLeft_zAt, qLeft_zOpen, qLeft_zAcc, qLeft_zSteps, qLeft_zFin, qLeft_zCat, qLeft_zProg]
theorem qOpen_mBegin (m : MS) (p : Nat) : qOpen (mBegin m p) = 0 := by
  unfold mBegin
  rw [qOpen_zHeld, qOpen_zCell, qOpen_zMark, qOpen_zStop, qOpen_zNum, qOpen_zOrg, qOpen_zTr, qOpen_zAt, qOpen_zOpen]
theorem qCell_mBegin (m : MS) (p : Nat) : qCell (mBegin m p) = (fun _ => 0) := by
  unfold mBegin
  rw [qCell_zHeld, qCell_zCell]
theorem qHeld_mBegin (m : MS) (p : Nat) : qHeld (mBegin m p) = (fun _ => 0) := by
  unfold mBegin
  rw [qHeld_zHeld]
theorem qProg_mBegin (m : MS) (p : Nat) : qProg (mBegin m p) = p := by
  unfold mBegin
  rw [qProg_zHeld, qProg_zCell, qProg_zMark, qProg_zStop, qProg_zNum, qProg_zOrg, qProg_zTr, qProg_zAt, qProg_zOpen, qProg_zAcc, qProg_zSteps, qProg_zFin, qProg_zCat, qProg_zProg]
theorem qAt_mBegin (m : MS) (p : Nat) : qAt (mBegin m p) = 0 := by
  unfold mBegin
  rw [qAt_zHeld, qAt_zCell, qAt_zMark, qAt_zStop, qAt_zNum, qAt_zOrg, qAt_zTr, qAt_zAt]
theorem qAcc_mBegin (m : MS) (p : Nat) : qAcc (mBegin m p) = 0 := by
  unfold mBegin
  rw [qAcc_zHeld, qAcc_zCell, qAcc_zMark, qAcc_zStop, qAcc_zNum, qAcc_zOrg, qAcc_zTr, qAcc_zAt, qAcc_zOpen, qAcc_zAcc]
theorem qSteps_mBegin (m : MS) (p : Nat) : qSteps (mBegin m p) = 0 := by
  unfold mBegin
  rw [qSteps_zHeld, qSteps_zCell, qSteps_zMark, qSteps_zStop, qSteps_zNum, qSteps_zOrg, qSteps_zTr, qSteps_zAt, qSteps_zOpen, qSteps_zAcc, qSteps_zSteps]
theorem qFin_mBegin (m : MS) (p : Nat) : qFin (mBegin m p) = 0 := by
  unfold mBegin
  rw [qFin_zHeld, qFin_zCell, qFin_zMark, qFin_zStop, qFin_zNum, qFin_zOrg, qFin_zTr, qFin_zAt, qFin_zOpen, qFin_zAcc, qFin_zSteps, qFin_zFin]
theorem qCat_mBegin (m : MS) (p : Nat) : qCat (mBegin m p) = 0 := by
  unfold mBegin
  rw [qCat_zHeld, qCat_zCell, qCat_zMark, qCat_zStop, qCat_zNum, qCat_zOrg, qCat_zTr, qCat_zAt, qCat_zOpen, qCat_zAcc, qCat_zSteps, qCat_zFin, qCat_zCat]
theorem qTr_mBegin (m : MS) (p : Nat) : qTr (mBegin m p) = (-1) := by
  unfold mBegin
  rw [qTr_zHeld, qTr_zCell, qTr_zMark, qTr_zStop, qTr_zNum, qTr_zOrg, qTr_zTr]
theorem qNum_mBegin (m : MS) (p : Nat) : qNum (mBegin m p) = (-1) := by
  unfold mBegin
  rw [qNum_zHeld, qNum_zCell, qNum_zMark, qNum_zStop, qNum_zNum]
theorem qOrg_mBegin (m : MS) (p : Nat) : qOrg (mBegin m p) = (-1) := by
  unfold mBegin
  rw [qOrg_zHeld, qOrg_zCell, qOrg_zMark, qOrg_zStop, qOrg_zNum, qOrg_zOrg]
theorem qMark_mBegin (m : MS) (p : Nat) : qMark (mBegin m p) = false := by
  unfold mBegin
  rw [qMark_zHeld, qMark_zCell, qMark_zMark]
theorem qStop_mBegin (m : MS) (p : Nat) : qStop (mBegin m p) = false := by
  unfold mBegin
  rw [qStop_zHeld, qStop_zCell, qStop_zMark, qStop_zStop]
theorem mOk_begin {m : MS} {p : Nat} (hp6 : p < 6) (hs : qSize m p ≤ 14) (hr : ∀ i, i < qSize m p → qOp m (p * 14 + i) ≤ 21 ∧ qArg m (p * 14 + i) ≤ 255) : mOk (mBegin m p) := by
  unfold mOk mO mG mLim
  rw [qProg_mBegin, qSize_mBegin, qOpen_mBegin, qOp_mBegin, qArg_mBegin, qAt_mBegin]
  exact ⟨hp6, hs, hr, by decide, fun j h => absurd h (Nat.not_lt_zero j), fun _ => ⟨Nat.le_refl _, by rw [if_pos rfl]; exact Nat.zero_le _⟩⟩
/-- what no step of the machine changes -/
def mSame (m : MS) : (Nat → Nat) × (Nat → Nat) × (Nat → Nat) × (Nat → Int32) × (Nat → Int32) × (Nat → Bool) × (Int32) × (Int32) × (Int32) × (Nat) := (qOp m, qArg m, qSize m, qTold m, qCls m, qRan m, qRuns m, qThr m, qTrd m, qProg m)
theorem mSame_zCtr (m : MS) (x : Int64) : mSame (zCtr m x) = mSame m := Eq.trans (b := mSame m) rfl rfl
theorem mSame_zBlk (m : MS) (x : Nat → Nat) : mSame (zBlk m x) = mSame m := Eq.trans (b := mSame m) rfl rfl
theorem mSame_zEnd (m : MS) (x : Nat → Nat) : mSame (zEnd m x) = mSame m := Eq.trans (b := mSame m) rfl rfl
theorem mSame_zLeft (m : MS) (x : Nat → Nat) : mSame (zLeft m x) = mSame m := Eq.trans (b := mSame m) rfl rfl
theorem mSame_zOpen (m : MS) (x : Nat) : mSame (zOpen m x) = mSame m := Eq.trans (b := mSame m) rfl rfl
theorem mSame_zCell (m : MS) (x : Nat → Int32) : mSame (zCell m x) = mSame m := Eq.trans (b := mSame m) rfl rfl
theorem mSame_zHeld (m : MS) (x : Nat → Int32) : mSame (zHeld m x) = mSame m := Eq.trans (b := mSame m) rfl rfl
theorem mSame_zAt (m : MS) (x : Nat) : mSame (zAt m x) = mSame m := Eq.trans (b := mSame m) rfl rfl
theorem mSame_zAcc (m : MS) (x : Int32) : mSame (zAcc m x) = mSame m := Eq.trans (b := mSame m) rfl rfl
theorem mSame_zSteps (m : MS) (x : Int32) : mSame (zSteps m x) = mSame m := Eq.trans (b := mSame m) rfl rfl
theorem mSame_zFin (m : MS) (x : Int32) : mSame (zFin m x) = mSame m := Eq.trans (b := mSame m) rfl rfl
theorem mSame_zCat (m : MS) (x : Int32) : mSame (zCat m x) = mSame m := Eq.trans (b := mSame m) rfl rfl
theorem mSame_zTr (m : MS) (x : Int32) : mSame (zTr m x) = mSame m := Eq.trans (b := mSame m) rfl rfl
theorem mSame_zNum (m : MS) (x : Int32) : mSame (zNum m x) = mSame m := Eq.trans (b := mSame m) rfl rfl
theorem mSame_zOrg (m : MS) (x : Int32) : mSame (zOrg m x) = mSame m := Eq.trans (b := mSame m) rfl rfl
theorem mSame_zMark (m : MS) (x : Bool) : mSame (zMark m x) = mSame m := Eq.trans (b := mSame m) rfl rfl
theorem mSame_zStop (m : MS) (x : Bool) : mSame (zStop m x) = mSame m := Eq.trans (b := mSame m) rfl rfl
theorem mSame_pop (m : MS) (d : Nat) : mSame (mPop m d) = mSame m := by
  unfold mPop
  simp only [mSame_zCtr, mSame_zBlk, mSame_zEnd, mSame_zLeft, mSame_zOpen, mSame_zCell, mSame_zHeld, mSame_zAt, mSame_zAcc, mSame_zSteps, mSame_zFin, mSame_zCat, mSame_zTr, mSame_zNum, mSame_zOrg, mSame_zMark, mSame_zStop]
theorem mSame_raise (m : MS) (x y : Int32) : mSame (mRaise m x y) = mSame m := by
  unfold mRaise
  simp only [mSame_zCtr, mSame_zBlk, mSame_zEnd, mSame_zLeft, mSame_zOpen, mSame_zCell, mSame_zHeld, mSame_zAt, mSame_zAcc, mSame_zSteps, mSame_zFin, mSame_zCat, mSame_zTr, mSame_zNum, mSame_zOrg, mSame_zMark, mSame_zStop]
theorem mSame_caught (m : MS) (d : Nat) : mSame (mCaught m d) = mSame m := by
  unfold mCaught mCau
  split <;> simp only [mSame_pop, mSame_zCtr, mSame_zBlk, mSame_zEnd, mSame_zLeft, mSame_zOpen, mSame_zCell, mSame_zHeld, mSame_zAt, mSame_zAcc, mSame_zSteps, mSame_zFin, mSame_zCat, mSame_zTr, mSame_zNum, mSame_zOrg, mSame_zMark, mSame_zStop]
theorem mSame_leave (m : MS) (d : Nat) : mSame (mLeave m d) = mSame m := by
  unfold mLeave
  split
  · split <;> simp only [mSame_caught, mSame_pop, mSame_zCtr, mSame_zBlk, mSame_zEnd, mSame_zLeft, mSame_zOpen, mSame_zCell, mSame_zHeld, mSame_zAt, mSame_zAcc, mSame_zSteps, mSame_zFin, mSame_zCat, mSame_zTr, mSame_zNum, mSame_zOrg, mSame_zMark, mSame_zStop]
  · simp only [mSame_pop, mSame_zCtr, mSame_zBlk, mSame_zEnd, mSame_zLeft, mSame_zOpen, mSame_zCell, mSame_zHeld, mSame_zAt, mSame_zAcc, mSame_zSteps, mSame_zFin, mSame_zCat, mSame_zTr, mSame_zNum, mSame_zOrg, mSame_zMark, mSame_zStop]
  · simp only [mSame_pop, mSame_zCtr, mSame_zBlk, mSame_zEnd, mSame_zLeft, mSame_zOpen, mSame_zCell, mSame_zHeld, mSame_zAt, mSame_zAcc, mSame_zSteps, mSame_zFin, mSame_zCat, mSame_zTr, mSame_zNum, mSame_zOrg, mSame_zMark, mSame_zStop]
  · simp only [mSame_pop, mSame_zCtr, mSame_zBlk, mSame_zEnd, mSame_zLeft, mSame_zOpen, mSame_zCell, mSame_zHeld, mSame_zAt, mSame_zAcc, mSame_zSteps, mSame_zFin, mSame_zCat, mSame_zTr, mSame_zNum, mSame_zOrg, mSame_zMark, mSame_zStop]
  · split <;> simp only [mSame_pop, mSame_zCtr, mSame_zBlk, mSame_zEnd, mSame_zLeft, mSame_zOpen, mSame_zCell, mSame_zHeld, mSame_zAt, mSame_zAcc, mSame_zSteps, mSame_zFin, mSame_zCat, mSame_zTr, mSame_zNum, mSame_zOrg, mSame_zMark, mSame_zStop]
theorem mSame_intr (m : MS) : mSame (mIntr m) = mSame m := by
  unfold mIntr
  split <;> simp only [mSame_raise, mSame_zCtr, mSame_zBlk, mSame_zEnd, mSame_zLeft, mSame_zOpen, mSame_zCell, mSame_zHeld, mSame_zAt, mSame_zAcc, mSame_zSteps, mSame_zFin, mSame_zCat, mSame_zTr, mSame_zNum, mSame_zOrg, mSame_zMark, mSame_zStop]
theorem mSame_div (m : MS) (v : Int32) (b : Bool) : mSame (mDivide m v b) = mSame m := by
  unfold mDivide
  split
  · rw [mSame_raise]
  · split <;> simp only [mSame_zCtr, mSame_zBlk, mSame_zEnd, mSame_zLeft, mSame_zOpen, mSame_zCell, mSame_zHeld, mSame_zAt, mSame_zAcc, mSame_zSteps, mSame_zFin, mSame_zCat, mSame_zTr, mSame_zNum, mSame_zOrg, mSame_zMark, mSame_zStop]
theorem mSame_touch (m : MS) (v : Int32) (b : Bool) : mSame (mTouch m v b) = mSame m := by
  unfold mTouch
  split
  · split <;> simp only [mSame_zCtr, mSame_zBlk, mSame_zEnd, mSame_zLeft, mSame_zOpen, mSame_zCell, mSame_zHeld, mSame_zAt, mSame_zAcc, mSame_zSteps, mSame_zFin, mSame_zCat, mSame_zTr, mSame_zNum, mSame_zOrg, mSame_zMark, mSame_zStop]
  · rw [mSame_raise]
theorem mSame_act (m : MS) (o : Nat) (v : Int32) (n k : Nat) : mSame (mAct m o v n k) = mSame m := by
  unfold mAct
  split
  all_goals first
    | (simp only [mSame_raise, mSame_intr, mSame_div, mSame_touch, mSame_zCtr, mSame_zBlk, mSame_zEnd, mSame_zLeft, mSame_zOpen, mSame_zCell, mSame_zHeld, mSame_zAt, mSame_zAcc, mSame_zSteps, mSame_zFin, mSame_zCat, mSame_zTr, mSame_zNum, mSame_zOrg, mSame_zMark, mSame_zStop]; done)
    | (split <;> simp only [mSame_raise, mSame_intr, mSame_div, mSame_touch, mSame_zCtr, mSame_zBlk, mSame_zEnd, mSame_zLeft, mSame_zOpen, mSame_zCell, mSame_zHeld, mSame_zAt, mSame_zAcc, mSame_zSteps, mSame_zFin, mSame_zCat, mSame_zTr, mSame_zNum, mSame_zOrg, mSame_zMark, mSame_zStop])
theorem mSame_push (m : MS) (i z : Nat) : mSame (mPush m i z) = mSame m := by
  unfold mPush
  simp only [mSame_zCtr, mSame_zBlk, mSame_zEnd, mSame_zLeft, mSame_zOpen, mSame_zCell, mSame_zHeld, mSame_zAt, mSame_zAcc, mSame_zSteps, mSame_zFin, mSame_zCat, mSame_zTr, mSame_zNum, mSame_zOrg, mSame_zMark, mSame_zStop]
theorem mSame_enter (m : MS) (i n : Nat) : mSame (mEnter m i n) = mSame m := by
  unfold mEnter
  split
  · simp only [mSame_zCtr, mSame_zBlk, mSame_zEnd, mSame_zLeft, mSame_zOpen, mSame_zCell, mSame_zHeld, mSame_zAt, mSame_zAcc, mSame_zSteps, mSame_zFin, mSame_zCat, mSame_zTr, mSame_zNum, mSame_zOrg, mSame_zMark, mSame_zStop]
  · split <;> simp only [mSame_push, mSame_zCtr, mSame_zBlk, mSame_zEnd, mSame_zLeft, mSame_zOpen, mSame_zCell, mSame_zHeld, mSame_zAt, mSame_zAcc, mSame_zSteps, mSame_zFin, mSame_zCat, mSame_zTr, mSame_zNum, mSame_zOrg, mSame_zMark, mSame_zStop]
theorem mSame_step (th : Bool) (m : MS) : mSame (mStep th m) = mSame m := by
  unfold mStep
  split
  · simp only [mSame_zCtr, mSame_zBlk, mSame_zEnd, mSame_zLeft, mSame_zOpen, mSame_zCell, mSame_zHeld, mSame_zAt, mSame_zAcc, mSame_zSteps, mSame_zFin, mSame_zCat, mSame_zTr, mSame_zNum, mSame_zOrg, mSame_zMark, mSame_zStop]
  · split
    · simp only [mSame_enter, mSame_zCtr, mSame_zBlk, mSame_zEnd, mSame_zLeft, mSame_zOpen, mSame_zCell, mSame_zHeld, mSame_zAt, mSame_zAcc, mSame_zSteps, mSame_zFin, mSame_zCat, mSame_zTr, mSame_zNum, mSame_zOrg, mSame_zMark, mSame_zStop]
    · split <;> simp only [mSame_act, mSame_zCtr, mSame_zBlk, mSame_zEnd, mSame_zLeft, mSame_zOpen, mSame_zCell, mSame_zHeld, mSame_zAt, mSame_zAcc, mSame_zSteps, mSame_zFin, mSame_zCat, mSame_zTr, mSame_zNum, mSame_zOrg, mSame_zMark, mSame_zStop]
theorem sm_Op {m m2 : MS} (h : mSame m2 = mSame m) : qOp m2 = qOp m := congrArg (fun t => t.1) h
theorem sm_Arg {m m2 : MS} (h : mSame m2 = mSame m) : qArg m2 = qArg m := congrArg (fun t => t.2.1) h
theorem sm_Size {m m2 : MS} (h : mSame m2 = mSame m) : qSize m2 = qSize m := congrArg (fun t => t.2.2.1) h
theorem sm_Told {m m2 : MS} (h : mSame m2 = mSame m) : qTold m2 = qTold m := congrArg (fun t => t.2.2.2.1) h
theorem sm_Cls {m m2 : MS} (h : mSame m2 = mSame m) : qCls m2 = qCls m := congrArg (fun t => t.2.2.2.2.1) h
theorem sm_Ran {m m2 : MS} (h : mSame m2 = mSame m) : qRan m2 = qRan m := congrArg (fun t => t.2.2.2.2.2.1) h
theorem sm_Runs {m m2 : MS} (h : mSame m2 = mSame m) : qRuns m2 = qRuns m := congrArg (fun t => t.2.2.2.2.2.2.1) h
theorem sm_Thr {m m2 : MS} (h : mSame m2 = mSame m) : qThr m2 = qThr m := congrArg (fun t => t.2.2.2.2.2.2.2.1) h
theorem sm_Trd {m m2 : MS} (h : mSame m2 = mSame m) : qTrd m2 = qTrd m := congrArg (fun t => t.2.2.2.2.2.2.2.2.1) h
theorem sm_Prog {m m2 : MS} (h : mSame m2 = mSame m) : qProg m2 = qProg m := congrArg (fun t => t.2.2.2.2.2.2.2.2.2) h
theorem mLeave_prog (m : MS) (d : Nat) : qProg (mLeave m d) = qProg m := sm_Prog (mSame_leave m d)
theorem mStep_prog (th : Bool) (m : MS) : qProg (mStep th m) = qProg m := sm_Prog (mSame_step th m)
/-- the stack of blocks and the place -/
def mFrm (m : MS) : (Nat → Nat) × (Nat → Nat) × (Nat → Nat) × Nat × Nat := (qBlk m, qEnd m, qLeft m, qOpen m, qAt m)
theorem mFrm_zCtr (m : MS) (x : Int64) : mFrm (zCtr m x) = mFrm m := Eq.trans (b := mFrm m) rfl rfl
theorem mFrm_zCell (m : MS) (x : Nat → Int32) : mFrm (zCell m x) = mFrm m := Eq.trans (b := mFrm m) rfl rfl
theorem mFrm_zHeld (m : MS) (x : Nat → Int32) : mFrm (zHeld m x) = mFrm m := Eq.trans (b := mFrm m) rfl rfl
theorem mFrm_zAcc (m : MS) (x : Int32) : mFrm (zAcc m x) = mFrm m := Eq.trans (b := mFrm m) rfl rfl
theorem mFrm_zSteps (m : MS) (x : Int32) : mFrm (zSteps m x) = mFrm m := Eq.trans (b := mFrm m) rfl rfl
theorem mFrm_zFin (m : MS) (x : Int32) : mFrm (zFin m x) = mFrm m := Eq.trans (b := mFrm m) rfl rfl
theorem mFrm_zCat (m : MS) (x : Int32) : mFrm (zCat m x) = mFrm m := Eq.trans (b := mFrm m) rfl rfl
theorem mFrm_zTr (m : MS) (x : Int32) : mFrm (zTr m x) = mFrm m := Eq.trans (b := mFrm m) rfl rfl
theorem mFrm_zNum (m : MS) (x : Int32) : mFrm (zNum m x) = mFrm m := Eq.trans (b := mFrm m) rfl rfl
theorem mFrm_zOrg (m : MS) (x : Int32) : mFrm (zOrg m x) = mFrm m := Eq.trans (b := mFrm m) rfl rfl
theorem mFrm_zMark (m : MS) (x : Bool) : mFrm (zMark m x) = mFrm m := Eq.trans (b := mFrm m) rfl rfl
theorem mFrm_zStop (m : MS) (x : Bool) : mFrm (zStop m x) = mFrm m := Eq.trans (b := mFrm m) rfl rfl
theorem mFrm_zAt (m : MS) (x : Nat) : mFrm (zAt m x) = ((mFrm m).1, (mFrm m).2.1, (mFrm m).2.2.1, (mFrm m).2.2.2.1, x) := Eq.trans (b := ((mFrm m).1, (mFrm m).2.1, (mFrm m).2.2.1, (mFrm m).2.2.2.1, x)) rfl rfl
theorem mFrm_zOpen (m : MS) (x : Nat) : mFrm (zOpen m x) = ((mFrm m).1, (mFrm m).2.1, (mFrm m).2.2.1, x, (mFrm m).2.2.2.2) := Eq.trans (b := ((mFrm m).1, (mFrm m).2.1, (mFrm m).2.2.1, x, (mFrm m).2.2.2.2)) rfl rfl
theorem mFrm_zLeft (m : MS) (x : Nat → Nat) : mFrm (zLeft m x) = ((mFrm m).1, (mFrm m).2.1, x, (mFrm m).2.2.2.1, (mFrm m).2.2.2.2) := Eq.trans (b := ((mFrm m).1, (mFrm m).2.1, x, (mFrm m).2.2.2.1, (mFrm m).2.2.2.2)) rfl rfl
theorem mFrm_zEnd (m : MS) (x : Nat → Nat) : mFrm (zEnd m x) = ((mFrm m).1, x, (mFrm m).2.2.1, (mFrm m).2.2.2.1, (mFrm m).2.2.2.2) := Eq.trans (b := ((mFrm m).1, x, (mFrm m).2.2.1, (mFrm m).2.2.2.1, (mFrm m).2.2.2.2)) rfl rfl
theorem mFrm_zBlk (m : MS) (x : Nat → Nat) : mFrm (zBlk m x) = (x, (mFrm m).2.1, (mFrm m).2.2.1, (mFrm m).2.2.2.1, (mFrm m).2.2.2.2) := Eq.trans (b := (x, (mFrm m).2.1, (mFrm m).2.2.1, (mFrm m).2.2.2.1, (mFrm m).2.2.2.2)) rfl rfl
theorem mFrm_raise (m : MS) (x y : Int32) : mFrm (mRaise m x y) = mFrm m := by
  unfold mRaise
  simp only [mFrm_zCtr, mFrm_zCell, mFrm_zHeld, mFrm_zAcc, mFrm_zSteps, mFrm_zFin, mFrm_zCat, mFrm_zTr, mFrm_zNum, mFrm_zOrg, mFrm_zMark, mFrm_zStop, mFrm_zAt, mFrm_zOpen, mFrm_zLeft, mFrm_zEnd, mFrm_zBlk]
theorem mFrm_pop (m : MS) (d : Nat) : mFrm (mPop m d) = (qBlk m, qEnd m, qLeft m, d, qEnd m d) := by
  unfold mPop
  simp only [mFrm_zCtr, mFrm_zCell, mFrm_zHeld, mFrm_zAcc, mFrm_zSteps, mFrm_zFin, mFrm_zCat, mFrm_zTr, mFrm_zNum, mFrm_zOrg, mFrm_zMark, mFrm_zStop, mFrm_zAt, mFrm_zOpen, mFrm_zLeft, mFrm_zEnd, mFrm_zBlk]
  rfl
theorem mFrm_leave (m : MS) (d : Nat) : mFrm (mLeave m d) = (qBlk m, qEnd m, qLeft m, d, qEnd m d) ∨ mFrm (mLeave m d) = (qBlk m, qEnd m, va_up (qLeft m) d (qLeft m d - 1), d + 1, qBlk m d + 1) := by
  unfold mLeave
  split
  · left
    split
    · unfold mCaught mCau
      split <;> simp only [mFrm_pop, mFrm_zCtr, mFrm_zCell, mFrm_zHeld, mFrm_zAcc, mFrm_zSteps, mFrm_zFin, mFrm_zCat, mFrm_zTr, mFrm_zNum, mFrm_zOrg, mFrm_zMark, mFrm_zStop, mFrm_zAt, mFrm_zOpen, mFrm_zLeft, mFrm_zEnd, mFrm_zBlk]
    · exact mFrm_pop m d
  · left; simp only [mFrm_pop, mFrm_zCtr, mFrm_zCell, mFrm_zHeld, mFrm_zAcc, mFrm_zSteps, mFrm_zFin, mFrm_zCat, mFrm_zTr, mFrm_zNum, mFrm_zOrg, mFrm_zMark, mFrm_zStop, mFrm_zAt, mFrm_zOpen, mFrm_zLeft, mFrm_zEnd, mFrm_zBlk]
  · left; simp only [mFrm_pop, mFrm_zCtr, mFrm_zCell, mFrm_zHeld, mFrm_zAcc, mFrm_zSteps, mFrm_zFin, mFrm_zCat, mFrm_zTr, mFrm_zNum, mFrm_zOrg, mFrm_zMark, mFrm_zStop, mFrm_zAt, mFrm_zOpen, mFrm_zLeft, mFrm_zEnd, mFrm_zBlk]
  · left; simp only [mFrm_pop, mFrm_zCtr, mFrm_zCell, mFrm_zHeld, mFrm_zAcc, mFrm_zSteps, mFrm_zFin, mFrm_zCat, mFrm_zTr, mFrm_zNum, mFrm_zOrg, mFrm_zMark, mFrm_zStop, mFrm_zAt, mFrm_zOpen, mFrm_zLeft, mFrm_zEnd, mFrm_zBlk]
  · split
    · right; simp only [mFrm_pop, mFrm_zCtr, mFrm_zCell, mFrm_zHeld, mFrm_zAcc, mFrm_zSteps, mFrm_zFin, mFrm_zCat, mFrm_zTr, mFrm_zNum, mFrm_zOrg, mFrm_zMark, mFrm_zStop, mFrm_zAt, mFrm_zOpen, mFrm_zLeft, mFrm_zEnd, mFrm_zBlk]
    · left; exact mFrm_pop m d
theorem mFrm_intr (m : MS) : mFrm (mIntr m) = mFrm m := by
  unfold mIntr
  split <;> simp only [mFrm_raise, mFrm_zCtr, mFrm_zCell, mFrm_zHeld, mFrm_zAcc, mFrm_zSteps, mFrm_zFin, mFrm_zCat, mFrm_zTr, mFrm_zNum, mFrm_zOrg, mFrm_zMark, mFrm_zStop, mFrm_zAt, mFrm_zOpen, mFrm_zLeft, mFrm_zEnd, mFrm_zBlk]
theorem mFrm_div (m : MS) (v : Int32) (b : Bool) : mFrm (mDivide m v b) = mFrm m := by
  unfold mDivide
  split
  · rw [mFrm_raise]
  · split <;> simp only [mFrm_zCtr, mFrm_zCell, mFrm_zHeld, mFrm_zAcc, mFrm_zSteps, mFrm_zFin, mFrm_zCat, mFrm_zTr, mFrm_zNum, mFrm_zOrg, mFrm_zMark, mFrm_zStop, mFrm_zAt, mFrm_zOpen, mFrm_zLeft, mFrm_zEnd, mFrm_zBlk]
theorem mFrm_touch (m : MS) (v : Int32) (b : Bool) : mFrm (mTouch m v b) = mFrm m := by
  unfold mTouch
  split
  · split <;> simp only [mFrm_zCtr, mFrm_zCell, mFrm_zHeld, mFrm_zAcc, mFrm_zSteps, mFrm_zFin, mFrm_zCat, mFrm_zTr, mFrm_zNum, mFrm_zOrg, mFrm_zMark, mFrm_zStop, mFrm_zAt, mFrm_zOpen, mFrm_zLeft, mFrm_zEnd, mFrm_zBlk]
  · rw [mFrm_raise]
theorem mFrm_act (m : MS) (o : Nat) (v : Int32) (n k : Nat) : mFrm (mAct m o v n k) = mFrm m := by
  unfold mAct
  split
  all_goals first
    | (simp only [mFrm_raise, mFrm_intr, mFrm_div, mFrm_touch, mFrm_zCtr, mFrm_zCell, mFrm_zHeld, mFrm_zAcc, mFrm_zSteps, mFrm_zFin, mFrm_zCat, mFrm_zTr, mFrm_zNum, mFrm_zOrg, mFrm_zMark, mFrm_zStop, mFrm_zAt, mFrm_zOpen, mFrm_zLeft, mFrm_zEnd, mFrm_zBlk]; done)
    | (split <;> simp only [mFrm_raise, mFrm_intr, mFrm_div, mFrm_touch, mFrm_zCtr, mFrm_zCell, mFrm_zHeld, mFrm_zAcc, mFrm_zSteps, mFrm_zFin, mFrm_zCat, mFrm_zTr, mFrm_zNum, mFrm_zOrg, mFrm_zMark, mFrm_zStop, mFrm_zAt, mFrm_zOpen, mFrm_zLeft, mFrm_zEnd, mFrm_zBlk])
theorem fm_1 {m : MS} {b e f : Nat → Nat} {o t : Nat} (h : mFrm m = (b, e, f, o, t)) : qBlk m = b ∧ qEnd m = e ∧ qLeft m = f ∧ qOpen m = o ∧ qAt m = t := by
  unfold mFrm at h
  simp only [Prod.mk.injEq] at h
  exact h
theorem mOk_leave {m : MS} (h : mOk m) (ho : 0 < qOpen m) (hw : mGo m = false ∨ qAt m = qEnd m (qOpen m - 1)) : mOk (mLeave m (qOpen m - 1)) := by
  obtain ⟨h1, h2, h3, h4, h5, h6⟩ := h
  have hS := mSame_leave m (qOpen m - 1)
  have eP := sm_Prog hS
  have eZ := sm_Size hS
  have eO := sm_Op hS
  have eA := sm_Arg hS
  obtain ⟨d, hd⟩ : ∃ d, qOpen m = d + 1 := ⟨qOpen m - 1, by omega⟩
  have hd1 : qOpen m - 1 = d := by omega
  rw [hd1] at eP eZ eO eA ⊢
  have hb := h5 d (by omega)
  unfold mOk mO mG mLim
  unfold mO mG at h3
  unfold mO at h5
  rw [eP, eZ, eO, eA]
  rcases mFrm_leave m d with hf | hf
  · obtain ⟨f1, f2, f3, f4, f5⟩ := fm_1 hf
    rw [f1, f2, f3, f4, f5]
    refine ⟨h1, h2, h3, by omega, fun j hj => h5 j (by omega), fun _ => ⟨by omega, ?_⟩⟩
    split
    · exact hb.2.2.1
    · exact hb.2.2.2.1 (d - 1) (by omega)
  · obtain ⟨f1, f2, f3, f4, f5⟩ := fm_1 hf
    rw [f1, f2, f3, f4, f5]
    refine ⟨h1, h2, h3, by omega, fun j hj => ?_, fun _ => ⟨by omega, ?_⟩⟩
    · have q := h5 j (by omega)
      refine ⟨q.1, q.2.1, q.2.2.1, q.2.2.2.1, q.2.2.2.2.1, q.2.2.2.2.2.1, ?_⟩
      by_cases e : j = d
      · subst e
        rw [va_up_self]
        omega
      · rw [va_up_ne _ _ e]
        exact q.2.2.2.2.2.2
    · rw [if_neg (by omega), Nat.add_sub_cancel]
      omega
theorem mO_same {m m2 : MS} (h : mSame m2 = mSame m) (i : Nat) : mO m2 i = mO m i := by
  unfold mO
  rw [sm_Op h, sm_Prog h]
theorem mK_same {m m2 : MS} (h : mSame m2 = mSame m) (i : Nat) : mK m2 i = mK m i := by
  unfold mK
  rw [sm_Arg h, sm_Prog h]
theorem mOk_of {m m2 : MS} {b e f : Nat → Nat} {o t : Nat} (h : mOk m) (hS : mSame m2 = mSame m) (hF : mFrm m2 = (b, e, f, o, t)) (ho : o < 15) (hb : ∀ j, j < o → j ≤ b j ∧ b j < e j ∧ e j ≤ qSize m (qProg m) ∧ (∀ k, j = k + 1 → e j ≤ e k) ∧ 10 ≤ mO m (b j) ∧ mO m (b j) ≤ 14 ∧ f j < 16) (hg : mGo m2 = true → o ≤ t ∧ t ≤ (if o = 0 then qSize m (qProg m) else e (o - 1))) : mOk m2 := by
  obtain ⟨h1, h2, h3, -, -, -⟩ := h
  obtain ⟨f1, f2, f3, f4, f5⟩ := fm_1 hF
  have eO := fun i => mO_same hS i
  have eG : ∀ i, mG m2 i = mG m i := fun i => by unfold mG; rw [sm_Arg hS, sm_Prog hS]
  have eL : mLim m2 = (if o = 0 then qSize m (qProg m) else e (o - 1)) := by
    unfold mLim
    rw [sm_Size hS, sm_Prog hS, f2, f4]
  refine ⟨by rw [sm_Prog hS]; exact h1, by rw [sm_Size hS, sm_Prog hS]; exact h2, fun i hi => ?_, by rw [f4]; exact ho, fun j hj => ?_, fun hgo => ?_⟩
  · rw [sm_Size hS, sm_Prog hS] at hi
    rw [eO, eG]
    exact h3 i hi
  · rw [f4] at hj
    rw [f1, f2, f3, eO, sm_Size hS, sm_Prog hS]
    exact hb j hj
  · rw [f4, f5, eL]
    exact hg hgo
theorem mFrm_enter (m : MS) (i n : Nat) : mFrm (mEnter m i n) = (qBlk m, qEnd m, qLeft m, qOpen m, min (i + 1 + n) (mLim m)) ∨ mFrm (mEnter m i n) = (va_up (qBlk m) (qOpen m) i, va_up (qEnd m) (qOpen m) (min (i + 1 + n) (mLim m)), va_up (qLeft m) (qOpen m) (mK m i), qOpen m + 1, qAt m) := by
  unfold mEnter
  split
  · left
    rw [mFrm_zAt]
    rfl
  · right
    split
    · rw [mFrm_zHeld]
      unfold mPush
      rw [mFrm_zOpen, mFrm_zLeft, mFrm_zEnd, mFrm_zBlk]
      rfl
    · unfold mPush
      rw [mFrm_zOpen, mFrm_zLeft, mFrm_zEnd, mFrm_zBlk]
      rfl
theorem mGo_zStop (m : MS) : mGo (zStop m true) = false := by
  unfold mGo
  rw [qStop_zStop]
  simp
theorem mOk_step {m : MS} (th : Bool) (h : mOk m) (hg : mGo m = true) (ha : qAt m < mLim m) : mOk (mStep th m) := by
  have hS := mSame_step th m
  have hL := mOk_lim h
  have hLS := mOk_limS h
  have hat := (h.2.2.2.2.2 hg).1
  have h5 := h.2.2.2.2.1
  have hs14 := h.2.1
  have same : ∀ t, mFrm (mStep th m) = (qBlk m, qEnd m, qLeft m, qOpen m, t) → (mGo (mStep th m) = true → qOpen m ≤ t ∧ t ≤ mLim m) → mOk (mStep th m) := fun t hF hq => mOk_of h hS hF h.2.2.2.1 h5 hq
  by_cases c0 : qSteps m = 400
  · have e : mStep th m = zStop m true := if_pos c0
    refine same (qAt m) ?_ ?_
    · rw [e, mFrm_zStop]; rfl
    · intro q
      rw [e, mGo_zStop] at q
      cases q
  · by_cases c1 : 9 < mO m (qAt m) ∧ mO m (qAt m) < 15
    · have e : mStep th m = mEnter (zAt (zSteps m (qSteps m + 1)) (qAt m + 1)) (qAt m) (mG m (qAt m) % 16) := (if_neg c0).trans (if_pos c1)
      have hS1 : mSame (zAt (zSteps m (qSteps m + 1)) (qAt m + 1)) = mSame m := by rw [mSame_zAt, mSame_zSteps]
      have hF1 : mFrm (zAt (zSteps m (qSteps m + 1)) (qAt m + 1)) = (qBlk m, qEnd m, qLeft m, qOpen m, qAt m + 1) := by
        rw [mFrm_zAt, mFrm_zSteps]
        rfl
      obtain ⟨g1, g2, g3, g4, g5⟩ := fm_1 hF1
      have gL : mLim (zAt (zSteps m (qSteps m + 1)) (qAt m + 1)) = mLim m := by
        unfold mLim
        rw [sm_Size hS1, sm_Prog hS1, g2, g4]
      have hK : mK m (qAt m) < 16 := by
        have q := (mOk_in h ha).2
        unfold mG at q
        unfold mK
        omega
      have hz1 : min (qAt m + 1 + mG m (qAt m) % 16) (mLim m) ≤ mLim m := Nat.min_le_right _ _
      have hz2 : qAt m + 1 ≤ min (qAt m + 1 + mG m (qAt m) % 16) (mLim m) := Nat.le_min.mpr ⟨by omega, by omega⟩
      rcases mFrm_enter (zAt (zSteps m (qSteps m + 1)) (qAt m + 1)) (qAt m) (mG m (qAt m) % 16) with hf | hf
      · rw [← e, g1, g2, g3, g4, gL] at hf
        exact same _ hf (fun _ => ⟨by omega, hz1⟩)
      · rw [← e, g1, g2, g3, g4, g5, gL, mK_same hS1] at hf
        refine mOk_of h hS hf (by omega) (fun j hj => ?_) (fun _ => ⟨by omega, ?_⟩)
        · by_cases ej : j = qOpen m
          · subst ej
            rw [va_up_self, va_up_self, va_up_self]
            refine ⟨hat, by omega, by omega, fun k hk => ?_, by omega, by omega, hK⟩
            rw [va_up_ne _ _ (by omega)]
            have e2 : mLim m = qEnd m k := by
              unfold mLim
              rw [if_neg (by omega), hk, Nat.add_sub_cancel]
            omega
          · rw [va_up_ne _ _ ej, va_up_ne _ _ ej, va_up_ne _ _ ej]
            have q := h5 j (by omega)
            refine ⟨q.1, q.2.1, q.2.2.1, fun k hk => ?_, q.2.2.2.2.1, q.2.2.2.2.2.1, q.2.2.2.2.2.2⟩
            rw [va_up_ne _ _ (by omega)]
            exact q.2.2.2.1 k hk
        · rw [if_neg (by omega), Nat.add_sub_cancel, va_up_self]
          exact hz2
    · refine same (qAt m + 1) ?_ (fun _ => ⟨by omega, by omega⟩)
      by_cases c2 : mO m (qAt m) = 21
      · have e : mStep th m = zAt (zAcc (zSteps m (qSteps m + 1)) (if th = true then 20 + nI (qProg m) else 10)) (qAt m + 1) := ((if_neg c0).trans (if_neg c1)).trans (if_pos c2)
        rw [e, mFrm_zAt, mFrm_zAcc, mFrm_zSteps]
        rfl
      · have e : mStep th m = zAt (mAct (zSteps m (qSteps m + 1)) (mO m (qAt m)) (nI (mG m (qAt m)) - 100) (mG m (qAt m) % 16) (mG m (qAt m) / 16)) (qAt m + 1) := ((if_neg c0).trans (if_neg c1)).trans (if_neg c2)
        rw [e, mFrm_zAt, mFrm_act, mFrm_zSteps]
        rfl
