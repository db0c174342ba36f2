/-- every program of the reference is in range -/
def mInv (m : MS) : Prop := ∀ p, p < 6 → qSize m p ≤ 14 ∧ ∀ i, i < qSize m p → qOp m (p * 14 + i) ≤ 21 ∧ qArg m (p * 14 + i) ≤ 255
def mAll (k : Nat) : Nat → Nat → Int32 → MS → Int32 × MS
  | 0, _, c, m => (c, m)
  | n + 1, p, c, m => if k / 2 ^ p % 2 = 0 then mAll k n (p + 1) c m else mAll k n (p + 1) (if 0 < (mPerf true p m).1 then c + 1 else c) (mPerf true p m).2
theorem bit64 : ∀ k, k < 64 → ∀ p, p < 6 → (nI k >>> (nI p &&& 31)) &&& 1 = nI (k / 2 ^ p % 2) := by decide +kernel
theorem bit0 {x : Nat} (h : nI (x % 2) = 0) : x % 2 = 0 := (nI_eq (b := 0) (by omega) (by decide)).mp h
theorem bit1 {x : Nat} (h : ¬ nI (x % 2) = 0) : ¬ x % 2 = 0 := fun q => h (congrArg nI q)
theorem mAll_skip {k n p : Nat} {c : Int32} {m : MS} (h : k / 2 ^ p % 2 = 0) : mAll k (n + 1) p c m = mAll k n (p + 1) c m := if_pos h
theorem mAll_not {k n p : Nat} {c r : Int32} {m m2 : MS} (h : ¬ k / 2 ^ p % 2 = 0) (e : (r, m2) = mPerf true p m) (hr : r ≤ 0) : mAll k (n + 1) p c m = mAll k n (p + 1) c m2 := by
  refine (if_neg h).trans ?_
  rw [← e, if_neg (Int32.not_lt.mpr hr)]
theorem mAll_one {k n p : Nat} {c r : Int32} {m m2 : MS} (h : ¬ k / 2 ^ p % 2 = 0) (e : (r, m2) = mPerf true p m) (hr : ¬ r ≤ 0) : mAll k (n + 1) p c m = mAll k n (p + 1) (c + 1) m2 := by
  refine (if_neg h).trans ?_
  rw [← e, if_pos (Int32.not_le.mp hr)]
theorem mSame_loop (th : Bool) (n : Nat) : ∀ m : MS, mSame (mLoop th n m) = mSame m := by
  induction n with
  | zero => intro m; rfl
  | succ n ih =>
    intro m
    show mSame (if 0 < qOpen m ∧ (mGo m = false ∨ qAt m = qEnd m (qOpen m - 1)) then mLoop th n (mLeave m (qOpen m - 1)) else if mGo m = false ∨ qAt m = qSize m (qProg m) then m else mLoop th n (mStep th m)) = mSame m
    split
    · rw [ih, mSame_leave]
    · split
      · rfl
      · rw [ih, mSame_step]
theorem mCnt_op (th : Bool) (v : MS) : qOp (mCnt th v) = qOp v ∧ qArg (mCnt th v) = qArg v ∧ qSize (mCnt th v) = qSize v := by
  unfold mCnt
  split <;> split <;> exact ⟨rfl, rfl, rfl⟩
theorem mTail_op (th : Bool) (p : Nat) (v : MS) : qOp (mTail th p v).2 = qOp v ∧ qArg (mTail th p v).2 = qArg v ∧ qSize (mTail th p v).2 = qSize v := by
  unfold mTail
  dsimp only
  rw [qOp_zRan, qOp_zCls, qOp_zTold, qArg_zRan, qArg_zCls, qArg_zTold, qSize_zRan, qSize_zCls, qSize_zTold]
  exact mCnt_op th v
theorem mPerf_op (th : Bool) (p : Nat) (m : MS) : qOp (mPerf th p m).2 = qOp m ∧ qArg (mPerf th p m).2 = qArg m ∧ qSize (mPerf th p m).2 = qSize m := by
  have h := mSame_loop th 100000 (mBegin m p)
  have e1 := (sm_Op h).trans (qOp_mBegin m p)
  have e2 := (sm_Arg h).trans (qArg_mBegin m p)
  have e3 := (sm_Size h).trans (qSize_mBegin m p)
  obtain ⟨t1, t2, t3⟩ := mTail_op th p (mLoop th 100000 (mBegin m p))
  exact ⟨t1.trans e1, t2.trans e2, t3.trans e3⟩
theorem mInv_perf {th : Bool} {p : Nat} {m m2 : MS} {r : Int32} (e : (r, m2) = mPerf th p m) (h : mInv m) : mInv m2 := by
  have e2 : m2 = (mPerf th p m).2 := congrArg (fun t : Int32 × MS => t.2) e
  obtain ⟨h1, h2, h3⟩ := mPerf_op th p m
  rw [← e2] at h1 h2 h3
  unfold mInv
  rw [h1, h2, h3]
  exact h
set_option maxHeartbeats 8000000 in
set_option maxRecDepth 100000 in
theorem c_Md_runAll (l : Launch) (D : va_G) (cI cZ : ClassId) (a : Nat → Nat) (hd : dM a) (m : MS) (k : Nat) (hk : k < 64) (hinv : mInv m) : Met l yMd_runAll (ce_ws yMd_runAll cMd_runAll 4 (some .int)) (ce_rm 5) (cm_Pc D cI cZ [.ref (a 0), .int (nI k)] (wM a cI cZ m)) (va_Qi (fun r m2 => (r, m2) = mAll k 6 0 0 m) (fun m2 t => va_P D vwCl (wM a cI cZ m2) t.heap) (aM a)) 0 0 (aM a) := by
  refine Met.ofW (cc := cMd_runAll) (maxL := 4) (ret := (some .int)) (by decide) rfl ?_
  intro p e s mi args below meth c s₁ B hml hv
  obtain ⟨rfl, hP, hK⟩ := hv
  have hx := B.exec
  have hb := B.bytes
  have hr := B.returns
  have hts := atoms_spec (ws := ce_ws yMd_runAll cMd_runAll 4 (some .int)) B.pre
  have hown : s.vm.findClass RMd = some mi.cls := findClass_of_methodNamed B.named
  have hlocks := B.notSynchronized
  have hS : va_S (aM a) s.heap s.heap [] := va_S.rf
  have hl := lv_entry ([.ref (a 0), .int (nI k)]) (n := 4) (Nat.le_of_ble_eq_true rfl)
  rw [lg_entry_eq]
  generalize (lg_sl ([.ref (a 0), .int (nI k)]) ++ List.replicate (4 - (lg_sl ([.ref (a 0), .int (nI k)])).length) Slot.unset).toArray = ls at hl ⊢
  have hl : lv_has ls 4 [(0, .ref (a 0)), (1, .int (nI k))] := hl
  have loop : ∀ (n j : Nat) (n0 : Int32) (v : MS) (H : Heap) (locs : List Loc) (ls : Array Slot), j + n = 6 → mInv v → mAll k n j n0 v = mAll k 6 0 0 m → va_P D vwCl (wM a cI cZ v) H → va_S (aM a) s.heap H locs → lv_has ls 4 [(0, .ref (a 0)), (1, .int (nI k)), (2, .int n0), (3, .int (nI j))] → W p l e (headSpec (ce_ws yMd_runAll cMd_runAll 4 (some .int)) (ce_rm 5)).room s mi (([.ref (a 0), .int (nI k)] : List Value).toArray) below meth c H locs 0 0 (MQ below (va_Qi (fun r m2 => (r, m2) = mAll k 6 0 0 m) (fun m2 t => va_P D vwCl (wM a cI cZ m2) t.heap) (aM a)) (([.ref (a 0), .int (nI k)] : List Value).toArray) s 0 0 (aM a)) (F0 mi 15 ls []) := by
    intro n
    induction n with
    | zero =>
      intro j n0 v H locs ls hj hinv hq hP hS hl
      refine lv_iload_n hx hb dMd_runAll_15 rfl (lv_at hl 3 rfl) ?_
      refine lv_bipush (v := 6) hx hb dMd_runAll_16 (by decide) ?_
      refine lv_icmp_ge (tgt := 47) hx hb dMd_runAll_18 (by decide) (fun c_1 => ?_) (fun c_1 => ?_)
      · -- 18 taken
        refine lv_iload_n hx hb dMd_runAll_47 rfl (lv_at hl 2 rfl) ?_
        exact W.iret (v := n0) hx hb hr (fun t9 ht hW => ⟨⟨n0, v, rfl, hq, ce_hp ht hP⟩, hS.F ht⟩) hS.2.2 dMd_runAll_48
      · -- 18 not taken
        exact absurd (nI_le (a := 6) (b := j) (by omega) (by omega)) c_1
    | succ n ihn =>
      intro j n0 v H locs ls hj hinv hq hP hS hl
      have hj6 : j < 6 := by omega
      refine lv_iload_n hx hb dMd_runAll_15 rfl (lv_at hl 3 rfl) ?_
      refine lv_bipush (v := 6) hx hb dMd_runAll_16 (by decide) ?_
      refine lv_icmp_ge (tgt := 47) hx hb dMd_runAll_18 (by decide) (fun c_2 => ?_) (fun c_2 => ?_)
      · -- 18 taken
        exact absurd c_2 (nI_ge (a := j) (b := 6) (by omega) (by omega))
      · -- 18 not taken
        refine lv_iload_n hx hb dMd_runAll_21 rfl (lv_at hl 1 rfl) ?_
        refine lv_iload_n hx hb dMd_runAll_22 rfl (lv_at hl 3 rfl) ?_
        refine lv_ishr hx hb dMd_runAll_23 ?_
        refine lv_iconst (v := 1) hx hb dMd_runAll_24 (by decide) ?_
        refine lv_iand hx hb dMd_runAll_25 ?_
        refine lv_topi (fun y_3 ey_3 => ?_)
        obtain rfl : y_3 = nI (k / 2 ^ j % 2) := ey_3.trans (bit64 k hk j hj6)
        refine lv_if_eq (tgt := 41) hx hb dMd_runAll_26 (by decide) (fun c_4 => ?_) (fun c_4 => ?_)
        · -- 26 taken
          refine lv_iinc (v := nI (j + 1)) (lv' := [(3, .int (nI (j + 1))), (0, .ref (a 0)), (1, .int (nI k)), (2, .int n0)]) hx hb dMd_runAll_41 hl (k := 3) rfl (nI_1 j) (by decide) rfl (fun ls hl => ?_)
          refine lv_goto (tgt := 15) hx hb dMd_runAll_44 (by decide) ?_
          exact ihn (j + 1) _ _ _ _ _ (by omega) hinv ((mAll_skip (bit0 c_4)).symm.trans hq) hP hS (lv_sub hl [1, 2, 3, 0] rfl)
        · -- 26 not taken
          refine lv_aload_n hx hb dMd_runAll_29 rfl (lv_at hl 0 rfl) ?_
          refine lv_iload_n hx hb dMd_runAll_30 rfl (lv_at hl 3 rfl) ?_
          refine lv_iconst (v := 1) hx hb dMd_runAll_31 (by decide) ?_
          refine cm_vi (As := [.int (nI j), .int 1]) (rest := []) ⟨hx, hb, hml, hown, hts⟩ (c_Md_perform l D cI cZ a hd v j true hj6 (hinv j hj6).1 (hinv j hj6).2) mMd_perform lMd_139 iMd_perform (ce_hR (by omega) (by decide)) ⟨rfl, rfl⟩ hK hP hS rfl hl.1 rfl (Nat.le_of_ble_eq_true rfl) dMd_runAll_32 ⟨Nat.le_of_ble_eq_true rfl, Nat.le_of_ble_eq_true rfl⟩ (fun r_5 m_6 H locs er_5 hP hS => ?_)
          refine lv_if_le (tgt := 41) hx hb dMd_runAll_35 (by decide) (fun c_7 => ?_) (fun c_7 => ?_)
          · -- 35 taken
            refine lv_iinc (v := nI (j + 1)) (lv' := [(3, .int (nI (j + 1))), (0, .ref (a 0)), (1, .int (nI k)), (2, .int n0)]) hx hb dMd_runAll_41 hl (k := 3) rfl (nI_1 j) (by decide) rfl (fun ls hl => ?_)
            refine lv_goto (tgt := 15) hx hb dMd_runAll_44 (by decide) ?_
            exact ihn (j + 1) _ _ _ _ _ (by omega) (mInv_perf er_5 hinv) ((mAll_not (bit1 c_4) er_5 c_7).symm.trans hq) hP hS (lv_sub hl [1, 2, 3, 0] rfl)
          · -- 35 not taken
            refine lv_iinc (v := n0 + 1) (lv' := [(2, .int (n0 + 1)), (0, .ref (a 0)), (1, .int (nI k)), (3, .int (nI j))]) hx hb dMd_runAll_38 hl (k := 2) rfl (rfl) (by decide) rfl (fun ls hl => ?_)
            refine lv_iinc (v := nI (j + 1)) (lv' := [(3, .int (nI (j + 1))), (2, .int (n0 + 1)), (0, .ref (a 0)), (1, .int (nI k))]) hx hb dMd_runAll_41 hl (k := 3) rfl (nI_1 j) (by decide) rfl (fun ls hl => ?_)
            refine lv_goto (tgt := 15) hx hb dMd_runAll_44 (by decide) ?_
            exact ihn (j + 1) _ _ _ _ _ (by omega) (mInv_perf er_5 hinv) ((mAll_one (bit1 c_4) er_5 c_7).symm.trans hq) hP hS (lv_sub hl [2, 3, 1, 0] rfl)
  refine lv_iload_n hx hb dMd_runAll_0 rfl (lv_at hl 1 rfl) ?_
  refine lv_bipush (v := 64) hx hb dMd_runAll_1 (by decide) ?_
  refine cm_si (As := [.int (nI k), .int 64]) (rest := []) ⟨hx, hb, hml, hown, hts⟩ (c_Md_in l D cI cZ a _ (nI k) 64) mMd_in lMd_44 sMd_in (ce_hR (by omega) (by decide)) ⟨rfl, rfl⟩ hK hP rfl hl.1 rfl (Nat.le_of_ble_eq_true rfl) dMd_runAll_3 ⟨Nat.le_of_ble_eq_true rfl, Nat.le_of_ble_eq_true rfl⟩ (fun r_8 er_8 => ?_)
  obtain rfl : r_8 = bI (isI (nI k) 64) := er_8
  refine lv_if_ne (tgt := 11) hx hb dMd_runAll_6 (by decide) (fun c_9 => ?_) (fun c_9 => ?_)
  · -- 6 taken
    refine lv_iconst (v := 0) hx hb dMd_runAll_11 (by decide) ?_
    refine lv_istore_n (lv' := [(2, .int 0), (0, .ref (a 0)), (1, .int (nI k))]) hx hb dMd_runAll_12 rfl hl (by decide) rfl (fun ls hl => ?_)
    refine lv_iconst (v := 0) hx hb dMd_runAll_13 (by decide) ?_
    refine lv_istore_n (lv' := [(3, .int 0), (2, .int 0), (0, .ref (a 0)), (1, .int (nI k))]) hx hb dMd_runAll_14 rfl hl (by decide) rfl (fun ls hl => ?_)
    exact loop 6 0 0 m _ _ _ rfl hinv rfl hP hS (lv_sub hl [2, 3, 1, 0] rfl)
  · -- 6 not taken
    exact absurd ((isI_t hk (by decide)).symm.trans (bI0 c_9)) (by decide)
