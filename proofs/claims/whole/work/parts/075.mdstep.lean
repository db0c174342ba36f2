theorem mLim_0 {m : MS} (h : qOpen m = 0) : mLim m = qSize m (qProg m) := if_pos h
theorem mLim_1 {m : MS} (h : ¬ qOpen m = 0) : mLim m = qEnd m (qOpen m - 1) := if_neg h
theorem h20 {x : Nat} (h : ¬ x = 21) (h2 : x ≤ 21) : x ≤ 20 := by omega
theorem mLeave_10 {m : MS} {d : Nat} (h : mO m (qBlk m d) = 10) : mLeave m d = if ¬ qTr m < 0 ∧ mTakes (mK m (qBlk m d)) (qTr m) = true then mCaught m d else mPop m d := by
  unfold mLeave
  simp only [h]
theorem mLeave_11 {m : MS} {d : Nat} (h : mO m (qBlk m d) = 11) : mLeave m d = zAcc (zFin (mPop m d) (qFin m + 1)) (-qAcc m) := by
  unfold mLeave
  simp only [h]
theorem mLeave_12 {m : MS} {d : Nat} (h : mO m (qBlk m d) = 12) : mLeave m d = zStop (zTr (zFin (mPop m d) (qFin m + 1)) (-1)) false := by
  unfold mLeave
  simp only [h]
theorem mLeave_13 {m : MS} {d : Nat} (h : mO m (qBlk m d) = 13) : mLeave m d = zHeld (mPop m d) (upd (qHeld m) (mK m (qBlk m d) % 2) (qHeld m (mK m (qBlk m d) % 2) - 1)) := by
  unfold mLeave
  simp only [h]
theorem mLeave_14 {m : MS} {d : Nat} (h : mO m (qBlk m d) = 14) : mLeave m d = if qTr m < 0 ∧ qStop m = false ∧ 1 < qLeft m d then zOpen (zAt (zLeft (mPop m d) (va_up (qLeft m) d (qLeft m d - 1))) (qBlk m d + 1)) (d + 1) else mPop m d := by
  unfold mLeave
  simp only [h]
set_option maxHeartbeats 8000000 in
set_option maxRecDepth 100000 in
theorem c_Md_enter (l : Launch) (D : va_G) (cI cZ : ClassId) (a : Nat → Nat) (hd : dM a) (m : MS) (i n : Nat) (hp : qProg m < 6) (hi : i < 14) (hn : n < 16) (h21 : mO m i ≤ 21) (h8 : mG m i ≤ 255) (ho : qOpen m < 15) (hL : mLim m ≤ 14) : Met l yMd_enter (ce_ws yMd_enter cMd_enter 7 none) (ce_rm 1) (cm_Pc D cI cZ [.ref (a 0), .int (nI i), .int (nI n)] (wM a cI cZ m)) (va_Qv (fun m2 => m2 = mEnter m i n) (fun m2 t => va_P D vwCl (wM a cI cZ m2) t.heap) (aM a)) 0 0 (aM a) := by
  refine Met.ofW (cc := cMd_enter) (maxL := 7) (ret := none) (by decide) rfl ?_
  intro p e s mi args below meth c s₁ B hml hv
  obtain ⟨rfl, hP, hK⟩ := hv
  have hx := B.exec
  have hb := B.bytes
  have hr := B.returns
  have hts := atoms_spec (ws := ce_ws yMd_enter cMd_enter 7 none) B.pre
  have hown : s.vm.findClass RMd = some mi.cls := findClass_of_methodNamed B.named
  have hlocks := B.notSynchronized
  have hS : va_S (aM a) s.heap s.heap [] := va_S.rf
  have hl := lv_entry ([.ref (a 0), .int (nI i), .int (nI n)]) (n := 7) (Nat.le_of_ble_eq_true rfl)
  rw [lg_entry_eq]
  generalize (lg_sl ([.ref (a 0), .int (nI i), .int (nI n)]) ++ List.replicate (7 - (lg_sl ([.ref (a 0), .int (nI i), .int (nI n)])).length) Slot.unset).toArray = ls at hl ⊢
  have hl : lv_has ls 7 [(0, .ref (a 0)), (1, .int (nI i)), (2, .int (nI n))] := hl
  have hK16 : mK m i < 16 := by unfold mK; unfold mG at h8; omega
  have hk2 : mK m i % 2 < 2 := Nat.mod_lt _ (by decide)
  refine lv_aload_n hx hb dMd_enter_0 rfl (lv_at hl 0 rfl) ?_
  refine cm_g hx hb hts hown hK hP 13 (by decide) rfl lMd_68 rfl dMd_enter_1 ?_
  refine lv_if_ne (tgt := 19) hx hb dMd_enter_4 (by decide) (fun c_1 => ?_) (fun c_1 => ?_)
  · -- 4 taken
    have h1 : ¬ qOpen m = 0 := fun h => c_1 (congrArg nI h)
    refine lv_aload_n hx hb dMd_enter_19 rfl (lv_at hl 0 rfl) ?_
    refine cm_g hx hb hts hown hK hP 11 (by decide) rfl lMd_32 rfl dMd_enter_20 ?_
    refine lv_aload_n hx hb dMd_enter_23 rfl (lv_at hl 0 rfl) ?_
    refine cm_g hx hb hts hown hK hP 13 (by decide) rfl lMd_68 rfl dMd_enter_24 ?_
    refine lv_iconst (v := 1) hx hb dMd_enter_27 (by decide) ?_
    refine lv_isub hx hb dMd_enter_28 ?_
    refine lv_topi (fun y_2 ey_2 => ?_)
    obtain rfl : y_2 = nI (qOpen m - 1) := ey_2.trans (pk_sub (b := 1) (by omega))
    refine cm_lEnd (i := (qOpen m - 1)) (by omega) hx hb hK hP dMd_enter_29 ?_
    refine lv_topi (fun y_3 ey_3 => ?_)
    obtain rfl : y_3 = nI (mLim m) := ey_3.trans (congrArg nI (mLim_1 h1).symm)
    refine lv_istore_n (lv' := [(3, .int (nI (mLim m))), (0, .ref (a 0)), (1, .int (nI i)), (2, .int (nI n))]) hx hb dMd_enter_30 rfl hl (by decide) rfl (fun ls hl => ?_)
    refine lv_iload_n hx hb dMd_enter_31 rfl (lv_at hl 2 rfl) ?_
    refine lv_iconst (v := 1) hx hb dMd_enter_32 (by decide) ?_
    refine lv_iadd hx hb dMd_enter_33 ?_
    refine lv_topi (fun y_4 ey_4 => ?_)
    obtain rfl : y_4 = nI (i + 1) := ey_4.trans (nI_1 i)
    refine lv_iload_n hx hb dMd_enter_34 rfl (lv_at hl 3 rfl) ?_
    refine lv_iadd hx hb dMd_enter_35 ?_
    refine lv_topi (fun y_5 ey_5 => ?_)
    obtain rfl : y_5 = nI (i + 1 + n) := ey_5.trans (nI_add _ _)
    refine lv_iload_n hx hb dMd_enter_36 rfl (lv_at hl 0 rfl) ?_
    refine lv_icmp_ge (tgt := 48) hx hb dMd_enter_37 (by decide) (fun c_6 => ?_) (fun c_6 => ?_)
    · -- 37 taken
      refine lv_iload_n hx hb dMd_enter_48 rfl (lv_at hl 0 rfl) ?_
      refine lv_topi (fun y_7 ey_7 => ?_)
      obtain rfl : y_7 = nI (min (i + 1 + n) (mLim m)) := ey_7.trans (congrArg nI (Nat.min_eq_right ((nI_leI (by omega) (by omega)).mp c_6)).symm)
      refine lv_istore (lv' := [(4, .int (nI (min (i + 1 + n) (mLim m)))), (3, .int (nI (mLim m))), (0, .ref (a 0)), (1, .int (nI i)), (2, .int (nI n))]) hx hb dMd_enter_49 hl (by decide) rfl (fun ls hl => ?_)
      refine lv_aload_n hx hb dMd_enter_51 rfl (lv_at hl 2 rfl) ?_
      refine cm_g hx hb hts hown hK hP 0 (by decide) rfl lMd_7 rfl dMd_enter_52 ?_
      refine lv_aload_n hx hb dMd_enter_55 rfl (lv_at hl 2 rfl) ?_
      refine cm_g hx hb hts hown hK hP 16 (by decide) rfl lMd_65 rfl dMd_enter_56 ?_
      refine lv_bipush (v := 14) hx hb dMd_enter_59 (by decide) ?_
      refine lv_imul hx hb dMd_enter_61 ?_
      refine lv_topi (fun y_8 ey_8 => ?_)
      obtain rfl : y_8 = nI (qProg m * 14) := ey_8.trans (pk_mul _ 14)
      refine lv_iload_n hx hb dMd_enter_62 rfl (lv_at hl 3 rfl) ?_
      refine lv_iadd hx hb dMd_enter_63 ?_
      refine lv_topi (fun y_9 ey_9 => ?_)
      obtain rfl : y_9 = nI (qProg m * 14 + i) := ey_9.trans (nI_add _ _)
      refine cm_lOp (i := (qProg m * 14 + i)) (by omega) hx hb hK hP dMd_enter_64 ?_
      refine lv_topi (fun y_10 ey_10 => ?_)
      obtain rfl : y_10 = nI (mO m i) := ey_10.trans (rfl)
      refine lv_istore (lv' := [(5, .int (nI (mO m i))), (4, .int (nI (min (i + 1 + n) (mLim m)))), (3, .int (nI (mLim m))), (0, .ref (a 0)), (1, .int (nI i)), (2, .int (nI n))]) hx hb dMd_enter_65 hl (by decide) rfl (fun ls hl => ?_)
      refine lv_aload_n hx hb dMd_enter_67 rfl (lv_at hl 3 rfl) ?_
      refine lv_iload_n hx hb dMd_enter_68 rfl (lv_at hl 4 rfl) ?_
      refine cm_ri (As := [.int (nI i)]) (rest := []) ⟨hx, hb, hml, hown, hts⟩ (c_Md_kOf l D cI cZ a m i hp hi h8) mMd_kOf lMd_71 iMd_kOf (ce_hR (by omega) (by decide)) ⟨rfl, rfl⟩ hK hP rfl hl.1 rfl (Nat.le_of_ble_eq_true rfl) dMd_enter_69 ⟨Nat.le_of_ble_eq_true rfl, Nat.le_of_ble_eq_true rfl⟩ (fun r_11 er_11 => ?_)
      obtain rfl : r_11 = nI (mK m i) := er_11
      refine lv_istore (lv' := [(6, .int (nI (mK m i))), (5, .int (nI (mO m i))), (4, .int (nI (min (i + 1 + n) (mLim m)))), (3, .int (nI (mLim m))), (0, .ref (a 0)), (1, .int (nI i)), (2, .int (nI n))]) hx hb dMd_enter_72 hl (by decide) rfl (fun ls hl => ?_)
      refine lv_iload hx hb dMd_enter_74 (lv_at hl 1 rfl) ?_
      refine lv_bipush (v := 14) hx hb dMd_enter_76 (by decide) ?_
      refine lv_icmp_ne (tgt := 93) hx hb dMd_enter_78 (by decide) (fun c_12 => ?_) (fun c_12 => ?_)
      · -- 78 taken
        refine lv_aload_n hx hb dMd_enter_93 rfl (lv_at hl 4 rfl) ?_
        refine cm_g hx hb hts hown hK hP 10 (by decide) rfl lMd_29 rfl dMd_enter_94 ?_
        refine lv_aload_n hx hb dMd_enter_97 rfl (lv_at hl 4 rfl) ?_
        refine cm_g hx hb hts hown hK hP 13 (by decide) rfl lMd_68 rfl dMd_enter_98 ?_
        refine lv_iload_n hx hb dMd_enter_101 rfl (lv_at hl 5 rfl) ?_
        refine cm_sBlk (i := (qOpen m)) (x := i) (by omega) hx hb hK hd hP hS dMd_enter_102 (fun H locs hP hS => ?_)
        refine lv_aload_n hx hb dMd_enter_103 rfl (lv_at hl 4 rfl) ?_
        refine cm_g hx hb hts hown hK hP 11 (by decide) rfl lMd_32 rfl dMd_enter_104 ?_
        refine lv_aload_n hx hb dMd_enter_107 rfl (lv_at hl 4 rfl) ?_
        refine cm_g hx hb hts hown hK hP 13 (by decide) rfl lMd_68 rfl dMd_enter_108 ?_
        refine lv_topi (fun y_13 ey_13 => ?_)
        obtain rfl : y_13 = nI (qOpen m) := ey_13.trans (by rw [qOpen_zBlk])
        refine lv_iload hx hb dMd_enter_111 (lv_at hl 2 rfl) ?_
        refine cm_sEnd (i := (qOpen m)) (x := (min (i + 1 + n) (mLim m))) (by omega) hx hb hK hd hP hS dMd_enter_113 (fun H locs hP hS => ?_)
        rw [qEnd_zBlk] at hP
        refine lv_aload_n hx hb dMd_enter_114 rfl (lv_at hl 4 rfl) ?_
        refine cm_g hx hb hts hown hK hP 12 (by decide) rfl lMd_35 rfl dMd_enter_115 ?_
        refine lv_aload_n hx hb dMd_enter_118 rfl (lv_at hl 4 rfl) ?_
        refine cm_g hx hb hts hown hK hP 13 (by decide) rfl lMd_68 rfl dMd_enter_119 ?_
        refine lv_topi (fun y_14 ey_14 => ?_)
        obtain rfl : y_14 = nI (qOpen m) := ey_14.trans (by rw [qOpen_zEnd, qOpen_zBlk])
        refine lv_iload hx hb dMd_enter_122 (lv_at hl 0 rfl) ?_
        refine cm_sLeft (i := (qOpen m)) (x := (mK m i)) (by omega) hx hb hK hd hP hS dMd_enter_124 (fun H locs hP hS => ?_)
        rw [qLeft_zEnd, qLeft_zBlk] at hP
        refine lv_aload_n hx hb dMd_enter_125 rfl (lv_at hl 4 rfl) ?_
        refine lv_dup hx hb dMd_enter_126 rfl ?_
        refine cm_g hx hb hts hown hK hP 13 (by decide) rfl lMd_68 rfl dMd_enter_127 ?_
        refine lv_topi (fun y_15 ey_15 => ?_)
        obtain rfl : y_15 = nI (qOpen m) := ey_15.trans (by rw [qOpen_zLeft, qOpen_zEnd, qOpen_zBlk])
        refine lv_iconst (v := 1) hx hb dMd_enter_130 (by decide) ?_
        refine lv_iadd hx hb dMd_enter_131 ?_
        refine lv_topi (fun y_16 ey_16 => ?_)
        obtain rfl : y_16 = nI (qOpen m + 1) := ey_16.trans (nI_1 _)
        refine cm_pOpen (x := (qOpen m + 1)) hx hb hts hown hK hd hP hS lMd_68 dMd_enter_132 (fun H locs hP hS => ?_)
        refine lv_iload hx hb dMd_enter_135 (lv_at hl 1 rfl) ?_
        refine lv_bipush (v := 13) hx hb dMd_enter_137 (by decide) ?_
        refine lv_icmp_ne (tgt := 155) hx hb dMd_enter_139 (by decide) (fun c_17 => ?_) (fun c_17 => ?_)
        · -- 139 taken
          exact W.vret hx hb hr (fun t9 ht hW => ⟨⟨zOpen (zLeft (zEnd (zBlk m (va_up (qBlk m) (qOpen m) i)) (va_up (qEnd m) (qOpen m) (min (i + 1 + n) (mLim m)))) (va_up (qLeft m) (qOpen m) (mK m i))) (qOpen m + 1), rfl, ((if_neg (fun q => c_12 (congrArg nI q.1))).trans (if_neg (fun q => c_17 (congrArg nI q)))).symm, ce_hp ht hP⟩, hS.F ht⟩) hS.2.2 dMd_enter_155
        · -- 139 not taken
          refine lv_aload_n hx hb dMd_enter_142 rfl (lv_at hl 4 rfl) ?_
          refine cm_g hx hb hts hown hK hP 15 (by decide) rfl lMd_41 rfl dMd_enter_143 ?_
          refine lv_iload hx hb dMd_enter_146 (lv_at hl 0 rfl) ?_
          refine lv_iconst (v := 2) hx hb dMd_enter_148 (by decide) ?_
          refine lv_irem hx hb dMd_enter_149 (by decide) ?_
          refine lv_topi (fun y_18 ey_18 => ?_)
          obtain rfl : y_18 = nI (mK m i % 2) := ey_18.trans (pk_rem (d := 2) (by omega) (by decide) (by decide))
          refine lv_dup2_11 hx hb dMd_enter_150 rfl rfl ?_
          refine cm_lHeld (i := (mK m i % 2)) (by omega) hx hb hK hP dMd_enter_151 ?_
          refine lv_topi (fun y_19 ey_19 => ?_)
          obtain rfl : y_19 = qHeld m (mK m i % 2) := ey_19.trans (by rw [qHeld_zOpen, qHeld_zLeft, qHeld_zEnd, qHeld_zBlk])
          refine lv_iconst (v := 1) hx hb dMd_enter_152 (by decide) ?_
          refine lv_iadd hx hb dMd_enter_153 ?_
          refine cm_sHeld (i := (mK m i % 2)) (x := (qHeld m (mK m i % 2)) + 1) (by omega) hx hb hK hd hP hS dMd_enter_154 (fun H locs hP hS => ?_)
          rw [qHeld_zOpen, qHeld_zLeft, qHeld_zEnd, qHeld_zBlk] at hP
          exact W.vret hx hb hr (fun t9 ht hW => ⟨⟨zHeld (zOpen (zLeft (zEnd (zBlk m (va_up (qBlk m) (qOpen m) i)) (va_up (qEnd m) (qOpen m) (min (i + 1 + n) (mLim m)))) (va_up (qLeft m) (qOpen m) (mK m i))) (qOpen m + 1)) (upd (qHeld m) (mK m i % 2) ((qHeld m (mK m i % 2)) + 1)), rfl, ((if_neg (fun q => c_12 (congrArg nI q.1))).trans (if_pos ((nI_eq (b := 13) (by omega) (by decide)).mp c_17))).symm, ce_hp ht hP⟩, hS.F ht⟩) hS.2.2 dMd_enter_155
      · -- 78 not taken
        refine lv_iload hx hb dMd_enter_81 (lv_at hl 0 rfl) ?_
        refine lv_if_ne (tgt := 93) hx hb dMd_enter_83 (by decide) (fun c_20 => ?_) (fun c_20 => ?_)
        · -- 83 taken
          refine lv_aload_n hx hb dMd_enter_93 rfl (lv_at hl 4 rfl) ?_
          refine cm_g hx hb hts hown hK hP 10 (by decide) rfl lMd_29 rfl dMd_enter_94 ?_
          refine lv_aload_n hx hb dMd_enter_97 rfl (lv_at hl 4 rfl) ?_
          refine cm_g hx hb hts hown hK hP 13 (by decide) rfl lMd_68 rfl dMd_enter_98 ?_
          refine lv_iload_n hx hb dMd_enter_101 rfl (lv_at hl 5 rfl) ?_
          refine cm_sBlk (i := (qOpen m)) (x := i) (by omega) hx hb hK hd hP hS dMd_enter_102 (fun H locs hP hS => ?_)
          refine lv_aload_n hx hb dMd_enter_103 rfl (lv_at hl 4 rfl) ?_
          refine cm_g hx hb hts hown hK hP 11 (by decide) rfl lMd_32 rfl dMd_enter_104 ?_
          refine lv_aload_n hx hb dMd_enter_107 rfl (lv_at hl 4 rfl) ?_
          refine cm_g hx hb hts hown hK hP 13 (by decide) rfl lMd_68 rfl dMd_enter_108 ?_
          refine lv_topi (fun y_21 ey_21 => ?_)
          obtain rfl : y_21 = nI (qOpen m) := ey_21.trans (by rw [qOpen_zBlk])
          refine lv_iload hx hb dMd_enter_111 (lv_at hl 2 rfl) ?_
          refine cm_sEnd (i := (qOpen m)) (x := (min (i + 1 + n) (mLim m))) (by omega) hx hb hK hd hP hS dMd_enter_113 (fun H locs hP hS => ?_)
          rw [qEnd_zBlk] at hP
          refine lv_aload_n hx hb dMd_enter_114 rfl (lv_at hl 4 rfl) ?_
          refine cm_g hx hb hts hown hK hP 12 (by decide) rfl lMd_35 rfl dMd_enter_115 ?_
          refine lv_aload_n hx hb dMd_enter_118 rfl (lv_at hl 4 rfl) ?_
          refine cm_g hx hb hts hown hK hP 13 (by decide) rfl lMd_68 rfl dMd_enter_119 ?_
          refine lv_topi (fun y_22 ey_22 => ?_)
          obtain rfl : y_22 = nI (qOpen m) := ey_22.trans (by rw [qOpen_zEnd, qOpen_zBlk])
          refine lv_iload hx hb dMd_enter_122 (lv_at hl 0 rfl) ?_
          refine cm_sLeft (i := (qOpen m)) (x := (mK m i)) (by omega) hx hb hK hd hP hS dMd_enter_124 (fun H locs hP hS => ?_)
          rw [qLeft_zEnd, qLeft_zBlk] at hP
          refine lv_aload_n hx hb dMd_enter_125 rfl (lv_at hl 4 rfl) ?_
          refine lv_dup hx hb dMd_enter_126 rfl ?_
          refine cm_g hx hb hts hown hK hP 13 (by decide) rfl lMd_68 rfl dMd_enter_127 ?_
          refine lv_topi (fun y_23 ey_23 => ?_)
          obtain rfl : y_23 = nI (qOpen m) := ey_23.trans (by rw [qOpen_zLeft, qOpen_zEnd, qOpen_zBlk])
          refine lv_iconst (v := 1) hx hb dMd_enter_130 (by decide) ?_
          refine lv_iadd hx hb dMd_enter_131 ?_
          refine lv_topi (fun y_24 ey_24 => ?_)
          obtain rfl : y_24 = nI (qOpen m + 1) := ey_24.trans (nI_1 _)
          refine cm_pOpen (x := (qOpen m + 1)) hx hb hts hown hK hd hP hS lMd_68 dMd_enter_132 (fun H locs hP hS => ?_)
          refine lv_iload hx hb dMd_enter_135 (lv_at hl 1 rfl) ?_
          refine lv_bipush (v := 13) hx hb dMd_enter_137 (by decide) ?_
          refine lv_icmp_ne (tgt := 155) hx hb dMd_enter_139 (by decide) (fun c_25 => ?_) (fun c_25 => ?_)
          · -- 139 taken
            exact W.vret hx hb hr (fun t9 ht hW => ⟨⟨zOpen (zLeft (zEnd (zBlk m (va_up (qBlk m) (qOpen m) i)) (va_up (qEnd m) (qOpen m) (min (i + 1 + n) (mLim m)))) (va_up (qLeft m) (qOpen m) (mK m i))) (qOpen m + 1), rfl, ((if_neg (fun q => c_20 (congrArg nI q.2))).trans (if_neg (fun q => c_25 (congrArg nI q)))).symm, ce_hp ht hP⟩, hS.F ht⟩) hS.2.2 dMd_enter_155
          · -- 139 not taken
            refine lv_aload_n hx hb dMd_enter_142 rfl (lv_at hl 4 rfl) ?_
            refine cm_g hx hb hts hown hK hP 15 (by decide) rfl lMd_41 rfl dMd_enter_143 ?_
            refine lv_iload hx hb dMd_enter_146 (lv_at hl 0 rfl) ?_
            refine lv_iconst (v := 2) hx hb dMd_enter_148 (by decide) ?_
            refine lv_irem hx hb dMd_enter_149 (by decide) ?_
            refine lv_topi (fun y_26 ey_26 => ?_)
            obtain rfl : y_26 = nI (mK m i % 2) := ey_26.trans (pk_rem (d := 2) (by omega) (by decide) (by decide))
            refine lv_dup2_11 hx hb dMd_enter_150 rfl rfl ?_
            refine cm_lHeld (i := (mK m i % 2)) (by omega) hx hb hK hP dMd_enter_151 ?_
            refine lv_topi (fun y_27 ey_27 => ?_)
            obtain rfl : y_27 = qHeld m (mK m i % 2) := ey_27.trans (by rw [qHeld_zOpen, qHeld_zLeft, qHeld_zEnd, qHeld_zBlk])
            refine lv_iconst (v := 1) hx hb dMd_enter_152 (by decide) ?_
            refine lv_iadd hx hb dMd_enter_153 ?_
            refine cm_sHeld (i := (mK m i % 2)) (x := (qHeld m (mK m i % 2)) + 1) (by omega) hx hb hK hd hP hS dMd_enter_154 (fun H locs hP hS => ?_)
            rw [qHeld_zOpen, qHeld_zLeft, qHeld_zEnd, qHeld_zBlk] at hP
            exact W.vret hx hb hr (fun t9 ht hW => ⟨⟨zHeld (zOpen (zLeft (zEnd (zBlk m (va_up (qBlk m) (qOpen m) i)) (va_up (qEnd m) (qOpen m) (min (i + 1 + n) (mLim m)))) (va_up (qLeft m) (qOpen m) (mK m i))) (qOpen m + 1)) (upd (qHeld m) (mK m i % 2) ((qHeld m (mK m i % 2)) + 1)), rfl, ((if_neg (fun q => c_20 (congrArg nI q.2))).trans (if_pos ((nI_eq (b := 13) (by omega) (by decide)).mp c_25))).symm, ce_hp ht hP⟩, hS.F ht⟩) hS.2.2 dMd_enter_155
        · -- 83 not taken
          refine lv_aload_n hx hb dMd_enter_86 rfl (lv_at hl 4 rfl) ?_
          refine lv_iload hx hb dMd_enter_87 (lv_at hl 2 rfl) ?_
          refine cm_pAt (x := (min (i + 1 + n) (mLim m))) hx hb hts hown hK hd hP hS lMd_59 dMd_enter_89 (fun H locs hP hS => ?_)
          exact W.vret hx hb hr (fun t9 ht hW => ⟨⟨zAt m (min (i + 1 + n) (mLim m)), rfl, (if_pos ⟨(nI_eq (b := 14) (by omega) (by decide)).mp c_12, (nI_eq (b := 0) (by omega) (by decide)).mp c_20⟩).symm, ce_hp ht hP⟩, hS.F ht⟩) hS.2.2 dMd_enter_92
    · -- 37 not taken
      refine lv_iload_n hx hb dMd_enter_40 rfl (lv_at hl 2 rfl) ?_
      refine lv_iconst (v := 1) hx hb dMd_enter_41 (by decide) ?_
      refine lv_iadd hx hb dMd_enter_42 ?_
      refine lv_topi (fun y_28 ey_28 => ?_)
      obtain rfl : y_28 = nI (i + 1) := ey_28.trans (nI_1 i)
      refine lv_iload_n hx hb dMd_enter_43 rfl (lv_at hl 3 rfl) ?_
      refine lv_iadd hx hb dMd_enter_44 ?_
      refine lv_topi (fun y_29 ey_29 => ?_)
      obtain rfl : y_29 = nI (i + 1 + n) := ey_29.trans (nI_add _ _)
      refine lv_goto (tgt := 49) hx hb dMd_enter_45 (by decide) ?_
      refine lv_topi (fun y_30 ey_30 => ?_)
      obtain rfl : y_30 = nI (min (i + 1 + n) (mLim m)) := ey_30.trans (congrArg nI (Nat.min_eq_left (Nat.le_of_lt ((nI_ltI (by omega) (by omega)).mp (Int32.not_le.mp c_6)))).symm)
      refine lv_istore (lv' := [(4, .int (nI (min (i + 1 + n) (mLim m)))), (3, .int (nI (mLim m))), (0, .ref (a 0)), (1, .int (nI i)), (2, .int (nI n))]) hx hb dMd_enter_49 hl (by decide) rfl (fun ls hl => ?_)
      refine lv_aload_n hx hb dMd_enter_51 rfl (lv_at hl 2 rfl) ?_
      refine cm_g hx hb hts hown hK hP 0 (by decide) rfl lMd_7 rfl dMd_enter_52 ?_
      refine lv_aload_n hx hb dMd_enter_55 rfl (lv_at hl 2 rfl) ?_
      refine cm_g hx hb hts hown hK hP 16 (by decide) rfl lMd_65 rfl dMd_enter_56 ?_
      refine lv_bipush (v := 14) hx hb dMd_enter_59 (by decide) ?_
      refine lv_imul hx hb dMd_enter_61 ?_
      refine lv_topi (fun y_31 ey_31 => ?_)
      obtain rfl : y_31 = nI (qProg m * 14) := ey_31.trans (pk_mul _ 14)
      refine lv_iload_n hx hb dMd_enter_62 rfl (lv_at hl 3 rfl) ?_
      refine lv_iadd hx hb dMd_enter_63 ?_
      refine lv_topi (fun y_32 ey_32 => ?_)
      obtain rfl : y_32 = nI (qProg m * 14 + i) := ey_32.trans (nI_add _ _)
      refine cm_lOp (i := (qProg m * 14 + i)) (by omega) hx hb hK hP dMd_enter_64 ?_
      refine lv_topi (fun y_33 ey_33 => ?_)
      obtain rfl : y_33 = nI (mO m i) := ey_33.trans (rfl)
      refine lv_istore (lv' := [(5, .int (nI (mO m i))), (4, .int (nI (min (i + 1 + n) (mLim m)))), (3, .int (nI (mLim m))), (0, .ref (a 0)), (1, .int (nI i)), (2, .int (nI n))]) hx hb dMd_enter_65 hl (by decide) rfl (fun ls hl => ?_)
      refine lv_aload_n hx hb dMd_enter_67 rfl (lv_at hl 3 rfl) ?_
      refine lv_iload_n hx hb dMd_enter_68 rfl (lv_at hl 4 rfl) ?_
      refine cm_ri (As := [.int (nI i)]) (rest := []) ⟨hx, hb, hml, hown, hts⟩ (c_Md_kOf l D cI cZ a m i hp hi h8) mMd_kOf lMd_71 iMd_kOf (ce_hR (by omega) (by decide)) ⟨rfl, rfl⟩ hK hP rfl hl.1 rfl (Nat.le_of_ble_eq_true rfl) dMd_enter_69 ⟨Nat.le_of_ble_eq_true rfl, Nat.le_of_ble_eq_true rfl⟩ (fun r_34 er_34 => ?_)
      obtain rfl : r_34 = nI (mK m i) := er_34
      refine lv_istore (lv' := [(6, .int (nI (mK m i))), (5, .int (nI (mO m i))), (4, .int (nI (min (i + 1 + n) (mLim m)))), (3, .int (nI (mLim m))), (0, .ref (a 0)), (1, .int (nI i)), (2, .int (nI n))]) hx hb dMd_enter_72 hl (by decide) rfl (fun ls hl => ?_)
      refine lv_iload hx hb dMd_enter_74 (lv_at hl 1 rfl) ?_
      refine lv_bipush (v := 14) hx hb dMd_enter_76 (by decide) ?_
      refine lv_icmp_ne (tgt := 93) hx hb dMd_enter_78 (by decide) (fun c_35 => ?_) (fun c_35 => ?_)
      · -- 78 taken
        refine lv_aload_n hx hb dMd_enter_93 rfl (lv_at hl 4 rfl) ?_
        refine cm_g hx hb hts hown hK hP 10 (by decide) rfl lMd_29 rfl dMd_enter_94 ?_
        refine lv_aload_n hx hb dMd_enter_97 rfl (lv_at hl 4 rfl) ?_
        refine cm_g hx hb hts hown hK hP 13 (by decide) rfl lMd_68 rfl dMd_enter_98 ?_
        refine lv_iload_n hx hb dMd_enter_101 rfl (lv_at hl 5 rfl) ?_
        refine cm_sBlk (i := (qOpen m)) (x := i) (by omega) hx hb hK hd hP hS dMd_enter_102 (fun H locs hP hS => ?_)
        refine lv_aload_n hx hb dMd_enter_103 rfl (lv_at hl 4 rfl) ?_
        refine cm_g hx hb hts hown hK hP 11 (by decide) rfl lMd_32 rfl dMd_enter_104 ?_
        refine lv_aload_n hx hb dMd_enter_107 rfl (lv_at hl 4 rfl) ?_
        refine cm_g hx hb hts hown hK hP 13 (by decide) rfl lMd_68 rfl dMd_enter_108 ?_
        refine lv_topi (fun y_36 ey_36 => ?_)
        obtain rfl : y_36 = nI (qOpen m) := ey_36.trans (by rw [qOpen_zBlk])
        refine lv_iload hx hb dMd_enter_111 (lv_at hl 2 rfl) ?_
        refine cm_sEnd (i := (qOpen m)) (x := (min (i + 1 + n) (mLim m))) (by omega) hx hb hK hd hP hS dMd_enter_113 (fun H locs hP hS => ?_)
        rw [qEnd_zBlk] at hP
        refine lv_aload_n hx hb dMd_enter_114 rfl (lv_at hl 4 rfl) ?_
        refine cm_g hx hb hts hown hK hP 12 (by decide) rfl lMd_35 rfl dMd_enter_115 ?_
        refine lv_aload_n hx hb dMd_enter_118 rfl (lv_at hl 4 rfl) ?_
        refine cm_g hx hb hts hown hK hP 13 (by decide) rfl lMd_68 rfl dMd_enter_119 ?_
        refine lv_topi (fun y_37 ey_37 => ?_)
        obtain rfl : y_37 = nI (qOpen m) := ey_37.trans (by rw [qOpen_zEnd, qOpen_zBlk])
        refine lv_iload hx hb dMd_enter_122 (lv_at hl 0 rfl) ?_
        refine cm_sLeft (i := (qOpen m)) (x := (mK m i)) (by omega) hx hb hK hd hP hS dMd_enter_124 (fun H locs hP hS => ?_)
        rw [qLeft_zEnd, qLeft_zBlk] at hP
        refine lv_aload_n hx hb dMd_enter_125 rfl (lv_at hl 4 rfl) ?_
        refine lv_dup hx hb dMd_enter_126 rfl ?_
        refine cm_g hx hb hts hown hK hP 13 (by decide) rfl lMd_68 rfl dMd_enter_127 ?_
        refine lv_topi (fun y_38 ey_38 => ?_)
        obtain rfl : y_38 = nI (qOpen m) := ey_38.trans (by rw [qOpen_zLeft, qOpen_zEnd, qOpen_zBlk])
        refine lv_iconst (v := 1) hx hb dMd_enter_130 (by decide) ?_
        refine lv_iadd hx hb dMd_enter_131 ?_
        refine lv_topi (fun y_39 ey_39 => ?_)
        obtain rfl : y_39 = nI (qOpen m + 1) := ey_39.trans (nI_1 _)
        refine cm_pOpen (x := (qOpen m + 1)) hx hb hts hown hK hd hP hS lMd_68 dMd_enter_132 (fun H locs hP hS => ?_)
        refine lv_iload hx hb dMd_enter_135 (lv_at hl 1 rfl) ?_
        refine lv_bipush (v := 13) hx hb dMd_enter_137 (by decide) ?_
        refine lv_icmp_ne (tgt := 155) hx hb dMd_enter_139 (by decide) (fun c_40 => ?_) (fun c_40 => ?_)
        · -- 139 taken
          exact W.vret hx hb hr (fun t9 ht hW => ⟨⟨zOpen (zLeft (zEnd (zBlk m (va_up (qBlk m) (qOpen m) i)) (va_up (qEnd m) (qOpen m) (min (i + 1 + n) (mLim m)))) (va_up (qLeft m) (qOpen m) (mK m i))) (qOpen m + 1), rfl, ((if_neg (fun q => c_35 (congrArg nI q.1))).trans (if_neg (fun q => c_40 (congrArg nI q)))).symm, ce_hp ht hP⟩, hS.F ht⟩) hS.2.2 dMd_enter_155
        · -- 139 not taken
          refine lv_aload_n hx hb dMd_enter_142 rfl (lv_at hl 4 rfl) ?_
          refine cm_g hx hb hts hown hK hP 15 (by decide) rfl lMd_41 rfl dMd_enter_143 ?_
          refine lv_iload hx hb dMd_enter_146 (lv_at hl 0 rfl) ?_
          refine lv_iconst (v := 2) hx hb dMd_enter_148 (by decide) ?_
          refine lv_irem hx hb dMd_enter_149 (by decide) ?_
          refine lv_topi (fun y_41 ey_41 => ?_)
          obtain rfl : y_41 = nI (mK m i % 2) := ey_41.trans (pk_rem (d := 2) (by omega) (by decide) (by decide))
          refine lv_dup2_11 hx hb dMd_enter_150 rfl rfl ?_
          refine cm_lHeld (i := (mK m i % 2)) (by omega) hx hb hK hP dMd_enter_151 ?_
          refine lv_topi (fun y_42 ey_42 => ?_)
          obtain rfl : y_42 = qHeld m (mK m i % 2) := ey_42.trans (by rw [qHeld_zOpen, qHeld_zLeft, qHeld_zEnd, qHeld_zBlk])
          refine lv_iconst (v := 1) hx hb dMd_enter_152 (by decide) ?_
          refine lv_iadd hx hb dMd_enter_153 ?_
          refine cm_sHeld (i := (mK m i % 2)) (x := (qHeld m (mK m i % 2)) + 1) (by omega) hx hb hK hd hP hS dMd_enter_154 (fun H locs hP hS => ?_)
          rw [qHeld_zOpen, qHeld_zLeft, qHeld_zEnd, qHeld_zBlk] at hP
          exact W.vret hx hb hr (fun t9 ht hW => ⟨⟨zHeld (zOpen (zLeft (zEnd (zBlk m (va_up (qBlk m) (qOpen m) i)) (va_up (qEnd m) (qOpen m) (min (i + 1 + n) (mLim m)))) (va_up (qLeft m) (qOpen m) (mK m i))) (qOpen m + 1)) (upd (qHeld m) (mK m i % 2) ((qHeld m (mK m i % 2)) + 1)), rfl, ((if_neg (fun q => c_35 (congrArg nI q.1))).trans (if_pos ((nI_eq (b := 13) (by omega) (by decide)).mp c_40))).symm, ce_hp ht hP⟩, hS.F ht⟩) hS.2.2 dMd_enter_155
      · -- 78 not taken
        refine lv_iload hx hb dMd_enter_81 (lv_at hl 0 rfl) ?_
        refine lv_if_ne (tgt := 93) hx hb dMd_enter_83 (by decide) (fun c_43 => ?_) (fun c_43 => ?_)
        · -- 83 taken
          refine lv_aload_n hx hb dMd_enter_93 rfl (lv_at hl 4 rfl) ?_
          refine cm_g hx hb hts hown hK hP 10 (by decide) rfl lMd_29 rfl dMd_enter_94 ?_
          refine lv_aload_n hx hb dMd_enter_97 rfl (lv_at hl 4 rfl) ?_
          refine cm_g hx hb hts hown hK hP 13 (by decide) rfl lMd_68 rfl dMd_enter_98 ?_
          refine lv_iload_n hx hb dMd_enter_101 rfl (lv_at hl 5 rfl) ?_
          refine cm_sBlk (i := (qOpen m)) (x := i) (by omega) hx hb hK hd hP hS dMd_enter_102 (fun H locs hP hS => ?_)
          refine lv_aload_n hx hb dMd_enter_103 rfl (lv_at hl 4 rfl) ?_
          refine cm_g hx hb hts hown hK hP 11 (by decide) rfl lMd_32 rfl dMd_enter_104 ?_
          refine lv_aload_n hx hb dMd_enter_107 rfl (lv_at hl 4 rfl) ?_
          refine cm_g hx hb hts hown hK hP 13 (by decide) rfl lMd_68 rfl dMd_enter_108 ?_
          refine lv_topi (fun y_44 ey_44 => ?_)
          obtain rfl : y_44 = nI (qOpen m) := ey_44.trans (by rw [qOpen_zBlk])
          refine lv_iload hx hb dMd_enter_111 (lv_at hl 2 rfl) ?_
          refine cm_sEnd (i := (qOpen m)) (x := (min (i + 1 + n) (mLim m))) (by omega) hx hb hK hd hP hS dMd_enter_113 (fun H locs hP hS => ?_)
          rw [qEnd_zBlk] at hP
          refine lv_aload_n hx hb dMd_enter_114 rfl (lv_at hl 4 rfl) ?_
          refine cm_g hx hb hts hown hK hP 12 (by decide) rfl lMd_35 rfl dMd_enter_115 ?_
          refine lv_aload_n hx hb dMd_enter_118 rfl (lv_at hl 4 rfl) ?_
          refine cm_g hx hb hts hown hK hP 13 (by decide) rfl lMd_68 rfl dMd_enter_119 ?_
          refine lv_topi (fun y_45 ey_45 => ?_)
          obtain rfl : y_45 = nI (qOpen m) := ey_45.trans (by rw [qOpen_zEnd, qOpen_zBlk])
          refine lv_iload hx hb dMd_enter_122 (lv_at hl 0 rfl) ?_
          refine cm_sLeft (i := (qOpen m)) (x := (mK m i)) (by omega) hx hb hK hd hP hS dMd_enter_124 (fun H locs hP hS => ?_)
          rw [qLeft_zEnd, qLeft_zBlk] at hP
          refine lv_aload_n hx hb dMd_enter_125 rfl (lv_at hl 4 rfl) ?_
          refine lv_dup hx hb dMd_enter_126 rfl ?_
          refine cm_g hx hb hts hown hK hP 13 (by decide) rfl lMd_68 rfl dMd_enter_127 ?_
          refine lv_topi (fun y_46 ey_46 => ?_)
          obtain rfl : y_46 = nI (qOpen m) := ey_46.trans (by rw [qOpen_zLeft, qOpen_zEnd, qOpen_zBlk])
          refine lv_iconst (v := 1) hx hb dMd_enter_130 (by decide) ?_
          refine lv_iadd hx hb dMd_enter_131 ?_
          refine lv_topi (fun y_47 ey_47 => ?_)
          obtain rfl : y_47 = nI (qOpen m + 1) := ey_47.trans (nI_1 _)
          refine cm_pOpen (x := (qOpen m + 1)) hx hb hts hown hK hd hP hS lMd_68 dMd_enter_132 (fun H locs hP hS => ?_)
          refine lv_iload hx hb dMd_enter_135 (lv_at hl 1 rfl) ?_
          refine lv_bipush (v := 13) hx hb dMd_enter_137 (by decide) ?_
          refine lv_icmp_ne (tgt := 155) hx hb dMd_enter_139 (by decide) (fun c_48 => ?_) (fun c_48 => ?_)
          · -- 139 taken
            exact W.vret hx hb hr (fun t9 ht hW => ⟨⟨zOpen (zLeft (zEnd (zBlk m (va_up (qBlk m) (qOpen m) i)) (va_up (qEnd m) (qOpen m) (min (i + 1 + n) (mLim m)))) (va_up (qLeft m) (qOpen m) (mK m i))) (qOpen m + 1), rfl, ((if_neg (fun q => c_43 (congrArg nI q.2))).trans (if_neg (fun q => c_48 (congrArg nI q)))).symm, ce_hp ht hP⟩, hS.F ht⟩) hS.2.2 dMd_enter_155
          · -- 139 not taken
            refine lv_aload_n hx hb dMd_enter_142 rfl (lv_at hl 4 rfl) ?_
            refine cm_g hx hb hts hown hK hP 15 (by decide) rfl lMd_41 rfl dMd_enter_143 ?_
            refine lv_iload hx hb dMd_enter_146 (lv_at hl 0 rfl) ?_
            refine lv_iconst (v := 2) hx hb dMd_enter_148 (by decide) ?_
            refine lv_irem hx hb dMd_enter_149 (by decide) ?_
            refine lv_topi (fun y_49 ey_49 => ?_)
            obtain rfl : y_49 = nI (mK m i % 2) := ey_49.trans (pk_rem (d := 2) (by omega) (by decide) (by decide))
            refine lv_dup2_11 hx hb dMd_enter_150 rfl rfl ?_
            refine cm_lHeld (i := (mK m i % 2)) (by omega) hx hb hK hP dMd_enter_151 ?_
            refine lv_topi (fun y_50 ey_50 => ?_)
            obtain rfl : y_50 = qHeld m (mK m i % 2) := ey_50.trans (by rw [qHeld_zOpen, qHeld_zLeft, qHeld_zEnd, qHeld_zBlk])
            refine lv_iconst (v := 1) hx hb dMd_enter_152 (by decide) ?_
            refine lv_iadd hx hb dMd_enter_153 ?_
            refine cm_sHeld (i := (mK m i % 2)) (x := (qHeld m (mK m i % 2)) + 1) (by omega) hx hb hK hd hP hS dMd_enter_154 (fun H locs hP hS => ?_)
            rw [qHeld_zOpen, qHeld_zLeft, qHeld_zEnd, qHeld_zBlk] at hP
            exact W.vret hx hb hr (fun t9 ht hW => ⟨⟨zHeld (zOpen (zLeft (zEnd (zBlk m (va_up (qBlk m) (qOpen m) i)) (va_up (qEnd m) (qOpen m) (min (i + 1 + n) (mLim m)))) (va_up (qLeft m) (qOpen m) (mK m i))) (qOpen m + 1)) (upd (qHeld m) (mK m i % 2) ((qHeld m (mK m i % 2)) + 1)), rfl, ((if_neg (fun q => c_43 (congrArg nI q.2))).trans (if_pos ((nI_eq (b := 13) (by omega) (by decide)).mp c_48))).symm, ce_hp ht hP⟩, hS.F ht⟩) hS.2.2 dMd_enter_155
        · -- 83 not taken
          refine lv_aload_n hx hb dMd_enter_86 rfl (lv_at hl 4 rfl) ?_
          refine lv_iload hx hb dMd_enter_87 (lv_at hl 2 rfl) ?_
          refine cm_pAt (x := (min (i + 1 + n) (mLim m))) hx hb hts hown hK hd hP hS lMd_59 dMd_enter_89 (fun H locs hP hS => ?_)
          exact W.vret hx hb hr (fun t9 ht hW => ⟨⟨zAt m (min (i + 1 + n) (mLim m)), rfl, (if_pos ⟨(nI_eq (b := 14) (by omega) (by decide)).mp c_35, (nI_eq (b := 0) (by omega) (by decide)).mp c_43⟩).symm, ce_hp ht hP⟩, hS.F ht⟩) hS.2.2 dMd_enter_92
  · -- 4 not taken
    have h0 : qOpen m = 0 := (nI_eq (b := 0) (by omega) (by decide)).mp c_1
    refine lv_aload_n hx hb dMd_enter_7 rfl (lv_at hl 0 rfl) ?_
    refine cm_g hx hb hts hown hK hP 2 (by decide) rfl lMd_16 rfl dMd_enter_8 ?_
    refine lv_aload_n hx hb dMd_enter_11 rfl (lv_at hl 0 rfl) ?_
    refine cm_g hx hb hts hown hK hP 16 (by decide) rfl lMd_65 rfl dMd_enter_12 ?_
    refine cm_lSize (i := (qProg m)) (by omega) hx hb hK hP dMd_enter_15 ?_
    refine lv_topi (fun y_51 ey_51 => ?_)
    obtain rfl : y_51 = nI (mLim m) := ey_51.trans (congrArg nI (mLim_0 h0).symm)
    refine lv_goto (tgt := 30) hx hb dMd_enter_16 (by decide) ?_
    refine lv_istore_n (lv' := [(3, .int (nI (mLim m))), (0, .ref (a 0)), (1, .int (nI i)), (2, .int (nI n))]) hx hb dMd_enter_30 rfl hl (by decide) rfl (fun ls hl => ?_)
    refine lv_iload_n hx hb dMd_enter_31 rfl (lv_at hl 2 rfl) ?_
    refine lv_iconst (v := 1) hx hb dMd_enter_32 (by decide) ?_
    refine lv_iadd hx hb dMd_enter_33 ?_
    refine lv_topi (fun y_52 ey_52 => ?_)
    obtain rfl : y_52 = nI (i + 1) := ey_52.trans (nI_1 i)
    refine lv_iload_n hx hb dMd_enter_34 rfl (lv_at hl 3 rfl) ?_
    refine lv_iadd hx hb dMd_enter_35 ?_
    refine lv_topi (fun y_53 ey_53 => ?_)
    obtain rfl : y_53 = nI (i + 1 + n) := ey_53.trans (nI_add _ _)
    refine lv_iload_n hx hb dMd_enter_36 rfl (lv_at hl 0 rfl) ?_
    refine lv_icmp_ge (tgt := 48) hx hb dMd_enter_37 (by decide) (fun c_54 => ?_) (fun c_54 => ?_)
    · -- 37 taken
      refine lv_iload_n hx hb dMd_enter_48 rfl (lv_at hl 0 rfl) ?_
      refine lv_topi (fun y_55 ey_55 => ?_)
      obtain rfl : y_55 = nI (min (i + 1 + n) (mLim m)) := ey_55.trans (congrArg nI (Nat.min_eq_right ((nI_leI (by omega) (by omega)).mp c_54)).symm)
      refine lv_istore (lv' := [(4, .int (nI (min (i + 1 + n) (mLim m)))), (3, .int (nI (mLim m))), (0, .ref (a 0)), (1, .int (nI i)), (2, .int (nI n))]) hx hb dMd_enter_49 hl (by decide) rfl (fun ls hl => ?_)
      refine lv_aload_n hx hb dMd_enter_51 rfl (lv_at hl 2 rfl) ?_
      refine cm_g hx hb hts hown hK hP 0 (by decide) rfl lMd_7 rfl dMd_enter_52 ?_
      refine lv_aload_n hx hb dMd_enter_55 rfl (lv_at hl 2 rfl) ?_
      refine cm_g hx hb hts hown hK hP 16 (by decide) rfl lMd_65 rfl dMd_enter_56 ?_
      refine lv_bipush (v := 14) hx hb dMd_enter_59 (by decide) ?_
      refine lv_imul hx hb dMd_enter_61 ?_
      refine lv_topi (fun y_56 ey_56 => ?_)
      obtain rfl : y_56 = nI (qProg m * 14) := ey_56.trans (pk_mul _ 14)
      refine lv_iload_n hx hb dMd_enter_62 rfl (lv_at hl 3 rfl) ?_
      refine lv_iadd hx hb dMd_enter_63 ?_
      refine lv_topi (fun y_57 ey_57 => ?_)
      obtain rfl : y_57 = nI (qProg m * 14 + i) := ey_57.trans (nI_add _ _)
      refine cm_lOp (i := (qProg m * 14 + i)) (by omega) hx hb hK hP dMd_enter_64 ?_
      refine lv_topi (fun y_58 ey_58 => ?_)
      obtain rfl : y_58 = nI (mO m i) := ey_58.trans (rfl)
      refine lv_istore (lv' := [(5, .int (nI (mO m i))), (4, .int (nI (min (i + 1 + n) (mLim m)))), (3, .int (nI (mLim m))), (0, .ref (a 0)), (1, .int (nI i)), (2, .int (nI n))]) hx hb dMd_enter_65 hl (by decide) rfl (fun ls hl => ?_)
      refine lv_aload_n hx hb dMd_enter_67 rfl (lv_at hl 3 rfl) ?_
      refine lv_iload_n hx hb dMd_enter_68 rfl (lv_at hl 4 rfl) ?_
      refine cm_ri (As := [.int (nI i)]) (rest := []) ⟨hx, hb, hml, hown, hts⟩ (c_Md_kOf l D cI cZ a m i hp hi h8) mMd_kOf lMd_71 iMd_kOf (ce_hR (by omega) (by decide)) ⟨rfl, rfl⟩ hK hP rfl hl.1 rfl (Nat.le_of_ble_eq_true rfl) dMd_enter_69 ⟨Nat.le_of_ble_eq_true rfl, Nat.le_of_ble_eq_true rfl⟩ (fun r_59 er_59 => ?_)
      obtain rfl : r_59 = nI (mK m i) := er_59
      refine lv_istore (lv' := [(6, .int (nI (mK m i))), (5, .int (nI (mO m i))), (4, .int (nI (min (i + 1 + n) (mLim m)))), (3, .int (nI (mLim m))), (0, .ref (a 0)), (1, .int (nI i)), (2, .int (nI n))]) hx hb dMd_enter_72 hl (by decide) rfl (fun ls hl => ?_)
      refine lv_iload hx hb dMd_enter_74 (lv_at hl 1 rfl) ?_
      refine lv_bipush (v := 14) hx hb dMd_enter_76 (by decide) ?_
      refine lv_icmp_ne (tgt := 93) hx hb dMd_enter_78 (by decide) (fun c_60 => ?_) (fun c_60 => ?_)
      · -- 78 taken
        refine lv_aload_n hx hb dMd_enter_93 rfl (lv_at hl 4 rfl) ?_
        refine cm_g hx hb hts hown hK hP 10 (by decide) rfl lMd_29 rfl dMd_enter_94 ?_
        refine lv_aload_n hx hb dMd_enter_97 rfl (lv_at hl 4 rfl) ?_
        refine cm_g hx hb hts hown hK hP 13 (by decide) rfl lMd_68 rfl dMd_enter_98 ?_
        refine lv_iload_n hx hb dMd_enter_101 rfl (lv_at hl 5 rfl) ?_
        refine cm_sBlk (i := (qOpen m)) (x := i) (by omega) hx hb hK hd hP hS dMd_enter_102 (fun H locs hP hS => ?_)
        refine lv_aload_n hx hb dMd_enter_103 rfl (lv_at hl 4 rfl) ?_
        refine cm_g hx hb hts hown hK hP 11 (by decide) rfl lMd_32 rfl dMd_enter_104 ?_
        refine lv_aload_n hx hb dMd_enter_107 rfl (lv_at hl 4 rfl) ?_
        refine cm_g hx hb hts hown hK hP 13 (by decide) rfl lMd_68 rfl dMd_enter_108 ?_
        refine lv_topi (fun y_61 ey_61 => ?_)
        obtain rfl : y_61 = nI (qOpen m) := ey_61.trans (by rw [qOpen_zBlk])
        refine lv_iload hx hb dMd_enter_111 (lv_at hl 2 rfl) ?_
        refine cm_sEnd (i := (qOpen m)) (x := (min (i + 1 + n) (mLim m))) (by omega) hx hb hK hd hP hS dMd_enter_113 (fun H locs hP hS => ?_)
        rw [qEnd_zBlk] at hP
        refine lv_aload_n hx hb dMd_enter_114 rfl (lv_at hl 4 rfl) ?_
        refine cm_g hx hb hts hown hK hP 12 (by decide) rfl lMd_35 rfl dMd_enter_115 ?_
        refine lv_aload_n hx hb dMd_enter_118 rfl (lv_at hl 4 rfl) ?_
        refine cm_g hx hb hts hown hK hP 13 (by decide) rfl lMd_68 rfl dMd_enter_119 ?_
        refine lv_topi (fun y_62 ey_62 => ?_)
        obtain rfl : y_62 = nI (qOpen m) := ey_62.trans (by rw [qOpen_zEnd, qOpen_zBlk])
        refine lv_iload hx hb dMd_enter_122 (lv_at hl 0 rfl) ?_
        refine cm_sLeft (i := (qOpen m)) (x := (mK m i)) (by omega) hx hb hK hd hP hS dMd_enter_124 (fun H locs hP hS => ?_)
        rw [qLeft_zEnd, qLeft_zBlk] at hP
        refine lv_aload_n hx hb dMd_enter_125 rfl (lv_at hl 4 rfl) ?_
        refine lv_dup hx hb dMd_enter_126 rfl ?_
        refine cm_g hx hb hts hown hK hP 13 (by decide) rfl lMd_68 rfl dMd_enter_127 ?_
        refine lv_topi (fun y_63 ey_63 => ?_)
        obtain rfl : y_63 = nI (qOpen m) := ey_63.trans (by rw [qOpen_zLeft, qOpen_zEnd, qOpen_zBlk])
        refine lv_iconst (v := 1) hx hb dMd_enter_130 (by decide) ?_
        refine lv_iadd hx hb dMd_enter_131 ?_
        refine lv_topi (fun y_64 ey_64 => ?_)
        obtain rfl : y_64 = nI (qOpen m + 1) := ey_64.trans (nI_1 _)
        refine cm_pOpen (x := (qOpen m + 1)) hx hb hts hown hK hd hP hS lMd_68 dMd_enter_132 (fun H locs hP hS => ?_)
        refine lv_iload hx hb dMd_enter_135 (lv_at hl 1 rfl) ?_
        refine lv_bipush (v := 13) hx hb dMd_enter_137 (by decide) ?_
        refine lv_icmp_ne (tgt := 155) hx hb dMd_enter_139 (by decide) (fun c_65 => ?_) (fun c_65 => ?_)
        · -- 139 taken
          exact W.vret hx hb hr (fun t9 ht hW => ⟨⟨zOpen (zLeft (zEnd (zBlk m (va_up (qBlk m) (qOpen m) i)) (va_up (qEnd m) (qOpen m) (min (i + 1 + n) (mLim m)))) (va_up (qLeft m) (qOpen m) (mK m i))) (qOpen m + 1), rfl, ((if_neg (fun q => c_60 (congrArg nI q.1))).trans (if_neg (fun q => c_65 (congrArg nI q)))).symm, ce_hp ht hP⟩, hS.F ht⟩) hS.2.2 dMd_enter_155
        · -- 139 not taken
          refine lv_aload_n hx hb dMd_enter_142 rfl (lv_at hl 4 rfl) ?_
          refine cm_g hx hb hts hown hK hP 15 (by decide) rfl lMd_41 rfl dMd_enter_143 ?_
          refine lv_iload hx hb dMd_enter_146 (lv_at hl 0 rfl) ?_
          refine lv_iconst (v := 2) hx hb dMd_enter_148 (by decide) ?_
          refine lv_irem hx hb dMd_enter_149 (by decide) ?_
          refine lv_topi (fun y_66 ey_66 => ?_)
          obtain rfl : y_66 = nI (mK m i % 2) := ey_66.trans (pk_rem (d := 2) (by omega) (by decide) (by decide))
          refine lv_dup2_11 hx hb dMd_enter_150 rfl rfl ?_
          refine cm_lHeld (i := (mK m i % 2)) (by omega) hx hb hK hP dMd_enter_151 ?_
          refine lv_topi (fun y_67 ey_67 => ?_)
          obtain rfl : y_67 = qHeld m (mK m i % 2) := ey_67.trans (by rw [qHeld_zOpen, qHeld_zLeft, qHeld_zEnd, qHeld_zBlk])
          refine lv_iconst (v := 1) hx hb dMd_enter_152 (by decide) ?_
          refine lv_iadd hx hb dMd_enter_153 ?_
          refine cm_sHeld (i := (mK m i % 2)) (x := (qHeld m (mK m i % 2)) + 1) (by omega) hx hb hK hd hP hS dMd_enter_154 (fun H locs hP hS => ?_)
          rw [qHeld_zOpen, qHeld_zLeft, qHeld_zEnd, qHeld_zBlk] at hP
          exact W.vret hx hb hr (fun t9 ht hW => ⟨⟨zHeld (zOpen (zLeft (zEnd (zBlk m (va_up (qBlk m) (qOpen m) i)) (va_up (qEnd m) (qOpen m) (min (i + 1 + n) (mLim m)))) (va_up (qLeft m) (qOpen m) (mK m i))) (qOpen m + 1)) (upd (qHeld m) (mK m i % 2) ((qHeld m (mK m i % 2)) + 1)), rfl, ((if_neg (fun q => c_60 (congrArg nI q.1))).trans (if_pos ((nI_eq (b := 13) (by omega) (by decide)).mp c_65))).symm, ce_hp ht hP⟩, hS.F ht⟩) hS.2.2 dMd_enter_155
      · -- 78 not taken
        refine lv_iload hx hb dMd_enter_81 (lv_at hl 0 rfl) ?_
        refine lv_if_ne (tgt := 93) hx hb dMd_enter_83 (by decide) (fun c_68 => ?_) (fun c_68 => ?_)
        · -- 83 taken
          refine lv_aload_n hx hb dMd_enter_93 rfl (lv_at hl 4 rfl) ?_
          refine cm_g hx hb hts hown hK hP 10 (by decide) rfl lMd_29 rfl dMd_enter_94 ?_
          refine lv_aload_n hx hb dMd_enter_97 rfl (lv_at hl 4 rfl) ?_
          refine cm_g hx hb hts hown hK hP 13 (by decide) rfl lMd_68 rfl dMd_enter_98 ?_
          refine lv_iload_n hx hb dMd_enter_101 rfl (lv_at hl 5 rfl) ?_
          refine cm_sBlk (i := (qOpen m)) (x := i) (by omega) hx hb hK hd hP hS dMd_enter_102 (fun H locs hP hS => ?_)
          refine lv_aload_n hx hb dMd_enter_103 rfl (lv_at hl 4 rfl) ?_
          refine cm_g hx hb hts hown hK hP 11 (by decide) rfl lMd_32 rfl dMd_enter_104 ?_
          refine lv_aload_n hx hb dMd_enter_107 rfl (lv_at hl 4 rfl) ?_
          refine cm_g hx hb hts hown hK hP 13 (by decide) rfl lMd_68 rfl dMd_enter_108 ?_
          refine lv_topi (fun y_69 ey_69 => ?_)
          obtain rfl : y_69 = nI (qOpen m) := ey_69.trans (by rw [qOpen_zBlk])
          refine lv_iload hx hb dMd_enter_111 (lv_at hl 2 rfl) ?_
          refine cm_sEnd (i := (qOpen m)) (x := (min (i + 1 + n) (mLim m))) (by omega) hx hb hK hd hP hS dMd_enter_113 (fun H locs hP hS => ?_)
          rw [qEnd_zBlk] at hP
          refine lv_aload_n hx hb dMd_enter_114 rfl (lv_at hl 4 rfl) ?_
          refine cm_g hx hb hts hown hK hP 12 (by decide) rfl lMd_35 rfl dMd_enter_115 ?_
          refine lv_aload_n hx hb dMd_enter_118 rfl (lv_at hl 4 rfl) ?_
          refine cm_g hx hb hts hown hK hP 13 (by decide) rfl lMd_68 rfl dMd_enter_119 ?_
          refine lv_topi (fun y_70 ey_70 => ?_)
          obtain rfl : y_70 = nI (qOpen m) := ey_70.trans (by rw [qOpen_zEnd, qOpen_zBlk])
          refine lv_iload hx hb dMd_enter_122 (lv_at hl 0 rfl) ?_
          refine cm_sLeft (i := (qOpen m)) (x := (mK m i)) (by omega) hx hb hK hd hP hS dMd_enter_124 (fun H locs hP hS => ?_)
          rw [qLeft_zEnd, qLeft_zBlk] at hP
          refine lv_aload_n hx hb dMd_enter_125 rfl (lv_at hl 4 rfl) ?_
          refine lv_dup hx hb dMd_enter_126 rfl ?_
          refine cm_g hx hb hts hown hK hP 13 (by decide) rfl lMd_68 rfl dMd_enter_127 ?_
          refine lv_topi (fun y_71 ey_71 => ?_)
          obtain rfl : y_71 = nI (qOpen m) := ey_71.trans (by rw [qOpen_zLeft, qOpen_zEnd, qOpen_zBlk])
          refine lv_iconst (v := 1) hx hb dMd_enter_130 (by decide) ?_
          refine lv_iadd hx hb dMd_enter_131 ?_
          refine lv_topi (fun y_72 ey_72 => ?_)
          obtain rfl : y_72 = nI (qOpen m + 1) := ey_72.trans (nI_1 _)
          refine cm_pOpen (x := (qOpen m + 1)) hx hb hts hown hK hd hP hS lMd_68 dMd_enter_132 (fun H locs hP hS => ?_)
          refine lv_iload hx hb dMd_enter_135 (lv_at hl 1 rfl) ?_
          refine lv_bipush (v := 13) hx hb dMd_enter_137 (by decide) ?_
          refine lv_icmp_ne (tgt := 155) hx hb dMd_enter_139 (by decide) (fun c_73 => ?_) (fun c_73 => ?_)
          · -- 139 taken
            exact W.vret hx hb hr (fun t9 ht hW => ⟨⟨zOpen (zLeft (zEnd (zBlk m (va_up (qBlk m) (qOpen m) i)) (va_up (qEnd m) (qOpen m) (min (i + 1 + n) (mLim m)))) (va_up (qLeft m) (qOpen m) (mK m i))) (qOpen m + 1), rfl, ((if_neg (fun q => c_68 (congrArg nI q.2))).trans (if_neg (fun q => c_73 (congrArg nI q)))).symm, ce_hp ht hP⟩, hS.F ht⟩) hS.2.2 dMd_enter_155
          · -- 139 not taken
            refine lv_aload_n hx hb dMd_enter_142 rfl (lv_at hl 4 rfl) ?_
            refine cm_g hx hb hts hown hK hP 15 (by decide) rfl lMd_41 rfl dMd_enter_143 ?_
            refine lv_iload hx hb dMd_enter_146 (lv_at hl 0 rfl) ?_
            refine lv_iconst (v := 2) hx hb dMd_enter_148 (by decide) ?_
            refine lv_irem hx hb dMd_enter_149 (by decide) ?_
            refine lv_topi (fun y_74 ey_74 => ?_)
            obtain rfl : y_74 = nI (mK m i % 2) := ey_74.trans (pk_rem (d := 2) (by omega) (by decide) (by decide))
            refine lv_dup2_11 hx hb dMd_enter_150 rfl rfl ?_
            refine cm_lHeld (i := (mK m i % 2)) (by omega) hx hb hK hP dMd_enter_151 ?_
            refine lv_topi (fun y_75 ey_75 => ?_)
            obtain rfl : y_75 = qHeld m (mK m i % 2) := ey_75.trans (by rw [qHeld_zOpen, qHeld_zLeft, qHeld_zEnd, qHeld_zBlk])
            refine lv_iconst (v := 1) hx hb dMd_enter_152 (by decide) ?_
            refine lv_iadd hx hb dMd_enter_153 ?_
            refine cm_sHeld (i := (mK m i % 2)) (x := (qHeld m (mK m i % 2)) + 1) (by omega) hx hb hK hd hP hS dMd_enter_154 (fun H locs hP hS => ?_)
            rw [qHeld_zOpen, qHeld_zLeft, qHeld_zEnd, qHeld_zBlk] at hP
            exact W.vret hx hb hr (fun t9 ht hW => ⟨⟨zHeld (zOpen (zLeft (zEnd (zBlk m (va_up (qBlk m) (qOpen m) i)) (va_up (qEnd m) (qOpen m) (min (i + 1 + n) (mLim m)))) (va_up (qLeft m) (qOpen m) (mK m i))) (qOpen m + 1)) (upd (qHeld m) (mK m i % 2) ((qHeld m (mK m i % 2)) + 1)), rfl, ((if_neg (fun q => c_68 (congrArg nI q.2))).trans (if_pos ((nI_eq (b := 13) (by omega) (by decide)).mp c_73))).symm, ce_hp ht hP⟩, hS.F ht⟩) hS.2.2 dMd_enter_155
        · -- 83 not taken
          refine lv_aload_n hx hb dMd_enter_86 rfl (lv_at hl 4 rfl) ?_
          refine lv_iload hx hb dMd_enter_87 (lv_at hl 2 rfl) ?_
          refine cm_pAt (x := (min (i + 1 + n) (mLim m))) hx hb hts hown hK hd hP hS lMd_59 dMd_enter_89 (fun H locs hP hS => ?_)
          exact W.vret hx hb hr (fun t9 ht hW => ⟨⟨zAt m (min (i + 1 + n) (mLim m)), rfl, (if_pos ⟨(nI_eq (b := 14) (by omega) (by decide)).mp c_60, (nI_eq (b := 0) (by omega) (by decide)).mp c_68⟩).symm, ce_hp ht hP⟩, hS.F ht⟩) hS.2.2 dMd_enter_92
    · -- 37 not taken
      refine lv_iload_n hx hb dMd_enter_40 rfl (lv_at hl 2 rfl) ?_
      refine lv_iconst (v := 1) hx hb dMd_enter_41 (by decide) ?_
      refine lv_iadd hx hb dMd_enter_42 ?_
      refine lv_topi (fun y_76 ey_76 => ?_)
      obtain rfl : y_76 = nI (i + 1) := ey_76.trans (nI_1 i)
      refine lv_iload_n hx hb dMd_enter_43 rfl (lv_at hl 3 rfl) ?_
      refine lv_iadd hx hb dMd_enter_44 ?_
      refine lv_topi (fun y_77 ey_77 => ?_)
      obtain rfl : y_77 = nI (i + 1 + n) := ey_77.trans (nI_add _ _)
      refine lv_goto (tgt := 49) hx hb dMd_enter_45 (by decide) ?_
      refine lv_topi (fun y_78 ey_78 => ?_)
      obtain rfl : y_78 = nI (min (i + 1 + n) (mLim m)) := ey_78.trans (congrArg nI (Nat.min_eq_left (Nat.le_of_lt ((nI_ltI (by omega) (by omega)).mp (Int32.not_le.mp c_54)))).symm)
      refine lv_istore (lv' := [(4, .int (nI (min (i + 1 + n) (mLim m)))), (3, .int (nI (mLim m))), (0, .ref (a 0)), (1, .int (nI i)), (2, .int (nI n))]) hx hb dMd_enter_49 hl (by decide) rfl (fun ls hl => ?_)
      refine lv_aload_n hx hb dMd_enter_51 rfl (lv_at hl 2 rfl) ?_
      refine cm_g hx hb hts hown hK hP 0 (by decide) rfl lMd_7 rfl dMd_enter_52 ?_
      refine lv_aload_n hx hb dMd_enter_55 rfl (lv_at hl 2 rfl) ?_
      refine cm_g hx hb hts hown hK hP 16 (by decide) rfl lMd_65 rfl dMd_enter_56 ?_
      refine lv_bipush (v := 14) hx hb dMd_enter_59 (by decide) ?_
      refine lv_imul hx hb dMd_enter_61 ?_
      refine lv_topi (fun y_79 ey_79 => ?_)
      obtain rfl : y_79 = nI (qProg m * 14) := ey_79.trans (pk_mul _ 14)
      refine lv_iload_n hx hb dMd_enter_62 rfl (lv_at hl 3 rfl) ?_
      refine lv_iadd hx hb dMd_enter_63 ?_
      refine lv_topi (fun y_80 ey_80 => ?_)
      obtain rfl : y_80 = nI (qProg m * 14 + i) := ey_80.trans (nI_add _ _)
      refine cm_lOp (i := (qProg m * 14 + i)) (by omega) hx hb hK hP dMd_enter_64 ?_
      refine lv_topi (fun y_81 ey_81 => ?_)
      obtain rfl : y_81 = nI (mO m i) := ey_81.trans (rfl)
      refine lv_istore (lv' := [(5, .int (nI (mO m i))), (4, .int (nI (min (i + 1 + n) (mLim m)))), (3, .int (nI (mLim m))), (0, .ref (a 0)), (1, .int (nI i)), (2, .int (nI n))]) hx hb dMd_enter_65 hl (by decide) rfl (fun ls hl => ?_)
      refine lv_aload_n hx hb dMd_enter_67 rfl (lv_at hl 3 rfl) ?_
      refine lv_iload_n hx hb dMd_enter_68 rfl (lv_at hl 4 rfl) ?_
      refine cm_ri (As := [.int (nI i)]) (rest := []) ⟨hx, hb, hml, hown, hts⟩ (c_Md_kOf l D cI cZ a m i hp hi h8) mMd_kOf lMd_71 iMd_kOf (ce_hR (by omega) (by decide)) ⟨rfl, rfl⟩ hK hP rfl hl.1 rfl (Nat.le_of_ble_eq_true rfl) dMd_enter_69 ⟨Nat.le_of_ble_eq_true rfl, Nat.le_of_ble_eq_true rfl⟩ (fun r_82 er_82 => ?_)
      obtain rfl : r_82 = nI (mK m i) := er_82
      refine lv_istore (lv' := [(6, .int (nI (mK m i))), (5, .int (nI (mO m i))), (4, .int (nI (min (i + 1 + n) (mLim m)))), (3, .int (nI (mLim m))), (0, .ref (a 0)), (1, .int (nI i)), (2, .int (nI n))]) hx hb dMd_enter_72 hl (by decide) rfl (fun ls hl => ?_)
      refine lv_iload hx hb dMd_enter_74 (lv_at hl 1 rfl) ?_
      refine lv_bipush (v := 14) hx hb dMd_enter_76 (by decide) ?_
      refine lv_icmp_ne (tgt := 93) hx hb dMd_enter_78 (by decide) (fun c_83 => ?_) (fun c_83 => ?_)
      · -- 78 taken
        refine lv_aload_n hx hb dMd_enter_93 rfl (lv_at hl 4 rfl) ?_
        refine cm_g hx hb hts hown hK hP 10 (by decide) rfl lMd_29 rfl dMd_enter_94 ?_
        refine lv_aload_n hx hb dMd_enter_97 rfl (lv_at hl 4 rfl) ?_
        refine cm_g hx hb hts hown hK hP 13 (by decide) rfl lMd_68 rfl dMd_enter_98 ?_
        refine lv_iload_n hx hb dMd_enter_101 rfl (lv_at hl 5 rfl) ?_
        refine cm_sBlk (i := (qOpen m)) (x := i) (by omega) hx hb hK hd hP hS dMd_enter_102 (fun H locs hP hS => ?_)
        refine lv_aload_n hx hb dMd_enter_103 rfl (lv_at hl 4 rfl) ?_
        refine cm_g hx hb hts hown hK hP 11 (by decide) rfl lMd_32 rfl dMd_enter_104 ?_
        refine lv_aload_n hx hb dMd_enter_107 rfl (lv_at hl 4 rfl) ?_
        refine cm_g hx hb hts hown hK hP 13 (by decide) rfl lMd_68 rfl dMd_enter_108 ?_
        refine lv_topi (fun y_84 ey_84 => ?_)
        obtain rfl : y_84 = nI (qOpen m) := ey_84.trans (by rw [qOpen_zBlk])
        refine lv_iload hx hb dMd_enter_111 (lv_at hl 2 rfl) ?_
        refine cm_sEnd (i := (qOpen m)) (x := (min (i + 1 + n) (mLim m))) (by omega) hx hb hK hd hP hS dMd_enter_113 (fun H locs hP hS => ?_)
        rw [qEnd_zBlk] at hP
        refine lv_aload_n hx hb dMd_enter_114 rfl (lv_at hl 4 rfl) ?_
        refine cm_g hx hb hts hown hK hP 12 (by decide) rfl lMd_35 rfl dMd_enter_115 ?_
        refine lv_aload_n hx hb dMd_enter_118 rfl (lv_at hl 4 rfl) ?_
        refine cm_g hx hb hts hown hK hP 13 (by decide) rfl lMd_68 rfl dMd_enter_119 ?_
        refine lv_topi (fun y_85 ey_85 => ?_)
        obtain rfl : y_85 = nI (qOpen m) := ey_85.trans (by rw [qOpen_zEnd, qOpen_zBlk])
        refine lv_iload hx hb dMd_enter_122 (lv_at hl 0 rfl) ?_
        refine cm_sLeft (i := (qOpen m)) (x := (mK m i)) (by omega) hx hb hK hd hP hS dMd_enter_124 (fun H locs hP hS => ?_)
        rw [qLeft_zEnd, qLeft_zBlk] at hP
        refine lv_aload_n hx hb dMd_enter_125 rfl (lv_at hl 4 rfl) ?_
        refine lv_dup hx hb dMd_enter_126 rfl ?_
        refine cm_g hx hb hts hown hK hP 13 (by decide) rfl lMd_68 rfl dMd_enter_127 ?_
        refine lv_topi (fun y_86 ey_86 => ?_)
        obtain rfl : y_86 = nI (qOpen m) := ey_86.trans (by rw [qOpen_zLeft, qOpen_zEnd, qOpen_zBlk])
        refine lv_iconst (v := 1) hx hb dMd_enter_130 (by decide) ?_
        refine lv_iadd hx hb dMd_enter_131 ?_
        refine lv_topi (fun y_87 ey_87 => ?_)
        obtain rfl : y_87 = nI (qOpen m + 1) := ey_87.trans (nI_1 _)
        refine cm_pOpen (x := (qOpen m + 1)) hx hb hts hown hK hd hP hS lMd_68 dMd_enter_132 (fun H locs hP hS => ?_)
        refine lv_iload hx hb dMd_enter_135 (lv_at hl 1 rfl) ?_
        refine lv_bipush (v := 13) hx hb dMd_enter_137 (by decide) ?_
        refine lv_icmp_ne (tgt := 155) hx hb dMd_enter_139 (by decide) (fun c_88 => ?_) (fun c_88 => ?_)
        · -- 139 taken
          exact W.vret hx hb hr (fun t9 ht hW => ⟨⟨zOpen (zLeft (zEnd (zBlk m (va_up (qBlk m) (qOpen m) i)) (va_up (qEnd m) (qOpen m) (min (i + 1 + n) (mLim m)))) (va_up (qLeft m) (qOpen m) (mK m i))) (qOpen m + 1), rfl, ((if_neg (fun q => c_83 (congrArg nI q.1))).trans (if_neg (fun q => c_88 (congrArg nI q)))).symm, ce_hp ht hP⟩, hS.F ht⟩) hS.2.2 dMd_enter_155
        · -- 139 not taken
          refine lv_aload_n hx hb dMd_enter_142 rfl (lv_at hl 4 rfl) ?_
          refine cm_g hx hb hts hown hK hP 15 (by decide) rfl lMd_41 rfl dMd_enter_143 ?_
          refine lv_iload hx hb dMd_enter_146 (lv_at hl 0 rfl) ?_
          refine lv_iconst (v := 2) hx hb dMd_enter_148 (by decide) ?_
          refine lv_irem hx hb dMd_enter_149 (by decide) ?_
          refine lv_topi (fun y_89 ey_89 => ?_)
          obtain rfl : y_89 = nI (mK m i % 2) := ey_89.trans (pk_rem (d := 2) (by omega) (by decide) (by decide))
          refine lv_dup2_11 hx hb dMd_enter_150 rfl rfl ?_
          refine cm_lHeld (i := (mK m i % 2)) (by omega) hx hb hK hP dMd_enter_151 ?_
          refine lv_topi (fun y_90 ey_90 => ?_)
          obtain rfl : y_90 = qHeld m (mK m i % 2) := ey_90.trans (by rw [qHeld_zOpen, qHeld_zLeft, qHeld_zEnd, qHeld_zBlk])
          refine lv_iconst (v := 1) hx hb dMd_enter_152 (by decide) ?_
          refine lv_iadd hx hb dMd_enter_153 ?_
          refine cm_sHeld (i := (mK m i % 2)) (x := (qHeld m (mK m i % 2)) + 1) (by omega) hx hb hK hd hP hS dMd_enter_154 (fun H locs hP hS => ?_)
          rw [qHeld_zOpen, qHeld_zLeft, qHeld_zEnd, qHeld_zBlk] at hP
          exact W.vret hx hb hr (fun t9 ht hW => ⟨⟨zHeld (zOpen (zLeft (zEnd (zBlk m (va_up (qBlk m) (qOpen m) i)) (va_up (qEnd m) (qOpen m) (min (i + 1 + n) (mLim m)))) (va_up (qLeft m) (qOpen m) (mK m i))) (qOpen m + 1)) (upd (qHeld m) (mK m i % 2) ((qHeld m (mK m i % 2)) + 1)), rfl, ((if_neg (fun q => c_83 (congrArg nI q.1))).trans (if_pos ((nI_eq (b := 13) (by omega) (by decide)).mp c_88))).symm, ce_hp ht hP⟩, hS.F ht⟩) hS.2.2 dMd_enter_155
      · -- 78 not taken
        refine lv_iload hx hb dMd_enter_81 (lv_at hl 0 rfl) ?_
        refine lv_if_ne (tgt := 93) hx hb dMd_enter_83 (by decide) (fun c_91 => ?_) (fun c_91 => ?_)
        · -- 83 taken
          refine lv_aload_n hx hb dMd_enter_93 rfl (lv_at hl 4 rfl) ?_
          refine cm_g hx hb hts hown hK hP 10 (by decide) rfl lMd_29 rfl dMd_enter_94 ?_
          refine lv_aload_n hx hb dMd_enter_97 rfl (lv_at hl 4 rfl) ?_
          refine cm_g hx hb hts hown hK hP 13 (by decide) rfl lMd_68 rfl dMd_enter_98 ?_
          refine lv_iload_n hx hb dMd_enter_101 rfl (lv_at hl 5 rfl) ?_
          refine cm_sBlk (i := (qOpen m)) (x := i) (by omega) hx hb hK hd hP hS dMd_enter_102 (fun H locs hP hS => ?_)
          refine lv_aload_n hx hb dMd_enter_103 rfl (lv_at hl 4 rfl) ?_
          refine cm_g hx hb hts hown hK hP 11 (by decide) rfl lMd_32 rfl dMd_enter_104 ?_
          refine lv_aload_n hx hb dMd_enter_107 rfl (lv_at hl 4 rfl) ?_
          refine cm_g hx hb hts hown hK hP 13 (by decide) rfl lMd_68 rfl dMd_enter_108 ?_
          refine lv_topi (fun y_92 ey_92 => ?_)
          obtain rfl : y_92 = nI (qOpen m) := ey_92.trans (by rw [qOpen_zBlk])
          refine lv_iload hx hb dMd_enter_111 (lv_at hl 2 rfl) ?_
          refine cm_sEnd (i := (qOpen m)) (x := (min (i + 1 + n) (mLim m))) (by omega) hx hb hK hd hP hS dMd_enter_113 (fun H locs hP hS => ?_)
          rw [qEnd_zBlk] at hP
          refine lv_aload_n hx hb dMd_enter_114 rfl (lv_at hl 4 rfl) ?_
          refine cm_g hx hb hts hown hK hP 12 (by decide) rfl lMd_35 rfl dMd_enter_115 ?_
          refine lv_aload_n hx hb dMd_enter_118 rfl (lv_at hl 4 rfl) ?_
          refine cm_g hx hb hts hown hK hP 13 (by decide) rfl lMd_68 rfl dMd_enter_119 ?_
          refine lv_topi (fun y_93 ey_93 => ?_)
          obtain rfl : y_93 = nI (qOpen m) := ey_93.trans (by rw [qOpen_zEnd, qOpen_zBlk])
          refine lv_iload hx hb dMd_enter_122 (lv_at hl 0 rfl) ?_
          refine cm_sLeft (i := (qOpen m)) (x := (mK m i)) (by omega) hx hb hK hd hP hS dMd_enter_124 (fun H locs hP hS => ?_)
          rw [qLeft_zEnd, qLeft_zBlk] at hP
          refine lv_aload_n hx hb dMd_enter_125 rfl (lv_at hl 4 rfl) ?_
          refine lv_dup hx hb dMd_enter_126 rfl ?_
          refine cm_g hx hb hts hown hK hP 13 (by decide) rfl lMd_68 rfl dMd_enter_127 ?_
          refine lv_topi (fun y_94 ey_94 => ?_)
          obtain rfl : y_94 = nI (qOpen m) := ey_94.trans (by rw [qOpen_zLeft, qOpen_zEnd, qOpen_zBlk])
          refine lv_iconst (v := 1) hx hb dMd_enter_130 (by decide) ?_
          refine lv_iadd hx hb dMd_enter_131 ?_
          refine lv_topi (fun y_95 ey_95 => ?_)
          obtain rfl : y_95 = nI (qOpen m + 1) := ey_95.trans (nI_1 _)
          refine cm_pOpen (x := (qOpen m + 1)) hx hb hts hown hK hd hP hS lMd_68 dMd_enter_132 (fun H locs hP hS => ?_)
          refine lv_iload hx hb dMd_enter_135 (lv_at hl 1 rfl) ?_
          refine lv_bipush (v := 13) hx hb dMd_enter_137 (by decide) ?_
          refine lv_icmp_ne (tgt := 155) hx hb dMd_enter_139 (by decide) (fun c_96 => ?_) (fun c_96 => ?_)
          · -- 139 taken
            exact W.vret hx hb hr (fun t9 ht hW => ⟨⟨zOpen (zLeft (zEnd (zBlk m (va_up (qBlk m) (qOpen m) i)) (va_up (qEnd m) (qOpen m) (min (i + 1 + n) (mLim m)))) (va_up (qLeft m) (qOpen m) (mK m i))) (qOpen m + 1), rfl, ((if_neg (fun q => c_91 (congrArg nI q.2))).trans (if_neg (fun q => c_96 (congrArg nI q)))).symm, ce_hp ht hP⟩, hS.F ht⟩) hS.2.2 dMd_enter_155
          · -- 139 not taken
            refine lv_aload_n hx hb dMd_enter_142 rfl (lv_at hl 4 rfl) ?_
            refine cm_g hx hb hts hown hK hP 15 (by decide) rfl lMd_41 rfl dMd_enter_143 ?_
            refine lv_iload hx hb dMd_enter_146 (lv_at hl 0 rfl) ?_
            refine lv_iconst (v := 2) hx hb dMd_enter_148 (by decide) ?_
            refine lv_irem hx hb dMd_enter_149 (by decide) ?_
            refine lv_topi (fun y_97 ey_97 => ?_)
            obtain rfl : y_97 = nI (mK m i % 2) := ey_97.trans (pk_rem (d := 2) (by omega) (by decide) (by decide))
            refine lv_dup2_11 hx hb dMd_enter_150 rfl rfl ?_
            refine cm_lHeld (i := (mK m i % 2)) (by omega) hx hb hK hP dMd_enter_151 ?_
            refine lv_topi (fun y_98 ey_98 => ?_)
            obtain rfl : y_98 = qHeld m (mK m i % 2) := ey_98.trans (by rw [qHeld_zOpen, qHeld_zLeft, qHeld_zEnd, qHeld_zBlk])
            refine lv_iconst (v := 1) hx hb dMd_enter_152 (by decide) ?_
            refine lv_iadd hx hb dMd_enter_153 ?_
            refine cm_sHeld (i := (mK m i % 2)) (x := (qHeld m (mK m i % 2)) + 1) (by omega) hx hb hK hd hP hS dMd_enter_154 (fun H locs hP hS => ?_)
            rw [qHeld_zOpen, qHeld_zLeft, qHeld_zEnd, qHeld_zBlk] at hP
            exact W.vret hx hb hr (fun t9 ht hW => ⟨⟨zHeld (zOpen (zLeft (zEnd (zBlk m (va_up (qBlk m) (qOpen m) i)) (va_up (qEnd m) (qOpen m) (min (i + 1 + n) (mLim m)))) (va_up (qLeft m) (qOpen m) (mK m i))) (qOpen m + 1)) (upd (qHeld m) (mK m i % 2) ((qHeld m (mK m i % 2)) + 1)), rfl, ((if_neg (fun q => c_91 (congrArg nI q.2))).trans (if_pos ((nI_eq (b := 13) (by omega) (by decide)).mp c_96))).symm, ce_hp ht hP⟩, hS.F ht⟩) hS.2.2 dMd_enter_155
        · -- 83 not taken
          refine lv_aload_n hx hb dMd_enter_86 rfl (lv_at hl 4 rfl) ?_
          refine lv_iload hx hb dMd_enter_87 (lv_at hl 2 rfl) ?_
          refine cm_pAt (x := (min (i + 1 + n) (mLim m))) hx hb hts hown hK hd hP hS lMd_59 dMd_enter_89 (fun H locs hP hS => ?_)
          exact W.vret hx hb hr (fun t9 ht hW => ⟨⟨zAt m (min (i + 1 + n) (mLim m)), rfl, (if_pos ⟨(nI_eq (b := 14) (by omega) (by decide)).mp c_83, (nI_eq (b := 0) (by omega) (by decide)).mp c_91⟩).symm, ce_hp ht hP⟩, hS.F ht⟩) hS.2.2 dMd_enter_92
set_option maxHeartbeats 8000000 in
set_option maxRecDepth 100000 in
theorem c_Md_leave (l : Launch) (D : va_G) (cI cZ : ClassId) (a : Nat → Nat) (hd : dM a) (m : MS) (d : Nat) (hp : qProg m < 6) (ho : qOpen m = d + 1) (hd15 : d < 15) (hi : qBlk m d < 14) (hop : mO m (qBlk m d) = 10 ∨ mO m (qBlk m d) = 11 ∨ mO m (qBlk m d) = 12 ∨ mO m (qBlk m d) = 13 ∨ mO m (qBlk m d) = 14) (h8 : mG m (qBlk m d) ≤ 255) (hlf : qLeft m d < 16) : Met l yMd_leave (ce_ws yMd_leave cMd_leave 4 none) (ce_rm 1) (cm_Pc D cI cZ [.ref (a 0)] (wM a cI cZ m)) (va_Qv (fun m2 => m2 = mLeave m d) (fun m2 t => va_P D vwCl (wM a cI cZ m2) t.heap) (aM a)) 0 0 (aM a) := by
  refine Met.ofW (cc := cMd_leave) (maxL := 4) (ret := none) (by decide) rfl ?_
  intro p e s mi args below meth c s₁ B hml hv
  obtain ⟨rfl, hP, hK⟩ := hv
  have hx := B.exec
  have hb := B.bytes
  have hr := B.returns
  have hts := atoms_spec (ws := ce_ws yMd_leave cMd_leave 4 none) B.pre
  have hown : s.vm.findClass RMd = some mi.cls := findClass_of_methodNamed B.named
  have hlocks := B.notSynchronized
  have hS : va_S (aM a) s.heap s.heap [] := va_S.rf
  have hl := lv_entry ([.ref (a 0)]) (n := 4) (Nat.le_of_ble_eq_true rfl)
  rw [lg_entry_eq]
  generalize (lg_sl ([.ref (a 0)]) ++ List.replicate (4 - (lg_sl ([.ref (a 0)])).length) Slot.unset).toArray = ls at hl ⊢
  have hl : lv_has ls 4 [(0, .ref (a 0))] := hl
  have hK16 : mK m (qBlk m d) < 16 := by unfold mK; unfold mG at h8; omega
  have hk2 : mK m (qBlk m d) % 2 < 2 := Nat.mod_lt _ (by decide)
  refine lv_aload_n hx hb dMd_leave_0 rfl (lv_at hl 0 rfl) ?_
  refine lv_dup hx hb dMd_leave_1 rfl ?_
  refine cm_g hx hb hts hown hK hP 13 (by decide) rfl lMd_68 rfl dMd_leave_2 ?_
  refine lv_topi (fun y_1 ey_1 => ?_)
  obtain rfl : y_1 = nI (d + 1) := ey_1.trans (congrArg nI ho)
  refine lv_iconst (v := 1) hx hb dMd_leave_5 (by decide) ?_
  refine lv_isub hx hb dMd_leave_6 ?_
  refine lv_topi (fun y_2 ey_2 => ?_)
  obtain rfl : y_2 = nI d := ey_2.trans (nI_pred d)
  refine cm_pOpen (x := d) hx hb hts hown hK hd hP hS lMd_68 dMd_leave_7 (fun H locs hP hS => ?_)
  refine lv_aload_n hx hb dMd_leave_10 rfl (lv_at hl 0 rfl) ?_
  refine cm_g hx hb hts hown hK hP 10 (by decide) rfl lMd_29 rfl dMd_leave_11 ?_
  refine lv_aload_n hx hb dMd_leave_14 rfl (lv_at hl 0 rfl) ?_
  refine cm_g hx hb hts hown hK hP 13 (by decide) rfl lMd_68 rfl dMd_leave_15 ?_
  refine lv_topi (fun y_3 ey_3 => ?_)
  obtain rfl : y_3 = nI d := ey_3.trans (by rw [qOpen_zOpen])
  refine cm_lBlk (i := d) (by omega) hx hb hK hP dMd_leave_18 ?_
  refine lv_topi (fun y_4 ey_4 => ?_)
  obtain rfl : y_4 = nI (qBlk m d) := ey_4.trans (by rw [qBlk_zOpen])
  refine lv_istore_n (lv' := [(1, .int (nI (qBlk m d))), (0, .ref (a 0))]) hx hb dMd_leave_19 rfl hl (by decide) rfl (fun ls hl => ?_)
  refine lv_aload_n hx hb dMd_leave_20 rfl (lv_at hl 1 rfl) ?_
  refine cm_g hx hb hts hown hK hP 0 (by decide) rfl lMd_7 rfl dMd_leave_21 ?_
  refine lv_aload_n hx hb dMd_leave_24 rfl (lv_at hl 1 rfl) ?_
  refine cm_g hx hb hts hown hK hP 16 (by decide) rfl lMd_65 rfl dMd_leave_25 ?_
  refine lv_topi (fun y_5 ey_5 => ?_)
  obtain rfl : y_5 = nI (qProg m) := ey_5.trans (by rw [qProg_zOpen])
  refine lv_bipush (v := 14) hx hb dMd_leave_28 (by decide) ?_
  refine lv_imul hx hb dMd_leave_30 ?_
  refine lv_topi (fun y_6 ey_6 => ?_)
  obtain rfl : y_6 = nI (qProg m * 14) := ey_6.trans (pk_mul _ 14)
  refine lv_iload_n hx hb dMd_leave_31 rfl (lv_at hl 0 rfl) ?_
  refine lv_iadd hx hb dMd_leave_32 ?_
  refine lv_topi (fun y_7 ey_7 => ?_)
  obtain rfl : y_7 = nI (qProg m * 14 + qBlk m d) := ey_7.trans (nI_add _ _)
  refine cm_lOp (i := (qProg m * 14 + qBlk m d)) (by omega) hx hb hK hP dMd_leave_33 ?_
  refine lv_topi (fun y_8 ey_8 => ?_)
  obtain rfl : y_8 = nI (qOp m (qProg m * 14 + qBlk m d)) := ey_8.trans (by rw [qOp_zOpen])
  rcases hop with hk | hk | hk | hk | hk
  · -- op 10
    refine lv_topi (fun y_9 ey_9 => ?_)
    obtain rfl : y_9 = nI 10 := ey_9.trans (congrArg nI hk)
    refine lv_istore_n (lv' := [(2, .int (nI 10)), (1, .int (nI (qBlk m d))), (0, .ref (a 0))]) hx hb dMd_leave_34 rfl hl (by decide) rfl (fun ls hl => ?_)
    refine lv_aload_n hx hb dMd_leave_35 rfl (lv_at hl 2 rfl) ?_
    refine lv_iload_n hx hb dMd_leave_36 rfl (lv_at hl 1 rfl) ?_
    refine cm_ri (As := [.int (nI (qBlk m d))]) (rest := []) ⟨hx, hb, hml, hown, hts⟩ (c_Md_kOf l D cI cZ a (zOpen m d) (qBlk m d) hp hi h8) mMd_kOf lMd_71 iMd_kOf (ce_hR (by omega) (by decide)) ⟨rfl, rfl⟩ hK hP rfl hl.1 rfl (Nat.le_of_ble_eq_true rfl) dMd_leave_37 ⟨Nat.le_of_ble_eq_true rfl, Nat.le_of_ble_eq_true rfl⟩ (fun r_10 er_10 => ?_)
    obtain rfl : r_10 = nI (mK m (qBlk m d)) := er_10
    refine lv_istore_n (lv' := [(3, .int (nI (mK m (qBlk m d)))), (2, .int (nI 10)), (1, .int (nI (qBlk m d))), (0, .ref (a 0))]) hx hb dMd_leave_40 rfl hl (by decide) rfl (fun ls hl => ?_)
    refine lv_aload_n hx hb dMd_leave_41 rfl (lv_at hl 3 rfl) ?_
    refine lv_aload_n hx hb dMd_leave_42 rfl (lv_at hl 3 rfl) ?_
    refine cm_g hx hb hts hown hK hP 11 (by decide) rfl lMd_32 rfl dMd_leave_43 ?_
    refine lv_aload_n hx hb dMd_leave_46 rfl (lv_at hl 3 rfl) ?_
    refine cm_g hx hb hts hown hK hP 13 (by decide) rfl lMd_68 rfl dMd_leave_47 ?_
    refine lv_topi (fun y_11 ey_11 => ?_)
    obtain rfl : y_11 = nI d := ey_11.trans (by rw [qOpen_zOpen])
    refine cm_lEnd (i := d) (by omega) hx hb hK hP dMd_leave_50 ?_
    refine lv_topi (fun y_12 ey_12 => ?_)
    obtain rfl : y_12 = nI (qEnd m d) := ey_12.trans (by rw [qEnd_zOpen])
    refine cm_pAt (x := (qEnd m d)) hx hb hts hown hK hd hP hS lMd_59 dMd_leave_51 (fun H locs hP hS => ?_)
    refine lv_iload_n hx hb dMd_leave_54 rfl (lv_at hl 1 rfl) ?_
    refine lv_bipush (v := 11) hx hb dMd_leave_55 (by decide) ?_
    refine lv_icmp_eq (tgt := 66) hx hb dMd_leave_57 (by decide) (fun c_13 => ?_) (fun c_13 => ?_)
    · -- 57 taken
      exact absurd c_13 (by decide)
    · -- 57 not taken
      refine lv_iload_n hx hb dMd_leave_60 rfl (lv_at hl 1 rfl) ?_
      refine lv_bipush (v := 12) hx hb dMd_leave_61 (by decide) ?_
      refine lv_icmp_ne (tgt := 76) hx hb dMd_leave_63 (by decide) (fun c_14 => ?_) (fun c_14 => ?_)
      · -- 63 taken
        refine lv_iload_n hx hb dMd_leave_76 rfl (lv_at hl 1 rfl) ?_
        refine lv_bipush (v := 11) hx hb dMd_leave_77 (by decide) ?_
        refine lv_icmp_ne (tgt := 91) hx hb dMd_leave_79 (by decide) (fun c_15 => ?_) (fun c_15 => ?_)
        · -- 79 taken
          refine lv_iload_n hx hb dMd_leave_91 rfl (lv_at hl 1 rfl) ?_
          refine lv_bipush (v := 13) hx hb dMd_leave_92 (by decide) ?_
          refine lv_icmp_ne (tgt := 109) hx hb dMd_leave_94 (by decide) (fun c_16 => ?_) (fun c_16 => ?_)
          · -- 94 taken
            refine lv_iload_n hx hb dMd_leave_109 rfl (lv_at hl 1 rfl) ?_
            refine lv_bipush (v := 12) hx hb dMd_leave_110 (by decide) ?_
            refine lv_icmp_ne (tgt := 125) hx hb dMd_leave_112 (by decide) (fun c_17 => ?_) (fun c_17 => ?_)
            · -- 112 taken
              refine lv_iload_n hx hb dMd_leave_125 rfl (lv_at hl 1 rfl) ?_
              refine lv_bipush (v := 10) hx hb dMd_leave_126 (by decide) ?_
              refine lv_icmp_ne (tgt := 229) hx hb dMd_leave_128 (by decide) (fun c_18 => ?_) (fun c_18 => ?_)
              · -- 128 taken
                exact absurd c_18 (by decide)
              · -- 128 not taken
                refine lv_aload_n hx hb dMd_leave_131 rfl (lv_at hl 3 rfl) ?_
                refine cm_g hx hb hts hown hK hP 22 (by decide) rfl lMd_52 rfl dMd_leave_132 ?_
                refine lv_topi (fun y_19 ey_19 => ?_)
                obtain rfl : y_19 = qTr m := ey_19.trans (by rw [qTr_zAt, qTr_zOpen])
                refine lv_if_lt (tgt := 229) hx hb dMd_leave_135 (by decide) (fun c_20 => ?_) (fun c_20 => ?_)
                · -- 135 taken
                  refine lv_iload_n hx hb dMd_leave_229 rfl (lv_at hl 1 rfl) ?_
                  refine lv_bipush (v := 14) hx hb dMd_leave_230 (by decide) ?_
                  refine lv_icmp_ne (tgt := 262) hx hb dMd_leave_232 (by decide) (fun c_21 => ?_) (fun c_21 => ?_)
                  · -- 232 taken
                    exact W.vret hx hb hr (fun t9 ht hW => ⟨⟨zAt (zOpen m d) (qEnd m d), rfl, ((mLeave_10 hk).trans (if_neg (fun q => q.1 c_20))).symm, ce_hp ht hP⟩, hS.F ht⟩) hS.2.2 dMd_leave_262
                  · -- 232 not taken
                    exact absurd c_21 (by decide)
                · -- 135 not taken
                  refine lv_iload_n hx hb dMd_leave_138 rfl (lv_at hl 0 rfl) ?_
                  refine lv_aload_n hx hb dMd_leave_139 rfl (lv_at hl 3 rfl) ?_
                  refine cm_g hx hb hts hown hK hP 22 (by decide) rfl lMd_52 rfl dMd_leave_140 ?_
                  refine lv_topi (fun y_22 ey_22 => ?_)
                  obtain rfl : y_22 = qTr m := ey_22.trans (by rw [qTr_zAt, qTr_zOpen])
                  refine cm_si (As := [.int (nI (mK m (qBlk m d))), .int (qTr m)]) (rest := []) ⟨hx, hb, hml, hown, hts⟩ (c_Md_takes l D cI cZ a _ (mK m (qBlk m d)) hK16 (qTr m)) mMd_takes lMd_85 sMd_takes (ce_hR (by omega) (by decide)) ⟨rfl, rfl⟩ hK hP rfl hl.1 rfl (Nat.le_of_ble_eq_true rfl) dMd_leave_143 ⟨Nat.le_of_ble_eq_true rfl, Nat.le_of_ble_eq_true rfl⟩ (fun r_23 er_23 => ?_)
                  obtain rfl : r_23 = bI (mTakes (mK m (qBlk m d)) (qTr m)) := er_23
                  refine lv_if_eq (tgt := 229) hx hb dMd_leave_146 (by decide) (fun c_24 => ?_) (fun c_24 => ?_)
                  · -- 146 taken
                    refine lv_iload_n hx hb dMd_leave_229 rfl (lv_at hl 1 rfl) ?_
                    refine lv_bipush (v := 14) hx hb dMd_leave_230 (by decide) ?_
                    refine lv_icmp_ne (tgt := 262) hx hb dMd_leave_232 (by decide) (fun c_25 => ?_) (fun c_25 => ?_)
                    · -- 232 taken
                      exact W.vret hx hb hr (fun t9 ht hW => ⟨⟨zAt (zOpen m d) (qEnd m d), rfl, ((mLeave_10 hk).trans (if_neg (fun q => absurd q.2 (by rw [bI0 c_24]; decide)))).symm, ce_hp ht hP⟩, hS.F ht⟩) hS.2.2 dMd_leave_262
                    · -- 232 not taken
                      exact absurd c_25 (by decide)
                  · -- 146 not taken
                    refine lv_aload_n hx hb dMd_leave_149 rfl (lv_at hl 3 rfl) ?_
                    refine lv_dup hx hb dMd_leave_150 rfl ?_
                    refine cm_g hx hb hts hown hK hP 21 (by decide) rfl lMd_88 rfl dMd_leave_151 ?_
                    refine lv_topi (fun y_26 ey_26 => ?_)
                    obtain rfl : y_26 = qCat m := ey_26.trans (by rw [qCat_zAt, qCat_zOpen])
                    refine lv_iconst (v := 1) hx hb dMd_leave_154 (by decide) ?_
                    refine lv_iadd hx hb dMd_leave_155 ?_
                    refine cm_pCat (x := (qCat m) + 1) hx hb hts hown hK hd hP hS lMd_88 dMd_leave_156 (fun H locs hP hS => ?_)
                    refine lv_aload_n hx hb dMd_leave_159 rfl (lv_at hl 3 rfl) ?_
                    refine lv_sipush (v := 1000) hx hb dMd_leave_160 (by decide) ?_
                    refine lv_bipush (v := 16) hx hb dMd_leave_163 (by decide) ?_
                    refine lv_aload_n hx hb dMd_leave_165 rfl (lv_at hl 3 rfl) ?_
                    refine cm_g hx hb hts hown hK hP 22 (by decide) rfl lMd_52 rfl dMd_leave_166 ?_
                    refine lv_topi (fun y_27 ey_27 => ?_)
                    obtain rfl : y_27 = qTr m := ey_27.trans (by rw [qTr_zCat, qTr_zAt, qTr_zOpen])
                    refine lv_imul hx hb dMd_leave_169 ?_
                    refine lv_iadd hx hb dMd_leave_170 ?_
                    refine lv_aload_n hx hb dMd_leave_171 rfl (lv_at hl 3 rfl) ?_
                    refine cm_g hx hb hts hown hK hP 22 (by decide) rfl lMd_52 rfl dMd_leave_172 ?_
                    refine lv_topi (fun y_28 ey_28 => ?_)
                    obtain rfl : y_28 = qTr m := ey_28.trans (by rw [qTr_zCat, qTr_zAt, qTr_zOpen])
                    refine lv_bipush (v := 10) hx hb dMd_leave_175 (by decide) ?_
                    refine lv_icmp_ne (tgt := 187) hx hb dMd_leave_177 (by decide) (fun c_29 => ?_) (fun c_29 => ?_)
                    · -- 177 taken
                      refine lv_iconst (v := 0) hx hb dMd_leave_187 (by decide) ?_
                      refine lv_iadd hx hb dMd_leave_188 ?_
                      refine cm_pAcc (x := (1000 + (16 * (qTr m))) + 0) hx hb hts hown hK hd hP hS lMd_78 dMd_leave_189 (fun H locs hP hS => ?_)
                      refine lv_aload_n hx hb dMd_leave_192 rfl (lv_at hl 3 rfl) ?_
                      refine lv_iconst (v := (-1)) hx hb dMd_leave_193 (by decide) ?_
                      refine cm_pTr (x := (-1)) hx hb hts hown hK hd hP hS lMd_52 dMd_leave_194 (fun H locs hP hS => ?_)
                      refine lv_aload_n hx hb dMd_leave_197 rfl (lv_at hl 3 rfl) ?_
                      refine lv_iload_n hx hb dMd_leave_198 rfl (lv_at hl 2 rfl) ?_
                      refine cm_pAt (x := (qBlk m d)) hx hb hts hown hK hd hP hS lMd_59 dMd_leave_199 (fun H locs hP hS => ?_)
                      refine lv_iload_n hx hb dMd_leave_202 rfl (lv_at hl 0 rfl) ?_
                      refine lv_bipush (v := 14) hx hb dMd_leave_203 (by decide) ?_
                      refine lv_icmp_ne (tgt := 216) hx hb dMd_leave_205 (by decide) (fun c_30 => ?_) (fun c_30 => ?_)
                      · -- 205 taken
                        refine lv_aload_n hx hb dMd_leave_216 rfl (lv_at hl 3 rfl) ?_
                        refine lv_aload_n hx hb dMd_leave_217 rfl (lv_at hl 3 rfl) ?_
                        refine cm_g hx hb hts hown hK hP 11 (by decide) rfl lMd_32 rfl dMd_leave_218 ?_
                        refine lv_aload_n hx hb dMd_leave_221 rfl (lv_at hl 3 rfl) ?_
                        refine cm_g hx hb hts hown hK hP 13 (by decide) rfl lMd_68 rfl dMd_leave_222 ?_
                        refine lv_topi (fun y_31 ey_31 => ?_)
                        obtain rfl : y_31 = nI d := ey_31.trans (by rw [qOpen_zAt, qOpen_zTr, qOpen_zAcc, qOpen_zCat, qOpen_zAt, qOpen_zOpen])
                        refine cm_lEnd (i := d) (by omega) hx hb hK hP dMd_leave_225 ?_
                        refine lv_topi (fun y_32 ey_32 => ?_)
                        obtain rfl : y_32 = nI (qEnd m d) := ey_32.trans (by rw [qEnd_zAt, qEnd_zTr, qEnd_zAcc, qEnd_zCat, qEnd_zAt, qEnd_zOpen])
                        refine cm_pAt (x := (qEnd m d)) hx hb hts hown hK hd hP hS lMd_59 dMd_leave_226 (fun H locs hP hS => ?_)
                        refine lv_iload_n hx hb dMd_leave_229 rfl (lv_at hl 1 rfl) ?_
                        refine lv_bipush (v := 14) hx hb dMd_leave_230 (by decide) ?_
                        refine lv_icmp_ne (tgt := 262) hx hb dMd_leave_232 (by decide) (fun c_33 => ?_) (fun c_33 => ?_)
                        · -- 232 taken
                          exact W.vret hx hb hr (fun t9 ht hW => ⟨⟨zAt (zAt (zTr (zAcc (zCat (zAt (zOpen m d) (qEnd m d)) ((qCat m) + 1)) ((1000 + (16 * (qTr m))) + 0)) (-1)) (qBlk m d)) (qEnd m d), rfl, by rw [mLeave_10 hk, if_pos ⟨c_20, bI1 c_24⟩, mCaught, if_neg (fun q => c_30 (congrArg nI q)), mCau, if_neg c_29]; rfl, ce_hp ht hP⟩, hS.F ht⟩) hS.2.2 dMd_leave_262
                        · -- 232 not taken
                          exact absurd c_33 (by decide)
                      · -- 205 not taken
                        refine lv_aload_n hx hb dMd_leave_208 rfl (lv_at hl 3 rfl) ?_
                        refine lv_bipush (v := 10) hx hb dMd_leave_209 (by decide) ?_
                        refine lv_bipush (v := 14) hx hb dMd_leave_211 (by decide) ?_
                        refine cm_vv (As := [.int 10, .int 14]) (rest := []) ⟨hx, hb, hml, hown, hts⟩ (c_Md_raise l D cI cZ a hd (zAt (zTr (zAcc (zCat (zAt (zOpen m d) (qEnd m d)) ((qCat m) + 1)) ((1000 + (16 * (qTr m))) + 0)) (-1)) (qBlk m d)) 10 14) mMd_raise lMd_91 iMd_raise (ce_hR (by omega) (by decide)) ⟨rfl, rfl⟩ hK hP hS rfl hl.1 rfl (Nat.le_of_ble_eq_true rfl) dMd_leave_213 ⟨Nat.le_of_ble_eq_true rfl, Nat.le_of_ble_eq_true rfl⟩ (fun m_34 H locs em_34 hP hS => ?_)
                        obtain rfl := em_34
                        have hP : va_P D vwCl (wM a cI cZ (zOrg (zNum (zTr (zAt (zTr (zAcc (zCat (zAt (zOpen m d) (qEnd m d)) ((qCat m) + 1)) ((1000 + (16 * (qTr m))) + 0)) (-1)) (qBlk m d)) 10) 14) (nI (qBlk m d)))) H := hP
                        refine lv_aload_n hx hb dMd_leave_216 rfl (lv_at hl 3 rfl) ?_
                        refine lv_aload_n hx hb dMd_leave_217 rfl (lv_at hl 3 rfl) ?_
                        refine cm_g hx hb hts hown hK hP 11 (by decide) rfl lMd_32 rfl dMd_leave_218 ?_
                        refine lv_aload_n hx hb dMd_leave_221 rfl (lv_at hl 3 rfl) ?_
                        refine cm_g hx hb hts hown hK hP 13 (by decide) rfl lMd_68 rfl dMd_leave_222 ?_
                        refine lv_topi (fun y_35 ey_35 => ?_)
                        obtain rfl : y_35 = nI d := ey_35.trans (by rw [qOpen_zOrg, qOpen_zNum, qOpen_zTr, qOpen_zAt, qOpen_zTr, qOpen_zAcc, qOpen_zCat, qOpen_zAt, qOpen_zOpen])
                        refine cm_lEnd (i := d) (by omega) hx hb hK hP dMd_leave_225 ?_
                        refine lv_topi (fun y_36 ey_36 => ?_)
                        obtain rfl : y_36 = nI (qEnd m d) := ey_36.trans (by rw [qEnd_zOrg, qEnd_zNum, qEnd_zTr, qEnd_zAt, qEnd_zTr, qEnd_zAcc, qEnd_zCat, qEnd_zAt, qEnd_zOpen])
                        refine cm_pAt (x := (qEnd m d)) hx hb hts hown hK hd hP hS lMd_59 dMd_leave_226 (fun H locs hP hS => ?_)
                        refine lv_iload_n hx hb dMd_leave_229 rfl (lv_at hl 1 rfl) ?_
                        refine lv_bipush (v := 14) hx hb dMd_leave_230 (by decide) ?_
                        refine lv_icmp_ne (tgt := 262) hx hb dMd_leave_232 (by decide) (fun c_37 => ?_) (fun c_37 => ?_)
                        · -- 232 taken
                          exact W.vret hx hb hr (fun t9 ht hW => ⟨⟨zAt (zOrg (zNum (zTr (zAt (zTr (zAcc (zCat (zAt (zOpen m d) (qEnd m d)) ((qCat m) + 1)) ((1000 + (16 * (qTr m))) + 0)) (-1)) (qBlk m d)) 10) 14) (nI (qBlk m d))) (qEnd m d), rfl, by rw [mLeave_10 hk, if_pos ⟨c_20, bI1 c_24⟩, mCaught, if_pos ((nI_eq (b := 14) (by omega) (by decide)).mp c_30), mCau, if_neg c_29]; rfl, ce_hp ht hP⟩, hS.F ht⟩) hS.2.2 dMd_leave_262
                        · -- 232 not taken
                          exact absurd c_37 (by decide)
                    · -- 177 not taken
                      refine lv_aload_n hx hb dMd_leave_180 rfl (lv_at hl 3 rfl) ?_
                      refine cm_g hx hb hts hown hK hP 23 (by decide) rfl lMd_56 rfl dMd_leave_181 ?_
                      refine lv_topi (fun y_38 ey_38 => ?_)
                      obtain rfl : y_38 = qNum m := ey_38.trans (by rw [qNum_zCat, qNum_zAt, qNum_zOpen])
                      refine lv_goto (tgt := 188) hx hb dMd_leave_184 (by decide) ?_
                      refine lv_iadd hx hb dMd_leave_188 ?_
                      refine cm_pAcc (x := (1000 + (16 * (qTr m))) + (qNum m)) hx hb hts hown hK hd hP hS lMd_78 dMd_leave_189 (fun H locs hP hS => ?_)
                      refine lv_aload_n hx hb dMd_leave_192 rfl (lv_at hl 3 rfl) ?_
                      refine lv_iconst (v := (-1)) hx hb dMd_leave_193 (by decide) ?_
                      refine cm_pTr (x := (-1)) hx hb hts hown hK hd hP hS lMd_52 dMd_leave_194 (fun H locs hP hS => ?_)
                      refine lv_aload_n hx hb dMd_leave_197 rfl (lv_at hl 3 rfl) ?_
                      refine lv_iload_n hx hb dMd_leave_198 rfl (lv_at hl 2 rfl) ?_
                      refine cm_pAt (x := (qBlk m d)) hx hb hts hown hK hd hP hS lMd_59 dMd_leave_199 (fun H locs hP hS => ?_)
                      refine lv_iload_n hx hb dMd_leave_202 rfl (lv_at hl 0 rfl) ?_
                      refine lv_bipush (v := 14) hx hb dMd_leave_203 (by decide) ?_
                      refine lv_icmp_ne (tgt := 216) hx hb dMd_leave_205 (by decide) (fun c_39 => ?_) (fun c_39 => ?_)
                      · -- 205 taken
                        refine lv_aload_n hx hb dMd_leave_216 rfl (lv_at hl 3 rfl) ?_
                        refine lv_aload_n hx hb dMd_leave_217 rfl (lv_at hl 3 rfl) ?_
                        refine cm_g hx hb hts hown hK hP 11 (by decide) rfl lMd_32 rfl dMd_leave_218 ?_
                        refine lv_aload_n hx hb dMd_leave_221 rfl (lv_at hl 3 rfl) ?_
                        refine cm_g hx hb hts hown hK hP 13 (by decide) rfl lMd_68 rfl dMd_leave_222 ?_
                        refine lv_topi (fun y_40 ey_40 => ?_)
                        obtain rfl : y_40 = nI d := ey_40.trans (by rw [qOpen_zAt, qOpen_zTr, qOpen_zAcc, qOpen_zCat, qOpen_zAt, qOpen_zOpen])
                        refine cm_lEnd (i := d) (by omega) hx hb hK hP dMd_leave_225 ?_
                        refine lv_topi (fun y_41 ey_41 => ?_)
                        obtain rfl : y_41 = nI (qEnd m d) := ey_41.trans (by rw [qEnd_zAt, qEnd_zTr, qEnd_zAcc, qEnd_zCat, qEnd_zAt, qEnd_zOpen])
                        refine cm_pAt (x := (qEnd m d)) hx hb hts hown hK hd hP hS lMd_59 dMd_leave_226 (fun H locs hP hS => ?_)
                        refine lv_iload_n hx hb dMd_leave_229 rfl (lv_at hl 1 rfl) ?_
                        refine lv_bipush (v := 14) hx hb dMd_leave_230 (by decide) ?_
                        refine lv_icmp_ne (tgt := 262) hx hb dMd_leave_232 (by decide) (fun c_42 => ?_) (fun c_42 => ?_)
                        · -- 232 taken
                          exact W.vret hx hb hr (fun t9 ht hW => ⟨⟨zAt (zAt (zTr (zAcc (zCat (zAt (zOpen m d) (qEnd m d)) ((qCat m) + 1)) ((1000 + (16 * (qTr m))) + (qNum m))) (-1)) (qBlk m d)) (qEnd m d), rfl, by rw [mLeave_10 hk, if_pos ⟨c_20, bI1 c_24⟩, mCaught, if_neg (fun q => c_39 (congrArg nI q)), mCau, if_pos c_29]; rfl, ce_hp ht hP⟩, hS.F ht⟩) hS.2.2 dMd_leave_262
                        · -- 232 not taken
                          exact absurd c_42 (by decide)
                      · -- 205 not taken
                        refine lv_aload_n hx hb dMd_leave_208 rfl (lv_at hl 3 rfl) ?_
                        refine lv_bipush (v := 10) hx hb dMd_leave_209 (by decide) ?_
                        refine lv_bipush (v := 14) hx hb dMd_leave_211 (by decide) ?_
                        refine cm_vv (As := [.int 10, .int 14]) (rest := []) ⟨hx, hb, hml, hown, hts⟩ (c_Md_raise l D cI cZ a hd (zAt (zTr (zAcc (zCat (zAt (zOpen m d) (qEnd m d)) ((qCat m) + 1)) ((1000 + (16 * (qTr m))) + (qNum m))) (-1)) (qBlk m d)) 10 14) mMd_raise lMd_91 iMd_raise (ce_hR (by omega) (by decide)) ⟨rfl, rfl⟩ hK hP hS rfl hl.1 rfl (Nat.le_of_ble_eq_true rfl) dMd_leave_213 ⟨Nat.le_of_ble_eq_true rfl, Nat.le_of_ble_eq_true rfl⟩ (fun m_43 H locs em_43 hP hS => ?_)
                        obtain rfl := em_43
                        have hP : va_P D vwCl (wM a cI cZ (zOrg (zNum (zTr (zAt (zTr (zAcc (zCat (zAt (zOpen m d) (qEnd m d)) ((qCat m) + 1)) ((1000 + (16 * (qTr m))) + (qNum m))) (-1)) (qBlk m d)) 10) 14) (nI (qBlk m d)))) H := hP
                        refine lv_aload_n hx hb dMd_leave_216 rfl (lv_at hl 3 rfl) ?_
                        refine lv_aload_n hx hb dMd_leave_217 rfl (lv_at hl 3 rfl) ?_
                        refine cm_g hx hb hts hown hK hP 11 (by decide) rfl lMd_32 rfl dMd_leave_218 ?_
                        refine lv_aload_n hx hb dMd_leave_221 rfl (lv_at hl 3 rfl) ?_
                        refine cm_g hx hb hts hown hK hP 13 (by decide) rfl lMd_68 rfl dMd_leave_222 ?_
                        refine lv_topi (fun y_44 ey_44 => ?_)
                        obtain rfl : y_44 = nI d := ey_44.trans (by rw [qOpen_zOrg, qOpen_zNum, qOpen_zTr, qOpen_zAt, qOpen_zTr, qOpen_zAcc, qOpen_zCat, qOpen_zAt, qOpen_zOpen])
                        refine cm_lEnd (i := d) (by omega) hx hb hK hP dMd_leave_225 ?_
                        refine lv_topi (fun y_45 ey_45 => ?_)
                        obtain rfl : y_45 = nI (qEnd m d) := ey_45.trans (by rw [qEnd_zOrg, qEnd_zNum, qEnd_zTr, qEnd_zAt, qEnd_zTr, qEnd_zAcc, qEnd_zCat, qEnd_zAt, qEnd_zOpen])
                        refine cm_pAt (x := (qEnd m d)) hx hb hts hown hK hd hP hS lMd_59 dMd_leave_226 (fun H locs hP hS => ?_)
                        refine lv_iload_n hx hb dMd_leave_229 rfl (lv_at hl 1 rfl) ?_
                        refine lv_bipush (v := 14) hx hb dMd_leave_230 (by decide) ?_
                        refine lv_icmp_ne (tgt := 262) hx hb dMd_leave_232 (by decide) (fun c_46 => ?_) (fun c_46 => ?_)
                        · -- 232 taken
                          exact W.vret hx hb hr (fun t9 ht hW => ⟨⟨zAt (zOrg (zNum (zTr (zAt (zTr (zAcc (zCat (zAt (zOpen m d) (qEnd m d)) ((qCat m) + 1)) ((1000 + (16 * (qTr m))) + (qNum m))) (-1)) (qBlk m d)) 10) 14) (nI (qBlk m d))) (qEnd m d), rfl, by rw [mLeave_10 hk, if_pos ⟨c_20, bI1 c_24⟩, mCaught, if_pos ((nI_eq (b := 14) (by omega) (by decide)).mp c_39), mCau, if_pos c_29]; rfl, ce_hp ht hP⟩, hS.F ht⟩) hS.2.2 dMd_leave_262
                        · -- 232 not taken
                          exact absurd c_46 (by decide)
            · -- 112 not taken
              exact absurd c_17 (by decide)
          · -- 94 not taken
            exact absurd c_16 (by decide)
        · -- 79 not taken
          exact absurd c_15 (by decide)
      · -- 63 not taken
        exact absurd c_14 (by decide)
  · -- op 11
    refine lv_topi (fun y_47 ey_47 => ?_)
    obtain rfl : y_47 = nI 11 := ey_47.trans (congrArg nI hk)
    refine lv_istore_n (lv' := [(2, .int (nI 11)), (1, .int (nI (qBlk m d))), (0, .ref (a 0))]) hx hb dMd_leave_34 rfl hl (by decide) rfl (fun ls hl => ?_)
    refine lv_aload_n hx hb dMd_leave_35 rfl (lv_at hl 2 rfl) ?_
    refine lv_iload_n hx hb dMd_leave_36 rfl (lv_at hl 1 rfl) ?_
    refine cm_ri (As := [.int (nI (qBlk m d))]) (rest := []) ⟨hx, hb, hml, hown, hts⟩ (c_Md_kOf l D cI cZ a (zOpen m d) (qBlk m d) hp hi h8) mMd_kOf lMd_71 iMd_kOf (ce_hR (by omega) (by decide)) ⟨rfl, rfl⟩ hK hP rfl hl.1 rfl (Nat.le_of_ble_eq_true rfl) dMd_leave_37 ⟨Nat.le_of_ble_eq_true rfl, Nat.le_of_ble_eq_true rfl⟩ (fun r_48 er_48 => ?_)
    obtain rfl : r_48 = nI (mK m (qBlk m d)) := er_48
    refine lv_istore_n (lv' := [(3, .int (nI (mK m (qBlk m d)))), (2, .int (nI 11)), (1, .int (nI (qBlk m d))), (0, .ref (a 0))]) hx hb dMd_leave_40 rfl hl (by decide) rfl (fun ls hl => ?_)
    refine lv_aload_n hx hb dMd_leave_41 rfl (lv_at hl 3 rfl) ?_
    refine lv_aload_n hx hb dMd_leave_42 rfl (lv_at hl 3 rfl) ?_
    refine cm_g hx hb hts hown hK hP 11 (by decide) rfl lMd_32 rfl dMd_leave_43 ?_
    refine lv_aload_n hx hb dMd_leave_46 rfl (lv_at hl 3 rfl) ?_
    refine cm_g hx hb hts hown hK hP 13 (by decide) rfl lMd_68 rfl dMd_leave_47 ?_
    refine lv_topi (fun y_49 ey_49 => ?_)
    obtain rfl : y_49 = nI d := ey_49.trans (by rw [qOpen_zOpen])
    refine cm_lEnd (i := d) (by omega) hx hb hK hP dMd_leave_50 ?_
    refine lv_topi (fun y_50 ey_50 => ?_)
    obtain rfl : y_50 = nI (qEnd m d) := ey_50.trans (by rw [qEnd_zOpen])
    refine cm_pAt (x := (qEnd m d)) hx hb hts hown hK hd hP hS lMd_59 dMd_leave_51 (fun H locs hP hS => ?_)
    refine lv_iload_n hx hb dMd_leave_54 rfl (lv_at hl 1 rfl) ?_
    refine lv_bipush (v := 11) hx hb dMd_leave_55 (by decide) ?_
    refine lv_icmp_eq (tgt := 66) hx hb dMd_leave_57 (by decide) (fun c_51 => ?_) (fun c_51 => ?_)
    · -- 57 taken
      refine lv_aload_n hx hb dMd_leave_66 rfl (lv_at hl 3 rfl) ?_
      refine lv_dup hx hb dMd_leave_67 rfl ?_
      refine cm_g hx hb hts hown hK hP 20 (by decide) rfl lMd_75 rfl dMd_leave_68 ?_
      refine lv_topi (fun y_52 ey_52 => ?_)
      obtain rfl : y_52 = qFin m := ey_52.trans (by rw [qFin_zAt, qFin_zOpen])
      refine lv_iconst (v := 1) hx hb dMd_leave_71 (by decide) ?_
      refine lv_iadd hx hb dMd_leave_72 ?_
      refine cm_pFin (x := (qFin m) + 1) hx hb hts hown hK hd hP hS lMd_75 dMd_leave_73 (fun H locs hP hS => ?_)
      refine lv_iload_n hx hb dMd_leave_76 rfl (lv_at hl 1 rfl) ?_
      refine lv_bipush (v := 11) hx hb dMd_leave_77 (by decide) ?_
      refine lv_icmp_ne (tgt := 91) hx hb dMd_leave_79 (by decide) (fun c_53 => ?_) (fun c_53 => ?_)
      · -- 79 taken
        exact absurd c_53 (by decide)
      · -- 79 not taken
        refine lv_aload_n hx hb dMd_leave_82 rfl (lv_at hl 3 rfl) ?_
        refine lv_aload_n hx hb dMd_leave_83 rfl (lv_at hl 3 rfl) ?_
        refine cm_g hx hb hts hown hK hP 18 (by decide) rfl lMd_78 rfl dMd_leave_84 ?_
        refine lv_topi (fun y_54 ey_54 => ?_)
        obtain rfl : y_54 = qAcc m := ey_54.trans (by rw [qAcc_zFin, qAcc_zAt, qAcc_zOpen])
        refine lv_ineg hx hb dMd_leave_87 ?_
        refine cm_pAcc (x := -(qAcc m)) hx hb hts hown hK hd hP hS lMd_78 dMd_leave_88 (fun H locs hP hS => ?_)
        refine lv_iload_n hx hb dMd_leave_91 rfl (lv_at hl 1 rfl) ?_
        refine lv_bipush (v := 13) hx hb dMd_leave_92 (by decide) ?_
        refine lv_icmp_ne (tgt := 109) hx hb dMd_leave_94 (by decide) (fun c_55 => ?_) (fun c_55 => ?_)
        · -- 94 taken
          refine lv_iload_n hx hb dMd_leave_109 rfl (lv_at hl 1 rfl) ?_
          refine lv_bipush (v := 12) hx hb dMd_leave_110 (by decide) ?_
          refine lv_icmp_ne (tgt := 125) hx hb dMd_leave_112 (by decide) (fun c_56 => ?_) (fun c_56 => ?_)
          · -- 112 taken
            refine lv_iload_n hx hb dMd_leave_125 rfl (lv_at hl 1 rfl) ?_
            refine lv_bipush (v := 10) hx hb dMd_leave_126 (by decide) ?_
            refine lv_icmp_ne (tgt := 229) hx hb dMd_leave_128 (by decide) (fun c_57 => ?_) (fun c_57 => ?_)
            · -- 128 taken
              refine lv_iload_n hx hb dMd_leave_229 rfl (lv_at hl 1 rfl) ?_
              refine lv_bipush (v := 14) hx hb dMd_leave_230 (by decide) ?_
              refine lv_icmp_ne (tgt := 262) hx hb dMd_leave_232 (by decide) (fun c_58 => ?_) (fun c_58 => ?_)
              · -- 232 taken
                exact W.vret hx hb hr (fun t9 ht hW => ⟨⟨zAcc (zFin (zAt (zOpen m d) (qEnd m d)) ((qFin m) + 1)) (-(qAcc m)), rfl, (mLeave_11 hk).symm, ce_hp ht hP⟩, hS.F ht⟩) hS.2.2 dMd_leave_262
              · -- 232 not taken
                exact absurd c_58 (by decide)
            · -- 128 not taken
              exact absurd c_57 (by decide)
          · -- 112 not taken
            exact absurd c_56 (by decide)
        · -- 94 not taken
          exact absurd c_55 (by decide)
    · -- 57 not taken
      exact absurd c_51 (by decide)
  · -- op 12
    refine lv_topi (fun y_59 ey_59 => ?_)
    obtain rfl : y_59 = nI 12 := ey_59.trans (congrArg nI hk)
    refine lv_istore_n (lv' := [(2, .int (nI 12)), (1, .int (nI (qBlk m d))), (0, .ref (a 0))]) hx hb dMd_leave_34 rfl hl (by decide) rfl (fun ls hl => ?_)
    refine lv_aload_n hx hb dMd_leave_35 rfl (lv_at hl 2 rfl) ?_
    refine lv_iload_n hx hb dMd_leave_36 rfl (lv_at hl 1 rfl) ?_
    refine cm_ri (As := [.int (nI (qBlk m d))]) (rest := []) ⟨hx, hb, hml, hown, hts⟩ (c_Md_kOf l D cI cZ a (zOpen m d) (qBlk m d) hp hi h8) mMd_kOf lMd_71 iMd_kOf (ce_hR (by omega) (by decide)) ⟨rfl, rfl⟩ hK hP rfl hl.1 rfl (Nat.le_of_ble_eq_true rfl) dMd_leave_37 ⟨Nat.le_of_ble_eq_true rfl, Nat.le_of_ble_eq_true rfl⟩ (fun r_60 er_60 => ?_)
    obtain rfl : r_60 = nI (mK m (qBlk m d)) := er_60
    refine lv_istore_n (lv' := [(3, .int (nI (mK m (qBlk m d)))), (2, .int (nI 12)), (1, .int (nI (qBlk m d))), (0, .ref (a 0))]) hx hb dMd_leave_40 rfl hl (by decide) rfl (fun ls hl => ?_)
    refine lv_aload_n hx hb dMd_leave_41 rfl (lv_at hl 3 rfl) ?_
    refine lv_aload_n hx hb dMd_leave_42 rfl (lv_at hl 3 rfl) ?_
    refine cm_g hx hb hts hown hK hP 11 (by decide) rfl lMd_32 rfl dMd_leave_43 ?_
    refine lv_aload_n hx hb dMd_leave_46 rfl (lv_at hl 3 rfl) ?_
    refine cm_g hx hb hts hown hK hP 13 (by decide) rfl lMd_68 rfl dMd_leave_47 ?_
    refine lv_topi (fun y_61 ey_61 => ?_)
    obtain rfl : y_61 = nI d := ey_61.trans (by rw [qOpen_zOpen])
    refine cm_lEnd (i := d) (by omega) hx hb hK hP dMd_leave_50 ?_
    refine lv_topi (fun y_62 ey_62 => ?_)
    obtain rfl : y_62 = nI (qEnd m d) := ey_62.trans (by rw [qEnd_zOpen])
    refine cm_pAt (x := (qEnd m d)) hx hb hts hown hK hd hP hS lMd_59 dMd_leave_51 (fun H locs hP hS => ?_)
    refine lv_iload_n hx hb dMd_leave_54 rfl (lv_at hl 1 rfl) ?_
    refine lv_bipush (v := 11) hx hb dMd_leave_55 (by decide) ?_
    refine lv_icmp_eq (tgt := 66) hx hb dMd_leave_57 (by decide) (fun c_63 => ?_) (fun c_63 => ?_)
    · -- 57 taken
      exact absurd c_63 (by decide)
    · -- 57 not taken
      refine lv_iload_n hx hb dMd_leave_60 rfl (lv_at hl 1 rfl) ?_
      refine lv_bipush (v := 12) hx hb dMd_leave_61 (by decide) ?_
      refine lv_icmp_ne (tgt := 76) hx hb dMd_leave_63 (by decide) (fun c_64 => ?_) (fun c_64 => ?_)
      · -- 63 taken
        exact absurd c_64 (by decide)
      · -- 63 not taken
        refine lv_aload_n hx hb dMd_leave_66 rfl (lv_at hl 3 rfl) ?_
        refine lv_dup hx hb dMd_leave_67 rfl ?_
        refine cm_g hx hb hts hown hK hP 20 (by decide) rfl lMd_75 rfl dMd_leave_68 ?_
        refine lv_topi (fun y_65 ey_65 => ?_)
        obtain rfl : y_65 = qFin m := ey_65.trans (by rw [qFin_zAt, qFin_zOpen])
        refine lv_iconst (v := 1) hx hb dMd_leave_71 (by decide) ?_
        refine lv_iadd hx hb dMd_leave_72 ?_
        refine cm_pFin (x := (qFin m) + 1) hx hb hts hown hK hd hP hS lMd_75 dMd_leave_73 (fun H locs hP hS => ?_)
        refine lv_iload_n hx hb dMd_leave_76 rfl (lv_at hl 1 rfl) ?_
        refine lv_bipush (v := 11) hx hb dMd_leave_77 (by decide) ?_
        refine lv_icmp_ne (tgt := 91) hx hb dMd_leave_79 (by decide) (fun c_66 => ?_) (fun c_66 => ?_)
        · -- 79 taken
          refine lv_iload_n hx hb dMd_leave_91 rfl (lv_at hl 1 rfl) ?_
          refine lv_bipush (v := 13) hx hb dMd_leave_92 (by decide) ?_
          refine lv_icmp_ne (tgt := 109) hx hb dMd_leave_94 (by decide) (fun c_67 => ?_) (fun c_67 => ?_)
          · -- 94 taken
            refine lv_iload_n hx hb dMd_leave_109 rfl (lv_at hl 1 rfl) ?_
            refine lv_bipush (v := 12) hx hb dMd_leave_110 (by decide) ?_
            refine lv_icmp_ne (tgt := 125) hx hb dMd_leave_112 (by decide) (fun c_68 => ?_) (fun c_68 => ?_)
            · -- 112 taken
              exact absurd c_68 (by decide)
            · -- 112 not taken
              refine lv_aload_n hx hb dMd_leave_115 rfl (lv_at hl 3 rfl) ?_
              refine lv_iconst (v := (-1)) hx hb dMd_leave_116 (by decide) ?_
              refine cm_pTr (x := (-1)) hx hb hts hown hK hd hP hS lMd_52 dMd_leave_117 (fun H locs hP hS => ?_)
              refine lv_aload_n hx hb dMd_leave_120 rfl (lv_at hl 3 rfl) ?_
              refine lv_iconst (v := 0) hx hb dMd_leave_121 (by decide) ?_
              refine cm_pStop (x := false) hx hb hts hown hK hd hP hS lMd_81 dMd_leave_122 (fun H locs hP hS => ?_)
              refine lv_iload_n hx hb dMd_leave_125 rfl (lv_at hl 1 rfl) ?_
              refine lv_bipush (v := 10) hx hb dMd_leave_126 (by decide) ?_
              refine lv_icmp_ne (tgt := 229) hx hb dMd_leave_128 (by decide) (fun c_69 => ?_) (fun c_69 => ?_)
              · -- 128 taken
                refine lv_iload_n hx hb dMd_leave_229 rfl (lv_at hl 1 rfl) ?_
                refine lv_bipush (v := 14) hx hb dMd_leave_230 (by decide) ?_
                refine lv_icmp_ne (tgt := 262) hx hb dMd_leave_232 (by decide) (fun c_70 => ?_) (fun c_70 => ?_)
                · -- 232 taken
                  exact W.vret hx hb hr (fun t9 ht hW => ⟨⟨zStop (zTr (zFin (zAt (zOpen m d) (qEnd m d)) ((qFin m) + 1)) (-1)) false, rfl, (mLeave_12 hk).symm, ce_hp ht hP⟩, hS.F ht⟩) hS.2.2 dMd_leave_262
                · -- 232 not taken
                  exact absurd c_70 (by decide)
              · -- 128 not taken
                exact absurd c_69 (by decide)
          · -- 94 not taken
            exact absurd c_67 (by decide)
        · -- 79 not taken
          exact absurd c_66 (by decide)
  · -- op 13
    refine lv_topi (fun y_71 ey_71 => ?_)
    obtain rfl : y_71 = nI 13 := ey_71.trans (congrArg nI hk)
    refine lv_istore_n (lv' := [(2, .int (nI 13)), (1, .int (nI (qBlk m d))), (0, .ref (a 0))]) hx hb dMd_leave_34 rfl hl (by decide) rfl (fun ls hl => ?_)
    refine lv_aload_n hx hb dMd_leave_35 rfl (lv_at hl 2 rfl) ?_
    refine lv_iload_n hx hb dMd_leave_36 rfl (lv_at hl 1 rfl) ?_
    refine cm_ri (As := [.int (nI (qBlk m d))]) (rest := []) ⟨hx, hb, hml, hown, hts⟩ (c_Md_kOf l D cI cZ a (zOpen m d) (qBlk m d) hp hi h8) mMd_kOf lMd_71 iMd_kOf (ce_hR (by omega) (by decide)) ⟨rfl, rfl⟩ hK hP rfl hl.1 rfl (Nat.le_of_ble_eq_true rfl) dMd_leave_37 ⟨Nat.le_of_ble_eq_true rfl, Nat.le_of_ble_eq_true rfl⟩ (fun r_72 er_72 => ?_)
    obtain rfl : r_72 = nI (mK m (qBlk m d)) := er_72
    refine lv_istore_n (lv' := [(3, .int (nI (mK m (qBlk m d)))), (2, .int (nI 13)), (1, .int (nI (qBlk m d))), (0, .ref (a 0))]) hx hb dMd_leave_40 rfl hl (by decide) rfl (fun ls hl => ?_)
    refine lv_aload_n hx hb dMd_leave_41 rfl (lv_at hl 3 rfl) ?_
    refine lv_aload_n hx hb dMd_leave_42 rfl (lv_at hl 3 rfl) ?_
    refine cm_g hx hb hts hown hK hP 11 (by decide) rfl lMd_32 rfl dMd_leave_43 ?_
    refine lv_aload_n hx hb dMd_leave_46 rfl (lv_at hl 3 rfl) ?_
    refine cm_g hx hb hts hown hK hP 13 (by decide) rfl lMd_68 rfl dMd_leave_47 ?_
    refine lv_topi (fun y_73 ey_73 => ?_)
    obtain rfl : y_73 = nI d := ey_73.trans (by rw [qOpen_zOpen])
    refine cm_lEnd (i := d) (by omega) hx hb hK hP dMd_leave_50 ?_
    refine lv_topi (fun y_74 ey_74 => ?_)
    obtain rfl : y_74 = nI (qEnd m d) := ey_74.trans (by rw [qEnd_zOpen])
    refine cm_pAt (x := (qEnd m d)) hx hb hts hown hK hd hP hS lMd_59 dMd_leave_51 (fun H locs hP hS => ?_)
    refine lv_iload_n hx hb dMd_leave_54 rfl (lv_at hl 1 rfl) ?_
    refine lv_bipush (v := 11) hx hb dMd_leave_55 (by decide) ?_
    refine lv_icmp_eq (tgt := 66) hx hb dMd_leave_57 (by decide) (fun c_75 => ?_) (fun c_75 => ?_)
    · -- 57 taken
      exact absurd c_75 (by decide)
    · -- 57 not taken
      refine lv_iload_n hx hb dMd_leave_60 rfl (lv_at hl 1 rfl) ?_
      refine lv_bipush (v := 12) hx hb dMd_leave_61 (by decide) ?_
      refine lv_icmp_ne (tgt := 76) hx hb dMd_leave_63 (by decide) (fun c_76 => ?_) (fun c_76 => ?_)
      · -- 63 taken
        refine lv_iload_n hx hb dMd_leave_76 rfl (lv_at hl 1 rfl) ?_
        refine lv_bipush (v := 11) hx hb dMd_leave_77 (by decide) ?_
        refine lv_icmp_ne (tgt := 91) hx hb dMd_leave_79 (by decide) (fun c_77 => ?_) (fun c_77 => ?_)
        · -- 79 taken
          refine lv_iload_n hx hb dMd_leave_91 rfl (lv_at hl 1 rfl) ?_
          refine lv_bipush (v := 13) hx hb dMd_leave_92 (by decide) ?_
          refine lv_icmp_ne (tgt := 109) hx hb dMd_leave_94 (by decide) (fun c_78 => ?_) (fun c_78 => ?_)
          · -- 94 taken
            exact absurd c_78 (by decide)
          · -- 94 not taken
            refine lv_aload_n hx hb dMd_leave_97 rfl (lv_at hl 3 rfl) ?_
            refine cm_g hx hb hts hown hK hP 15 (by decide) rfl lMd_41 rfl dMd_leave_98 ?_
            refine lv_iload_n hx hb dMd_leave_101 rfl (lv_at hl 0 rfl) ?_
            refine lv_iconst (v := 2) hx hb dMd_leave_102 (by decide) ?_
            refine lv_irem hx hb dMd_leave_103 (by decide) ?_
            refine lv_topi (fun y_79 ey_79 => ?_)
            obtain rfl : y_79 = nI (mK m (qBlk m d) % 2) := ey_79.trans (pk_rem (d := 2) (by omega) (by decide) (by decide))
            refine lv_dup2_11 hx hb dMd_leave_104 rfl rfl ?_
            refine cm_lHeld (i := (mK m (qBlk m d) % 2)) (by omega) hx hb hK hP dMd_leave_105 ?_
            refine lv_topi (fun y_80 ey_80 => ?_)
            obtain rfl : y_80 = qHeld m (mK m (qBlk m d) % 2) := ey_80.trans (by rw [qHeld_zAt, qHeld_zOpen])
            refine lv_iconst (v := 1) hx hb dMd_leave_106 (by decide) ?_
            refine lv_isub hx hb dMd_leave_107 ?_
            refine cm_sHeld (i := (mK m (qBlk m d) % 2)) (x := (qHeld m (mK m (qBlk m d) % 2)) - 1) (by omega) hx hb hK hd hP hS dMd_leave_108 (fun H locs hP hS => ?_)
            rw [qHeld_zAt, qHeld_zOpen] at hP
            refine lv_iload_n hx hb dMd_leave_109 rfl (lv_at hl 1 rfl) ?_
            refine lv_bipush (v := 12) hx hb dMd_leave_110 (by decide) ?_
            refine lv_icmp_ne (tgt := 125) hx hb dMd_leave_112 (by decide) (fun c_81 => ?_) (fun c_81 => ?_)
            · -- 112 taken
              refine lv_iload_n hx hb dMd_leave_125 rfl (lv_at hl 1 rfl) ?_
              refine lv_bipush (v := 10) hx hb dMd_leave_126 (by decide) ?_
              refine lv_icmp_ne (tgt := 229) hx hb dMd_leave_128 (by decide) (fun c_82 => ?_) (fun c_82 => ?_)
              · -- 128 taken
                refine lv_iload_n hx hb dMd_leave_229 rfl (lv_at hl 1 rfl) ?_
                refine lv_bipush (v := 14) hx hb dMd_leave_230 (by decide) ?_
                refine lv_icmp_ne (tgt := 262) hx hb dMd_leave_232 (by decide) (fun c_83 => ?_) (fun c_83 => ?_)
                · -- 232 taken
                  exact W.vret hx hb hr (fun t9 ht hW => ⟨⟨zHeld (zAt (zOpen m d) (qEnd m d)) (upd (qHeld m) (mK m (qBlk m d) % 2) ((qHeld m (mK m (qBlk m d) % 2)) - 1)), rfl, (mLeave_13 hk).symm, ce_hp ht hP⟩, hS.F ht⟩) hS.2.2 dMd_leave_262
                · -- 232 not taken
                  exact absurd c_83 (by decide)
              · -- 128 not taken
                exact absurd c_82 (by decide)
            · -- 112 not taken
              exact absurd c_81 (by decide)
        · -- 79 not taken
          exact absurd c_77 (by decide)
      · -- 63 not taken
        exact absurd c_76 (by decide)
  · -- op 14
    refine lv_topi (fun y_84 ey_84 => ?_)
    obtain rfl : y_84 = nI 14 := ey_84.trans (congrArg nI hk)
    refine lv_istore_n (lv' := [(2, .int (nI 14)), (1, .int (nI (qBlk m d))), (0, .ref (a 0))]) hx hb dMd_leave_34 rfl hl (by decide) rfl (fun ls hl => ?_)
    refine lv_aload_n hx hb dMd_leave_35 rfl (lv_at hl 2 rfl) ?_
    refine lv_iload_n hx hb dMd_leave_36 rfl (lv_at hl 1 rfl) ?_
    refine cm_ri (As := [.int (nI (qBlk m d))]) (rest := []) ⟨hx, hb, hml, hown, hts⟩ (c_Md_kOf l D cI cZ a (zOpen m d) (qBlk m d) hp hi h8) mMd_kOf lMd_71 iMd_kOf (ce_hR (by omega) (by decide)) ⟨rfl, rfl⟩ hK hP rfl hl.1 rfl (Nat.le_of_ble_eq_true rfl) dMd_leave_37 ⟨Nat.le_of_ble_eq_true rfl, Nat.le_of_ble_eq_true rfl⟩ (fun r_85 er_85 => ?_)
    obtain rfl : r_85 = nI (mK m (qBlk m d)) := er_85
    refine lv_istore_n (lv' := [(3, .int (nI (mK m (qBlk m d)))), (2, .int (nI 14)), (1, .int (nI (qBlk m d))), (0, .ref (a 0))]) hx hb dMd_leave_40 rfl hl (by decide) rfl (fun ls hl => ?_)
    refine lv_aload_n hx hb dMd_leave_41 rfl (lv_at hl 3 rfl) ?_
    refine lv_aload_n hx hb dMd_leave_42 rfl (lv_at hl 3 rfl) ?_
    refine cm_g hx hb hts hown hK hP 11 (by decide) rfl lMd_32 rfl dMd_leave_43 ?_
    refine lv_aload_n hx hb dMd_leave_46 rfl (lv_at hl 3 rfl) ?_
    refine cm_g hx hb hts hown hK hP 13 (by decide) rfl lMd_68 rfl dMd_leave_47 ?_
    refine lv_topi (fun y_86 ey_86 => ?_)
    obtain rfl : y_86 = nI d := ey_86.trans (by rw [qOpen_zOpen])
    refine cm_lEnd (i := d) (by omega) hx hb hK hP dMd_leave_50 ?_
    refine lv_topi (fun y_87 ey_87 => ?_)
    obtain rfl : y_87 = nI (qEnd m d) := ey_87.trans (by rw [qEnd_zOpen])
    refine cm_pAt (x := (qEnd m d)) hx hb hts hown hK hd hP hS lMd_59 dMd_leave_51 (fun H locs hP hS => ?_)
    refine lv_iload_n hx hb dMd_leave_54 rfl (lv_at hl 1 rfl) ?_
    refine lv_bipush (v := 11) hx hb dMd_leave_55 (by decide) ?_
    refine lv_icmp_eq (tgt := 66) hx hb dMd_leave_57 (by decide) (fun c_88 => ?_) (fun c_88 => ?_)
    · -- 57 taken
      exact absurd c_88 (by decide)
    · -- 57 not taken
      refine lv_iload_n hx hb dMd_leave_60 rfl (lv_at hl 1 rfl) ?_
      refine lv_bipush (v := 12) hx hb dMd_leave_61 (by decide) ?_
      refine lv_icmp_ne (tgt := 76) hx hb dMd_leave_63 (by decide) (fun c_89 => ?_) (fun c_89 => ?_)
      · -- 63 taken
        refine lv_iload_n hx hb dMd_leave_76 rfl (lv_at hl 1 rfl) ?_
        refine lv_bipush (v := 11) hx hb dMd_leave_77 (by decide) ?_
        refine lv_icmp_ne (tgt := 91) hx hb dMd_leave_79 (by decide) (fun c_90 => ?_) (fun c_90 => ?_)
        · -- 79 taken
          refine lv_iload_n hx hb dMd_leave_91 rfl (lv_at hl 1 rfl) ?_
          refine lv_bipush (v := 13) hx hb dMd_leave_92 (by decide) ?_
          refine lv_icmp_ne (tgt := 109) hx hb dMd_leave_94 (by decide) (fun c_91 => ?_) (fun c_91 => ?_)
          · -- 94 taken
            refine lv_iload_n hx hb dMd_leave_109 rfl (lv_at hl 1 rfl) ?_
            refine lv_bipush (v := 12) hx hb dMd_leave_110 (by decide) ?_
            refine lv_icmp_ne (tgt := 125) hx hb dMd_leave_112 (by decide) (fun c_92 => ?_) (fun c_92 => ?_)
            · -- 112 taken
              refine lv_iload_n hx hb dMd_leave_125 rfl (lv_at hl 1 rfl) ?_
              refine lv_bipush (v := 10) hx hb dMd_leave_126 (by decide) ?_
              refine lv_icmp_ne (tgt := 229) hx hb dMd_leave_128 (by decide) (fun c_93 => ?_) (fun c_93 => ?_)
              · -- 128 taken
                refine lv_iload_n hx hb dMd_leave_229 rfl (lv_at hl 1 rfl) ?_
                refine lv_bipush (v := 14) hx hb dMd_leave_230 (by decide) ?_
                refine lv_icmp_ne (tgt := 262) hx hb dMd_leave_232 (by decide) (fun c_94 => ?_) (fun c_94 => ?_)
                · -- 232 taken
                  exact absurd c_94 (by decide)
                · -- 232 not taken
                  refine lv_aload_n hx hb dMd_leave_235 rfl (lv_at hl 3 rfl) ?_
                  refine cm_g hx hb hts hown hK hP 22 (by decide) rfl lMd_52 rfl dMd_leave_236 ?_
                  refine lv_topi (fun y_95 ey_95 => ?_)
                  obtain rfl : y_95 = qTr m := ey_95.trans (by rw [qTr_zAt, qTr_zOpen])
                  refine lv_if_ge (tgt := 262) hx hb dMd_leave_239 (by decide) (fun c_96 => ?_) (fun c_96 => ?_)
                  · -- 239 taken
                    exact W.vret hx hb hr (fun t9 ht hW => ⟨⟨zAt (zOpen m d) (qEnd m d), rfl, ((mLeave_14 hk).trans (if_neg (fun q => absurd q.1 (Int32.not_lt.mpr c_96)))).symm, ce_hp ht hP⟩, hS.F ht⟩) hS.2.2 dMd_leave_262
                  · -- 239 not taken
                    refine lv_aload_n hx hb dMd_leave_242 rfl (lv_at hl 3 rfl) ?_
                    refine cm_g hx hb hts hown hK hP 26 (by decide) rfl lMd_81 rfl dMd_leave_243 ?_
                    refine lv_topi (fun y_97 ey_97 => ?_)
                    obtain rfl : y_97 = bI (qStop m) := ey_97.trans (by rw [qStop_zAt, qStop_zOpen])
                    refine lv_if_ne (tgt := 262) hx hb dMd_leave_246 (by decide) (fun c_98 => ?_) (fun c_98 => ?_)
                    · -- 246 taken
                      exact W.vret hx hb hr (fun t9 ht hW => ⟨⟨zAt (zOpen m d) (qEnd m d), rfl, ((mLeave_14 hk).trans (if_neg (fun q => c_98 (congrArg bI q.2.1)))).symm, ce_hp ht hP⟩, hS.F ht⟩) hS.2.2 dMd_leave_262
                    · -- 246 not taken
                      refine lv_aload_n hx hb dMd_leave_249 rfl (lv_at hl 3 rfl) ?_
                      refine cm_g hx hb hts hown hK hP 12 (by decide) rfl lMd_35 rfl dMd_leave_250 ?_
                      refine lv_aload_n hx hb dMd_leave_253 rfl (lv_at hl 3 rfl) ?_
                      refine cm_g hx hb hts hown hK hP 13 (by decide) rfl lMd_68 rfl dMd_leave_254 ?_
                      refine lv_topi (fun y_99 ey_99 => ?_)
                      obtain rfl : y_99 = nI d := ey_99.trans (by rw [qOpen_zAt, qOpen_zOpen])
                      refine cm_lLeft (i := d) (by omega) hx hb hK hP dMd_leave_257 ?_
                      refine lv_topi (fun y_100 ey_100 => ?_)
                      obtain rfl : y_100 = nI (qLeft m d) := ey_100.trans (by rw [qLeft_zAt, qLeft_zOpen])
                      refine lv_iconst (v := 1) hx hb dMd_leave_258 (by decide) ?_
                      refine lv_icmp_gt (tgt := 263) hx hb dMd_leave_259 (by decide) (fun c_101 => ?_) (fun c_101 => ?_)
                      · -- 259 taken
                        have hl1 : 1 ≤ qLeft m d := Nat.le_of_lt ((nI_ltI (a := 1) (by decide) (by omega)).mp c_101)
                        refine lv_aload_n hx hb dMd_leave_263 rfl (lv_at hl 3 rfl) ?_
                        refine cm_g hx hb hts hown hK hP 12 (by decide) rfl lMd_35 rfl dMd_leave_264 ?_
                        refine lv_aload_n hx hb dMd_leave_267 rfl (lv_at hl 3 rfl) ?_
                        refine cm_g hx hb hts hown hK hP 13 (by decide) rfl lMd_68 rfl dMd_leave_268 ?_
                        refine lv_topi (fun y_102 ey_102 => ?_)
                        obtain rfl : y_102 = nI d := ey_102.trans (by rw [qOpen_zAt, qOpen_zOpen])
                        refine lv_dup2_11 hx hb dMd_leave_271 rfl rfl ?_
                        refine cm_lLeft (i := d) (by omega) hx hb hK hP dMd_leave_272 ?_
                        refine lv_topi (fun y_103 ey_103 => ?_)
                        obtain rfl : y_103 = nI (qLeft m d) := ey_103.trans (by rw [qLeft_zAt, qLeft_zOpen])
                        refine lv_iconst (v := 1) hx hb dMd_leave_273 (by decide) ?_
                        refine lv_isub hx hb dMd_leave_274 ?_
                        refine lv_topi (fun y_104 ey_104 => ?_)
                        obtain rfl : y_104 = nI (qLeft m d - 1) := ey_104.trans (pk_sub (b := 1) hl1)
                        refine cm_sLeft (i := d) (x := (qLeft m d - 1)) (by omega) hx hb hK hd hP hS dMd_leave_275 (fun H locs hP hS => ?_)
                        rw [qLeft_zAt, qLeft_zOpen] at hP
                        refine lv_aload_n hx hb dMd_leave_276 rfl (lv_at hl 3 rfl) ?_
                        refine lv_iload_n hx hb dMd_leave_277 rfl (lv_at hl 2 rfl) ?_
                        refine lv_iconst (v := 1) hx hb dMd_leave_278 (by decide) ?_
                        refine lv_iadd hx hb dMd_leave_279 ?_
                        refine lv_topi (fun y_105 ey_105 => ?_)
                        obtain rfl : y_105 = nI (qBlk m d + 1) := ey_105.trans (nI_1 _)
                        refine cm_pAt (x := (qBlk m d + 1)) hx hb hts hown hK hd hP hS lMd_59 dMd_leave_280 (fun H locs hP hS => ?_)
                        refine lv_aload_n hx hb dMd_leave_283 rfl (lv_at hl 3 rfl) ?_
                        refine lv_dup hx hb dMd_leave_284 rfl ?_
                        refine cm_g hx hb hts hown hK hP 13 (by decide) rfl lMd_68 rfl dMd_leave_285 ?_
                        refine lv_topi (fun y_106 ey_106 => ?_)
                        obtain rfl : y_106 = nI d := ey_106.trans (by rw [qOpen_zAt, qOpen_zLeft, qOpen_zAt, qOpen_zOpen])
                        refine lv_iconst (v := 1) hx hb dMd_leave_288 (by decide) ?_
                        refine lv_iadd hx hb dMd_leave_289 ?_
                        refine lv_topi (fun y_107 ey_107 => ?_)
                        obtain rfl : y_107 = nI (d + 1) := ey_107.trans (nI_1 d)
                        refine cm_pOpen (x := (d + 1)) hx hb hts hown hK hd hP hS lMd_68 dMd_leave_290 (fun H locs hP hS => ?_)
                        exact W.vret hx hb hr (fun t9 ht hW => ⟨⟨zOpen (zAt (zLeft (zAt (zOpen m d) (qEnd m d)) (va_up (qLeft m) d (qLeft m d - 1))) (qBlk m d + 1)) (d + 1), rfl, ((mLeave_14 hk).trans (if_pos ⟨Int32.not_le.mp c_96, bI0 c_98, (nI_ltI (a := 1) (by decide) (by omega)).mp c_101⟩)).symm, ce_hp ht hP⟩, hS.F ht⟩) hS.2.2 dMd_leave_293
                      · -- 259 not taken
                        exact W.vret hx hb hr (fun t9 ht hW => ⟨⟨zAt (zOpen m d) (qEnd m d), rfl, ((mLeave_14 hk).trans (if_neg (fun q => c_101 (nI_lt (a := 1) q.2.2 (by omega))))).symm, ce_hp ht hP⟩, hS.F ht⟩) hS.2.2 dMd_leave_262
              · -- 128 not taken
                exact absurd c_93 (by decide)
            · -- 112 not taken
              exact absurd c_92 (by decide)
          · -- 94 not taken
            exact absurd c_91 (by decide)
        · -- 79 not taken
          exact absurd c_90 (by decide)
      · -- 63 not taken
        exact absurd c_89 (by decide)
set_option maxHeartbeats 8000000 in
set_option maxRecDepth 100000 in
theorem c_Md_step (l : Launch) (D : va_G) (cI cZ : ClassId) (a : Nat → Nat) (hd : dM a) (m : MS) (th : Bool) (hp : qProg m < 6) (ha : qAt m < 14) (h21 : mO m (qAt m) ≤ 21) (h8 : mG m (qAt m) ≤ 255) (ho : qOpen m < 15) (hL : mLim m ≤ 14) : Met l yMd_step (ce_ws yMd_step cMd_step 5 none) (ce_rm 3) (cm_Pc D cI cZ [.ref (a 0), .int (bI th)] (wM a cI cZ m)) (va_Qv (fun m2 => m2 = mStep th m) (fun m2 t => va_P D vwCl (wM a cI cZ m2) t.heap) (aM a)) 0 0 (aM a) := by
  refine Met.ofW (cc := cMd_step) (maxL := 5) (ret := none) (by decide) rfl ?_
  intro p e s mi args below meth c s₁ B hml hv
  obtain ⟨rfl, hP, hK⟩ := hv
  have hx := B.exec
  have hb := B.bytes
  have hr := B.returns
  have hts := atoms_spec (ws := ce_ws yMd_step cMd_step 5 none) B.pre
  have hown : s.vm.findClass RMd = some mi.cls := findClass_of_methodNamed B.named
  have hlocks := B.notSynchronized
  have hS : va_S (aM a) s.heap s.heap [] := va_S.rf
  have hl := lv_entry ([.ref (a 0), .int (bI th)]) (n := 5) (Nat.le_of_ble_eq_true rfl)
  rw [lg_entry_eq]
  generalize (lg_sl ([.ref (a 0), .int (bI th)]) ++ List.replicate (5 - (lg_sl ([.ref (a 0), .int (bI th)])).length) Slot.unset).toArray = ls at hl ⊢
  have hl : lv_has ls 5 [(0, .ref (a 0)), (1, .int (bI th))] := hl
  refine lv_aload_n hx hb dMd_step_0 rfl (lv_at hl 0 rfl) ?_
  refine cm_g hx hb hts hown hK hP 19 (by decide) rfl lMd_112 rfl dMd_step_1 ?_
  refine lv_sipush (v := 400) hx hb dMd_step_4 (by decide) ?_
  refine lv_icmp_ne (tgt := 16) hx hb dMd_step_7 (by decide) (fun c_1 => ?_) (fun c_1 => ?_)
  · -- 7 taken
    refine lv_aload_n hx hb dMd_step_16 rfl (lv_at hl 0 rfl) ?_
    refine lv_dup hx hb dMd_step_17 rfl ?_
    refine cm_g hx hb hts hown hK hP 19 (by decide) rfl lMd_112 rfl dMd_step_18 ?_
    refine lv_iconst (v := 1) hx hb dMd_step_21 (by decide) ?_
    refine lv_iadd hx hb dMd_step_22 ?_
    refine cm_pSteps (x := (qSteps m) + 1) hx hb hts hown hK hd hP hS lMd_112 dMd_step_23 (fun H locs hP hS => ?_)
    refine lv_aload_n hx hb dMd_step_26 rfl (lv_at hl 0 rfl) ?_
    refine cm_g hx hb hts hown hK hP 17 (by decide) rfl lMd_59 rfl dMd_step_27 ?_
    refine lv_topi (fun y_2 ey_2 => ?_)
    obtain rfl : y_2 = nI (qAt m) := ey_2.trans (by rw [qAt_zSteps])
    refine lv_istore_n (lv' := [(2, .int (nI (qAt m))), (0, .ref (a 0)), (1, .int (bI th))]) hx hb dMd_step_30 rfl hl (by decide) rfl (fun ls hl => ?_)
    refine lv_aload_n hx hb dMd_step_31 rfl (lv_at hl 1 rfl) ?_
    refine cm_g hx hb hts hown hK hP 0 (by decide) rfl lMd_7 rfl dMd_step_32 ?_
    refine lv_aload_n hx hb dMd_step_35 rfl (lv_at hl 1 rfl) ?_
    refine cm_g hx hb hts hown hK hP 16 (by decide) rfl lMd_65 rfl dMd_step_36 ?_
    refine lv_topi (fun y_3 ey_3 => ?_)
    obtain rfl : y_3 = nI (qProg m) := ey_3.trans (by rw [qProg_zSteps])
    refine lv_bipush (v := 14) hx hb dMd_step_39 (by decide) ?_
    refine lv_imul hx hb dMd_step_41 ?_
    refine lv_topi (fun y_4 ey_4 => ?_)
    obtain rfl : y_4 = nI (qProg m * 14) := ey_4.trans (pk_mul _ 14)
    refine lv_iload_n hx hb dMd_step_42 rfl (lv_at hl 0 rfl) ?_
    refine lv_iadd hx hb dMd_step_43 ?_
    refine lv_topi (fun y_5 ey_5 => ?_)
    obtain rfl : y_5 = nI (qProg m * 14 + qAt m) := ey_5.trans (nI_add _ _)
    refine cm_lOp (i := (qProg m * 14 + qAt m)) (by omega) hx hb hK hP dMd_step_44 ?_
    refine lv_topi (fun y_6 ey_6 => ?_)
    obtain rfl : y_6 = nI (qOp m (qProg m * 14 + qAt m)) := ey_6.trans (by rw [qOp_zSteps])
    refine lv_topi (fun y_7 ey_7 => ?_)
    obtain rfl : y_7 = nI (mO m (qAt m)) := ey_7.trans (rfl)
    refine lv_istore_n (lv' := [(3, .int (nI (mO m (qAt m)))), (2, .int (nI (qAt m))), (0, .ref (a 0)), (1, .int (bI th))]) hx hb dMd_step_45 rfl hl (by decide) rfl (fun ls hl => ?_)
    refine lv_aload_n hx hb dMd_step_46 rfl (lv_at hl 2 rfl) ?_
    refine cm_g hx hb hts hown hK hP 1 (by decide) rfl lMd_13 rfl dMd_step_47 ?_
    refine lv_aload_n hx hb dMd_step_50 rfl (lv_at hl 2 rfl) ?_
    refine cm_g hx hb hts hown hK hP 16 (by decide) rfl lMd_65 rfl dMd_step_51 ?_
    refine lv_topi (fun y_8 ey_8 => ?_)
    obtain rfl : y_8 = nI (qProg m) := ey_8.trans (by rw [qProg_zSteps])
    refine lv_bipush (v := 14) hx hb dMd_step_54 (by decide) ?_
    refine lv_imul hx hb dMd_step_56 ?_
    refine lv_topi (fun y_9 ey_9 => ?_)
    obtain rfl : y_9 = nI (qProg m * 14) := ey_9.trans (pk_mul _ 14)
    refine lv_iload_n hx hb dMd_step_57 rfl (lv_at hl 1 rfl) ?_
    refine lv_iadd hx hb dMd_step_58 ?_
    refine lv_topi (fun y_10 ey_10 => ?_)
    obtain rfl : y_10 = nI (qProg m * 14 + qAt m) := ey_10.trans (nI_add _ _)
    refine cm_lArg (i := (qProg m * 14 + qAt m)) (by omega) hx hb hK hP dMd_step_59 ?_
    refine lv_topi (fun y_11 ey_11 => ?_)
    obtain rfl : y_11 = nI (qArg m (qProg m * 14 + qAt m)) := ey_11.trans (by rw [qArg_zSteps])
    refine lv_topi (fun y_12 ey_12 => ?_)
    obtain rfl : y_12 = nI (mG m (qAt m)) := ey_12.trans (rfl)
    refine lv_istore (lv' := [(4, .int (nI (mG m (qAt m)))), (3, .int (nI (mO m (qAt m)))), (2, .int (nI (qAt m))), (0, .ref (a 0)), (1, .int (bI th))]) hx hb dMd_step_60 hl (by decide) rfl (fun ls hl => ?_)
    refine lv_iload_n hx hb dMd_step_62 rfl (lv_at hl 1 rfl) ?_
    refine lv_bipush (v := 9) hx hb dMd_step_63 (by decide) ?_
    refine lv_icmp_le (tgt := 92) hx hb dMd_step_65 (by decide) (fun c_13 => ?_) (fun c_13 => ?_)
    · -- 65 taken
      refine lv_iload_n hx hb dMd_step_92 rfl (lv_at hl 1 rfl) ?_
      refine lv_bipush (v := 21) hx hb dMd_step_93 (by decide) ?_
      refine lv_icmp_ne (tgt := 121) hx hb dMd_step_95 (by decide) (fun c_14 => ?_) (fun c_14 => ?_)
      · -- 95 taken
        refine lv_aload_n hx hb dMd_step_121 rfl (lv_at hl 3 rfl) ?_
        refine lv_iload_n hx hb dMd_step_122 rfl (lv_at hl 1 rfl) ?_
        refine lv_iload hx hb dMd_step_123 (lv_at hl 0 rfl) ?_
        refine lv_bipush (v := 100) hx hb dMd_step_125 (by decide) ?_
        refine lv_isub hx hb dMd_step_127 ?_
        refine lv_iload hx hb dMd_step_128 (lv_at hl 0 rfl) ?_
        refine lv_bipush (v := 16) hx hb dMd_step_130 (by decide) ?_
        refine lv_irem hx hb dMd_step_132 (by decide) ?_
        refine lv_topi (fun y_15 ey_15 => ?_)
        obtain rfl : y_15 = nI (mG m (qAt m) % 16) := ey_15.trans (pk_rem (d := 16) (by omega) (by decide) (by decide))
        refine lv_iload hx hb dMd_step_133 (lv_at hl 0 rfl) ?_
        refine lv_bipush (v := 16) hx hb dMd_step_135 (by decide) ?_
        refine lv_idiv hx hb dMd_step_137 (by decide) ?_
        refine lv_topi (fun y_16 ey_16 => ?_)
        obtain rfl : y_16 = nI (mG m (qAt m) / 16) := ey_16.trans (pk_div (d := 16) (by omega) (by decide) (by decide))
        refine cm_vv (As := [.int (nI (mO m (qAt m))), .int ((nI (mG m (qAt m))) - 100), .int (nI (mG m (qAt m) % 16)), .int (nI (mG m (qAt m) / 16))]) (rest := []) ⟨hx, hb, hml, hown, hts⟩ (c_Md_act l D cI cZ a hd (zSteps m ((qSteps m) + 1)) (mO m (qAt m)) (nI (mG m (qAt m)) - 100) (mG m (qAt m) % 16) (mG m (qAt m) / 16) (Or.inl ((nI_leI (b := 9) (by omega) (by decide)).mp c_13)) (Nat.mod_lt _ (by decide)) (by omega)) mMd_act lMd_118 iMd_act (ce_hR (by omega) (by decide)) ⟨rfl, rfl⟩ hK hP hS rfl hl.1 rfl (Nat.le_of_ble_eq_true rfl) dMd_step_138 ⟨Nat.le_of_ble_eq_true rfl, Nat.le_of_ble_eq_true rfl⟩ (fun m_17 H locs em_17 hP hS => ?_)
        obtain rfl := em_17
        refine lv_aload_n hx hb dMd_step_141 rfl (lv_at hl 3 rfl) ?_
        refine lv_iload_n hx hb dMd_step_142 rfl (lv_at hl 2 rfl) ?_
        refine lv_iconst (v := 1) hx hb dMd_step_143 (by decide) ?_
        refine lv_iadd hx hb dMd_step_144 ?_
        refine lv_topi (fun y_18 ey_18 => ?_)
        obtain rfl : y_18 = nI (qAt m + 1) := ey_18.trans (nI_1 _)
        refine cm_pAt (x := (qAt m + 1)) hx hb hts hown hK hd hP hS lMd_59 dMd_step_145 (fun H locs hP hS => ?_)
        exact W.vret hx hb hr (fun t9 ht hW => ⟨⟨zAt (mAct (zSteps m ((qSteps m) + 1)) (mO m (qAt m)) (nI (mG m (qAt m)) - 100) (mG m (qAt m) % 16) (mG m (qAt m) / 16)) (qAt m + 1), rfl, (((if_neg c_1).trans (if_neg (fun q => absurd (nI_lt (a := 9) q.1 (by omega)) (Int32.not_lt.mpr c_13)))).trans (if_neg (fun q => c_14 (congrArg nI q)))).symm, ce_hp ht hP⟩, hS.F ht⟩) hS.2.2 dMd_step_148
      · -- 95 not taken
        refine lv_aload_n hx hb dMd_step_98 rfl (lv_at hl 3 rfl) ?_
        refine lv_iload_n hx hb dMd_step_99 rfl (lv_at hl 4 rfl) ?_
        refine lv_if_eq (tgt := 113) hx hb dMd_step_100 (by decide) (fun c_19 => ?_) (fun c_19 => ?_)
        · -- 100 taken
          refine lv_bipush (v := 10) hx hb dMd_step_113 (by decide) ?_
          refine cm_pAcc (x := 10) hx hb hts hown hK hd hP hS lMd_78 dMd_step_115 (fun H locs hP hS => ?_)
          refine lv_goto (tgt := 141) hx hb dMd_step_118 (by decide) ?_
          refine lv_aload_n hx hb dMd_step_141 rfl (lv_at hl 3 rfl) ?_
          refine lv_iload_n hx hb dMd_step_142 rfl (lv_at hl 2 rfl) ?_
          refine lv_iconst (v := 1) hx hb dMd_step_143 (by decide) ?_
          refine lv_iadd hx hb dMd_step_144 ?_
          refine lv_topi (fun y_20 ey_20 => ?_)
          obtain rfl : y_20 = nI (qAt m + 1) := ey_20.trans (nI_1 _)
          refine cm_pAt (x := (qAt m + 1)) hx hb hts hown hK hd hP hS lMd_59 dMd_step_145 (fun H locs hP hS => ?_)
          exact W.vret hx hb hr (fun t9 ht hW => ⟨⟨zAt (zAcc (zSteps m ((qSteps m) + 1)) 10) (qAt m + 1), rfl, ((((if_neg c_1).trans (if_neg (fun q => absurd (nI_lt (a := 9) q.1 (by omega)) (Int32.not_lt.mpr c_13)))).trans (if_pos ((nI_eq (b := 21) (by omega) (by decide)).mp c_14))).trans (congrArg (fun x => zAt (zAcc (zSteps m (qSteps m + 1)) x) (qAt m + 1)) (if_neg (by rw [bI0 c_19]; decide)))).symm, ce_hp ht hP⟩, hS.F ht⟩) hS.2.2 dMd_step_148
        · -- 100 not taken
          refine lv_bipush (v := 20) hx hb dMd_step_103 (by decide) ?_
          refine lv_aload_n hx hb dMd_step_105 rfl (lv_at hl 3 rfl) ?_
          refine cm_g hx hb hts hown hK hP 16 (by decide) rfl lMd_65 rfl dMd_step_106 ?_
          refine lv_topi (fun y_21 ey_21 => ?_)
          obtain rfl : y_21 = nI (qProg m) := ey_21.trans (by rw [qProg_zSteps])
          refine lv_iadd hx hb dMd_step_109 ?_
          refine lv_goto (tgt := 115) hx hb dMd_step_110 (by decide) ?_
          refine cm_pAcc (x := 20 + (nI (qProg m))) hx hb hts hown hK hd hP hS lMd_78 dMd_step_115 (fun H locs hP hS => ?_)
          refine lv_goto (tgt := 141) hx hb dMd_step_118 (by decide) ?_
          refine lv_aload_n hx hb dMd_step_141 rfl (lv_at hl 3 rfl) ?_
          refine lv_iload_n hx hb dMd_step_142 rfl (lv_at hl 2 rfl) ?_
          refine lv_iconst (v := 1) hx hb dMd_step_143 (by decide) ?_
          refine lv_iadd hx hb dMd_step_144 ?_
          refine lv_topi (fun y_22 ey_22 => ?_)
          obtain rfl : y_22 = nI (qAt m + 1) := ey_22.trans (nI_1 _)
          refine cm_pAt (x := (qAt m + 1)) hx hb hts hown hK hd hP hS lMd_59 dMd_step_145 (fun H locs hP hS => ?_)
          exact W.vret hx hb hr (fun t9 ht hW => ⟨⟨zAt (zAcc (zSteps m ((qSteps m) + 1)) (20 + (nI (qProg m)))) (qAt m + 1), rfl, ((((if_neg c_1).trans (if_neg (fun q => absurd (nI_lt (a := 9) q.1 (by omega)) (Int32.not_lt.mpr c_13)))).trans (if_pos ((nI_eq (b := 21) (by omega) (by decide)).mp c_14))).trans (congrArg (fun x => zAt (zAcc (zSteps m (qSteps m + 1)) x) (qAt m + 1)) (if_pos (bI1 c_19)))).symm, ce_hp ht hP⟩, hS.F ht⟩) hS.2.2 dMd_step_148
    · -- 65 not taken
      refine lv_iload_n hx hb dMd_step_68 rfl (lv_at hl 1 rfl) ?_
      refine lv_bipush (v := 15) hx hb dMd_step_69 (by decide) ?_
      refine lv_icmp_ge (tgt := 92) hx hb dMd_step_71 (by decide) (fun c_23 => ?_) (fun c_23 => ?_)
      · -- 71 taken
        refine lv_iload_n hx hb dMd_step_92 rfl (lv_at hl 1 rfl) ?_
        refine lv_bipush (v := 21) hx hb dMd_step_93 (by decide) ?_
        refine lv_icmp_ne (tgt := 121) hx hb dMd_step_95 (by decide) (fun c_24 => ?_) (fun c_24 => ?_)
        · -- 95 taken
          refine lv_aload_n hx hb dMd_step_121 rfl (lv_at hl 3 rfl) ?_
          refine lv_iload_n hx hb dMd_step_122 rfl (lv_at hl 1 rfl) ?_
          refine lv_iload hx hb dMd_step_123 (lv_at hl 0 rfl) ?_
          refine lv_bipush (v := 100) hx hb dMd_step_125 (by decide) ?_
          refine lv_isub hx hb dMd_step_127 ?_
          refine lv_iload hx hb dMd_step_128 (lv_at hl 0 rfl) ?_
          refine lv_bipush (v := 16) hx hb dMd_step_130 (by decide) ?_
          refine lv_irem hx hb dMd_step_132 (by decide) ?_
          refine lv_topi (fun y_25 ey_25 => ?_)
          obtain rfl : y_25 = nI (mG m (qAt m) % 16) := ey_25.trans (pk_rem (d := 16) (by omega) (by decide) (by decide))
          refine lv_iload hx hb dMd_step_133 (lv_at hl 0 rfl) ?_
          refine lv_bipush (v := 16) hx hb dMd_step_135 (by decide) ?_
          refine lv_idiv hx hb dMd_step_137 (by decide) ?_
          refine lv_topi (fun y_26 ey_26 => ?_)
          obtain rfl : y_26 = nI (mG m (qAt m) / 16) := ey_26.trans (pk_div (d := 16) (by omega) (by decide) (by decide))
          refine cm_vv (As := [.int (nI (mO m (qAt m))), .int ((nI (mG m (qAt m))) - 100), .int (nI (mG m (qAt m) % 16)), .int (nI (mG m (qAt m) / 16))]) (rest := []) ⟨hx, hb, hml, hown, hts⟩ (c_Md_act l D cI cZ a hd (zSteps m ((qSteps m) + 1)) (mO m (qAt m)) (nI (mG m (qAt m)) - 100) (mG m (qAt m) % 16) (mG m (qAt m) / 16) (Or.inr ⟨(nI_leI (a := 15) (by decide) (by omega)).mp c_23, h20 (fun q => c_24 (congrArg nI q)) h21⟩) (Nat.mod_lt _ (by decide)) (by omega)) mMd_act lMd_118 iMd_act (ce_hR (by omega) (by decide)) ⟨rfl, rfl⟩ hK hP hS rfl hl.1 rfl (Nat.le_of_ble_eq_true rfl) dMd_step_138 ⟨Nat.le_of_ble_eq_true rfl, Nat.le_of_ble_eq_true rfl⟩ (fun m_27 H locs em_27 hP hS => ?_)
          obtain rfl := em_27
          refine lv_aload_n hx hb dMd_step_141 rfl (lv_at hl 3 rfl) ?_
          refine lv_iload_n hx hb dMd_step_142 rfl (lv_at hl 2 rfl) ?_
          refine lv_iconst (v := 1) hx hb dMd_step_143 (by decide) ?_
          refine lv_iadd hx hb dMd_step_144 ?_
          refine lv_topi (fun y_28 ey_28 => ?_)
          obtain rfl : y_28 = nI (qAt m + 1) := ey_28.trans (nI_1 _)
          refine cm_pAt (x := (qAt m + 1)) hx hb hts hown hK hd hP hS lMd_59 dMd_step_145 (fun H locs hP hS => ?_)
          exact W.vret hx hb hr (fun t9 ht hW => ⟨⟨zAt (mAct (zSteps m ((qSteps m) + 1)) (mO m (qAt m)) (nI (mG m (qAt m)) - 100) (mG m (qAt m) % 16) (mG m (qAt m) / 16)) (qAt m + 1), rfl, (((if_neg c_1).trans (if_neg (fun q => absurd (nI_lt (b := 15) q.2 (by decide)) (Int32.not_lt.mpr c_23)))).trans (if_neg (fun q => c_24 (congrArg nI q)))).symm, ce_hp ht hP⟩, hS.F ht⟩) hS.2.2 dMd_step_148
        · -- 95 not taken
          refine lv_aload_n hx hb dMd_step_98 rfl (lv_at hl 3 rfl) ?_
          refine lv_iload_n hx hb dMd_step_99 rfl (lv_at hl 4 rfl) ?_
          refine lv_if_eq (tgt := 113) hx hb dMd_step_100 (by decide) (fun c_29 => ?_) (fun c_29 => ?_)
          · -- 100 taken
            refine lv_bipush (v := 10) hx hb dMd_step_113 (by decide) ?_
            refine cm_pAcc (x := 10) hx hb hts hown hK hd hP hS lMd_78 dMd_step_115 (fun H locs hP hS => ?_)
            refine lv_goto (tgt := 141) hx hb dMd_step_118 (by decide) ?_
            refine lv_aload_n hx hb dMd_step_141 rfl (lv_at hl 3 rfl) ?_
            refine lv_iload_n hx hb dMd_step_142 rfl (lv_at hl 2 rfl) ?_
            refine lv_iconst (v := 1) hx hb dMd_step_143 (by decide) ?_
            refine lv_iadd hx hb dMd_step_144 ?_
            refine lv_topi (fun y_30 ey_30 => ?_)
            obtain rfl : y_30 = nI (qAt m + 1) := ey_30.trans (nI_1 _)
            refine cm_pAt (x := (qAt m + 1)) hx hb hts hown hK hd hP hS lMd_59 dMd_step_145 (fun H locs hP hS => ?_)
            exact W.vret hx hb hr (fun t9 ht hW => ⟨⟨zAt (zAcc (zSteps m ((qSteps m) + 1)) 10) (qAt m + 1), rfl, ((((if_neg c_1).trans (if_neg (fun q => absurd (nI_lt (b := 15) q.2 (by decide)) (Int32.not_lt.mpr c_23)))).trans (if_pos ((nI_eq (b := 21) (by omega) (by decide)).mp c_24))).trans (congrArg (fun x => zAt (zAcc (zSteps m (qSteps m + 1)) x) (qAt m + 1)) (if_neg (by rw [bI0 c_29]; decide)))).symm, ce_hp ht hP⟩, hS.F ht⟩) hS.2.2 dMd_step_148
          · -- 100 not taken
            refine lv_bipush (v := 20) hx hb dMd_step_103 (by decide) ?_
            refine lv_aload_n hx hb dMd_step_105 rfl (lv_at hl 3 rfl) ?_
            refine cm_g hx hb hts hown hK hP 16 (by decide) rfl lMd_65 rfl dMd_step_106 ?_
            refine lv_topi (fun y_31 ey_31 => ?_)
            obtain rfl : y_31 = nI (qProg m) := ey_31.trans (by rw [qProg_zSteps])
            refine lv_iadd hx hb dMd_step_109 ?_
            refine lv_goto (tgt := 115) hx hb dMd_step_110 (by decide) ?_
            refine cm_pAcc (x := 20 + (nI (qProg m))) hx hb hts hown hK hd hP hS lMd_78 dMd_step_115 (fun H locs hP hS => ?_)
            refine lv_goto (tgt := 141) hx hb dMd_step_118 (by decide) ?_
            refine lv_aload_n hx hb dMd_step_141 rfl (lv_at hl 3 rfl) ?_
            refine lv_iload_n hx hb dMd_step_142 rfl (lv_at hl 2 rfl) ?_
            refine lv_iconst (v := 1) hx hb dMd_step_143 (by decide) ?_
            refine lv_iadd hx hb dMd_step_144 ?_
            refine lv_topi (fun y_32 ey_32 => ?_)
            obtain rfl : y_32 = nI (qAt m + 1) := ey_32.trans (nI_1 _)
            refine cm_pAt (x := (qAt m + 1)) hx hb hts hown hK hd hP hS lMd_59 dMd_step_145 (fun H locs hP hS => ?_)
            exact W.vret hx hb hr (fun t9 ht hW => ⟨⟨zAt (zAcc (zSteps m ((qSteps m) + 1)) (20 + (nI (qProg m)))) (qAt m + 1), rfl, ((((if_neg c_1).trans (if_neg (fun q => absurd (nI_lt (b := 15) q.2 (by decide)) (Int32.not_lt.mpr c_23)))).trans (if_pos ((nI_eq (b := 21) (by omega) (by decide)).mp c_24))).trans (congrArg (fun x => zAt (zAcc (zSteps m (qSteps m + 1)) x) (qAt m + 1)) (if_pos (bI1 c_29)))).symm, ce_hp ht hP⟩, hS.F ht⟩) hS.2.2 dMd_step_148
      · -- 71 not taken
        refine lv_aload_n hx hb dMd_step_74 rfl (lv_at hl 3 rfl) ?_
        refine lv_iload_n hx hb dMd_step_75 rfl (lv_at hl 2 rfl) ?_
        refine lv_iconst (v := 1) hx hb dMd_step_76 (by decide) ?_
        refine lv_iadd hx hb dMd_step_77 ?_
        refine lv_topi (fun y_33 ey_33 => ?_)
        obtain rfl : y_33 = nI (qAt m + 1) := ey_33.trans (nI_1 _)
        refine cm_pAt (x := (qAt m + 1)) hx hb hts hown hK hd hP hS lMd_59 dMd_step_78 (fun H locs hP hS => ?_)
        refine lv_aload_n hx hb dMd_step_81 rfl (lv_at hl 3 rfl) ?_
        refine lv_iload_n hx hb dMd_step_82 rfl (lv_at hl 2 rfl) ?_
        refine lv_iload hx hb dMd_step_83 (lv_at hl 0 rfl) ?_
        refine lv_bipush (v := 16) hx hb dMd_step_85 (by decide) ?_
        refine lv_irem hx hb dMd_step_87 (by decide) ?_
        refine lv_topi (fun y_34 ey_34 => ?_)
        obtain rfl : y_34 = nI (mG m (qAt m) % 16) := ey_34.trans (pk_rem (d := 16) (by omega) (by decide) (by decide))
        refine cm_vv (As := [.int (nI (qAt m)), .int (nI (mG m (qAt m) % 16))]) (rest := []) ⟨hx, hb, hml, hown, hts⟩ (c_Md_enter l D cI cZ a hd (zAt (zSteps m ((qSteps m) + 1)) (qAt m + 1)) (qAt m) (mG m (qAt m) % 16) hp ha (Nat.mod_lt _ (by decide)) h21 h8 ho hL) mMd_enter lMd_115 iMd_enter (ce_hR (by omega) (by decide)) ⟨rfl, rfl⟩ hK hP hS rfl hl.1 rfl (Nat.le_of_ble_eq_true rfl) dMd_step_88 ⟨Nat.le_of_ble_eq_true rfl, Nat.le_of_ble_eq_true rfl⟩ (fun m_35 H locs em_35 hP hS => ?_)
        obtain rfl := em_35
        exact W.vret hx hb hr (fun t9 ht hW => ⟨⟨(mEnter (zAt (zSteps m ((qSteps m) + 1)) (qAt m + 1)) (qAt m) (mG m (qAt m) % 16)), rfl, ((if_neg c_1).trans (if_pos ⟨(nI_ltI (a := 9) (by decide) (by omega)).mp (Int32.not_le.mp c_13), (nI_ltI (b := 15) (by omega) (by decide)).mp (Int32.not_le.mp c_23)⟩)).symm, ce_hp ht hP⟩, hS.F ht⟩) hS.2.2 dMd_step_91
  · -- 7 not taken
    refine lv_aload_n hx hb dMd_step_10 rfl (lv_at hl 0 rfl) ?_
    refine lv_iconst (v := 1) hx hb dMd_step_11 (by decide) ?_
    refine cm_pStop (x := true) hx hb hts hown hK hd hP hS lMd_81 dMd_step_12 (fun H locs hP hS => ?_)
    exact W.vret hx hb hr (fun t9 ht hW => ⟨⟨zStop m true, rfl, (if_pos c_1).symm, ce_hp ht hP⟩, hS.F ht⟩) hS.2.2 dMd_step_15
