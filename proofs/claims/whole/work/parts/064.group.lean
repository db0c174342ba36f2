theorem ce_hR {h h2 maxL : Nat} (hh : h + 1 ≤ h2) (hm : maxL ≤ 11) : (ce_rm h).frames + 1 ≤ (ce_rm h2).frames ∧ 8 + (maxL + 11) + (ce_rm h).locals ≤ (ce_rm h2).locals := by
  refine ⟨hh, ?_⟩
  show 8 + (maxL + 11) + 30 * h ≤ 30 * h2
  omega
/-- doActions at depth 15 - k, as the group calls it -/
def okDA (l : Launch) (D : va_G) (cI : ClassId) (a : Nat → Nat) (P : PR) (k : Nat) : Prop := ∀ (u : RS) (i z d : Nat), d + k = 15 → i ≤ z → z ≤ P.2.2 → Met l yRn_doActions (ce_ws yRn_doActions cRn_doActions 7 (some .int)) (ce_rm (3 * k + 2)) (ce_Pc D cI [.ref (a 0), .int (nI i), .int (nI z), .int (nI d)] (wR a cI P u)) (va_Qi (fun r u' => (r, u') = xActs P k i z u) (fun u' t => va_P D vwCl (wR a cI P u') t.heap) (aR a)) 0 0 (aR a)
theorem xCatch_no {P : PR} {i : Nat} {r : Int32} {u : RS} (h : ¬ (r = 2 ∧ xTakes (pK P i) (gTr u) = true)) : (r, u) = xCatch P i (r, u) := (if_neg h).symm
theorem xCatch_go {P : PR} {i : Nat} {r : Int32} {u : RS} (h : r = 2) (h2 : xTakes (pK P i) (gTr u) = true) (h3 : ¬ pK P i = 14) : (0, xCaught u) = xCatch P i (r, u) := ((if_pos ⟨h, h2⟩).trans (if_neg h3)).symm
theorem xCatch_on {P : PR} {i : Nat} {r : Int32} {u : RS} (h : r = 2) (h2 : xTakes (pK P i) (gTr u) = true) (h3 : pK P i = 14) : xOwn (xCaught u) (nI i) 14 = xCatch P i (r, u) := ((if_pos ⟨h, h2⟩).trans (if_pos h3)).symm
theorem xCaught_own {u : RS} (h : gTr u = 10) : sOwn (sTa (sTr (sAcc (sCat u (gCat u + 1)) (1000 + 16 * gTr u + gOwn u)) (-1)) (-1)) (-1) = xCaught u := by
  unfold xCaught
  rw [if_pos h]
  rfl
theorem xCaught_no {u : RS} (h : ¬ gTr u = 10) : sOwn (sTa (sTr (sAcc (sCat u (gCat u + 1)) (1000 + 16 * gTr u + 0)) (-1)) (-1)) (-1) = xCaught u := by
  unfold xCaught
  rw [if_neg h]
  rfl
theorem xRep_go {f : RS → Int32 × RS} {n : Nat} {v u1 : RS} {r : Int32} (h : (r, u1) = f v) (h0 : r = 0) : xRep f n u1 = xRep f (n + 1) v := by
  show _ = if (f v).1 = 0 then xRep f n (f v).2 else f v
  rw [← h, if_pos h0]
theorem xRep_end {f : RS → Int32 × RS} {n : Nat} {v u1 : RS} {r : Int32} (h : (r, u1) = f v) (h0 : ¬ r = 0) : (r, u1) = xRep f (n + 1) v := by
  show _ = if (f v).1 = 0 then xRep f n (f v).2 else f v
  rw [← h, if_neg h0]
theorem pB_le {P : PR} {i z : Nat} (h : i < z) : i + pB P i z + 1 ≤ z := by
  unfold pB
  split
  · omega
  · have : min (pN P i) (z - i - 1) ≤ z - i - 1 := Nat.min_le_right _ _
    omega
theorem xLoop_0 {g : Nat → Nat → RS → Int32 × RS} {P : PR} {z n j : Nat} {v : RS} (h : z ≤ j) : (0, v) = xLoop g P z n j v := by
  cases n with
  | zero => rfl
  | succ n => exact (if_pos h).symm
theorem xLoop_stop {g : Nat → Nat → RS → Int32 × RS} {P : PR} {z n j : Nat} {v : RS} (h : ¬ z ≤ j) (h4 : ¬ gSteps v < 400) : (1, v) = xLoop g P z (n + 1) j v := ((if_neg h).trans (if_pos (Int32.not_lt.mp h4))).symm
theorem xLoop_end {g : Nat → Nat → RS → Int32 × RS} {P : PR} {z n j : Nat} {v u1 : RS} {r : Int32} (h : ¬ z ≤ j) (h4 : gSteps v < 400) (e : (r, u1) = g j (j + 1 + pB P j z) (sSteps v (gSteps v + 1))) (h0 : ¬ r = 0) : (r, u1) = xLoop g P z (n + 1) j v := by
  refine (((if_neg h).trans (if_neg (fun q => absurd h4 (Int32.not_lt.mpr q)))).trans ?_).symm
  rw [← e, if_neg h0]
theorem xLoop_go {g : Nat → Nat → RS → Int32 × RS} {P : PR} {z n j : Nat} {v u1 : RS} {r : Int32} (h : ¬ z ≤ j) (h4 : gSteps v < 400) (e : (r, u1) = g j (j + 1 + pB P j z) (sSteps v (gSteps v + 1))) (h0 : r = 0) : xLoop g P z n (j + pB P j z + 1) u1 = xLoop g P z (n + 1) j v := by
  refine (((if_neg h).trans (if_neg (fun q => absurd h4 (Int32.not_lt.mpr q)))).trans ?_).symm
  rw [← e, if_pos h0]
theorem xAct_0 {f : Nat → Nat → RS → Int32 × RS} {P : PR} {i z : Nat} {u : RS} (h : P.1 i = 0) : xAct f P i z u = (0, sAcc u (gAcc u + pV P i)) := by
  unfold xAct
  simp only [h]
theorem xAct_1 {f : Nat → Nat → RS → Int32 × RS} {P : PR} {i z : Nat} {u : RS} (h : P.1 i = 1) : xAct f P i z u = (0, sAcc u (gAcc u * pV P i)) := by
  unfold xAct
  simp only [h]
theorem xAct_2 {f : Nat → Nat → RS → Int32 × RS} {P : PR} {i z : Nat} {u : RS} (h : P.1 i = 2) : xAct f P i z u = xDiv P i u := by
  unfold xAct
  simp only [h]
theorem xAct_3 {f : Nat → Nat → RS → Int32 × RS} {P : PR} {i z : Nat} {u : RS} (h : P.1 i = 3) : xAct f P i z u = xRem P i u := by
  unfold xAct
  simp only [h]
theorem xAct_4 {f : Nat → Nat → RS → Int32 × RS} {P : PR} {i z : Nat} {u : RS} (h : P.1 i = 4) : xAct f P i z u = xLoad P i u := by
  unfold xAct
  simp only [h]
theorem xAct_5 {f : Nat → Nat → RS → Int32 × RS} {P : PR} {i z : Nat} {u : RS} (h : P.1 i = 5) : xAct f P i z u = xKeep P i u := by
  unfold xAct
  simp only [h]
theorem xAct_6 {f : Nat → Nat → RS → Int32 × RS} {P : PR} {i z : Nat} {u : RS} (h : P.1 i = 6) : xAct f P i z u = xBreak P i u := by
  unfold xAct
  simp only [h]
theorem xAct_7 {f : Nat → Nat → RS → Int32 × RS} {P : PR} {i z : Nat} {u : RS} (h : P.1 i = 7) : xAct f P i z u = xThrow P i u := by
  unfold xAct
  simp only [h]
theorem xAct_8 {f : Nat → Nat → RS → Int32 × RS} {P : PR} {i z : Nat} {u : RS} (h : P.1 i = 8) : xAct f P i z u = (0, sMark u true) := by
  unfold xAct
  simp only [h]
theorem xAct_9 {f : Nat → Nat → RS → Int32 × RS} {P : PR} {i z : Nat} {u : RS} (h : P.1 i = 9) : xAct f P i z u = (0, sMark (sAcc u (bI (gMark u))) false) := by
  unfold xAct
  simp only [h]
theorem xAct_10 {f : Nat → Nat → RS → Int32 × RS} {P : PR} {i z : Nat} {u : RS} (h : P.1 i = 10) : xAct f P i z u = xCatch P i (f (i + 1) z u) := by
  unfold xAct
  simp only [h]
theorem xAct_11 {f : Nat → Nat → RS → Int32 × RS} {P : PR} {i z : Nat} {u : RS} (h : P.1 i = 11) : xAct f P i z u = xFinally (f (i + 1) z u) := by
  unfold xAct
  simp only [h]
theorem xAct_12 {f : Nat → Nat → RS → Int32 × RS} {P : PR} {i z : Nat} {u : RS} (h : P.1 i = 12) : xAct f P i z u = xDrop (f (i + 1) z u) := by
  unfold xAct
  simp only [h]
theorem xAct_13 {f : Nat → Nat → RS → Int32 × RS} {P : PR} {i z : Nat} {u : RS} (h : P.1 i = 13) : xAct f P i z u = xLet P i (f (i + 1) z (xGrab P i u)) := by
  unfold xAct
  simp only [h]
theorem xAct_14 {f : Nat → Nat → RS → Int32 × RS} {P : PR} {i z : Nat} {u : RS} (h : P.1 i = 14) : xAct f P i z u = xRep (f (i + 1) z) (pK P i) u := by
  unfold xAct
  simp only [h]
theorem xAct_15 {f : Nat → Nat → RS → Int32 × RS} {P : PR} {i z : Nat} {u : RS} (h : P.1 i = 15) : xAct f P i z u = (if xHeld P i u = true then (0, u) else xComes u (nI i) 6) := by
  unfold xAct
  simp only [h]
theorem xAct_16 {f : Nat → Nat → RS → Int32 × RS} {P : PR} {i z : Nat} {u : RS} (h : P.1 i = 16) : xAct f P i z u = (if xHeld P i u = true then xSleep (nI i) u else xComes u (nI i) 6) := by
  unfold xAct
  simp only [h]
theorem xAct_17 {f : Nat → Nat → RS → Int32 × RS} {P : PR} {i z : Nat} {u : RS} (h : P.1 i = 17) : xAct f P i z u = xSleep (nI i) u := by
  unfold xAct
  simp only [h]
theorem xAct_18 {f : Nat → Nat → RS → Int32 × RS} {P : PR} {i z : Nat} {u : RS} (h : P.1 i = 18) : xAct f P i z u = (0, sAcc u (bI (xHeld P i u))) := by
  unfold xAct
  simp only [h]
theorem xAct_19 {f : Nat → Nat → RS → Int32 × RS} {P : PR} {i z : Nat} {u : RS} (h : P.1 i = 19) : xAct f P i z u = (0, sCnt u (gCnt u + (pV P i).toInt64)) := by
  unfold xAct
  simp only [h]
theorem xAct_20 {f : Nat → Nat → RS → Int32 × RS} {P : PR} {i z : Nat} {u : RS} (h : P.1 i = 20) : xAct f P i z u = (1, u) := by
  unfold xAct
  simp only [h]
theorem xAct_21 {f : Nat → Nat → RS → Int32 × RS} {P : PR} {i z : Nat} {u : RS} (h : P.1 i = 21) : xAct f P i z u = (0, sAcc u (gName u)) := by
  unfold xAct
  simp only [h]
set_option maxHeartbeats 4000000 in
set_option maxRecDepth 100000 in
theorem c_Rn_doCatch (l : Launch) (D : va_G) (cI : ClassId) (a : Nat → Nat) (hd : dR a) (P : PR) (hp : pOk P) (k d : Nat) (hdk : d + 1 + k = 15) (ih : okDA l D cI a P k) (u : RS) (i z : Nat) (hiz : i < z) (hz : z ≤ P.2.2) : Met l yRn_doCatch (ce_ws yRn_doCatch cRn_doCatch 6 (some .int)) (ce_rm (3 * k + 3)) (ce_Pc D cI [.ref (a 0), .int (nI i), .int (nI z), .int (nI d)] (wR a cI P u)) (va_Qi (fun r u' => (r, u') = xCatch P i (xActs P k (i + 1) z u)) (fun u' t => va_P D vwCl (wR a cI P u') t.heap) (aR a)) 0 0 (aR a) := by
  refine Met.ofW (cc := cRn_doCatch) (maxL := 6) (ret := (some .int)) (by decide) rfl ?_
  intro p e s m args below meth c s₁ B hml hv
  obtain ⟨rfl, hP, hK, hN⟩ := hv
  have hx := B.exec
  have hb := B.bytes
  have hr := B.returns
  have hts := atoms_spec (ws := ce_ws yRn_doCatch cRn_doCatch 6 (some .int)) B.pre
  have hown : s.vm.findClass RRn = some m.cls := findClass_of_methodNamed B.named
  have hlocks := B.notSynchronized
  have hS : va_S (aR a) s.heap s.heap [] := va_S.rf
  have hl := lv_entry ([.ref (a 0), .int (nI i), .int (nI z), .int (nI d)]) (n := 6) (Nat.le_of_ble_eq_true rfl)
  rw [lg_entry_eq]
  generalize (lg_sl ([.ref (a 0), .int (nI i), .int (nI z), .int (nI d)]) ++ List.replicate (6 - (lg_sl ([.ref (a 0), .int (nI i), .int (nI z), .int (nI d)])).length) Slot.unset).toArray = ls at hl ⊢
  have hl : lv_has ls 6 [(0, .ref (a 0)), (1, .int (nI i)), (2, .int (nI z)), (3, .int (nI d))] := hl
  have hi : i < 14 := Nat.lt_of_lt_of_le hiz (Nat.le_trans hz hp.1)
  have h8 : P.2.1 i ≤ 255 := (hp.2 i (by omega)).2
  have h21 : P.1 i ≤ 21 := (hp.2 i (by omega)).1
  have hK16 : pK P i < 16 := by unfold pK; omega
  refine lv_aload_n hx hb dRn_doCatch_0 rfl (lv_at hl 0 rfl) ?_
  refine lv_iload_n hx hb dRn_doCatch_1 rfl (lv_at hl 1 rfl) ?_
  refine lv_iconst (v := 1) hx hb dRn_doCatch_2 (by decide) ?_
  refine lv_iadd hx hb dRn_doCatch_3 ?_
  refine lv_topi (fun y_1 ey_1 => ?_)
  obtain rfl : y_1 = nI (i + 1) := ey_1.trans (nI_1 i)
  refine lv_iload_n hx hb dRn_doCatch_4 rfl (lv_at hl 2 rfl) ?_
  refine lv_iload_n hx hb dRn_doCatch_5 rfl (lv_at hl 3 rfl) ?_
  refine lv_iconst (v := 1) hx hb dRn_doCatch_6 (by decide) ?_
  refine lv_iadd hx hb dRn_doCatch_7 ?_
  refine lv_topi (fun y_2 ey_2 => ?_)
  obtain rfl : y_2 = nI (d + 1) := ey_2.trans (nI_1 d)
  refine ce_vi (As := [.int (nI (i + 1)), .int (nI z), .int (nI (d + 1))]) (rest := []) ⟨hx, hb, hml, hown, hts⟩ (ih u (i + 1) z (d + 1) (by omega) (by omega) hz) mRn_doActions lRn_72 iRn_doActions (ce_hR (by omega) (by decide)) ⟨rfl, rfl⟩ hK hN hP hS rfl hl.1 rfl (Nat.le_of_ble_eq_true rfl) dRn_doCatch_8 ⟨Nat.le_of_ble_eq_true rfl, Nat.le_of_ble_eq_true rfl⟩ (fun r_3 u_4 H locs er_3 hP hS => ?_)
  refine lv_istore (lv' := [(4, .int r_3), (0, .ref (a 0)), (1, .int (nI i)), (2, .int (nI z)), (3, .int (nI d))]) hx hb dRn_doCatch_11 hl (by decide) rfl (fun ls hl => ?_)
  refine lv_aload_n hx hb dRn_doCatch_13 rfl (lv_at hl 1 rfl) ?_
  refine ce_gR hx hb hts hown hK hP 0 (by decide) rfl lRn_18 rfl dRn_doCatch_14 ?_
  refine lv_iload_n hx hb dRn_doCatch_17 rfl (lv_at hl 2 rfl) ?_
  refine ce_ri (As := [.int (nI i)]) (rest := []) ⟨hx, hb, hml, hown, hts⟩ (c_Pg_high l D cI a P i hi h8) mPg_high lRn_145 iPg_high (ce_hR (by omega) (by decide)) ⟨rfl, rfl⟩ hK hN (hP.sub (ws' := wP a cI P) [1, 2, 3] rfl) 0 rfl rfl rfl hl.1 rfl (Nat.le_of_ble_eq_true rfl) dRn_doCatch_18 ⟨Nat.le_of_ble_eq_true rfl, Nat.le_of_ble_eq_true rfl⟩ (fun r_5 er_5 => ?_)
  obtain rfl : r_5 = nI (pK P i) := er_5
  refine lv_istore (lv' := [(5, .int (nI (pK P i))), (4, .int r_3), (0, .ref (a 0)), (1, .int (nI i)), (2, .int (nI z)), (3, .int (nI d))]) hx hb dRn_doCatch_21 hl (by decide) rfl (fun ls hl => ?_)
  refine lv_iload hx hb dRn_doCatch_23 (lv_at hl 1 rfl) ?_
  refine lv_iconst (v := 2) hx hb dRn_doCatch_25 (by decide) ?_
  refine lv_icmp_ne (tgt := 41) hx hb dRn_doCatch_26 (by decide) (fun c_6 => ?_) (fun c_6 => ?_)
  · -- 26 taken
    refine lv_iload hx hb dRn_doCatch_41 (lv_at hl 1 rfl) ?_
    exact W.iret (v := r_3) hx hb hr (fun t9 ht hW => ⟨⟨r_3, u_4, rfl, by rw [← er_3]; exact xCatch_no (fun q => c_6 q.1), ce_hp ht hP⟩, hS.F ht⟩) hS.2.2 dRn_doCatch_43
  · -- 26 not taken
    refine lv_iload hx hb dRn_doCatch_29 (lv_at hl 0 rfl) ?_
    refine lv_aload_n hx hb dRn_doCatch_31 rfl (lv_at hl 2 rfl) ?_
    refine ce_gR hx hb hts hown hK hP 11 (by decide) rfl lRn_30 rfl dRn_doCatch_32 ?_
    refine ce_si (As := [.int (nI (pK P i)), .int (gTr u_4)]) (rest := []) ⟨hx, hb, hml, hown, hts⟩ (c_Rn_takes l D cI a _ (pK P i) hK16 (gTr u_4)) mRn_takes lRn_148 sRn_takes (ce_hR (by omega) (by decide)) ⟨rfl, rfl⟩ hK hN hP rfl hl.1 rfl (Nat.le_of_ble_eq_true rfl) dRn_doCatch_35 ⟨Nat.le_of_ble_eq_true rfl, Nat.le_of_ble_eq_true rfl⟩ (fun r_7 er_7 => ?_)
    obtain rfl : r_7 = bI (xTakes (pK P i) (gTr u_4)) := er_7
    refine lv_if_ne (tgt := 44) hx hb dRn_doCatch_38 (by decide) (fun c_8 => ?_) (fun c_8 => ?_)
    · -- 38 taken
      refine lv_aload_n hx hb dRn_doCatch_44 rfl (lv_at hl 2 rfl) ?_
      refine lv_dup hx hb dRn_doCatch_45 rfl ?_
      refine ce_gR hx hb hts hown hK hP 8 (by decide) rfl lRn_51 rfl dRn_doCatch_46 ?_
      refine lv_iconst (v := 1) hx hb dRn_doCatch_49 (by decide) ?_
      refine lv_iadd hx hb dRn_doCatch_50 ?_
      refine ce_pCat hx hb hts hown hK hd hP hS lRn_51 dRn_doCatch_51 (fun H locs hP hS => ?_)
      refine lv_aload_n hx hb dRn_doCatch_54 rfl (lv_at hl 2 rfl) ?_
      refine lv_sipush (v := 1000) hx hb dRn_doCatch_55 (by decide) ?_
      refine lv_bipush (v := 16) hx hb dRn_doCatch_58 (by decide) ?_
      refine lv_aload_n hx hb dRn_doCatch_60 rfl (lv_at hl 2 rfl) ?_
      refine ce_gR hx hb hts hown hK hP 11 (by decide) rfl lRn_30 rfl dRn_doCatch_61 ?_
      refine lv_topi (fun y_9 ey_9 => ?_)
      obtain rfl : y_9 = gTr u_4 := ey_9.trans (by rw [gTr_sCat])
      refine lv_imul hx hb dRn_doCatch_64 ?_
      refine lv_iadd hx hb dRn_doCatch_65 ?_
      refine lv_aload_n hx hb dRn_doCatch_66 rfl (lv_at hl 2 rfl) ?_
      refine ce_gR hx hb hts hown hK hP 11 (by decide) rfl lRn_30 rfl dRn_doCatch_67 ?_
      refine lv_topi (fun y_10 ey_10 => ?_)
      obtain rfl : y_10 = gTr u_4 := ey_10.trans (by rw [gTr_sCat])
      refine lv_bipush (v := 10) hx hb dRn_doCatch_70 (by decide) ?_
      refine lv_icmp_ne (tgt := 82) hx hb dRn_doCatch_72 (by decide) (fun c_11 => ?_) (fun c_11 => ?_)
      · -- 72 taken
        refine lv_iconst (v := 0) hx hb dRn_doCatch_82 (by decide) ?_
        refine lv_iadd hx hb dRn_doCatch_83 ?_
        refine ce_pAcc hx hb hts hown hK hd hP hS lRn_42 dRn_doCatch_84 (fun H locs hP hS => ?_)
        refine lv_aload_n hx hb dRn_doCatch_87 rfl (lv_at hl 2 rfl) ?_
        refine ce_vv (As := []) (rest := []) ⟨hx, hb, hml, hown, hts⟩ (c_Rn_forgetTrouble l D cI a hd P (sAcc (sCat u_4 ((gCat u_4) + 1)) ((1000 + (16 * (gTr u_4))) + 0))) mRn_forgetTrouble lRn_79 iRn_forgetTrouble (ce_hR (by omega) (by decide)) ⟨rfl, rfl⟩ hK hN hP hS rfl hl.1 rfl (Nat.le_of_ble_eq_true rfl) dRn_doCatch_88 ⟨Nat.le_of_ble_eq_true rfl, Nat.le_of_ble_eq_true rfl⟩ (fun u_13 H locs er_12 hP hS => ?_)
        obtain rfl := er_12
        have hP : va_P D vwCl (wR a cI P (sOwn (sTa (sTr (sAcc (sCat u_4 ((gCat u_4) + 1)) ((1000 + (16 * (gTr u_4))) + 0)) (-1)) (-1)) (-1))) H := hP
        refine lv_iload hx hb dRn_doCatch_91 (lv_at hl 0 rfl) ?_
        refine lv_bipush (v := 14) hx hb dRn_doCatch_93 (by decide) ?_
        refine lv_icmp_ne (tgt := 108) hx hb dRn_doCatch_95 (by decide) (fun c_14 => ?_) (fun c_14 => ?_)
        · -- 95 taken
          refine lv_iconst (v := 0) hx hb dRn_doCatch_108 (by decide) ?_
          exact W.iret (v := 0) hx hb hr (fun t9 ht hW => ⟨⟨0, sOwn (sTa (sTr (sAcc (sCat u_4 ((gCat u_4) + 1)) ((1000 + (16 * (gTr u_4))) + 0)) (-1)) (-1)) (-1), rfl, by rw [← er_3]; exact (congrArg (fun v => ((0 : Int32), v)) (xCaught_no c_11)).trans (xCatch_go c_6 (bI1 c_8) (fun q => c_14 (congrArg nI q))), ce_hp ht hP⟩, hS.F ht⟩) hS.2.2 dRn_doCatch_109
        · -- 95 not taken
          refine lv_aload_n hx hb dRn_doCatch_98 rfl (lv_at hl 2 rfl) ?_
          refine lv_iload_n hx hb dRn_doCatch_99 rfl (lv_at hl 3 rfl) ?_
          refine lv_bipush (v := 14) hx hb dRn_doCatch_100 (by decide) ?_
          refine ce_vi (As := [.int (nI i), .int 14]) (rest := []) ⟨hx, hb, hml, hown, hts⟩ (c_Rn_ownComesUp l D cI a hd P (sOwn (sTa (sTr (sAcc (sCat u_4 ((gCat u_4) + 1)) ((1000 + (16 * (gTr u_4))) + 0)) (-1)) (-1)) (-1)) (nI i) 14) mRn_ownComesUp lRn_151 iRn_ownComesUp (ce_hR (by omega) (by decide)) ⟨rfl, rfl⟩ hK hN hP hS rfl hl.1 rfl (Nat.le_of_ble_eq_true rfl) dRn_doCatch_102 ⟨Nat.le_of_ble_eq_true rfl, Nat.le_of_ble_eq_true rfl⟩ (fun r_15 u_16 H locs er_15 hP hS => ?_)
          obtain ⟨rfl, rfl⟩ := Prod.mk.inj er_15
          refine lv_goto (tgt := 109) hx hb dRn_doCatch_105 (by decide) ?_
          exact W.iret (v := 2) hx hb hr (fun t9 ht hW => ⟨⟨2, sOwn (sTa (sTr (sOwn (sTa (sTr (sAcc (sCat u_4 ((gCat u_4) + 1)) ((1000 + (16 * (gTr u_4))) + 0)) (-1)) (-1)) (-1)) 10) (nI i)) 14, rfl, by rw [← er_3]; exact (congrArg (fun v => xOwn v (nI i) 14) (xCaught_no c_11)).trans (xCatch_on c_6 (bI1 c_8) ((nI_eq (b := 14) (by omega) (by decide)).mp c_14)), ce_hp ht hP⟩, hS.F ht⟩) hS.2.2 dRn_doCatch_109
      · -- 72 not taken
        refine lv_aload_n hx hb dRn_doCatch_75 rfl (lv_at hl 2 rfl) ?_
        refine ce_gR hx hb hts hown hK hP 13 (by decide) rfl lRn_57 rfl dRn_doCatch_76 ?_
        refine lv_topi (fun y_17 ey_17 => ?_)
        obtain rfl : y_17 = gOwn u_4 := ey_17.trans (by rw [gOwn_sCat])
        refine lv_goto (tgt := 83) hx hb dRn_doCatch_79 (by decide) ?_
        refine lv_iadd hx hb dRn_doCatch_83 ?_
        refine ce_pAcc hx hb hts hown hK hd hP hS lRn_42 dRn_doCatch_84 (fun H locs hP hS => ?_)
        refine lv_aload_n hx hb dRn_doCatch_87 rfl (lv_at hl 2 rfl) ?_
        refine ce_vv (As := []) (rest := []) ⟨hx, hb, hml, hown, hts⟩ (c_Rn_forgetTrouble l D cI a hd P (sAcc (sCat u_4 ((gCat u_4) + 1)) ((1000 + (16 * (gTr u_4))) + (gOwn u_4)))) mRn_forgetTrouble lRn_79 iRn_forgetTrouble (ce_hR (by omega) (by decide)) ⟨rfl, rfl⟩ hK hN hP hS rfl hl.1 rfl (Nat.le_of_ble_eq_true rfl) dRn_doCatch_88 ⟨Nat.le_of_ble_eq_true rfl, Nat.le_of_ble_eq_true rfl⟩ (fun u_19 H locs er_18 hP hS => ?_)
        obtain rfl := er_18
        have hP : va_P D vwCl (wR a cI P (sOwn (sTa (sTr (sAcc (sCat u_4 ((gCat u_4) + 1)) ((1000 + (16 * (gTr u_4))) + (gOwn u_4))) (-1)) (-1)) (-1))) H := hP
        refine lv_iload hx hb dRn_doCatch_91 (lv_at hl 0 rfl) ?_
        refine lv_bipush (v := 14) hx hb dRn_doCatch_93 (by decide) ?_
        refine lv_icmp_ne (tgt := 108) hx hb dRn_doCatch_95 (by decide) (fun c_20 => ?_) (fun c_20 => ?_)
        · -- 95 taken
          refine lv_iconst (v := 0) hx hb dRn_doCatch_108 (by decide) ?_
          exact W.iret (v := 0) hx hb hr (fun t9 ht hW => ⟨⟨0, sOwn (sTa (sTr (sAcc (sCat u_4 ((gCat u_4) + 1)) ((1000 + (16 * (gTr u_4))) + (gOwn u_4))) (-1)) (-1)) (-1), rfl, by rw [← er_3]; exact (congrArg (fun v => ((0 : Int32), v)) (xCaught_own c_11)).trans (xCatch_go c_6 (bI1 c_8) (fun q => c_20 (congrArg nI q))), ce_hp ht hP⟩, hS.F ht⟩) hS.2.2 dRn_doCatch_109
        · -- 95 not taken
          refine lv_aload_n hx hb dRn_doCatch_98 rfl (lv_at hl 2 rfl) ?_
          refine lv_iload_n hx hb dRn_doCatch_99 rfl (lv_at hl 3 rfl) ?_
          refine lv_bipush (v := 14) hx hb dRn_doCatch_100 (by decide) ?_
          refine ce_vi (As := [.int (nI i), .int 14]) (rest := []) ⟨hx, hb, hml, hown, hts⟩ (c_Rn_ownComesUp l D cI a hd P (sOwn (sTa (sTr (sAcc (sCat u_4 ((gCat u_4) + 1)) ((1000 + (16 * (gTr u_4))) + (gOwn u_4))) (-1)) (-1)) (-1)) (nI i) 14) mRn_ownComesUp lRn_151 iRn_ownComesUp (ce_hR (by omega) (by decide)) ⟨rfl, rfl⟩ hK hN hP hS rfl hl.1 rfl (Nat.le_of_ble_eq_true rfl) dRn_doCatch_102 ⟨Nat.le_of_ble_eq_true rfl, Nat.le_of_ble_eq_true rfl⟩ (fun r_21 u_22 H locs er_21 hP hS => ?_)
          obtain ⟨rfl, rfl⟩ := Prod.mk.inj er_21
          refine lv_goto (tgt := 109) hx hb dRn_doCatch_105 (by decide) ?_
          exact W.iret (v := 2) hx hb hr (fun t9 ht hW => ⟨⟨2, sOwn (sTa (sTr (sOwn (sTa (sTr (sAcc (sCat u_4 ((gCat u_4) + 1)) ((1000 + (16 * (gTr u_4))) + (gOwn u_4))) (-1)) (-1)) (-1)) 10) (nI i)) 14, rfl, by rw [← er_3]; exact (congrArg (fun v => xOwn v (nI i) 14) (xCaught_own c_11)).trans (xCatch_on c_6 (bI1 c_8) ((nI_eq (b := 14) (by omega) (by decide)).mp c_20)), ce_hp ht hP⟩, hS.F ht⟩) hS.2.2 dRn_doCatch_109
    · -- 38 not taken
      refine lv_iload hx hb dRn_doCatch_41 (lv_at hl 1 rfl) ?_
      exact W.iret (v := r_3) hx hb hr (fun t9 ht hW => ⟨⟨r_3, u_4, rfl, by rw [← er_3]; exact xCatch_no (fun q => absurd q.2 (by rw [bI0 c_8]; decide)), ce_hp ht hP⟩, hS.F ht⟩) hS.2.2 dRn_doCatch_43
set_option maxHeartbeats 4000000 in
set_option maxRecDepth 100000 in
theorem c_Rn_doFinally (l : Launch) (D : va_G) (cI : ClassId) (a : Nat → Nat) (hd : dR a) (P : PR) (hp : pOk P) (k d : Nat) (hdk : d + 1 + k = 15) (ih : okDA l D cI a P k) (u : RS) (i z : Nat) (hiz : i < z) (hz : z ≤ P.2.2) : Met l yRn_doFinally (ce_ws yRn_doFinally cRn_doFinally 5 (some .int)) (ce_rm (3 * k + 3)) (ce_Pc D cI [.ref (a 0), .int (nI i), .int (nI z), .int (nI d)] (wR a cI P u)) (va_Qi (fun r u' => (r, u') = xFinally (xActs P k (i + 1) z u)) (fun u' t => va_P D vwCl (wR a cI P u') t.heap) (aR a)) 0 0 (aR a) := by
  refine Met.ofW (cc := cRn_doFinally) (maxL := 5) (ret := (some .int)) (by decide) rfl ?_
  intro p e s m args below meth c s₁ B hml hv
  obtain ⟨rfl, hP, hK, hN⟩ := hv
  have hx := B.exec
  have hb := B.bytes
  have hr := B.returns
  have hts := atoms_spec (ws := ce_ws yRn_doFinally cRn_doFinally 5 (some .int)) B.pre
  have hown : s.vm.findClass RRn = some m.cls := findClass_of_methodNamed B.named
  have hlocks := B.notSynchronized
  have hS : va_S (aR a) s.heap s.heap [] := va_S.rf
  have hl := lv_entry ([.ref (a 0), .int (nI i), .int (nI z), .int (nI d)]) (n := 5) (Nat.le_of_ble_eq_true rfl)
  rw [lg_entry_eq]
  generalize (lg_sl ([.ref (a 0), .int (nI i), .int (nI z), .int (nI d)]) ++ List.replicate (5 - (lg_sl ([.ref (a 0), .int (nI i), .int (nI z), .int (nI d)])).length) Slot.unset).toArray = ls at hl ⊢
  have hl : lv_has ls 5 [(0, .ref (a 0)), (1, .int (nI i)), (2, .int (nI z)), (3, .int (nI d))] := hl
  have hi : i < 14 := Nat.lt_of_lt_of_le hiz (Nat.le_trans hz hp.1)
  have h8 : P.2.1 i ≤ 255 := (hp.2 i (by omega)).2
  have h21 : P.1 i ≤ 21 := (hp.2 i (by omega)).1
  have hK16 : pK P i < 16 := by unfold pK; omega
  refine lv_aload_n hx hb dRn_doFinally_0 rfl (lv_at hl 0 rfl) ?_
  refine lv_iload_n hx hb dRn_doFinally_1 rfl (lv_at hl 1 rfl) ?_
  refine lv_iconst (v := 1) hx hb dRn_doFinally_2 (by decide) ?_
  refine lv_iadd hx hb dRn_doFinally_3 ?_
  refine lv_topi (fun y_1 ey_1 => ?_)
  obtain rfl : y_1 = nI (i + 1) := ey_1.trans (nI_1 i)
  refine lv_iload_n hx hb dRn_doFinally_4 rfl (lv_at hl 2 rfl) ?_
  refine lv_iload_n hx hb dRn_doFinally_5 rfl (lv_at hl 3 rfl) ?_
  refine lv_iconst (v := 1) hx hb dRn_doFinally_6 (by decide) ?_
  refine lv_iadd hx hb dRn_doFinally_7 ?_
  refine lv_topi (fun y_2 ey_2 => ?_)
  obtain rfl : y_2 = nI (d + 1) := ey_2.trans (nI_1 d)
  refine ce_vi (As := [.int (nI (i + 1)), .int (nI z), .int (nI (d + 1))]) (rest := []) ⟨hx, hb, hml, hown, hts⟩ (ih u (i + 1) z (d + 1) (by omega) (by omega) hz) mRn_doActions lRn_72 iRn_doActions (ce_hR (by omega) (by decide)) ⟨rfl, rfl⟩ hK hN hP hS rfl hl.1 rfl (Nat.le_of_ble_eq_true rfl) dRn_doFinally_8 ⟨Nat.le_of_ble_eq_true rfl, Nat.le_of_ble_eq_true rfl⟩ (fun r_3 u_4 H locs er_3 hP hS => ?_)
  refine lv_istore (lv' := [(4, .int r_3), (0, .ref (a 0)), (1, .int (nI i)), (2, .int (nI z)), (3, .int (nI d))]) hx hb dRn_doFinally_11 hl (by decide) rfl (fun ls hl => ?_)
  refine lv_aload_n hx hb dRn_doFinally_13 rfl (lv_at hl 1 rfl) ?_
  refine lv_dup hx hb dRn_doFinally_14 rfl ?_
  refine ce_gR hx hb hts hown hK hP 7 (by decide) rfl lRn_48 rfl dRn_doFinally_15 ?_
  refine lv_iconst (v := 1) hx hb dRn_doFinally_18 (by decide) ?_
  refine lv_iadd hx hb dRn_doFinally_19 ?_
  refine ce_pFin hx hb hts hown hK hd hP hS lRn_48 dRn_doFinally_20 (fun H locs hP hS => ?_)
  refine lv_aload_n hx hb dRn_doFinally_23 rfl (lv_at hl 1 rfl) ?_
  refine lv_aload_n hx hb dRn_doFinally_24 rfl (lv_at hl 1 rfl) ?_
  refine ce_gR hx hb hts hown hK hP 5 (by decide) rfl lRn_42 rfl dRn_doFinally_25 ?_
  refine lv_topi (fun y_5 ey_5 => ?_)
  obtain rfl : y_5 = gAcc u_4 := ey_5.trans (by rw [gAcc_sFin])
  refine lv_ineg hx hb dRn_doFinally_28 ?_
  refine ce_pAcc hx hb hts hown hK hd hP hS lRn_42 dRn_doFinally_29 (fun H locs hP hS => ?_)
  refine lv_iload hx hb dRn_doFinally_32 (lv_at hl 0 rfl) ?_
  exact W.iret (v := r_3) hx hb hr (fun t9 ht hW => ⟨⟨r_3, sAcc (sFin u_4 ((gFin u_4) + 1)) (-(gAcc u_4)), rfl, congrArg xFinally er_3, ce_hp ht hP⟩, hS.F ht⟩) hS.2.2 dRn_doFinally_34
set_option maxHeartbeats 4000000 in
set_option maxRecDepth 100000 in
theorem c_Rn_doDrop (l : Launch) (D : va_G) (cI : ClassId) (a : Nat → Nat) (hd : dR a) (P : PR) (hp : pOk P) (k d : Nat) (hdk : d + 1 + k = 15) (ih : okDA l D cI a P k) (u : RS) (i z : Nat) (hiz : i < z) (hz : z ≤ P.2.2) : Met l yRn_doDrop (ce_ws yRn_doDrop cRn_doDrop 4 (some .int)) (ce_rm (3 * k + 3)) (ce_Pc D cI [.ref (a 0), .int (nI i), .int (nI z), .int (nI d)] (wR a cI P u)) (va_Qi (fun r u' => (r, u') = xDrop (xActs P k (i + 1) z u)) (fun u' t => va_P D vwCl (wR a cI P u') t.heap) (aR a)) 0 0 (aR a) := by
  refine Met.ofW (cc := cRn_doDrop) (maxL := 4) (ret := (some .int)) (by decide) rfl ?_
  intro p e s m args below meth c s₁ B hml hv
  obtain ⟨rfl, hP, hK, hN⟩ := hv
  have hx := B.exec
  have hb := B.bytes
  have hr := B.returns
  have hts := atoms_spec (ws := ce_ws yRn_doDrop cRn_doDrop 4 (some .int)) B.pre
  have hown : s.vm.findClass RRn = some m.cls := findClass_of_methodNamed B.named
  have hlocks := B.notSynchronized
  have hS : va_S (aR a) s.heap s.heap [] := va_S.rf
  have hl := lv_entry ([.ref (a 0), .int (nI i), .int (nI z), .int (nI d)]) (n := 4) (Nat.le_of_ble_eq_true rfl)
  rw [lg_entry_eq]
  generalize (lg_sl ([.ref (a 0), .int (nI i), .int (nI z), .int (nI d)]) ++ List.replicate (4 - (lg_sl ([.ref (a 0), .int (nI i), .int (nI z), .int (nI d)])).length) Slot.unset).toArray = ls at hl ⊢
  have hl : lv_has ls 4 [(0, .ref (a 0)), (1, .int (nI i)), (2, .int (nI z)), (3, .int (nI d))] := hl
  have hi : i < 14 := Nat.lt_of_lt_of_le hiz (Nat.le_trans hz hp.1)
  have h8 : P.2.1 i ≤ 255 := (hp.2 i (by omega)).2
  have h21 : P.1 i ≤ 21 := (hp.2 i (by omega)).1
  have hK16 : pK P i < 16 := by unfold pK; omega
  refine lv_aload_n hx hb dRn_doDrop_0 rfl (lv_at hl 0 rfl) ?_
  refine lv_iload_n hx hb dRn_doDrop_1 rfl (lv_at hl 1 rfl) ?_
  refine lv_iconst (v := 1) hx hb dRn_doDrop_2 (by decide) ?_
  refine lv_iadd hx hb dRn_doDrop_3 ?_
  refine lv_topi (fun y_1 ey_1 => ?_)
  obtain rfl : y_1 = nI (i + 1) := ey_1.trans (nI_1 i)
  refine lv_iload_n hx hb dRn_doDrop_4 rfl (lv_at hl 2 rfl) ?_
  refine lv_iload_n hx hb dRn_doDrop_5 rfl (lv_at hl 3 rfl) ?_
  refine lv_iconst (v := 1) hx hb dRn_doDrop_6 (by decide) ?_
  refine lv_iadd hx hb dRn_doDrop_7 ?_
  refine lv_topi (fun y_2 ey_2 => ?_)
  obtain rfl : y_2 = nI (d + 1) := ey_2.trans (nI_1 d)
  refine ce_vi (As := [.int (nI (i + 1)), .int (nI z), .int (nI (d + 1))]) (rest := []) ⟨hx, hb, hml, hown, hts⟩ (ih u (i + 1) z (d + 1) (by omega) (by omega) hz) mRn_doActions lRn_72 iRn_doActions (ce_hR (by omega) (by decide)) ⟨rfl, rfl⟩ hK hN hP hS rfl hl.1 rfl (Nat.le_of_ble_eq_true rfl) dRn_doDrop_8 ⟨Nat.le_of_ble_eq_true rfl, Nat.le_of_ble_eq_true rfl⟩ (fun r_3 u_4 H locs er_3 hP hS => ?_)
  refine lv_pop hx hb dRn_doDrop_11 rfl ?_
  refine lv_aload_n hx hb dRn_doDrop_12 rfl (lv_at hl 0 rfl) ?_
  refine ce_vv (As := []) (rest := []) ⟨hx, hb, hml, hown, hts⟩ (c_Rn_forgetTrouble l D cI a hd P u_4) mRn_forgetTrouble lRn_79 iRn_forgetTrouble (ce_hR (by omega) (by decide)) ⟨rfl, rfl⟩ hK hN hP hS rfl hl.1 rfl (Nat.le_of_ble_eq_true rfl) dRn_doDrop_13 ⟨Nat.le_of_ble_eq_true rfl, Nat.le_of_ble_eq_true rfl⟩ (fun u_6 H locs er_5 hP hS => ?_)
  obtain rfl := er_5
  have hP : va_P D vwCl (wR a cI P (sOwn (sTa (sTr u_4 (-1)) (-1)) (-1))) H := hP
  refine lv_aload_n hx hb dRn_doDrop_16 rfl (lv_at hl 0 rfl) ?_
  refine lv_dup hx hb dRn_doDrop_17 rfl ?_
  refine ce_gR hx hb hts hown hK hP 7 (by decide) rfl lRn_48 rfl dRn_doDrop_18 ?_
  refine lv_topi (fun y_7 ey_7 => ?_)
  obtain rfl : y_7 = gFin u_4 := ey_7.trans (by rw [gFin_sOwn, gFin_sTa, gFin_sTr])
  refine lv_iconst (v := 1) hx hb dRn_doDrop_21 (by decide) ?_
  refine lv_iadd hx hb dRn_doDrop_22 ?_
  refine ce_pFin hx hb hts hown hK hd hP hS lRn_48 dRn_doDrop_23 (fun H locs hP hS => ?_)
  refine lv_iconst (v := 0) hx hb dRn_doDrop_26 (by decide) ?_
  exact W.iret (v := 0) hx hb hr (fun t9 ht hW => ⟨⟨0, sFin (sOwn (sTa (sTr u_4 (-1)) (-1)) (-1)) ((gFin u_4) + 1), rfl, congrArg xDrop er_3, ce_hp ht hP⟩, hS.F ht⟩) hS.2.2 dRn_doDrop_27
set_option maxHeartbeats 4000000 in
set_option maxRecDepth 100000 in
theorem c_Rn_doHold (l : Launch) (D : va_G) (cI : ClassId) (a : Nat → Nat) (hd : dR a) (P : PR) (hp : pOk P) (k d : Nat) (hdk : d + 1 + k = 15) (ih : okDA l D cI a P k) (u : RS) (i z : Nat) (hiz : i < z) (hz : z ≤ P.2.2) : Met l yRn_doHold (ce_ws yRn_doHold cRn_doHold 6 (some .int)) (ce_rm (3 * k + 3)) (ce_Pc D cI [.ref (a 0), .int (nI i), .int (nI z), .int (nI d)] (wR a cI P u)) (va_Qi (fun r u' => (r, u') = xLet P i (xActs P k (i + 1) z (xGrab P i u))) (fun u' t => va_P D vwCl (wR a cI P u') t.heap) (aR a)) 0 0 (aR a) := by
  refine Met.ofW (cc := cRn_doHold) (maxL := 6) (ret := (some .int)) (by decide) rfl ?_
  intro p e s m args below meth c s₁ B hml hv
  obtain ⟨rfl, hP, hK, hN⟩ := hv
  have hx := B.exec
  have hb := B.bytes
  have hr := B.returns
  have hts := atoms_spec (ws := ce_ws yRn_doHold cRn_doHold 6 (some .int)) B.pre
  have hown : s.vm.findClass RRn = some m.cls := findClass_of_methodNamed B.named
  have hlocks := B.notSynchronized
  have hS : va_S (aR a) s.heap s.heap [] := va_S.rf
  have hl := lv_entry ([.ref (a 0), .int (nI i), .int (nI z), .int (nI d)]) (n := 6) (Nat.le_of_ble_eq_true rfl)
  rw [lg_entry_eq]
  generalize (lg_sl ([.ref (a 0), .int (nI i), .int (nI z), .int (nI d)]) ++ List.replicate (6 - (lg_sl ([.ref (a 0), .int (nI i), .int (nI z), .int (nI d)])).length) Slot.unset).toArray = ls at hl ⊢
  have hl : lv_has ls 6 [(0, .ref (a 0)), (1, .int (nI i)), (2, .int (nI z)), (3, .int (nI d))] := hl
  have hi : i < 14 := Nat.lt_of_lt_of_le hiz (Nat.le_trans hz hp.1)
  have h8 : P.2.1 i ≤ 255 := (hp.2 i (by omega)).2
  have h21 : P.1 i ≤ 21 := (hp.2 i (by omega)).1
  have hK16 : pK P i < 16 := by unfold pK; omega
  refine lv_aload_n hx hb dRn_doHold_0 rfl (lv_at hl 0 rfl) ?_
  refine ce_gR hx hb hts hown hK hP 0 (by decide) rfl lRn_18 rfl dRn_doHold_1 ?_
  refine lv_iload_n hx hb dRn_doHold_4 rfl (lv_at hl 1 rfl) ?_
  refine ce_ri (As := [.int (nI i)]) (rest := []) ⟨hx, hb, hml, hown, hts⟩ (c_Pg_high l D cI a P i hi h8) mPg_high lRn_145 iPg_high (ce_hR (by omega) (by decide)) ⟨rfl, rfl⟩ hK hN (hP.sub (ws' := wP a cI P) [1, 2, 3] rfl) 0 rfl rfl rfl hl.1 rfl (Nat.le_of_ble_eq_true rfl) dRn_doHold_5 ⟨Nat.le_of_ble_eq_true rfl, Nat.le_of_ble_eq_true rfl⟩ (fun r_1 er_1 => ?_)
  obtain rfl : r_1 = nI (pK P i) := er_1
  refine lv_iconst (v := 2) hx hb dRn_doHold_8 (by decide) ?_
  refine lv_irem hx hb dRn_doHold_9 (by decide) ?_
  refine lv_topi (fun y_2 ey_2 => ?_)
  obtain rfl : y_2 = nI (pK P i % 2) := ey_2.trans (pk_rem (d := 2) (by omega) (by decide) (by decide))
  refine lv_istore (lv' := [(4, .int (nI (pK P i % 2))), (0, .ref (a 0)), (1, .int (nI i)), (2, .int (nI z)), (3, .int (nI d))]) hx hb dRn_doHold_10 hl (by decide) rfl (fun ls hl => ?_)
  refine lv_aload_n hx hb dRn_doHold_12 rfl (lv_at hl 1 rfl) ?_
  refine ce_gR hx hb hts hown hK hP 2 (by decide) rfl lRn_15 rfl dRn_doHold_13 ?_
  refine lv_iload hx hb dRn_doHold_16 (lv_at hl 0 rfl) ?_
  refine lv_dup2_11 hx hb dRn_doHold_18 rfl rfl ?_
  refine va_iald hx hb hK hP 5 0 rfl rfl (vp_in_nI (Nat.mod_lt _ (by decide)) (by decide)) dRn_doHold_19 ?_
  refine lv_topi (fun y_3 ey_3 => ?_)
  obtain rfl : y_3 = (gHolds u) (pK P i % 2) := ey_3.trans (congrArg (gHolds u) (nI_clamp (by omega)))
  refine lv_iconst (v := 1) hx hb dRn_doHold_20 (by decide) ?_
  refine lv_iadd hx hb dRn_doHold_21 ?_
  refine ce_ast5 hx hb hK hd hP hS (vp_in_nI (Nat.mod_lt _ (by decide)) (by decide)) dRn_doHold_22 (fun H locs hP hS => ?_)
  rw [nI_clamp (n := pK P i % 2) (by omega)] at hP
  have hP : va_P D vwCl (wR a cI P (sHolds u (upd (gHolds u) (pK P i % 2) (((gHolds u) (pK P i % 2)) + 1)))) H := hP
  refine lv_aload_n hx hb dRn_doHold_23 rfl (lv_at hl 1 rfl) ?_
  refine lv_iload_n hx hb dRn_doHold_24 rfl (lv_at hl 2 rfl) ?_
  refine lv_iconst (v := 1) hx hb dRn_doHold_25 (by decide) ?_
  refine lv_iadd hx hb dRn_doHold_26 ?_
  refine lv_topi (fun y_4 ey_4 => ?_)
  obtain rfl : y_4 = nI (i + 1) := ey_4.trans (nI_1 i)
  refine lv_iload_n hx hb dRn_doHold_27 rfl (lv_at hl 3 rfl) ?_
  refine lv_iload_n hx hb dRn_doHold_28 rfl (lv_at hl 4 rfl) ?_
  refine lv_iconst (v := 1) hx hb dRn_doHold_29 (by decide) ?_
  refine lv_iadd hx hb dRn_doHold_30 ?_
  refine lv_topi (fun y_5 ey_5 => ?_)
  obtain rfl : y_5 = nI (d + 1) := ey_5.trans (nI_1 d)
  refine ce_vi (As := [.int (nI (i + 1)), .int (nI z), .int (nI (d + 1))]) (rest := []) ⟨hx, hb, hml, hown, hts⟩ (ih (sHolds u (upd (gHolds u) (pK P i % 2) (((gHolds u) (pK P i % 2)) + 1))) (i + 1) z (d + 1) (by omega) (by omega) hz) mRn_doActions lRn_72 iRn_doActions (ce_hR (by omega) (by decide)) ⟨rfl, rfl⟩ hK hN hP hS rfl hl.1 rfl (Nat.le_of_ble_eq_true rfl) dRn_doHold_31 ⟨Nat.le_of_ble_eq_true rfl, Nat.le_of_ble_eq_true rfl⟩ (fun r_6 u_7 H locs er_6 hP hS => ?_)
  refine lv_istore (lv' := [(5, .int r_6), (4, .int (nI (pK P i % 2))), (0, .ref (a 0)), (1, .int (nI i)), (2, .int (nI z)), (3, .int (nI d))]) hx hb dRn_doHold_34 hl (by decide) rfl (fun ls hl => ?_)
  refine lv_aload_n hx hb dRn_doHold_36 rfl (lv_at hl 2 rfl) ?_
  refine ce_gR hx hb hts hown hK hP 2 (by decide) rfl lRn_15 rfl dRn_doHold_37 ?_
  refine lv_iload hx hb dRn_doHold_40 (lv_at hl 1 rfl) ?_
  refine lv_dup2_11 hx hb dRn_doHold_42 rfl rfl ?_
  refine va_iald hx hb hK hP 5 0 rfl rfl (vp_in_nI (Nat.mod_lt _ (by decide)) (by decide)) dRn_doHold_43 ?_
  refine lv_topi (fun y_8 ey_8 => ?_)
  obtain rfl : y_8 = (gHolds u_7) (pK P i % 2) := ey_8.trans (congrArg (gHolds u_7) (nI_clamp (by omega)))
  refine lv_iconst (v := 1) hx hb dRn_doHold_44 (by decide) ?_
  refine lv_isub hx hb dRn_doHold_45 ?_
  refine ce_ast5 hx hb hK hd hP hS (vp_in_nI (Nat.mod_lt _ (by decide)) (by decide)) dRn_doHold_46 (fun H locs hP hS => ?_)
  rw [nI_clamp (n := pK P i % 2) (by omega)] at hP
  have hP : va_P D vwCl (wR a cI P (sHolds u_7 (upd (gHolds u_7) (pK P i % 2) (((gHolds u_7) (pK P i % 2)) - 1)))) H := hP
  refine lv_iload hx hb dRn_doHold_47 (lv_at hl 0 rfl) ?_
  exact W.iret (v := r_6) hx hb hr (fun t9 ht hW => ⟨⟨r_6, sHolds u_7 (upd (gHolds u_7) (pK P i % 2) (((gHolds u_7) (pK P i % 2)) - 1)), rfl, congrArg (xLet P i) er_6, ce_hp ht hP⟩, hS.F ht⟩) hS.2.2 dRn_doHold_49
set_option maxHeartbeats 4000000 in
set_option maxRecDepth 100000 in
theorem c_Rn_doRepeat (l : Launch) (D : va_G) (cI : ClassId) (a : Nat → Nat) (hd : dR a) (P : PR) (hp : pOk P) (k d : Nat) (hdk : d + 1 + k = 15) (ih : okDA l D cI a P k) (u : RS) (i z : Nat) (hiz : i < z) (hz : z ≤ P.2.2) : Met l yRn_doRepeat (ce_ws yRn_doRepeat cRn_doRepeat 7 (some .int)) (ce_rm (3 * k + 3)) (ce_Pc D cI [.ref (a 0), .int (nI i), .int (nI z), .int (nI d)] (wR a cI P u)) (va_Qi (fun r u' => (r, u') = xRep (xActs P k (i + 1) z) (pK P i) u) (fun u' t => va_P D vwCl (wR a cI P u') t.heap) (aR a)) 0 0 (aR a) := by
  refine Met.ofW (cc := cRn_doRepeat) (maxL := 7) (ret := (some .int)) (by decide) rfl ?_
  intro p e s m args below meth c s₁ B hml hv
  obtain ⟨rfl, hP, hK, hN⟩ := hv
  have hx := B.exec
  have hb := B.bytes
  have hr := B.returns
  have hts := atoms_spec (ws := ce_ws yRn_doRepeat cRn_doRepeat 7 (some .int)) B.pre
  have hown : s.vm.findClass RRn = some m.cls := findClass_of_methodNamed B.named
  have hlocks := B.notSynchronized
  have hS : va_S (aR a) s.heap s.heap [] := va_S.rf
  have hl := lv_entry ([.ref (a 0), .int (nI i), .int (nI z), .int (nI d)]) (n := 7) (Nat.le_of_ble_eq_true rfl)
  rw [lg_entry_eq]
  generalize (lg_sl ([.ref (a 0), .int (nI i), .int (nI z), .int (nI d)]) ++ List.replicate (7 - (lg_sl ([.ref (a 0), .int (nI i), .int (nI z), .int (nI d)])).length) Slot.unset).toArray = ls at hl ⊢
  have hl : lv_has ls 7 [(0, .ref (a 0)), (1, .int (nI i)), (2, .int (nI z)), (3, .int (nI d))] := hl
  have hi : i < 14 := Nat.lt_of_lt_of_le hiz (Nat.le_trans hz hp.1)
  have h8 : P.2.1 i ≤ 255 := (hp.2 i (by omega)).2
  have h21 : P.1 i ≤ 21 := (hp.2 i (by omega)).1
  have hK16 : pK P i < 16 := by unfold pK; omega
  refine lv_aload_n hx hb dRn_doRepeat_0 rfl (lv_at hl 0 rfl) ?_
  refine ce_gR hx hb hts hown hK hP 0 (by decide) rfl lRn_18 rfl dRn_doRepeat_1 ?_
  refine lv_iload_n hx hb dRn_doRepeat_4 rfl (lv_at hl 1 rfl) ?_
  refine ce_ri (As := [.int (nI i)]) (rest := []) ⟨hx, hb, hml, hown, hts⟩ (c_Pg_high l D cI a P i hi h8) mPg_high lRn_145 iPg_high (ce_hR (by omega) (by decide)) ⟨rfl, rfl⟩ hK hN (hP.sub (ws' := wP a cI P) [1, 2, 3] rfl) 0 rfl rfl rfl hl.1 rfl (Nat.le_of_ble_eq_true rfl) dRn_doRepeat_5 ⟨Nat.le_of_ble_eq_true rfl, Nat.le_of_ble_eq_true rfl⟩ (fun r_1 er_1 => ?_)
  obtain rfl : r_1 = nI (pK P i) := er_1
  refine lv_istore (lv' := [(4, .int (nI (pK P i))), (0, .ref (a 0)), (1, .int (nI i)), (2, .int (nI z)), (3, .int (nI d))]) hx hb dRn_doRepeat_8 hl (by decide) rfl (fun ls hl => ?_)
  refine lv_iconst (v := 0) hx hb dRn_doRepeat_10 (by decide) ?_
  refine lv_istore (lv' := [(5, .int 0), (4, .int (nI (pK P i))), (0, .ref (a 0)), (1, .int (nI i)), (2, .int (nI z)), (3, .int (nI d))]) hx hb dRn_doRepeat_11 hl (by decide) rfl (fun ls hl => ?_)
  have loop : ∀ (n j : Nat) (v : RS) (H : Heap) (locs : List Loc) (ls : Array Slot), j + n = pK P i → (∀ rr uu, (rr, uu) = xRep (xActs P k (i + 1) z) n v → (rr, uu) = xRep (xActs P k (i + 1) z) (pK P i) u) → va_P D vwCl (wR a cI P v) H → va_S (aR a) s.heap H locs → lv_has ls 7 [(0, .ref (a 0)), (1, .int (nI i)), (2, .int (nI z)), (3, .int (nI d)), (4, .int (nI (pK P i))), (5, .int (nI j))] → W p l e (headSpec (ce_ws yRn_doRepeat cRn_doRepeat 7 (some .int)) (ce_rm (3 * k + 3))).room s m (([.ref (a 0), .int (nI i), .int (nI z), .int (nI d)] : List Value).toArray) below meth c H locs 0 0 (MQ below (va_Qi (fun r u' => (r, u') = xRep (xActs P k (i + 1) z) (pK P i) u) (fun u' t => va_P D vwCl (wR a cI P u') t.heap) (aR a)) (([.ref (a 0), .int (nI i), .int (nI z), .int (nI d)] : List Value).toArray) s 0 0 (aR a)) (F0 m 13 ls []) := by
    intro n
    induction n with
    | zero =>
      intro j v H locs ls hj hq hP hS hl
      refine lv_iload hx hb dRn_doRepeat_13 (lv_at hl 5 rfl) ?_
      refine lv_iload hx hb dRn_doRepeat_15 (lv_at hl 4 rfl) ?_
      refine lv_icmp_ge (tgt := 47) hx hb dRn_doRepeat_17 (by decide) (fun c_2 => ?_) (fun c_2 => ?_)
      · -- 17 taken
        refine lv_iconst (v := 0) hx hb dRn_doRepeat_47 (by decide) ?_
        exact W.iret (v := 0) hx hb hr (fun t9 ht hW => ⟨⟨0, v, rfl, hq _ _ rfl, ce_hp ht hP⟩, hS.F ht⟩) hS.2.2 dRn_doRepeat_48
      · -- 17 not taken
        exact absurd (nI_le (a := pK P i) (b := j) (by omega) (by omega)) c_2
    | succ n ihn =>
      intro j v H locs ls hj hq hP hS hl
      refine lv_iload hx hb dRn_doRepeat_13 (lv_at hl 5 rfl) ?_
      refine lv_iload hx hb dRn_doRepeat_15 (lv_at hl 4 rfl) ?_
      refine lv_icmp_ge (tgt := 47) hx hb dRn_doRepeat_17 (by decide) (fun c_3 => ?_) (fun c_3 => ?_)
      · -- 17 taken
        exact absurd c_3 (nI_ge (by omega) (by omega))
      · -- 17 not taken
        refine lv_aload_n hx hb dRn_doRepeat_20 rfl (lv_at hl 0 rfl) ?_
        refine lv_iload_n hx hb dRn_doRepeat_21 rfl (lv_at hl 1 rfl) ?_
        refine lv_iconst (v := 1) hx hb dRn_doRepeat_22 (by decide) ?_
        refine lv_iadd hx hb dRn_doRepeat_23 ?_
        refine lv_topi (fun y_4 ey_4 => ?_)
        obtain rfl : y_4 = nI (i + 1) := ey_4.trans (nI_1 i)
        refine lv_iload_n hx hb dRn_doRepeat_24 rfl (lv_at hl 2 rfl) ?_
        refine lv_iload_n hx hb dRn_doRepeat_25 rfl (lv_at hl 3 rfl) ?_
        refine lv_iconst (v := 1) hx hb dRn_doRepeat_26 (by decide) ?_
        refine lv_iadd hx hb dRn_doRepeat_27 ?_
        refine lv_topi (fun y_5 ey_5 => ?_)
        obtain rfl : y_5 = nI (d + 1) := ey_5.trans (nI_1 d)
        refine ce_vi (As := [.int (nI (i + 1)), .int (nI z), .int (nI (d + 1))]) (rest := []) ⟨hx, hb, hml, hown, hts⟩ (ih v (i + 1) z (d + 1) (by omega) (by omega) hz) mRn_doActions lRn_72 iRn_doActions (ce_hR (by omega) (by decide)) ⟨rfl, rfl⟩ hK hN hP hS rfl hl.1 rfl (Nat.le_of_ble_eq_true rfl) dRn_doRepeat_28 ⟨Nat.le_of_ble_eq_true rfl, Nat.le_of_ble_eq_true rfl⟩ (fun r_6 u_7 H locs er_6 hP hS => ?_)
        refine lv_istore (lv' := [(6, .int r_6), (0, .ref (a 0)), (1, .int (nI i)), (2, .int (nI z)), (3, .int (nI d)), (4, .int (nI (pK P i))), (5, .int (nI j))]) hx hb dRn_doRepeat_31 hl (by decide) rfl (fun ls hl => ?_)
        refine lv_iload hx hb dRn_doRepeat_33 (lv_at hl 0 rfl) ?_
        refine lv_if_eq (tgt := 41) hx hb dRn_doRepeat_35 (by decide) (fun c_8 => ?_) (fun c_8 => ?_)
        · -- 35 taken
          refine lv_iinc (v := nI (j + 1)) (lv' := [(5, .int (nI (j + 1))), (6, .int r_6), (0, .ref (a 0)), (1, .int (nI i)), (2, .int (nI z)), (3, .int (nI d)), (4, .int (nI (pK P i)))]) hx hb dRn_doRepeat_41 hl (k := 6) rfl (nI_1 j) (by decide) rfl (fun ls hl => ?_)
          refine lv_goto (tgt := 13) hx hb dRn_doRepeat_44 (by decide) ?_
          exact ihn (j + 1) u_7 _ _ _ (by omega) (fun rr uu h => hq rr uu (h.trans (xRep_go er_6 c_8))) hP hS (lv_sub hl [2, 3, 4, 5, 6, 0] rfl)
        · -- 35 not taken
          refine lv_iload hx hb dRn_doRepeat_38 (lv_at hl 0 rfl) ?_
          exact W.iret (v := r_6) hx hb hr (fun t9 ht hW => ⟨⟨r_6, u_7, rfl, hq _ _ (xRep_end er_6 c_8), ce_hp ht hP⟩, hS.F ht⟩) hS.2.2 dRn_doRepeat_40
  exact loop (pK P i) 0 u _ _ _ (by omega) (fun _ _ h => h) hP hS (lv_sub hl [2, 3, 4, 5, 1, 0] rfl)
set_option maxHeartbeats 4000000 in
set_option maxRecDepth 100000 in
theorem c_Rn_doAction (l : Launch) (D : va_G) (cI : ClassId) (a : Nat → Nat) (hd : dR a) (P : PR) (hp : pOk P) (k d : Nat) (hdk : d + 1 + k = 15) (ih : okDA l D cI a P k) (u : RS) (i z : Nat) (hiz : i < z) (hz : z ≤ P.2.2) : Met l yRn_doAction (ce_ws yRn_doAction cRn_doAction 5 (some .int)) (ce_rm (3 * k + 4)) (ce_Pc D cI [.ref (a 0), .int (nI i), .int (nI z), .int (nI d)] (wR a cI P u)) (va_Qi (fun r u' => (r, u') = xAct (xActs P k) P i z u) (fun u' t => va_P D vwCl (wR a cI P u') t.heap) (aR a)) 0 0 (aR a) := by
  refine Met.ofW (cc := cRn_doAction) (maxL := 5) (ret := (some .int)) (by decide) rfl ?_
  intro p e s m args below meth c s₁ B hml hv
  obtain ⟨rfl, hP, hK, hN⟩ := hv
  have hx := B.exec
  have hb := B.bytes
  have hr := B.returns
  have hts := atoms_spec (ws := ce_ws yRn_doAction cRn_doAction 5 (some .int)) B.pre
  have hown : s.vm.findClass RRn = some m.cls := findClass_of_methodNamed B.named
  have hlocks := B.notSynchronized
  have hS : va_S (aR a) s.heap s.heap [] := va_S.rf
  have hl := lv_entry ([.ref (a 0), .int (nI i), .int (nI z), .int (nI d)]) (n := 5) (Nat.le_of_ble_eq_true rfl)
  rw [lg_entry_eq]
  generalize (lg_sl ([.ref (a 0), .int (nI i), .int (nI z), .int (nI d)]) ++ List.replicate (5 - (lg_sl ([.ref (a 0), .int (nI i), .int (nI z), .int (nI d)])).length) Slot.unset).toArray = ls at hl ⊢
  have hl : lv_has ls 5 [(0, .ref (a 0)), (1, .int (nI i)), (2, .int (nI z)), (3, .int (nI d))] := hl
  have hi : i < 14 := Nat.lt_of_lt_of_le hiz (Nat.le_trans hz hp.1)
  have h8 : P.2.1 i ≤ 255 := (hp.2 i (by omega)).2
  have h21 : P.1 i ≤ 21 := (hp.2 i (by omega)).1
  have hK16 : pK P i < 16 := by unfold pK; omega
  refine lv_aload_n hx hb dRn_doAction_0 rfl (lv_at hl 0 rfl) ?_
  refine ce_gR hx hb hts hown hK hP 0 (by decide) rfl lRn_18 rfl dRn_doAction_1 ?_
  refine lv_iload_n hx hb dRn_doAction_4 rfl (lv_at hl 1 rfl) ?_
  refine ce_ri (As := [.int (nI i)]) (rest := []) ⟨hx, hb, hml, hown, hts⟩ (c_Pg_value l D cI a P i hi) mPg_value lRn_89 iPg_value (ce_hR (by omega) (by decide)) ⟨rfl, rfl⟩ hK hN (hP.sub (ws' := wP a cI P) [1, 2, 3] rfl) 0 rfl rfl rfl hl.1 rfl (Nat.le_of_ble_eq_true rfl) dRn_doAction_5 ⟨Nat.le_of_ble_eq_true rfl, Nat.le_of_ble_eq_true rfl⟩ (fun r_1 er_1 => ?_)
  obtain rfl : r_1 = pV P i := er_1
  refine lv_istore (lv' := [(4, .int (pV P i)), (0, .ref (a 0)), (1, .int (nI i)), (2, .int (nI z)), (3, .int (nI d))]) hx hb dRn_doAction_8 hl (by decide) rfl (fun ls hl => ?_)
  refine lv_aload_n hx hb dRn_doAction_10 rfl (lv_at hl 1 rfl) ?_
  refine ce_gR hx hb hts hown hK hP 0 (by decide) rfl lRn_18 rfl dRn_doAction_11 ?_
  refine lv_iload_n hx hb dRn_doAction_14 rfl (lv_at hl 2 rfl) ?_
  refine ce_ri (As := [.int (nI i)]) (rest := []) ⟨hx, hb, hml, hown, hts⟩ (c_Pg_op l D cI a P i hi) mPg_op lRn_93 iPg_op (ce_hR (by omega) (by decide)) ⟨rfl, rfl⟩ hK hN (hP.sub (ws' := wP a cI P) [1, 2, 3] rfl) 0 rfl rfl rfl hl.1 rfl (Nat.le_of_ble_eq_true rfl) dRn_doAction_15 ⟨Nat.le_of_ble_eq_true rfl, Nat.le_of_ble_eq_true rfl⟩ (fun r_2 er_2 => ?_)
  obtain rfl : r_2 = nI (P.1 i) := er_2
  rcases (show P.1 i = 0 ∨ P.1 i = 1 ∨ P.1 i = 2 ∨ P.1 i = 3 ∨ P.1 i = 4 ∨ P.1 i = 5 ∨ P.1 i = 6 ∨ P.1 i = 7 ∨ P.1 i = 8 ∨ P.1 i = 9 ∨ P.1 i = 10 ∨ P.1 i = 11 ∨ P.1 i = 12 ∨ P.1 i = 13 ∨ P.1 i = 14 ∨ P.1 i = 15 ∨ P.1 i = 16 ∨ P.1 i = 17 ∨ P.1 i = 18 ∨ P.1 i = 19 ∨ P.1 i = 20 ∨ P.1 i = 21 by omega) with hk | hk | hk | hk | hk | hk | hk | hk | hk | hk | hk | hk | hk | hk | hk | hk | hk | hk | hk | hk | hk | hk
  · -- op 0
    refine lv_tableIn (tgt := 120) hx hb dRn_doAction_18 (by rw [hk]; decide) (by rw [hk]; decide) (by rw [hk]; rfl) (by decide) ?_
    refine lv_aload_n hx hb dRn_doAction_120 rfl (lv_at hl 1 rfl) ?_
    refine lv_aload_n hx hb dRn_doAction_121 rfl (lv_at hl 1 rfl) ?_
    refine ce_gR hx hb hts hown hK hP 5 (by decide) rfl lRn_42 rfl dRn_doAction_122 ?_
    refine lv_iload hx hb dRn_doAction_125 (lv_at hl 0 rfl) ?_
    refine lv_iadd hx hb dRn_doAction_127 ?_
    refine ce_vi (As := [.int ((gAcc u) + (pV P i))]) (rest := []) ⟨hx, hb, hml, hown, hts⟩ (c_Rn_become l D cI a hd P u ((gAcc u) + (pV P i))) mRn_become lRn_96 iRn_become (ce_hR (by omega) (by decide)) ⟨rfl, rfl⟩ hK hN hP hS rfl hl.1 rfl (Nat.le_of_ble_eq_true rfl) dRn_doAction_128 ⟨Nat.le_of_ble_eq_true rfl, Nat.le_of_ble_eq_true rfl⟩ (fun r_3 u_4 H locs er_3 hP hS => ?_)
    obtain ⟨rfl, rfl⟩ := Prod.mk.inj er_3
    exact W.iret (v := 0) hx hb hr (fun t9 ht hW => ⟨⟨0, sAcc u ((gAcc u) + (pV P i)), rfl, (xAct_0 hk).symm, ce_hp ht hP⟩, hS.F ht⟩) hS.2.2 dRn_doAction_131
  · -- op 1
    refine lv_tableIn (tgt := 132) hx hb dRn_doAction_18 (by rw [hk]; decide) (by rw [hk]; decide) (by rw [hk]; rfl) (by decide) ?_
    refine lv_aload_n hx hb dRn_doAction_132 rfl (lv_at hl 1 rfl) ?_
    refine lv_aload_n hx hb dRn_doAction_133 rfl (lv_at hl 1 rfl) ?_
    refine ce_gR hx hb hts hown hK hP 5 (by decide) rfl lRn_42 rfl dRn_doAction_134 ?_
    refine lv_iload hx hb dRn_doAction_137 (lv_at hl 0 rfl) ?_
    refine lv_imul hx hb dRn_doAction_139 ?_
    refine ce_vi (As := [.int ((gAcc u) * (pV P i))]) (rest := []) ⟨hx, hb, hml, hown, hts⟩ (c_Rn_become l D cI a hd P u ((gAcc u) * (pV P i))) mRn_become lRn_96 iRn_become (ce_hR (by omega) (by decide)) ⟨rfl, rfl⟩ hK hN hP hS rfl hl.1 rfl (Nat.le_of_ble_eq_true rfl) dRn_doAction_140 ⟨Nat.le_of_ble_eq_true rfl, Nat.le_of_ble_eq_true rfl⟩ (fun r_5 u_6 H locs er_5 hP hS => ?_)
    obtain ⟨rfl, rfl⟩ := Prod.mk.inj er_5
    exact W.iret (v := 0) hx hb hr (fun t9 ht hW => ⟨⟨0, sAcc u ((gAcc u) * (pV P i)), rfl, (xAct_1 hk).symm, ce_hp ht hP⟩, hS.F ht⟩) hS.2.2 dRn_doAction_143
  · -- op 2
    refine lv_tableIn (tgt := 144) hx hb dRn_doAction_18 (by rw [hk]; decide) (by rw [hk]; decide) (by rw [hk]; rfl) (by decide) ?_
    refine lv_iload hx hb dRn_doAction_144 (lv_at hl 0 rfl) ?_
    refine lv_if_ne (tgt := 158) hx hb dRn_doAction_146 (by decide) (fun c_7 => ?_) (fun c_7 => ?_)
    · -- 146 taken
      refine lv_aload_n hx hb dRn_doAction_158 rfl (lv_at hl 1 rfl) ?_
      refine lv_aload_n hx hb dRn_doAction_159 rfl (lv_at hl 1 rfl) ?_
      refine ce_gR hx hb hts hown hK hP 5 (by decide) rfl lRn_42 rfl dRn_doAction_160 ?_
      refine lv_iload hx hb dRn_doAction_163 (lv_at hl 0 rfl) ?_
      refine lv_idiv hx hb dRn_doAction_165 c_7 ?_
      refine ce_vi (As := [.int ((gAcc u) / (pV P i))]) (rest := []) ⟨hx, hb, hml, hown, hts⟩ (c_Rn_become l D cI a hd P u ((gAcc u) / (pV P i))) mRn_become lRn_96 iRn_become (ce_hR (by omega) (by decide)) ⟨rfl, rfl⟩ hK hN hP hS rfl hl.1 rfl (Nat.le_of_ble_eq_true rfl) dRn_doAction_166 ⟨Nat.le_of_ble_eq_true rfl, Nat.le_of_ble_eq_true rfl⟩ (fun r_8 u_9 H locs er_8 hP hS => ?_)
      obtain ⟨rfl, rfl⟩ := Prod.mk.inj er_8
      exact W.iret (v := 0) hx hb hr (fun t9 ht hW => ⟨⟨0, sAcc u ((gAcc u) / (pV P i)), rfl, ((xAct_2 hk).trans (if_neg c_7)).symm, ce_hp ht hP⟩, hS.F ht⟩) hS.2.2 dRn_doAction_169
    · -- 146 not taken
      refine lv_aload_n hx hb dRn_doAction_149 rfl (lv_at hl 1 rfl) ?_
      refine lv_iload_n hx hb dRn_doAction_150 rfl (lv_at hl 2 rfl) ?_
      refine lv_iconst (v := 0) hx hb dRn_doAction_151 (by decide) ?_
      refine ce_vi (As := [.int (nI i), .int 0]) (rest := []) ⟨hx, hb, hml, hown, hts⟩ (c_Rn_comesUp l D cI a hd P u (nI i) 0) mRn_comesUp lRn_99 iRn_comesUp (ce_hR (by omega) (by decide)) ⟨rfl, rfl⟩ hK hN hP hS rfl hl.1 rfl (Nat.le_of_ble_eq_true rfl) dRn_doAction_152 ⟨Nat.le_of_ble_eq_true rfl, Nat.le_of_ble_eq_true rfl⟩ (fun r_10 u_11 H locs er_10 hP hS => ?_)
      obtain ⟨rfl, rfl⟩ := Prod.mk.inj er_10
      refine lv_goto (tgt := 169) hx hb dRn_doAction_155 (by decide) ?_
      exact W.iret (v := 2) hx hb hr (fun t9 ht hW => ⟨⟨2, sOwn (sTa (sTr u 0) (nI i)) (-1), rfl, ((xAct_2 hk).trans (if_pos c_7)).symm, ce_hp ht hP⟩, hS.F ht⟩) hS.2.2 dRn_doAction_169
  · -- op 3
    refine lv_tableIn (tgt := 170) hx hb dRn_doAction_18 (by rw [hk]; decide) (by rw [hk]; decide) (by rw [hk]; rfl) (by decide) ?_
    refine lv_iload hx hb dRn_doAction_170 (lv_at hl 0 rfl) ?_
    refine lv_if_ne (tgt := 184) hx hb dRn_doAction_172 (by decide) (fun c_12 => ?_) (fun c_12 => ?_)
    · -- 172 taken
      refine lv_aload_n hx hb dRn_doAction_184 rfl (lv_at hl 1 rfl) ?_
      refine lv_aload_n hx hb dRn_doAction_185 rfl (lv_at hl 1 rfl) ?_
      refine ce_gR hx hb hts hown hK hP 5 (by decide) rfl lRn_42 rfl dRn_doAction_186 ?_
      refine lv_iload hx hb dRn_doAction_189 (lv_at hl 0 rfl) ?_
      refine lv_irem hx hb dRn_doAction_191 c_12 ?_
      refine ce_vi (As := [.int ((gAcc u) - (gAcc u) / (pV P i) * (pV P i))]) (rest := []) ⟨hx, hb, hml, hown, hts⟩ (c_Rn_become l D cI a hd P u ((gAcc u) - (gAcc u) / (pV P i) * (pV P i))) mRn_become lRn_96 iRn_become (ce_hR (by omega) (by decide)) ⟨rfl, rfl⟩ hK hN hP hS rfl hl.1 rfl (Nat.le_of_ble_eq_true rfl) dRn_doAction_192 ⟨Nat.le_of_ble_eq_true rfl, Nat.le_of_ble_eq_true rfl⟩ (fun r_13 u_14 H locs er_13 hP hS => ?_)
      obtain ⟨rfl, rfl⟩ := Prod.mk.inj er_13
      exact W.iret (v := 0) hx hb hr (fun t9 ht hW => ⟨⟨0, sAcc u ((gAcc u) - (gAcc u) / (pV P i) * (pV P i)), rfl, ((xAct_3 hk).trans (if_neg c_12)).symm, ce_hp ht hP⟩, hS.F ht⟩) hS.2.2 dRn_doAction_195
    · -- 172 not taken
      refine lv_aload_n hx hb dRn_doAction_175 rfl (lv_at hl 1 rfl) ?_
      refine lv_iload_n hx hb dRn_doAction_176 rfl (lv_at hl 2 rfl) ?_
      refine lv_iconst (v := 0) hx hb dRn_doAction_177 (by decide) ?_
      refine ce_vi (As := [.int (nI i), .int 0]) (rest := []) ⟨hx, hb, hml, hown, hts⟩ (c_Rn_comesUp l D cI a hd P u (nI i) 0) mRn_comesUp lRn_99 iRn_comesUp (ce_hR (by omega) (by decide)) ⟨rfl, rfl⟩ hK hN hP hS rfl hl.1 rfl (Nat.le_of_ble_eq_true rfl) dRn_doAction_178 ⟨Nat.le_of_ble_eq_true rfl, Nat.le_of_ble_eq_true rfl⟩ (fun r_15 u_16 H locs er_15 hP hS => ?_)
      obtain ⟨rfl, rfl⟩ := Prod.mk.inj er_15
      refine lv_goto (tgt := 195) hx hb dRn_doAction_181 (by decide) ?_
      exact W.iret (v := 2) hx hb hr (fun t9 ht hW => ⟨⟨2, sOwn (sTa (sTr u 0) (nI i)) (-1), rfl, ((xAct_3 hk).trans (if_pos c_12)).symm, ce_hp ht hP⟩, hS.F ht⟩) hS.2.2 dRn_doAction_195
  · -- op 4
    refine lv_tableIn (tgt := 196) hx hb dRn_doAction_18 (by rw [hk]; decide) (by rw [hk]; decide) (by rw [hk]; rfl) (by decide) ?_
    refine lv_iload hx hb dRn_doAction_196 (lv_at hl 0 rfl) ?_
    refine ce_si (As := [.int (pV P i)]) (rest := []) ⟨hx, hb, hml, hown, hts⟩ (c_Rn_isCell l D cI a _ (pV P i)) mRn_isCell lRn_102 sRn_isCell (ce_hR (by omega) (by decide)) ⟨rfl, rfl⟩ hK hN hP rfl hl.1 rfl (Nat.le_of_ble_eq_true rfl) dRn_doAction_198 ⟨Nat.le_of_ble_eq_true rfl, Nat.le_of_ble_eq_true rfl⟩ (fun r_17 er_17 => ?_)
    obtain rfl : r_17 = bI (isW (pV P i) 7) := er_17
    refine lv_if_eq (tgt := 218) hx hb dRn_doAction_201 (by decide) (fun c_18 => ?_) (fun c_18 => ?_)
    · -- 201 taken
      refine lv_aload_n hx hb dRn_doAction_218 rfl (lv_at hl 1 rfl) ?_
      refine lv_iload_n hx hb dRn_doAction_219 rfl (lv_at hl 2 rfl) ?_
      refine lv_iconst (v := 1) hx hb dRn_doAction_220 (by decide) ?_
      refine ce_vi (As := [.int (nI i), .int 1]) (rest := []) ⟨hx, hb, hml, hown, hts⟩ (c_Rn_comesUp l D cI a hd P u (nI i) 1) mRn_comesUp lRn_99 iRn_comesUp (ce_hR (by omega) (by decide)) ⟨rfl, rfl⟩ hK hN hP hS rfl hl.1 rfl (Nat.le_of_ble_eq_true rfl) dRn_doAction_221 ⟨Nat.le_of_ble_eq_true rfl, Nat.le_of_ble_eq_true rfl⟩ (fun r_19 u_20 H locs er_19 hP hS => ?_)
      obtain ⟨rfl, rfl⟩ := Prod.mk.inj er_19
      exact W.iret (v := 2) hx hb hr (fun t9 ht hW => ⟨⟨2, sOwn (sTa (sTr u 1) (nI i)) (-1), rfl, ((xAct_4 hk).trans (if_neg (by rw [bI0 c_18]; decide))).symm, ce_hp ht hP⟩, hS.F ht⟩) hS.2.2 dRn_doAction_224
    · -- 201 not taken
      refine lv_aload_n hx hb dRn_doAction_204 rfl (lv_at hl 1 rfl) ?_
      refine lv_aload_n hx hb dRn_doAction_205 rfl (lv_at hl 1 rfl) ?_
      refine ce_gR hx hb hts hown hK hP 1 (by decide) rfl lRn_11 rfl dRn_doAction_206 ?_
      refine lv_iload hx hb dRn_doAction_209 (lv_at hl 0 rfl) ?_
      refine va_iald hx hb hK hP 4 0 rfl rfl (isW_in (bI1 c_18)) dRn_doAction_211 ?_
      refine ce_vi (As := [.int ((gCells u) (pV P i).toNatClampNeg)]) (rest := []) ⟨hx, hb, hml, hown, hts⟩ (c_Rn_become l D cI a hd P u ((gCells u) (pV P i).toNatClampNeg)) mRn_become lRn_96 iRn_become (ce_hR (by omega) (by decide)) ⟨rfl, rfl⟩ hK hN hP hS rfl hl.1 rfl (Nat.le_of_ble_eq_true rfl) dRn_doAction_212 ⟨Nat.le_of_ble_eq_true rfl, Nat.le_of_ble_eq_true rfl⟩ (fun r_21 u_22 H locs er_21 hP hS => ?_)
      obtain ⟨rfl, rfl⟩ := Prod.mk.inj er_21
      refine lv_goto (tgt := 224) hx hb dRn_doAction_215 (by decide) ?_
      exact W.iret (v := 0) hx hb hr (fun t9 ht hW => ⟨⟨0, sAcc u ((gCells u) (pV P i).toNatClampNeg), rfl, ((xAct_4 hk).trans (if_pos (bI1 c_18))).symm, ce_hp ht hP⟩, hS.F ht⟩) hS.2.2 dRn_doAction_224
  · -- op 5
    refine lv_tableIn (tgt := 225) hx hb dRn_doAction_18 (by rw [hk]; decide) (by rw [hk]; decide) (by rw [hk]; rfl) (by decide) ?_
    refine lv_aload_n hx hb dRn_doAction_225 rfl (lv_at hl 1 rfl) ?_
    refine lv_iload_n hx hb dRn_doAction_226 rfl (lv_at hl 2 rfl) ?_
    refine ce_vi (As := [.int (nI i)]) (rest := []) ⟨hx, hb, hml, hown, hts⟩ (c_Rn_doKeep l D cI a hd P u i hi h8) mRn_doKeep lRn_106 iRn_doKeep (ce_hR (by omega) (by decide)) ⟨rfl, rfl⟩ hK hN hP hS rfl hl.1 rfl (Nat.le_of_ble_eq_true rfl) dRn_doAction_227 ⟨Nat.le_of_ble_eq_true rfl, Nat.le_of_ble_eq_true rfl⟩ (fun r_23 u_24 H locs er_23 hP hS => ?_)
    exact W.iret (v := r_23) hx hb hr (fun t9 ht hW => ⟨⟨r_23, u_24, rfl, er_23.trans (xAct_5 hk).symm, ce_hp ht hP⟩, hS.F ht⟩) hS.2.2 dRn_doAction_230
  · -- op 6
    refine lv_tableIn (tgt := 231) hx hb dRn_doAction_18 (by rw [hk]; decide) (by rw [hk]; decide) (by rw [hk]; rfl) (by decide) ?_
    refine lv_aload_n hx hb dRn_doAction_231 rfl (lv_at hl 1 rfl) ?_
    refine lv_iload_n hx hb dRn_doAction_232 rfl (lv_at hl 2 rfl) ?_
    refine ce_vi (As := [.int (nI i)]) (rest := []) ⟨hx, hb, hml, hown, hts⟩ (c_Rn_doBreak l D cI a hd P u i hi h8) mRn_doBreak lRn_109 iRn_doBreak (ce_hR (by omega) (by decide)) ⟨rfl, rfl⟩ hK hN hP hS rfl hl.1 rfl (Nat.le_of_ble_eq_true rfl) dRn_doAction_233 ⟨Nat.le_of_ble_eq_true rfl, Nat.le_of_ble_eq_true rfl⟩ (fun r_25 u_26 H locs er_25 hP hS => ?_)
    exact W.iret (v := r_25) hx hb hr (fun t9 ht hW => ⟨⟨r_25, u_26, rfl, er_25.trans (xAct_6 hk).symm, ce_hp ht hP⟩, hS.F ht⟩) hS.2.2 dRn_doAction_236
  · -- op 7
    refine lv_tableIn (tgt := 237) hx hb dRn_doAction_18 (by rw [hk]; decide) (by rw [hk]; decide) (by rw [hk]; rfl) (by decide) ?_
    refine lv_aload_n hx hb dRn_doAction_237 rfl (lv_at hl 1 rfl) ?_
    refine lv_iload_n hx hb dRn_doAction_238 rfl (lv_at hl 2 rfl) ?_
    refine ce_vi (As := [.int (nI i)]) (rest := []) ⟨hx, hb, hml, hown, hts⟩ (c_Rn_doThrow l D cI a hd P u i hi h8) mRn_doThrow lRn_112 iRn_doThrow (ce_hR (by omega) (by decide)) ⟨rfl, rfl⟩ hK hN hP hS rfl hl.1 rfl (Nat.le_of_ble_eq_true rfl) dRn_doAction_239 ⟨Nat.le_of_ble_eq_true rfl, Nat.le_of_ble_eq_true rfl⟩ (fun r_27 u_28 H locs er_27 hP hS => ?_)
    exact W.iret (v := r_27) hx hb hr (fun t9 ht hW => ⟨⟨r_27, u_28, rfl, er_27.trans (xAct_7 hk).symm, ce_hp ht hP⟩, hS.F ht⟩) hS.2.2 dRn_doAction_242
  · -- op 8
    refine lv_tableIn (tgt := 243) hx hb dRn_doAction_18 (by rw [hk]; decide) (by rw [hk]; decide) (by rw [hk]; rfl) (by decide) ?_
    refine lv_aload_n hx hb dRn_doAction_243 rfl (lv_at hl 1 rfl) ?_
    refine ce_vi (As := []) (rest := []) ⟨hx, hb, hml, hown, hts⟩ (c_Rn_doInterrupt l D cI a hd P u) mRn_doInterrupt lRn_115 iRn_doInterrupt (ce_hR (by omega) (by decide)) ⟨rfl, rfl⟩ hK hN hP hS rfl hl.1 rfl (Nat.le_of_ble_eq_true rfl) dRn_doAction_244 ⟨Nat.le_of_ble_eq_true rfl, Nat.le_of_ble_eq_true rfl⟩ (fun r_29 u_30 H locs er_29 hP hS => ?_)
    obtain ⟨rfl, rfl⟩ := Prod.mk.inj er_29
    exact W.iret (v := 0) hx hb hr (fun t9 ht hW => ⟨⟨0, sMark u true, rfl, (xAct_8 hk).symm, ce_hp ht hP⟩, hS.F ht⟩) hS.2.2 dRn_doAction_247
  · -- op 9
    refine lv_tableIn (tgt := 248) hx hb dRn_doAction_18 (by rw [hk]; decide) (by rw [hk]; decide) (by rw [hk]; rfl) (by decide) ?_
    refine lv_aload_n hx hb dRn_doAction_248 rfl (lv_at hl 1 rfl) ?_
    refine ce_vi (As := []) (rest := []) ⟨hx, hb, hml, hown, hts⟩ (c_Rn_doLook l D cI a hd P u) mRn_doLook lRn_118 iRn_doLook (ce_hR (by omega) (by decide)) ⟨rfl, rfl⟩ hK hN hP hS rfl hl.1 rfl (Nat.le_of_ble_eq_true rfl) dRn_doAction_249 ⟨Nat.le_of_ble_eq_true rfl, Nat.le_of_ble_eq_true rfl⟩ (fun r_31 u_32 H locs er_31 hP hS => ?_)
    obtain ⟨rfl, rfl⟩ := Prod.mk.inj er_31
    exact W.iret (v := 0) hx hb hr (fun t9 ht hW => ⟨⟨0, sMark (sAcc u (bI (gMark u))) false, rfl, (xAct_9 hk).symm, ce_hp ht hP⟩, hS.F ht⟩) hS.2.2 dRn_doAction_252
  · -- op 10
    refine lv_tableIn (tgt := 253) hx hb dRn_doAction_18 (by rw [hk]; decide) (by rw [hk]; decide) (by rw [hk]; rfl) (by decide) ?_
    refine lv_aload_n hx hb dRn_doAction_253 rfl (lv_at hl 1 rfl) ?_
    refine lv_iload_n hx hb dRn_doAction_254 rfl (lv_at hl 2 rfl) ?_
    refine lv_iload_n hx hb dRn_doAction_255 rfl (lv_at hl 3 rfl) ?_
    refine lv_iload_n hx hb dRn_doAction_256 rfl (lv_at hl 4 rfl) ?_
    refine ce_vi (As := [.int (nI i), .int (nI z), .int (nI d)]) (rest := []) ⟨hx, hb, hml, hown, hts⟩ (c_Rn_doCatch l D cI a hd P hp k d hdk ih u i z hiz hz) mRn_doCatch lRn_121 iRn_doCatch (ce_hR (by omega) (by decide)) ⟨rfl, rfl⟩ hK hN hP hS rfl hl.1 rfl (Nat.le_of_ble_eq_true rfl) dRn_doAction_257 ⟨Nat.le_of_ble_eq_true rfl, Nat.le_of_ble_eq_true rfl⟩ (fun r_33 u_34 H locs er_33 hP hS => ?_)
    exact W.iret (v := r_33) hx hb hr (fun t9 ht hW => ⟨⟨r_33, u_34, rfl, er_33.trans (xAct_10 hk).symm, ce_hp ht hP⟩, hS.F ht⟩) hS.2.2 dRn_doAction_260
  · -- op 11
    refine lv_tableIn (tgt := 261) hx hb dRn_doAction_18 (by rw [hk]; decide) (by rw [hk]; decide) (by rw [hk]; rfl) (by decide) ?_
    refine lv_aload_n hx hb dRn_doAction_261 rfl (lv_at hl 1 rfl) ?_
    refine lv_iload_n hx hb dRn_doAction_262 rfl (lv_at hl 2 rfl) ?_
    refine lv_iload_n hx hb dRn_doAction_263 rfl (lv_at hl 3 rfl) ?_
    refine lv_iload_n hx hb dRn_doAction_264 rfl (lv_at hl 4 rfl) ?_
    refine ce_vi (As := [.int (nI i), .int (nI z), .int (nI d)]) (rest := []) ⟨hx, hb, hml, hown, hts⟩ (c_Rn_doFinally l D cI a hd P hp k d hdk ih u i z hiz hz) mRn_doFinally lRn_124 iRn_doFinally (ce_hR (by omega) (by decide)) ⟨rfl, rfl⟩ hK hN hP hS rfl hl.1 rfl (Nat.le_of_ble_eq_true rfl) dRn_doAction_265 ⟨Nat.le_of_ble_eq_true rfl, Nat.le_of_ble_eq_true rfl⟩ (fun r_35 u_36 H locs er_35 hP hS => ?_)
    exact W.iret (v := r_35) hx hb hr (fun t9 ht hW => ⟨⟨r_35, u_36, rfl, er_35.trans (xAct_11 hk).symm, ce_hp ht hP⟩, hS.F ht⟩) hS.2.2 dRn_doAction_268
  · -- op 12
    refine lv_tableIn (tgt := 269) hx hb dRn_doAction_18 (by rw [hk]; decide) (by rw [hk]; decide) (by rw [hk]; rfl) (by decide) ?_
    refine lv_aload_n hx hb dRn_doAction_269 rfl (lv_at hl 1 rfl) ?_
    refine lv_iload_n hx hb dRn_doAction_270 rfl (lv_at hl 2 rfl) ?_
    refine lv_iload_n hx hb dRn_doAction_271 rfl (lv_at hl 3 rfl) ?_
    refine lv_iload_n hx hb dRn_doAction_272 rfl (lv_at hl 4 rfl) ?_
    refine ce_vi (As := [.int (nI i), .int (nI z), .int (nI d)]) (rest := []) ⟨hx, hb, hml, hown, hts⟩ (c_Rn_doDrop l D cI a hd P hp k d hdk ih u i z hiz hz) mRn_doDrop lRn_127 iRn_doDrop (ce_hR (by omega) (by decide)) ⟨rfl, rfl⟩ hK hN hP hS rfl hl.1 rfl (Nat.le_of_ble_eq_true rfl) dRn_doAction_273 ⟨Nat.le_of_ble_eq_true rfl, Nat.le_of_ble_eq_true rfl⟩ (fun r_37 u_38 H locs er_37 hP hS => ?_)
    exact W.iret (v := r_37) hx hb hr (fun t9 ht hW => ⟨⟨r_37, u_38, rfl, er_37.trans (xAct_12 hk).symm, ce_hp ht hP⟩, hS.F ht⟩) hS.2.2 dRn_doAction_276
  · -- op 13
    refine lv_tableIn (tgt := 277) hx hb dRn_doAction_18 (by rw [hk]; decide) (by rw [hk]; decide) (by rw [hk]; rfl) (by decide) ?_
    refine lv_aload_n hx hb dRn_doAction_277 rfl (lv_at hl 1 rfl) ?_
    refine lv_iload_n hx hb dRn_doAction_278 rfl (lv_at hl 2 rfl) ?_
    refine lv_iload_n hx hb dRn_doAction_279 rfl (lv_at hl 3 rfl) ?_
    refine lv_iload_n hx hb dRn_doAction_280 rfl (lv_at hl 4 rfl) ?_
    refine ce_vi (As := [.int (nI i), .int (nI z), .int (nI d)]) (rest := []) ⟨hx, hb, hml, hown, hts⟩ (c_Rn_doHold l D cI a hd P hp k d hdk ih u i z hiz hz) mRn_doHold lRn_130 iRn_doHold (ce_hR (by omega) (by decide)) ⟨rfl, rfl⟩ hK hN hP hS rfl hl.1 rfl (Nat.le_of_ble_eq_true rfl) dRn_doAction_281 ⟨Nat.le_of_ble_eq_true rfl, Nat.le_of_ble_eq_true rfl⟩ (fun r_39 u_40 H locs er_39 hP hS => ?_)
    exact W.iret (v := r_39) hx hb hr (fun t9 ht hW => ⟨⟨r_39, u_40, rfl, er_39.trans (xAct_13 hk).symm, ce_hp ht hP⟩, hS.F ht⟩) hS.2.2 dRn_doAction_284
  · -- op 14
    refine lv_tableIn (tgt := 285) hx hb dRn_doAction_18 (by rw [hk]; decide) (by rw [hk]; decide) (by rw [hk]; rfl) (by decide) ?_
    refine lv_aload_n hx hb dRn_doAction_285 rfl (lv_at hl 1 rfl) ?_
    refine lv_iload_n hx hb dRn_doAction_286 rfl (lv_at hl 2 rfl) ?_
    refine lv_iload_n hx hb dRn_doAction_287 rfl (lv_at hl 3 rfl) ?_
    refine lv_iload_n hx hb dRn_doAction_288 rfl (lv_at hl 4 rfl) ?_
    refine ce_vi (As := [.int (nI i), .int (nI z), .int (nI d)]) (rest := []) ⟨hx, hb, hml, hown, hts⟩ (c_Rn_doRepeat l D cI a hd P hp k d hdk ih u i z hiz hz) mRn_doRepeat lRn_133 iRn_doRepeat (ce_hR (by omega) (by decide)) ⟨rfl, rfl⟩ hK hN hP hS rfl hl.1 rfl (Nat.le_of_ble_eq_true rfl) dRn_doAction_289 ⟨Nat.le_of_ble_eq_true rfl, Nat.le_of_ble_eq_true rfl⟩ (fun r_41 u_42 H locs er_41 hP hS => ?_)
    exact W.iret (v := r_41) hx hb hr (fun t9 ht hW => ⟨⟨r_41, u_42, rfl, er_41.trans (xAct_14 hk).symm, ce_hp ht hP⟩, hS.F ht⟩) hS.2.2 dRn_doAction_292
  · -- op 15
    refine lv_tableIn (tgt := 293) hx hb dRn_doAction_18 (by rw [hk]; decide) (by rw [hk]; decide) (by rw [hk]; rfl) (by decide) ?_
    refine lv_aload_n hx hb dRn_doAction_293 rfl (lv_at hl 1 rfl) ?_
    refine lv_iload_n hx hb dRn_doAction_294 rfl (lv_at hl 2 rfl) ?_
    refine ce_ri (As := [.int (nI i)]) (rest := []) ⟨hx, hb, hml, hown, hts⟩ (c_Rn_isHeld l D cI a hd P u i hi h8) mRn_isHeld lRn_136 iRn_isHeld (ce_hR (by omega) (by decide)) ⟨rfl, rfl⟩ hK hN hP 0 rfl rfl rfl hl.1 rfl (Nat.le_of_ble_eq_true rfl) dRn_doAction_295 ⟨Nat.le_of_ble_eq_true rfl, Nat.le_of_ble_eq_true rfl⟩ (fun r_43 er_43 => ?_)
    obtain rfl : r_43 = bI (xHeld P i u) := er_43
    refine lv_if_eq (tgt := 305) hx hb dRn_doAction_298 (by decide) (fun c_44 => ?_) (fun c_44 => ?_)
    · -- 298 taken
      refine lv_aload_n hx hb dRn_doAction_305 rfl (lv_at hl 1 rfl) ?_
      refine lv_iload_n hx hb dRn_doAction_306 rfl (lv_at hl 2 rfl) ?_
      refine lv_bipush (v := 6) hx hb dRn_doAction_307 (by decide) ?_
      refine ce_vi (As := [.int (nI i), .int 6]) (rest := []) ⟨hx, hb, hml, hown, hts⟩ (c_Rn_comesUp l D cI a hd P u (nI i) 6) mRn_comesUp lRn_99 iRn_comesUp (ce_hR (by omega) (by decide)) ⟨rfl, rfl⟩ hK hN hP hS rfl hl.1 rfl (Nat.le_of_ble_eq_true rfl) dRn_doAction_309 ⟨Nat.le_of_ble_eq_true rfl, Nat.le_of_ble_eq_true rfl⟩ (fun r_45 u_46 H locs er_45 hP hS => ?_)
      obtain ⟨rfl, rfl⟩ := Prod.mk.inj er_45
      exact W.iret (v := 2) hx hb hr (fun t9 ht hW => ⟨⟨2, sOwn (sTa (sTr u 6) (nI i)) (-1), rfl, ((xAct_15 hk).trans (if_neg (by rw [bI0 c_44]; decide))).symm, ce_hp ht hP⟩, hS.F ht⟩) hS.2.2 dRn_doAction_312
    · -- 298 not taken
      refine lv_iconst (v := 0) hx hb dRn_doAction_301 (by decide) ?_
      refine lv_goto (tgt := 312) hx hb dRn_doAction_302 (by decide) ?_
      exact W.iret (v := 0) hx hb hr (fun t9 ht hW => ⟨⟨0, u, rfl, ((xAct_15 hk).trans (if_pos (bI1 c_44))).symm, ce_hp ht hP⟩, hS.F ht⟩) hS.2.2 dRn_doAction_312
  · -- op 16
    refine lv_tableIn (tgt := 313) hx hb dRn_doAction_18 (by rw [hk]; decide) (by rw [hk]; decide) (by rw [hk]; rfl) (by decide) ?_
    refine lv_aload_n hx hb dRn_doAction_313 rfl (lv_at hl 1 rfl) ?_
    refine lv_iload_n hx hb dRn_doAction_314 rfl (lv_at hl 2 rfl) ?_
    refine ce_ri (As := [.int (nI i)]) (rest := []) ⟨hx, hb, hml, hown, hts⟩ (c_Rn_isHeld l D cI a hd P u i hi h8) mRn_isHeld lRn_136 iRn_isHeld (ce_hR (by omega) (by decide)) ⟨rfl, rfl⟩ hK hN hP 0 rfl rfl rfl hl.1 rfl (Nat.le_of_ble_eq_true rfl) dRn_doAction_315 ⟨Nat.le_of_ble_eq_true rfl, Nat.le_of_ble_eq_true rfl⟩ (fun r_47 er_47 => ?_)
    obtain rfl : r_47 = bI (xHeld P i u) := er_47
    refine lv_if_eq (tgt := 329) hx hb dRn_doAction_318 (by decide) (fun c_48 => ?_) (fun c_48 => ?_)
    · -- 318 taken
      refine lv_aload_n hx hb dRn_doAction_329 rfl (lv_at hl 1 rfl) ?_
      refine lv_iload_n hx hb dRn_doAction_330 rfl (lv_at hl 2 rfl) ?_
      refine lv_bipush (v := 6) hx hb dRn_doAction_331 (by decide) ?_
      refine ce_vi (As := [.int (nI i), .int 6]) (rest := []) ⟨hx, hb, hml, hown, hts⟩ (c_Rn_comesUp l D cI a hd P u (nI i) 6) mRn_comesUp lRn_99 iRn_comesUp (ce_hR (by omega) (by decide)) ⟨rfl, rfl⟩ hK hN hP hS rfl hl.1 rfl (Nat.le_of_ble_eq_true rfl) dRn_doAction_333 ⟨Nat.le_of_ble_eq_true rfl, Nat.le_of_ble_eq_true rfl⟩ (fun r_49 u_50 H locs er_49 hP hS => ?_)
      obtain ⟨rfl, rfl⟩ := Prod.mk.inj er_49
      exact W.iret (v := 2) hx hb hr (fun t9 ht hW => ⟨⟨2, sOwn (sTa (sTr u 6) (nI i)) (-1), rfl, ((xAct_16 hk).trans (if_neg (by rw [bI0 c_48]; decide))).symm, ce_hp ht hP⟩, hS.F ht⟩) hS.2.2 dRn_doAction_336
    · -- 318 not taken
      refine lv_aload_n hx hb dRn_doAction_321 rfl (lv_at hl 1 rfl) ?_
      refine lv_iload_n hx hb dRn_doAction_322 rfl (lv_at hl 2 rfl) ?_
      refine ce_vi (As := [.int (nI i)]) (rest := []) ⟨hx, hb, hml, hown, hts⟩ (c_Rn_doSleep l D cI a hd P u (nI i)) mRn_doSleep lRn_139 iRn_doSleep (ce_hR (by omega) (by decide)) ⟨rfl, rfl⟩ hK hN hP hS rfl hl.1 rfl (Nat.le_of_ble_eq_true rfl) dRn_doAction_323 ⟨Nat.le_of_ble_eq_true rfl, Nat.le_of_ble_eq_true rfl⟩ (fun r_51 u_52 H locs er_51 hP hS => ?_)
      refine lv_goto (tgt := 336) hx hb dRn_doAction_326 (by decide) ?_
      exact W.iret (v := r_51) hx hb hr (fun t9 ht hW => ⟨⟨r_51, u_52, rfl, er_51.trans ((xAct_16 hk).trans (if_pos (bI1 c_48))).symm, ce_hp ht hP⟩, hS.F ht⟩) hS.2.2 dRn_doAction_336
  · -- op 17
    refine lv_tableIn (tgt := 337) hx hb dRn_doAction_18 (by rw [hk]; decide) (by rw [hk]; decide) (by rw [hk]; rfl) (by decide) ?_
    refine lv_aload_n hx hb dRn_doAction_337 rfl (lv_at hl 1 rfl) ?_
    refine lv_iload_n hx hb dRn_doAction_338 rfl (lv_at hl 2 rfl) ?_
    refine ce_vi (As := [.int (nI i)]) (rest := []) ⟨hx, hb, hml, hown, hts⟩ (c_Rn_doSleep l D cI a hd P u (nI i)) mRn_doSleep lRn_139 iRn_doSleep (ce_hR (by omega) (by decide)) ⟨rfl, rfl⟩ hK hN hP hS rfl hl.1 rfl (Nat.le_of_ble_eq_true rfl) dRn_doAction_339 ⟨Nat.le_of_ble_eq_true rfl, Nat.le_of_ble_eq_true rfl⟩ (fun r_53 u_54 H locs er_53 hP hS => ?_)
    exact W.iret (v := r_53) hx hb hr (fun t9 ht hW => ⟨⟨r_53, u_54, rfl, er_53.trans (xAct_17 hk).symm, ce_hp ht hP⟩, hS.F ht⟩) hS.2.2 dRn_doAction_342
  · -- op 18
    refine lv_tableIn (tgt := 343) hx hb dRn_doAction_18 (by rw [hk]; decide) (by rw [hk]; decide) (by rw [hk]; rfl) (by decide) ?_
    refine lv_aload_n hx hb dRn_doAction_343 rfl (lv_at hl 1 rfl) ?_
    refine lv_aload_n hx hb dRn_doAction_344 rfl (lv_at hl 1 rfl) ?_
    refine lv_iload_n hx hb dRn_doAction_345 rfl (lv_at hl 2 rfl) ?_
    refine ce_ri (As := [.int (nI i)]) (rest := [.ref (a 0)]) ⟨hx, hb, hml, hown, hts⟩ (c_Rn_isHeld l D cI a hd P u i hi h8) mRn_isHeld lRn_136 iRn_isHeld (ce_hR (by omega) (by decide)) ⟨rfl, rfl⟩ hK hN hP 0 rfl rfl rfl hl.1 rfl (Nat.le_of_ble_eq_true rfl) dRn_doAction_346 ⟨Nat.le_of_ble_eq_true rfl, Nat.le_of_ble_eq_true rfl⟩ (fun r_55 er_55 => ?_)
    obtain rfl : r_55 = bI (xHeld P i u) := er_55
    refine lv_if_eq (tgt := 356) hx hb dRn_doAction_349 (by decide) (fun c_56 => ?_) (fun c_56 => ?_)
    · -- 349 taken
      refine lv_iconst (v := 0) hx hb dRn_doAction_356 (by decide) ?_
      refine ce_vi (As := [.int 0]) (rest := []) ⟨hx, hb, hml, hown, hts⟩ (c_Rn_become l D cI a hd P u 0) mRn_become lRn_96 iRn_become (ce_hR (by omega) (by decide)) ⟨rfl, rfl⟩ hK hN hP hS rfl hl.1 rfl (Nat.le_of_ble_eq_true rfl) dRn_doAction_357 ⟨Nat.le_of_ble_eq_true rfl, Nat.le_of_ble_eq_true rfl⟩ (fun r_57 u_58 H locs er_57 hP hS => ?_)
      obtain ⟨rfl, rfl⟩ := Prod.mk.inj er_57
      exact W.iret (v := 0) hx hb hr (fun t9 ht hW => ⟨⟨0, sAcc u 0, rfl, by rw [xAct_18 hk, c_56], ce_hp ht hP⟩, hS.F ht⟩) hS.2.2 dRn_doAction_360
    · -- 349 not taken
      refine lv_iconst (v := 1) hx hb dRn_doAction_352 (by decide) ?_
      refine lv_goto (tgt := 357) hx hb dRn_doAction_353 (by decide) ?_
      refine ce_vi (As := [.int 1]) (rest := []) ⟨hx, hb, hml, hown, hts⟩ (c_Rn_become l D cI a hd P u 1) mRn_become lRn_96 iRn_become (ce_hR (by omega) (by decide)) ⟨rfl, rfl⟩ hK hN hP hS rfl hl.1 rfl (Nat.le_of_ble_eq_true rfl) dRn_doAction_357 ⟨Nat.le_of_ble_eq_true rfl, Nat.le_of_ble_eq_true rfl⟩ (fun r_59 u_60 H locs er_59 hP hS => ?_)
      obtain ⟨rfl, rfl⟩ := Prod.mk.inj er_59
      exact W.iret (v := 0) hx hb hr (fun t9 ht hW => ⟨⟨0, sAcc u 1, rfl, by rw [xAct_18 hk, ← bI_one c_56], ce_hp ht hP⟩, hS.F ht⟩) hS.2.2 dRn_doAction_360
  · -- op 19
    refine lv_tableIn (tgt := 361) hx hb dRn_doAction_18 (by rw [hk]; decide) (by rw [hk]; decide) (by rw [hk]; rfl) (by decide) ?_
    refine lv_aload_n hx hb dRn_doAction_361 rfl (lv_at hl 1 rfl) ?_
    refine lv_iload_n hx hb dRn_doAction_362 rfl (lv_at hl 2 rfl) ?_
    refine ce_vi (As := [.int (nI i)]) (rest := []) ⟨hx, hb, hml, hown, hts⟩ (c_Rn_doCount l D cI a hd P u i hi h8) mRn_doCount lRn_142 iRn_doCount (ce_hR (by omega) (by decide)) ⟨rfl, rfl⟩ hK hN hP hS rfl hl.1 rfl (Nat.le_of_ble_eq_true rfl) dRn_doAction_363 ⟨Nat.le_of_ble_eq_true rfl, Nat.le_of_ble_eq_true rfl⟩ (fun r_61 u_62 H locs er_61 hP hS => ?_)
    obtain ⟨rfl, rfl⟩ := Prod.mk.inj er_61
    exact W.iret (v := 0) hx hb hr (fun t9 ht hW => ⟨⟨0, sCnt u (gCnt u + (pV P i).toInt64), rfl, (xAct_19 hk).symm, ce_hp ht hP⟩, hS.F ht⟩) hS.2.2 dRn_doAction_366
  · -- op 20
    refine lv_tableIn (tgt := 367) hx hb dRn_doAction_18 (by rw [hk]; decide) (by rw [hk]; decide) (by rw [hk]; rfl) (by decide) ?_
    refine lv_iconst (v := 1) hx hb dRn_doAction_367 (by decide) ?_
    exact W.iret (v := 1) hx hb hr (fun t9 ht hW => ⟨⟨1, u, rfl, (xAct_20 hk).symm, ce_hp ht hP⟩, hS.F ht⟩) hS.2.2 dRn_doAction_368
  · -- op 21
    refine lv_tableIn (tgt := 369) hx hb dRn_doAction_18 (by rw [hk]; decide) (by rw [hk]; decide) (by rw [hk]; rfl) (by decide) ?_
    refine lv_aload_n hx hb dRn_doAction_369 rfl (lv_at hl 1 rfl) ?_
    refine lv_aload_n hx hb dRn_doAction_370 rfl (lv_at hl 1 rfl) ?_
    refine ce_gR hx hb hts hown hK hP 4 (by decide) rfl lRn_76 rfl dRn_doAction_371 ?_
    refine ce_vi (As := [.int (gName u)]) (rest := []) ⟨hx, hb, hml, hown, hts⟩ (c_Rn_become l D cI a hd P u (gName u)) mRn_become lRn_96 iRn_become (ce_hR (by omega) (by decide)) ⟨rfl, rfl⟩ hK hN hP hS rfl hl.1 rfl (Nat.le_of_ble_eq_true rfl) dRn_doAction_374 ⟨Nat.le_of_ble_eq_true rfl, Nat.le_of_ble_eq_true rfl⟩ (fun r_63 u_64 H locs er_63 hP hS => ?_)
    obtain ⟨rfl, rfl⟩ := Prod.mk.inj er_63
    exact W.iret (v := 0) hx hb hr (fun t9 ht hW => ⟨⟨0, sAcc u (gName u), rfl, (xAct_21 hk).symm, ce_hp ht hP⟩, hS.F ht⟩) hS.2.2 dRn_doAction_377
set_option maxHeartbeats 4000000 in
set_option maxRecDepth 100000 in
theorem c_Rn_doActions_step (l : Launch) (D : va_G) (cI : ClassId) (a : Nat → Nat) (hd : dR a) (P : PR) (hp : pOk P) (k d : Nat) (hdk : d + k = 15) (hih : ∀ k2, k = k2 + 1 → okDA l D cI a P k2) (u : RS) (i z : Nat) (hiz : i ≤ z) (hz : z ≤ P.2.2) : Met l yRn_doActions (ce_ws yRn_doActions cRn_doActions 7 (some .int)) (ce_rm (3 * k + 2)) (ce_Pc D cI [.ref (a 0), .int (nI i), .int (nI z), .int (nI d)] (wR a cI P u)) (va_Qi (fun r u' => (r, u') = xActs P k i z u) (fun u' t => va_P D vwCl (wR a cI P u') t.heap) (aR a)) 0 0 (aR a) := by
  refine Met.ofW (cc := cRn_doActions) (maxL := 7) (ret := (some .int)) (by decide) rfl ?_
  intro p e s m args below meth c s₁ B hml hv
  obtain ⟨rfl, hP, hK, hN⟩ := hv
  have hx := B.exec
  have hb := B.bytes
  have hr := B.returns
  have hts := atoms_spec (ws := ce_ws yRn_doActions cRn_doActions 7 (some .int)) B.pre
  have hown : s.vm.findClass RRn = some m.cls := findClass_of_methodNamed B.named
  have hlocks := B.notSynchronized
  have hS : va_S (aR a) s.heap s.heap [] := va_S.rf
  have hl := lv_entry ([.ref (a 0), .int (nI i), .int (nI z), .int (nI d)]) (n := 7) (Nat.le_of_ble_eq_true rfl)
  rw [lg_entry_eq]
  generalize (lg_sl ([.ref (a 0), .int (nI i), .int (nI z), .int (nI d)]) ++ List.replicate (7 - (lg_sl ([.ref (a 0), .int (nI i), .int (nI z), .int (nI d)])).length) Slot.unset).toArray = ls at hl ⊢
  have hl : lv_has ls 7 [(0, .ref (a 0)), (1, .int (nI i)), (2, .int (nI z)), (3, .int (nI d))] := hl
  have h14 := hp.1
  match k, hdk with
  | 0, hdk =>
    obtain rfl : d = 15 := by omega
    refine lv_iload_n hx hb dRn_doActions_0 rfl (lv_at hl 3 rfl) ?_
    refine lv_bipush (v := 14) hx hb dRn_doActions_1 (by decide) ?_
    refine lv_icmp_le (tgt := 8) hx hb dRn_doActions_3 (by decide) (fun c_1 => ?_) (fun c_1 => ?_)
    · -- 3 taken
      exact absurd c_1 (by decide)
    · -- 3 not taken
      refine lv_iconst (v := 1) hx hb dRn_doActions_6 (by decide) ?_
      exact W.iret (v := 1) hx hb hr (fun t9 ht hW => ⟨⟨1, u, rfl, rfl, ce_hp ht hP⟩, hS.F ht⟩) hS.2.2 dRn_doActions_7
  | k + 1, hdk =>
    have ih : okDA l D cI a P k := hih k rfl
    have loop : ∀ (n j : Nat) (v : RS) (H : Heap) (locs : List Loc) (ls : Array Slot), j ≤ z → z ≤ j + n → (∀ rr uu, (rr, uu) = xLoop (xAct (xActs P k) P) P z n j v → (rr, uu) = xLoop (xAct (xActs P k) P) P z (z - i) i u) → va_P D vwCl (wR a cI P v) H → va_S (aR a) s.heap H locs → lv_has ls 7 [(0, .ref (a 0)), (2, .int (nI z)), (3, .int (nI d)), (4, .int (nI j))] → W p l e (headSpec (ce_ws yRn_doActions cRn_doActions 7 (some .int)) (ce_rm (3 * (k + 1) + 2))).room s m (([.ref (a 0), .int (nI i), .int (nI z), .int (nI d)] : List Value).toArray) below meth c H locs 0 0 (MQ below (va_Qi (fun r u' => (r, u') = xActs P (k + 1) i z u) (fun u' t => va_P D vwCl (wR a cI P u') t.heap) (aR a)) (([.ref (a 0), .int (nI i), .int (nI z), .int (nI d)] : List Value).toArray) s 0 0 (aR a)) (F0 m 11 ls []) := by
      intro n
      induction n with
      | zero =>
        intro j v H locs ls hjz hzn hq hP hS hl
        refine lv_iload hx hb dRn_doActions_11 (lv_at hl 3 rfl) ?_
        refine lv_iload_n hx hb dRn_doActions_13 rfl (lv_at hl 1 rfl) ?_
        refine lv_icmp_ge (tgt := 88) hx hb dRn_doActions_14 (by decide) (fun c_2 => ?_) (fun c_2 => ?_)
        · -- 14 taken
          refine lv_iconst (v := 0) hx hb dRn_doActions_88 (by decide) ?_
          exact W.iret (v := 0) hx hb hr (fun t9 ht hW => ⟨⟨0, v, rfl, hq _ _ (xLoop_0 ((nI_leI (by omega) (by omega)).mp c_2)), ce_hp ht hP⟩, hS.F ht⟩) hS.2.2 dRn_doActions_89
        · -- 14 not taken
          exact absurd (nI_le (a := z) (b := j) (by omega) (by omega)) c_2
      | succ n ihn =>
        intro j v H locs ls hjz hzn hq hP hS hl
        refine lv_iload hx hb dRn_doActions_11 (lv_at hl 3 rfl) ?_
        refine lv_iload_n hx hb dRn_doActions_13 rfl (lv_at hl 1 rfl) ?_
        refine lv_icmp_ge (tgt := 88) hx hb dRn_doActions_14 (by decide) (fun c_3 => ?_) (fun c_3 => ?_)
        · -- 14 taken
          refine lv_iconst (v := 0) hx hb dRn_doActions_88 (by decide) ?_
          exact W.iret (v := 0) hx hb hr (fun t9 ht hW => ⟨⟨0, v, rfl, hq _ _ (xLoop_0 ((nI_leI (by omega) (by omega)).mp c_3)), ce_hp ht hP⟩, hS.F ht⟩) hS.2.2 dRn_doActions_89
        · -- 14 not taken
          have hlt : ¬ z ≤ j := fun h => c_3 (nI_le h (by omega))
          have hj14 : j < 14 := by omega
          have hj8 : P.2.1 j ≤ 255 := (hp.2 j (by omega)).2
          have hj21 : P.1 j ≤ 21 := (hp.2 j (by omega)).1
          have hB : j + pB P j z + 1 ≤ z := pB_le (by omega)
          refine lv_aload_n hx hb dRn_doActions_17 rfl (lv_at hl 0 rfl) ?_
          refine ce_gR hx hb hts hown hK hP 6 (by decide) rfl lRn_45 rfl dRn_doActions_18 ?_
          refine lv_sipush (v := 400) hx hb dRn_doActions_21 (by decide) ?_
          refine lv_icmp_lt (tgt := 29) hx hb dRn_doActions_24 (by decide) (fun c_4 => ?_) (fun c_4 => ?_)
          · -- 24 taken
            refine lv_aload_n hx hb dRn_doActions_29 rfl (lv_at hl 0 rfl) ?_
            refine lv_dup hx hb dRn_doActions_30 rfl ?_
            refine ce_gR hx hb hts hown hK hP 6 (by decide) rfl lRn_45 rfl dRn_doActions_31 ?_
            refine lv_iconst (v := 1) hx hb dRn_doActions_34 (by decide) ?_
            refine lv_iadd hx hb dRn_doActions_35 ?_
            refine ce_pSteps hx hb hts hown hK hd hP hS lRn_45 dRn_doActions_36 (fun H locs hP hS => ?_)
            refine lv_aload_n hx hb dRn_doActions_39 rfl (lv_at hl 0 rfl) ?_
            refine ce_gR hx hb hts hown hK hP 0 (by decide) rfl lRn_18 rfl dRn_doActions_40 ?_
            refine lv_iload hx hb dRn_doActions_43 (lv_at hl 3 rfl) ?_
            refine lv_iload_n hx hb dRn_doActions_45 rfl (lv_at hl 1 rfl) ?_
            refine ce_ri (As := [.int (nI j), .int (nI z)]) (rest := []) ⟨hx, hb, hml, hown, hts⟩ (c_Pg_blockLength l D cI a P j z (by omega) (by omega) hj8 hj21) mPg_blockLength lRn_82 iPg_blockLength (ce_hR (by omega) (by decide)) ⟨rfl, rfl⟩ hK hN (hP.sub (ws' := wP a cI P) [1, 2, 3] rfl) 0 rfl rfl rfl hl.1 rfl (Nat.le_of_ble_eq_true rfl) dRn_doActions_46 ⟨Nat.le_of_ble_eq_true rfl, Nat.le_of_ble_eq_true rfl⟩ (fun r_5 er_5 => ?_)
            obtain rfl : r_5 = nI (pB P j z) := er_5
            refine lv_istore (lv' := [(5, .int (nI (pB P j z))), (0, .ref (a 0)), (2, .int (nI z)), (3, .int (nI d)), (4, .int (nI j))]) hx hb dRn_doActions_49 hl (by decide) rfl (fun ls hl => ?_)
            refine lv_aload_n hx hb dRn_doActions_51 rfl (lv_at hl 1 rfl) ?_
            refine lv_iload hx hb dRn_doActions_52 (lv_at hl 4 rfl) ?_
            refine lv_iload hx hb dRn_doActions_54 (lv_at hl 4 rfl) ?_
            refine lv_iconst (v := 1) hx hb dRn_doActions_56 (by decide) ?_
            refine lv_iadd hx hb dRn_doActions_57 ?_
            refine lv_topi (fun y_6 ey_6 => ?_)
            obtain rfl : y_6 = nI (j + 1) := ey_6.trans (nI_1 j)
            refine lv_iload hx hb dRn_doActions_58 (lv_at hl 0 rfl) ?_
            refine lv_iadd hx hb dRn_doActions_60 ?_
            refine lv_topi (fun y_7 ey_7 => ?_)
            obtain rfl : y_7 = nI (j + 1 + pB P j z) := ey_7.trans (nI_add _ _)
            refine lv_iload_n hx hb dRn_doActions_61 rfl (lv_at hl 3 rfl) ?_
            refine ce_vi (As := [.int (nI j), .int (nI (j + 1 + pB P j z)), .int (nI d)]) (rest := []) ⟨hx, hb, hml, hown, hts⟩ (c_Rn_doAction l D cI a hd P hp k d (by omega) ih (sSteps v ((gSteps v) + 1)) j (j + 1 + pB P j z) (by omega) (by omega)) mRn_doAction lRn_86 iRn_doAction (ce_hR (by omega) (by decide)) ⟨rfl, rfl⟩ hK hN hP hS rfl hl.1 rfl (Nat.le_of_ble_eq_true rfl) dRn_doActions_62 ⟨Nat.le_of_ble_eq_true rfl, Nat.le_of_ble_eq_true rfl⟩ (fun r_8 u_9 H locs er_8 hP hS => ?_)
            refine lv_istore (lv' := [(6, .int r_8), (5, .int (nI (pB P j z))), (0, .ref (a 0)), (2, .int (nI z)), (3, .int (nI d)), (4, .int (nI j))]) hx hb dRn_doActions_65 hl (by decide) rfl (fun ls hl => ?_)
            refine lv_iload hx hb dRn_doActions_67 (lv_at hl 0 rfl) ?_
            refine lv_if_eq (tgt := 75) hx hb dRn_doActions_69 (by decide) (fun c_10 => ?_) (fun c_10 => ?_)
            · -- 69 taken
              refine lv_iload hx hb dRn_doActions_75 (lv_at hl 5 rfl) ?_
              refine lv_iload hx hb dRn_doActions_77 (lv_at hl 1 rfl) ?_
              refine lv_iadd hx hb dRn_doActions_79 ?_
              refine lv_topi (fun y_11 ey_11 => ?_)
              obtain rfl : y_11 = nI (j + pB P j z) := ey_11.trans (nI_add _ _)
              refine lv_istore (lv' := [(4, .int (nI (j + pB P j z))), (6, .int r_8), (5, .int (nI (pB P j z))), (0, .ref (a 0)), (2, .int (nI z)), (3, .int (nI d))]) hx hb dRn_doActions_80 hl (by decide) rfl (fun ls hl => ?_)
              refine lv_iinc (v := nI (j + pB P j z + 1)) (lv' := [(4, .int (nI (j + pB P j z + 1))), (6, .int r_8), (5, .int (nI (pB P j z))), (0, .ref (a 0)), (2, .int (nI z)), (3, .int (nI d))]) hx hb dRn_doActions_82 hl (k := 0) rfl (nI_1 _) (by decide) rfl (fun ls hl => ?_)
              refine lv_goto (tgt := 11) hx hb dRn_doActions_85 (by decide) ?_
              exact ihn (j + pB P j z + 1) u_9 _ _ _ (by omega) (by omega) (fun rr uu h => hq rr uu (h.trans (xLoop_go hlt c_4 er_8 c_10))) hP hS (lv_sub hl [3, 4, 5, 0] rfl)
            · -- 69 not taken
              refine lv_iload hx hb dRn_doActions_72 (lv_at hl 0 rfl) ?_
              exact W.iret (v := r_8) hx hb hr (fun t9 ht hW => ⟨⟨r_8, u_9, rfl, hq _ _ (xLoop_end hlt c_4 er_8 c_10), ce_hp ht hP⟩, hS.F ht⟩) hS.2.2 dRn_doActions_74
          · -- 24 not taken
            refine lv_iconst (v := 1) hx hb dRn_doActions_27 (by decide) ?_
            exact W.iret (v := 1) hx hb hr (fun t9 ht hW => ⟨⟨1, v, rfl, hq _ _ (xLoop_stop hlt c_4), ce_hp ht hP⟩, hS.F ht⟩) hS.2.2 dRn_doActions_28
    refine lv_iload_n hx hb dRn_doActions_0 rfl (lv_at hl 3 rfl) ?_
    refine lv_bipush (v := 14) hx hb dRn_doActions_1 (by decide) ?_
    refine lv_icmp_le (tgt := 8) hx hb dRn_doActions_3 (by decide) (fun c_12 => ?_) (fun c_12 => ?_)
    · -- 3 taken
      refine lv_iload_n hx hb dRn_doActions_8 rfl (lv_at hl 1 rfl) ?_
      refine lv_istore (lv' := [(4, .int (nI i)), (0, .ref (a 0)), (1, .int (nI i)), (2, .int (nI z)), (3, .int (nI d))]) hx hb dRn_doActions_9 hl (by decide) rfl (fun ls hl => ?_)
      exact loop (z - i) i u _ _ _ hiz (by omega) (fun _ _ h => h) hP hS (lv_sub hl [1, 3, 4, 0] rfl)
    · -- 3 not taken
      exact absurd (nI_le (a := d) (b := 14) (by omega) (by decide)) c_12
