theorem isW_in {x : Int32} (h : isW x 7 = true) : vp_in x 8 := by
  unfold isW at h
  have h2 := of_decide_eq_true h
  rw [vp_in_iff]
  have a1 : ¬ x.toInt < 0 := fun q => h2.1 (Int32.lt_iff_toInt_lt.mpr q)
  have a2 : ¬ (7 : Int32).toInt < x.toInt := fun q => h2.2 (Int32.lt_iff_toInt_lt.mpr q)
  have a3 : (7 : Int32).toInt = 7 := rfl
  rw [a3] at a2
  omega
theorem xHeld_no {P : PR} {i : Nat} {u : RS} (h : gHolds u (pK P i % 2) ≤ 0) : (0 : Int32) = bI (xHeld P i u) := by
  have : xHeld P i u = false := by unfold xHeld; exact decide_eq_false (fun q => absurd q (Int32.not_lt.mpr h))
  rw [this]; rfl
theorem xHeld_yes {P : PR} {i : Nat} {u : RS} (h : ¬ gHolds u (pK P i % 2) ≤ 0) : (1 : Int32) = bI (xHeld P i u) := by
  have : xHeld P i u = true := by unfold xHeld; exact decide_eq_true (Int32.not_le.mp h)
  rw [this]; rfl
theorem xThrow_no {P : PR} {i : Nat} {u : RS} (h : pK P i < 7 ∨ 10 < pK P i) : ((0 : Int32), u) = xThrow P i u := by
  unfold xThrow
  rw [if_neg (by omega), if_neg (by omega)]
theorem xThrow_up {P : PR} {i : Nat} {u : RS} (h : pK P i = 7 ∨ pK P i = 8 ∨ pK P i = 9) : xComes u (nI i) (nI (pK P i)) = xThrow P i u := by
  unfold xThrow
  rw [if_pos h]
theorem xThrow_own {P : PR} {i : Nat} {u : RS} (h : pK P i = 10) : xOwn u (nI i) (nI (pN P i)) = xThrow P i u := by
  unfold xThrow
  rw [if_neg (by omega), if_pos h]
set_option maxHeartbeats 4000000 in
set_option maxRecDepth 100000 in
theorem c_Rn_isHeld (l : Launch) (D : va_G) (cI : ClassId) (a : Nat → Nat) (hd : dR a) (P : PR) (u : RS) (i : Nat) (hi : i < 14) (h8 : P.2.1 i ≤ 255) : Met l yRn_isHeld (ce_ws yRn_isHeld cRn_isHeld 2 (some .boolean)) (ce_rm 1) (ce_Pc D cI [.ref (a 0), .int (nI i)] (wR a cI P u)) (vp_Si (fun r => r = bI (xHeld P i u))) 0 0 (fun _ => False) := by
  refine Met.ofW (cc := cRn_isHeld) (maxL := 2) (ret := (some .boolean)) (by decide) rfl ?_
  intro p e s m args below meth c s₁ B hml hv
  obtain ⟨rfl, hP, hK, hN⟩ := hv
  have hx := B.exec
  have hb := B.bytes
  have hr := B.returns
  have hts := atoms_spec (ws := ce_ws yRn_isHeld cRn_isHeld 2 (some .boolean)) B.pre
  have hown : s.vm.findClass RRn = some m.cls := findClass_of_methodNamed B.named
  have hlocks := B.notSynchronized
  have hl := lv_entry ([.ref (a 0), .int (nI i)]) (n := 2) (Nat.le_of_ble_eq_true rfl)
  rw [lg_entry_eq]
  generalize (lg_sl ([.ref (a 0), .int (nI i)]) ++ List.replicate (2 - (lg_sl ([.ref (a 0), .int (nI i)])).length) Slot.unset).toArray = ls at hl ⊢
  have hl : lv_has ls 2 [(0, .ref (a 0)), (1, .int (nI i))] := hl
  have hK16 : pK P i < 16 := by unfold pK; omega
  refine lv_aload_n hx hb dRn_isHeld_0 rfl (lv_at hl 0 rfl) ?_
  refine ce_gR hx hb hts hown hK hP 2 (by decide) rfl lRn_15 rfl dRn_isHeld_1 ?_
  refine lv_aload_n hx hb dRn_isHeld_4 rfl (lv_at hl 0 rfl) ?_
  refine ce_gR hx hb hts hown hK hP 0 (by decide) rfl lRn_18 rfl dRn_isHeld_5 ?_
  refine lv_iload_n hx hb dRn_isHeld_8 rfl (lv_at hl 1 rfl) ?_
  refine ce_ri (As := [.int (nI i)]) (rest := [.ref (a 5)]) ⟨hx, hb, hml, hown, hts⟩ (c_Pg_high l D cI a P i hi h8) mPg_high lRn_145 iPg_high ⟨Nat.le_of_ble_eq_true rfl, Nat.le_of_ble_eq_true rfl⟩ ⟨rfl, rfl⟩ hK hN (hP.sub (ws' := wP a cI P) [1, 2, 3] rfl) 0 rfl rfl rfl hl.1 rfl (Nat.le_of_ble_eq_true rfl) dRn_isHeld_9 ⟨Nat.le_of_ble_eq_true rfl, Nat.le_of_ble_eq_true rfl⟩ (fun r_1 er_1 => ?_)
  obtain rfl : r_1 = nI (pK P i) := er_1
  refine lv_iconst (v := 2) hx hb dRn_isHeld_12 (by decide) ?_
  refine lv_irem hx hb dRn_isHeld_13 (by decide) ?_
  refine lv_topi (fun y_2 ey_2 => ?_)
  obtain rfl : y_2 = nI (pK P i % 2) := ey_2.trans (pk_rem (d := 2) (by omega) (by decide) (by decide))
  refine va_iald hx hb hK hP 5 0 rfl rfl (vp_in_nI (Nat.mod_lt _ (by decide)) (by decide)) dRn_isHeld_14 ?_
  refine lv_topi (fun y_3 ey_3 => ?_)
  obtain rfl : y_3 = (gHolds u) (pK P i % 2) := ey_3.trans (congrArg (gHolds u) (nI_clamp (by omega)))
  refine lv_if_le (tgt := 22) hx hb dRn_isHeld_15 (by decide) (fun c_4 => ?_) (fun c_4 => ?_)
  · -- 15 taken
    refine lv_iconst (v := 0) hx hb dRn_isHeld_22 (by decide) ?_
    exact W.zret (v := 0) hx hb hr rfl (fun t9 ht hW => ⟨0, rfl, xHeld_no c_4, ht⟩) (fun _ h => by cases h) dRn_isHeld_23
  · -- 15 not taken
    refine lv_iconst (v := 1) hx hb dRn_isHeld_18 (by decide) ?_
    refine lv_goto (tgt := 23) hx hb dRn_isHeld_19 (by decide) ?_
    exact W.zret (v := 1) hx hb hr rfl (fun t9 ht hW => ⟨1, rfl, xHeld_yes c_4, ht⟩) (fun _ h => by cases h) dRn_isHeld_23
set_option maxHeartbeats 4000000 in
set_option maxRecDepth 100000 in
theorem c_Rn_doSleep (l : Launch) (D : va_G) (cI : ClassId) (a : Nat → Nat) (hd : dR a) (P : PR) (u : RS) (x : Int32) : Met l yRn_doSleep (ce_ws yRn_doSleep cRn_doSleep 2 (some .int)) (ce_rm 1) (ce_Pc D cI [.ref (a 0), .int x] (wR a cI P u)) (va_Qi (fun r u' => (r, u') = xSleep x u) (fun u' t => va_P D vwCl (wR a cI P u') t.heap) (aR a)) 0 0 (aR a) := by
  refine Met.ofW (cc := cRn_doSleep) (maxL := 2) (ret := (some .int)) (by decide) rfl ?_
  intro p e s m args below meth c s₁ B hml hv
  obtain ⟨rfl, hP, hK, hN⟩ := hv
  have hx := B.exec
  have hb := B.bytes
  have hr := B.returns
  have hts := atoms_spec (ws := ce_ws yRn_doSleep cRn_doSleep 2 (some .int)) B.pre
  have hown : s.vm.findClass RRn = some m.cls := findClass_of_methodNamed B.named
  have hlocks := B.notSynchronized
  have hS : va_S (aR a) s.heap s.heap [] := va_S.rf
  have hl := lv_entry ([.ref (a 0), .int x]) (n := 2) (Nat.le_of_ble_eq_true rfl)
  rw [lg_entry_eq]
  generalize (lg_sl ([.ref (a 0), .int x]) ++ List.replicate (2 - (lg_sl ([.ref (a 0), .int x])).length) Slot.unset).toArray = ls at hl ⊢
  have hl : lv_has ls 2 [(0, .ref (a 0)), (1, .int x)] := hl
  refine lv_aload_n hx hb dRn_doSleep_0 rfl (lv_at hl 0 rfl) ?_
  refine ce_gR hx hb hts hown hK hP 9 (by decide) rfl lRn_60 rfl dRn_doSleep_1 ?_
  refine lv_if_ne (tgt := 9) hx hb dRn_doSleep_4 (by decide) (fun c_1 => ?_) (fun c_1 => ?_)
  · -- 4 taken
    refine lv_aload_n hx hb dRn_doSleep_9 rfl (lv_at hl 0 rfl) ?_
    refine lv_iconst (v := 0) hx hb dRn_doSleep_10 (by decide) ?_
    refine ce_pMark (x := false) hx hb hts hown hK hd hP hS lRn_60 dRn_doSleep_11 (fun H locs hP hS => ?_)
    refine lv_aload_n hx hb dRn_doSleep_14 rfl (lv_at hl 0 rfl) ?_
    refine lv_iload_n hx hb dRn_doSleep_15 rfl (lv_at hl 1 rfl) ?_
    refine lv_bipush (v := 7) hx hb dRn_doSleep_16 (by decide) ?_
    refine ce_vi (As := [.int x, .int 7]) (rest := []) ⟨hx, hb, hml, hown, hts⟩ (c_Rn_comesUp l D cI a hd P (sMark u false) x 7) mRn_comesUp lRn_99 iRn_comesUp ⟨Nat.le_of_ble_eq_true rfl, Nat.le_of_ble_eq_true rfl⟩ ⟨rfl, rfl⟩ hK hN hP hS rfl hl.1 rfl (Nat.le_of_ble_eq_true rfl) dRn_doSleep_18 ⟨Nat.le_of_ble_eq_true rfl, Nat.le_of_ble_eq_true rfl⟩ (fun r_2 u_3 H locs er_2 hP hS => ?_)
    obtain ⟨rfl, rfl⟩ := Prod.mk.inj er_2
    exact W.iret (v := 2) hx hb hr (fun t9 ht hW => ⟨⟨2, sOwn (sTa (sTr (sMark u false) 7) x) (-1), rfl, (if_pos (bI1 c_1)).symm, ce_hp ht hP⟩, hS.F ht⟩) hS.2.2 dRn_doSleep_21
  · -- 4 not taken
    refine lv_iconst (v := 0) hx hb dRn_doSleep_7 (by decide) ?_
    exact W.iret (v := 0) hx hb hr (fun t9 ht hW => ⟨⟨0, u, rfl, (if_neg (by rw [bI0 c_1]; decide)).symm, ce_hp ht hP⟩, hS.F ht⟩) hS.2.2 dRn_doSleep_8
set_option maxHeartbeats 4000000 in
set_option maxRecDepth 100000 in
theorem c_Rn_doCount (l : Launch) (D : va_G) (cI : ClassId) (a : Nat → Nat) (hd : dR a) (P : PR) (u : RS) (i : Nat) (hi : i < 14) (h8 : P.2.1 i ≤ 255) : Met l yRn_doCount (ce_ws yRn_doCount cRn_doCount 2 (some .int)) (ce_rm 1) (ce_Pc D cI [.ref (a 0), .int (nI i)] (wR a cI P u)) (va_Qi (fun r u' => (r, u') = (0, sCnt u (gCnt u + (pV P i).toInt64))) (fun u' t => va_P D vwCl (wR a cI P u') t.heap) (aR a)) 0 0 (aR a) := by
  refine Met.ofW (cc := cRn_doCount) (maxL := 2) (ret := (some .int)) (by decide) rfl ?_
  intro p e s m args below meth c s₁ B hml hv
  obtain ⟨rfl, hP, hK, hN⟩ := hv
  have hx := B.exec
  have hb := B.bytes
  have hr := B.returns
  have hts := atoms_spec (ws := ce_ws yRn_doCount cRn_doCount 2 (some .int)) B.pre
  have hown : s.vm.findClass RRn = some m.cls := findClass_of_methodNamed B.named
  have hlocks := B.notSynchronized
  have hS : va_S (aR a) s.heap s.heap [] := va_S.rf
  have hl := lv_entry ([.ref (a 0), .int (nI i)]) (n := 2) (Nat.le_of_ble_eq_true rfl)
  rw [lg_entry_eq]
  generalize (lg_sl ([.ref (a 0), .int (nI i)]) ++ List.replicate (2 - (lg_sl ([.ref (a 0), .int (nI i)])).length) Slot.unset).toArray = ls at hl ⊢
  have hl : lv_has ls 2 [(0, .ref (a 0)), (1, .int (nI i))] := hl
  refine lv_aload_n hx hb dRn_doCount_0 rfl (lv_at hl 0 rfl) ?_
  refine lv_dup hx hb dRn_doCount_1 rfl ?_
  refine ce_gR hx hb hts hown hK hP 10 (by decide) rfl lRn_34 rfl dRn_doCount_2 ?_
  refine lv_aload_n hx hb dRn_doCount_5 rfl (lv_at hl 0 rfl) ?_
  refine ce_gR hx hb hts hown hK hP 0 (by decide) rfl lRn_18 rfl dRn_doCount_6 ?_
  refine lv_iload_n hx hb dRn_doCount_9 rfl (lv_at hl 1 rfl) ?_
  refine ce_ri (As := [.int (nI i)]) (rest := [.long (gCnt u), .ref (a 0)]) ⟨hx, hb, hml, hown, hts⟩ (c_Pg_value l D cI a P i hi) mPg_value lRn_89 iPg_value ⟨Nat.le_of_ble_eq_true rfl, Nat.le_of_ble_eq_true rfl⟩ ⟨rfl, rfl⟩ hK hN (hP.sub (ws' := wP a cI P) [1, 2, 3] rfl) 0 rfl rfl rfl hl.1 rfl (Nat.le_of_ble_eq_true rfl) dRn_doCount_10 ⟨Nat.le_of_ble_eq_true rfl, Nat.le_of_ble_eq_true rfl⟩ (fun r_1 er_1 => ?_)
  obtain rfl : r_1 = pV P i := er_1
  refine lv_i2l hx hb dRn_doCount_13 rfl ?_
  refine lv_ladd hx hb dRn_doCount_14 ?_
  refine ce_pCnt hx hb hts hown hK hd hP hS lRn_34 dRn_doCount_15 (fun H locs hP hS => ?_)
  refine lv_iconst (v := 0) hx hb dRn_doCount_18 (by decide) ?_
  exact W.iret (v := 0) hx hb hr (fun t9 ht hW => ⟨⟨0, sCnt u ((gCnt u) + ((pV P i).toInt64)), rfl, rfl, ce_hp ht hP⟩, hS.F ht⟩) hS.2.2 dRn_doCount_19
set_option maxHeartbeats 4000000 in
set_option maxRecDepth 100000 in
theorem c_Rn_doKeep (l : Launch) (D : va_G) (cI : ClassId) (a : Nat → Nat) (hd : dR a) (P : PR) (u : RS) (i : Nat) (hi : i < 14) (h8 : P.2.1 i ≤ 255) : Met l yRn_doKeep (ce_ws yRn_doKeep cRn_doKeep 3 (some .int)) (ce_rm 2) (ce_Pc D cI [.ref (a 0), .int (nI i)] (wR a cI P u)) (va_Qi (fun r u' => (r, u') = xKeep P i u) (fun u' t => va_P D vwCl (wR a cI P u') t.heap) (aR a)) 0 0 (aR a) := by
  refine Met.ofW (cc := cRn_doKeep) (maxL := 3) (ret := (some .int)) (by decide) rfl ?_
  intro p e s m args below meth c s₁ B hml hv
  obtain ⟨rfl, hP, hK, hN⟩ := hv
  have hx := B.exec
  have hb := B.bytes
  have hr := B.returns
  have hts := atoms_spec (ws := ce_ws yRn_doKeep cRn_doKeep 3 (some .int)) B.pre
  have hown : s.vm.findClass RRn = some m.cls := findClass_of_methodNamed B.named
  have hlocks := B.notSynchronized
  have hS : va_S (aR a) s.heap s.heap [] := va_S.rf
  have hl := lv_entry ([.ref (a 0), .int (nI i)]) (n := 3) (Nat.le_of_ble_eq_true rfl)
  rw [lg_entry_eq]
  generalize (lg_sl ([.ref (a 0), .int (nI i)]) ++ List.replicate (3 - (lg_sl ([.ref (a 0), .int (nI i)])).length) Slot.unset).toArray = ls at hl ⊢
  have hl : lv_has ls 3 [(0, .ref (a 0)), (1, .int (nI i))] := hl
  refine lv_aload_n hx hb dRn_doKeep_0 rfl (lv_at hl 0 rfl) ?_
  refine ce_gR hx hb hts hown hK hP 0 (by decide) rfl lRn_18 rfl dRn_doKeep_1 ?_
  refine lv_iload_n hx hb dRn_doKeep_4 rfl (lv_at hl 1 rfl) ?_
  refine ce_ri (As := [.int (nI i)]) (rest := []) ⟨hx, hb, hml, hown, hts⟩ (c_Pg_value l D cI a P i hi) mPg_value lRn_89 iPg_value ⟨Nat.le_of_ble_eq_true rfl, Nat.le_of_ble_eq_true rfl⟩ ⟨rfl, rfl⟩ hK hN (hP.sub (ws' := wP a cI P) [1, 2, 3] rfl) 0 rfl rfl rfl hl.1 rfl (Nat.le_of_ble_eq_true rfl) dRn_doKeep_5 ⟨Nat.le_of_ble_eq_true rfl, Nat.le_of_ble_eq_true rfl⟩ (fun r_1 er_1 => ?_)
  obtain rfl : r_1 = pV P i := er_1
  refine lv_istore_n (lv' := [(2, .int (pV P i)), (0, .ref (a 0)), (1, .int (nI i))]) hx hb dRn_doKeep_8 rfl hl (by decide) rfl (fun ls hl => ?_)
  refine lv_iload_n hx hb dRn_doKeep_9 rfl (lv_at hl 0 rfl) ?_
  refine ce_si (As := [.int (pV P i)]) (rest := []) ⟨hx, hb, hml, hown, hts⟩ (c_Rn_isCell l D cI a _ (pV P i)) mRn_isCell lRn_102 sRn_isCell ⟨Nat.le_of_ble_eq_true rfl, Nat.le_of_ble_eq_true rfl⟩ ⟨rfl, rfl⟩ hK hN hP rfl hl.1 rfl (Nat.le_of_ble_eq_true rfl) dRn_doKeep_10 ⟨Nat.le_of_ble_eq_true rfl, Nat.le_of_ble_eq_true rfl⟩ (fun r_2 er_2 => ?_)
  obtain rfl : r_2 = bI (isW (pV P i) 7) := er_2
  refine lv_if_ne (tgt := 23) hx hb dRn_doKeep_13 (by decide) (fun c_3 => ?_) (fun c_3 => ?_)
  · -- 13 taken
    refine lv_aload_n hx hb dRn_doKeep_23 rfl (lv_at hl 1 rfl) ?_
    refine ce_gR hx hb hts hown hK hP 1 (by decide) rfl lRn_11 rfl dRn_doKeep_24 ?_
    refine lv_iload_n hx hb dRn_doKeep_27 rfl (lv_at hl 0 rfl) ?_
    refine lv_aload_n hx hb dRn_doKeep_28 rfl (lv_at hl 1 rfl) ?_
    refine ce_gR hx hb hts hown hK hP 5 (by decide) rfl lRn_42 rfl dRn_doKeep_29 ?_
    refine ce_ast4 hx hb hK hd hP hS (isW_in (bI1 c_3)) dRn_doKeep_32 (fun H locs hP hS => ?_)
    have hP : va_P D vwCl (wR a cI P (sCells u (upd (gCells u) (pV P i).toNatClampNeg (gAcc u)))) H := hP
    refine lv_iconst (v := 0) hx hb dRn_doKeep_33 (by decide) ?_
    exact W.iret (v := 0) hx hb hr (fun t9 ht hW => ⟨⟨0, sCells u (upd (gCells u) (pV P i).toNatClampNeg (gAcc u)), rfl, (if_pos (bI1 c_3)).symm, ce_hp ht hP⟩, hS.F ht⟩) hS.2.2 dRn_doKeep_34
  · -- 13 not taken
    refine lv_aload_n hx hb dRn_doKeep_16 rfl (lv_at hl 1 rfl) ?_
    refine lv_iload_n hx hb dRn_doKeep_17 rfl (lv_at hl 2 rfl) ?_
    refine lv_iconst (v := 1) hx hb dRn_doKeep_18 (by decide) ?_
    refine ce_vi (As := [.int (nI i), .int 1]) (rest := []) ⟨hx, hb, hml, hown, hts⟩ (c_Rn_comesUp l D cI a hd P u (nI i) 1) mRn_comesUp lRn_99 iRn_comesUp ⟨Nat.le_of_ble_eq_true rfl, Nat.le_of_ble_eq_true rfl⟩ ⟨rfl, rfl⟩ hK hN hP hS rfl hl.1 rfl (Nat.le_of_ble_eq_true rfl) dRn_doKeep_19 ⟨Nat.le_of_ble_eq_true rfl, Nat.le_of_ble_eq_true rfl⟩ (fun r_4 u_5 H locs er_4 hP hS => ?_)
    obtain ⟨rfl, rfl⟩ := Prod.mk.inj er_4
    exact W.iret (v := 2) hx hb hr (fun t9 ht hW => ⟨⟨2, sOwn (sTa (sTr u 1) (nI i)) (-1), rfl, (if_neg (by rw [bI0 c_3]; decide)).symm, ce_hp ht hP⟩, hS.F ht⟩) hS.2.2 dRn_doKeep_22
set_option maxHeartbeats 4000000 in
set_option maxRecDepth 100000 in
theorem c_Rn_doBreak (l : Launch) (D : va_G) (cI : ClassId) (a : Nat → Nat) (hd : dR a) (P : PR) (u : RS) (i : Nat) (hi : i < 14) (h8 : P.2.1 i ≤ 255) : Met l yRn_doBreak (ce_ws yRn_doBreak cRn_doBreak 2 (some .int)) (ce_rm 1) (ce_Pc D cI [.ref (a 0), .int (nI i)] (wR a cI P u)) (va_Qi (fun r u' => (r, u') = xBreak P i u) (fun u' t => va_P D vwCl (wR a cI P u') t.heap) (aR a)) 0 0 (aR a) := by
  refine Met.ofW (cc := cRn_doBreak) (maxL := 2) (ret := (some .int)) (by decide) rfl ?_
  intro p e s m args below meth c s₁ B hml hv
  obtain ⟨rfl, hP, hK, hN⟩ := hv
  have hx := B.exec
  have hb := B.bytes
  have hr := B.returns
  have hts := atoms_spec (ws := ce_ws yRn_doBreak cRn_doBreak 2 (some .int)) B.pre
  have hown : s.vm.findClass RRn = some m.cls := findClass_of_methodNamed B.named
  have hlocks := B.notSynchronized
  have hS : va_S (aR a) s.heap s.heap [] := va_S.rf
  have hl := lv_entry ([.ref (a 0), .int (nI i)]) (n := 2) (Nat.le_of_ble_eq_true rfl)
  rw [lg_entry_eq]
  generalize (lg_sl ([.ref (a 0), .int (nI i)]) ++ List.replicate (2 - (lg_sl ([.ref (a 0), .int (nI i)])).length) Slot.unset).toArray = ls at hl ⊢
  have hl : lv_has ls 2 [(0, .ref (a 0)), (1, .int (nI i))] := hl
  have hK16 : pK P i < 16 := by unfold pK; omega
  refine lv_aload_n hx hb dRn_doBreak_0 rfl (lv_at hl 0 rfl) ?_
  refine ce_gR hx hb hts hown hK hP 0 (by decide) rfl lRn_18 rfl dRn_doBreak_1 ?_
  refine lv_iload_n hx hb dRn_doBreak_4 rfl (lv_at hl 1 rfl) ?_
  refine ce_ri (As := [.int (nI i)]) (rest := []) ⟨hx, hb, hml, hown, hts⟩ (c_Pg_high l D cI a P i hi h8) mPg_high lRn_145 iPg_high ⟨Nat.le_of_ble_eq_true rfl, Nat.le_of_ble_eq_true rfl⟩ ⟨rfl, rfl⟩ hK hN (hP.sub (ws' := wP a cI P) [1, 2, 3] rfl) 0 rfl rfl rfl hl.1 rfl (Nat.le_of_ble_eq_true rfl) dRn_doBreak_5 ⟨Nat.le_of_ble_eq_true rfl, Nat.le_of_ble_eq_true rfl⟩ (fun r_1 er_1 => ?_)
  obtain rfl : r_1 = nI (pK P i) := er_1
  refine lv_iconst (v := 5) hx hb dRn_doBreak_8 (by decide) ?_
  refine lv_icmp_gt (tgt := 26) hx hb dRn_doBreak_9 (by decide) (fun c_2 => ?_) (fun c_2 => ?_)
  · -- 9 taken
    refine lv_aload_n hx hb dRn_doBreak_26 rfl (lv_at hl 0 rfl) ?_
    refine lv_aload_n hx hb dRn_doBreak_27 rfl (lv_at hl 0 rfl) ?_
    refine ce_gR hx hb hts hown hK hP 0 (by decide) rfl lRn_18 rfl dRn_doBreak_28 ?_
    refine lv_iload_n hx hb dRn_doBreak_31 rfl (lv_at hl 1 rfl) ?_
    refine ce_ri (As := [.int (nI i)]) (rest := [.ref (a 0)]) ⟨hx, hb, hml, hown, hts⟩ (c_Pg_low l D cI a P i hi h8) mPg_low lRn_154 iPg_low ⟨Nat.le_of_ble_eq_true rfl, Nat.le_of_ble_eq_true rfl⟩ ⟨rfl, rfl⟩ hK hN (hP.sub (ws' := wP a cI P) [1, 2, 3] rfl) 0 rfl rfl rfl hl.1 rfl (Nat.le_of_ble_eq_true rfl) dRn_doBreak_32 ⟨Nat.le_of_ble_eq_true rfl, Nat.le_of_ble_eq_true rfl⟩ (fun r_3 er_3 => ?_)
    obtain rfl : r_3 = nI (pN P i) := er_3
    refine ce_vi (As := [.int (nI (pN P i))]) (rest := []) ⟨hx, hb, hml, hown, hts⟩ (c_Rn_become l D cI a hd P u (nI (pN P i))) mRn_become lRn_96 iRn_become ⟨Nat.le_of_ble_eq_true rfl, Nat.le_of_ble_eq_true rfl⟩ ⟨rfl, rfl⟩ hK hN hP hS rfl hl.1 rfl (Nat.le_of_ble_eq_true rfl) dRn_doBreak_35 ⟨Nat.le_of_ble_eq_true rfl, Nat.le_of_ble_eq_true rfl⟩ (fun r_4 u_5 H locs er_4 hP hS => ?_)
    obtain ⟨rfl, rfl⟩ := Prod.mk.inj er_4
    exact W.iret (v := 0) hx hb hr (fun t9 ht hW => ⟨⟨0, sAcc u (nI (pN P i)), rfl, (if_neg (Nat.not_le.mpr ((nI_ltI (a := 5) (by decide) (by omega)).mp c_2))).symm, ce_hp ht hP⟩, hS.F ht⟩) hS.2.2 dRn_doBreak_38
  · -- 9 not taken
    refine lv_aload_n hx hb dRn_doBreak_12 rfl (lv_at hl 0 rfl) ?_
    refine lv_iload_n hx hb dRn_doBreak_13 rfl (lv_at hl 1 rfl) ?_
    refine lv_aload_n hx hb dRn_doBreak_14 rfl (lv_at hl 0 rfl) ?_
    refine ce_gR hx hb hts hown hK hP 0 (by decide) rfl lRn_18 rfl dRn_doBreak_15 ?_
    refine lv_iload_n hx hb dRn_doBreak_18 rfl (lv_at hl 1 rfl) ?_
    refine ce_ri (As := [.int (nI i)]) (rest := [.int (nI i), .ref (a 0)]) ⟨hx, hb, hml, hown, hts⟩ (c_Pg_high l D cI a P i hi h8) mPg_high lRn_145 iPg_high ⟨Nat.le_of_ble_eq_true rfl, Nat.le_of_ble_eq_true rfl⟩ ⟨rfl, rfl⟩ hK hN (hP.sub (ws' := wP a cI P) [1, 2, 3] rfl) 0 rfl rfl rfl hl.1 rfl (Nat.le_of_ble_eq_true rfl) dRn_doBreak_19 ⟨Nat.le_of_ble_eq_true rfl, Nat.le_of_ble_eq_true rfl⟩ (fun r_6 er_6 => ?_)
    obtain rfl : r_6 = nI (pK P i) := er_6
    refine ce_vi (As := [.int (nI i), .int (nI (pK P i))]) (rest := []) ⟨hx, hb, hml, hown, hts⟩ (c_Rn_comesUp l D cI a hd P u (nI i) (nI (pK P i))) mRn_comesUp lRn_99 iRn_comesUp ⟨Nat.le_of_ble_eq_true rfl, Nat.le_of_ble_eq_true rfl⟩ ⟨rfl, rfl⟩ hK hN hP hS rfl hl.1 rfl (Nat.le_of_ble_eq_true rfl) dRn_doBreak_22 ⟨Nat.le_of_ble_eq_true rfl, Nat.le_of_ble_eq_true rfl⟩ (fun r_7 u_8 H locs er_7 hP hS => ?_)
    obtain ⟨rfl, rfl⟩ := Prod.mk.inj er_7
    exact W.iret (v := 2) hx hb hr (fun t9 ht hW => ⟨⟨2, sOwn (sTa (sTr u (nI (pK P i))) (nI i)) (-1), rfl, (if_pos (Nat.le_of_not_lt (fun h => c_2 ((nI_ltI (a := 5) (by decide) (by omega)).mpr h)))).symm, ce_hp ht hP⟩, hS.F ht⟩) hS.2.2 dRn_doBreak_25
set_option maxHeartbeats 4000000 in
set_option maxRecDepth 100000 in
theorem c_Rn_doThrow (l : Launch) (D : va_G) (cI : ClassId) (a : Nat → Nat) (hd : dR a) (P : PR) (u : RS) (i : Nat) (hi : i < 14) (h8 : P.2.1 i ≤ 255) : Met l yRn_doThrow (ce_ws yRn_doThrow cRn_doThrow 2 (some .int)) (ce_rm 1) (ce_Pc D cI [.ref (a 0), .int (nI i)] (wR a cI P u)) (va_Qi (fun r u' => (r, u') = xThrow P i u) (fun u' t => va_P D vwCl (wR a cI P u') t.heap) (aR a)) 0 0 (aR a) := by
  refine Met.ofW (cc := cRn_doThrow) (maxL := 2) (ret := (some .int)) (by decide) rfl ?_
  intro p e s m args below meth c s₁ B hml hv
  obtain ⟨rfl, hP, hK, hN⟩ := hv
  have hx := B.exec
  have hb := B.bytes
  have hr := B.returns
  have hts := atoms_spec (ws := ce_ws yRn_doThrow cRn_doThrow 2 (some .int)) B.pre
  have hown : s.vm.findClass RRn = some m.cls := findClass_of_methodNamed B.named
  have hlocks := B.notSynchronized
  have hS : va_S (aR a) s.heap s.heap [] := va_S.rf
  have hl := lv_entry ([.ref (a 0), .int (nI i)]) (n := 2) (Nat.le_of_ble_eq_true rfl)
  rw [lg_entry_eq]
  generalize (lg_sl ([.ref (a 0), .int (nI i)]) ++ List.replicate (2 - (lg_sl ([.ref (a 0), .int (nI i)])).length) Slot.unset).toArray = ls at hl ⊢
  have hl : lv_has ls 2 [(0, .ref (a 0)), (1, .int (nI i))] := hl
  have hK16 : pK P i < 16 := by unfold pK; omega
  refine lv_aload_n hx hb dRn_doThrow_0 rfl (lv_at hl 0 rfl) ?_
  refine ce_gR hx hb hts hown hK hP 0 (by decide) rfl lRn_18 rfl dRn_doThrow_1 ?_
  refine lv_iload_n hx hb dRn_doThrow_4 rfl (lv_at hl 1 rfl) ?_
  refine ce_ri (As := [.int (nI i)]) (rest := []) ⟨hx, hb, hml, hown, hts⟩ (c_Pg_high l D cI a P i hi h8) mPg_high lRn_145 iPg_high ⟨Nat.le_of_ble_eq_true rfl, Nat.le_of_ble_eq_true rfl⟩ ⟨rfl, rfl⟩ hK hN (hP.sub (ws' := wP a cI P) [1, 2, 3] rfl) 0 rfl rfl rfl hl.1 rfl (Nat.le_of_ble_eq_true rfl) dRn_doThrow_5 ⟨Nat.le_of_ble_eq_true rfl, Nat.le_of_ble_eq_true rfl⟩ (fun r_1 er_1 => ?_)
  obtain rfl : r_1 = nI (pK P i) := er_1
  rcases (show pK P i < 7 ∨ pK P i = 7 ∨ pK P i = 8 ∨ pK P i = 9 ∨ pK P i = 10 ∨ 10 < pK P i by omega) with hk | hk | hk | hk | hk | hk
  ·
    refine lv_tableOut (tgt := 68) hx hb dRn_doThrow_8 (Or.inl (by rw [nI_toInt (by omega)]; omega)) (by decide) ?_
    refine lv_iconst (v := 0) hx hb dRn_doThrow_68 (by decide) ?_
    exact W.iret (v := 0) hx hb hr (fun t9 ht hW => ⟨⟨0, u, rfl, xThrow_no (by omega), ce_hp ht hP⟩, hS.F ht⟩) hS.2.2 dRn_doThrow_69
  ·
    refine lv_tableIn (tgt := 40) hx hb dRn_doThrow_8 (by rw [hk]; decide) (by rw [hk]; decide) (by rw [hk]; rfl) (by decide) ?_
    refine lv_aload_n hx hb dRn_doThrow_40 rfl (lv_at hl 0 rfl) ?_
    refine lv_iload_n hx hb dRn_doThrow_41 rfl (lv_at hl 1 rfl) ?_
    refine lv_aload_n hx hb dRn_doThrow_42 rfl (lv_at hl 0 rfl) ?_
    refine ce_gR hx hb hts hown hK hP 0 (by decide) rfl lRn_18 rfl dRn_doThrow_43 ?_
    refine lv_iload_n hx hb dRn_doThrow_46 rfl (lv_at hl 1 rfl) ?_
    refine ce_ri (As := [.int (nI i)]) (rest := [.int (nI i), .ref (a 0)]) ⟨hx, hb, hml, hown, hts⟩ (c_Pg_high l D cI a P i hi h8) mPg_high lRn_145 iPg_high ⟨Nat.le_of_ble_eq_true rfl, Nat.le_of_ble_eq_true rfl⟩ ⟨rfl, rfl⟩ hK hN (hP.sub (ws' := wP a cI P) [1, 2, 3] rfl) 0 rfl rfl rfl hl.1 rfl (Nat.le_of_ble_eq_true rfl) dRn_doThrow_47 ⟨Nat.le_of_ble_eq_true rfl, Nat.le_of_ble_eq_true rfl⟩ (fun r_2 er_2 => ?_)
    obtain rfl : r_2 = nI (pK P i) := er_2
    refine ce_vi (As := [.int (nI i), .int (nI (pK P i))]) (rest := []) ⟨hx, hb, hml, hown, hts⟩ (c_Rn_comesUp l D cI a hd P u (nI i) (nI (pK P i))) mRn_comesUp lRn_99 iRn_comesUp ⟨Nat.le_of_ble_eq_true rfl, Nat.le_of_ble_eq_true rfl⟩ ⟨rfl, rfl⟩ hK hN hP hS rfl hl.1 rfl (Nat.le_of_ble_eq_true rfl) dRn_doThrow_50 ⟨Nat.le_of_ble_eq_true rfl, Nat.le_of_ble_eq_true rfl⟩ (fun r_3 u_4 H locs er_3 hP hS => ?_)
    obtain ⟨rfl, rfl⟩ := Prod.mk.inj er_3
    exact W.iret (v := 2) hx hb hr (fun t9 ht hW => ⟨⟨2, sOwn (sTa (sTr u (nI (pK P i))) (nI i)) (-1), rfl, xThrow_up (by omega), ce_hp ht hP⟩, hS.F ht⟩) hS.2.2 dRn_doThrow_53
  ·
    refine lv_tableIn (tgt := 40) hx hb dRn_doThrow_8 (by rw [hk]; decide) (by rw [hk]; decide) (by rw [hk]; rfl) (by decide) ?_
    refine lv_aload_n hx hb dRn_doThrow_40 rfl (lv_at hl 0 rfl) ?_
    refine lv_iload_n hx hb dRn_doThrow_41 rfl (lv_at hl 1 rfl) ?_
    refine lv_aload_n hx hb dRn_doThrow_42 rfl (lv_at hl 0 rfl) ?_
    refine ce_gR hx hb hts hown hK hP 0 (by decide) rfl lRn_18 rfl dRn_doThrow_43 ?_
    refine lv_iload_n hx hb dRn_doThrow_46 rfl (lv_at hl 1 rfl) ?_
    refine ce_ri (As := [.int (nI i)]) (rest := [.int (nI i), .ref (a 0)]) ⟨hx, hb, hml, hown, hts⟩ (c_Pg_high l D cI a P i hi h8) mPg_high lRn_145 iPg_high ⟨Nat.le_of_ble_eq_true rfl, Nat.le_of_ble_eq_true rfl⟩ ⟨rfl, rfl⟩ hK hN (hP.sub (ws' := wP a cI P) [1, 2, 3] rfl) 0 rfl rfl rfl hl.1 rfl (Nat.le_of_ble_eq_true rfl) dRn_doThrow_47 ⟨Nat.le_of_ble_eq_true rfl, Nat.le_of_ble_eq_true rfl⟩ (fun r_5 er_5 => ?_)
    obtain rfl : r_5 = nI (pK P i) := er_5
    refine ce_vi (As := [.int (nI i), .int (nI (pK P i))]) (rest := []) ⟨hx, hb, hml, hown, hts⟩ (c_Rn_comesUp l D cI a hd P u (nI i) (nI (pK P i))) mRn_comesUp lRn_99 iRn_comesUp ⟨Nat.le_of_ble_eq_true rfl, Nat.le_of_ble_eq_true rfl⟩ ⟨rfl, rfl⟩ hK hN hP hS rfl hl.1 rfl (Nat.le_of_ble_eq_true rfl) dRn_doThrow_50 ⟨Nat.le_of_ble_eq_true rfl, Nat.le_of_ble_eq_true rfl⟩ (fun r_6 u_7 H locs er_6 hP hS => ?_)
    obtain ⟨rfl, rfl⟩ := Prod.mk.inj er_6
    exact W.iret (v := 2) hx hb hr (fun t9 ht hW => ⟨⟨2, sOwn (sTa (sTr u (nI (pK P i))) (nI i)) (-1), rfl, xThrow_up (by omega), ce_hp ht hP⟩, hS.F ht⟩) hS.2.2 dRn_doThrow_53
  ·
    refine lv_tableIn (tgt := 40) hx hb dRn_doThrow_8 (by rw [hk]; decide) (by rw [hk]; decide) (by rw [hk]; rfl) (by decide) ?_
    refine lv_aload_n hx hb dRn_doThrow_40 rfl (lv_at hl 0 rfl) ?_
    refine lv_iload_n hx hb dRn_doThrow_41 rfl (lv_at hl 1 rfl) ?_
    refine lv_aload_n hx hb dRn_doThrow_42 rfl (lv_at hl 0 rfl) ?_
    refine ce_gR hx hb hts hown hK hP 0 (by decide) rfl lRn_18 rfl dRn_doThrow_43 ?_
    refine lv_iload_n hx hb dRn_doThrow_46 rfl (lv_at hl 1 rfl) ?_
    refine ce_ri (As := [.int (nI i)]) (rest := [.int (nI i), .ref (a 0)]) ⟨hx, hb, hml, hown, hts⟩ (c_Pg_high l D cI a P i hi h8) mPg_high lRn_145 iPg_high ⟨Nat.le_of_ble_eq_true rfl, Nat.le_of_ble_eq_true rfl⟩ ⟨rfl, rfl⟩ hK hN (hP.sub (ws' := wP a cI P) [1, 2, 3] rfl) 0 rfl rfl rfl hl.1 rfl (Nat.le_of_ble_eq_true rfl) dRn_doThrow_47 ⟨Nat.le_of_ble_eq_true rfl, Nat.le_of_ble_eq_true rfl⟩ (fun r_8 er_8 => ?_)
    obtain rfl : r_8 = nI (pK P i) := er_8
    refine ce_vi (As := [.int (nI i), .int (nI (pK P i))]) (rest := []) ⟨hx, hb, hml, hown, hts⟩ (c_Rn_comesUp l D cI a hd P u (nI i) (nI (pK P i))) mRn_comesUp lRn_99 iRn_comesUp ⟨Nat.le_of_ble_eq_true rfl, Nat.le_of_ble_eq_true rfl⟩ ⟨rfl, rfl⟩ hK hN hP hS rfl hl.1 rfl (Nat.le_of_ble_eq_true rfl) dRn_doThrow_50 ⟨Nat.le_of_ble_eq_true rfl, Nat.le_of_ble_eq_true rfl⟩ (fun r_9 u_10 H locs er_9 hP hS => ?_)
    obtain ⟨rfl, rfl⟩ := Prod.mk.inj er_9
    exact W.iret (v := 2) hx hb hr (fun t9 ht hW => ⟨⟨2, sOwn (sTa (sTr u (nI (pK P i))) (nI i)) (-1), rfl, xThrow_up (by omega), ce_hp ht hP⟩, hS.F ht⟩) hS.2.2 dRn_doThrow_53
  ·
    refine lv_tableIn (tgt := 54) hx hb dRn_doThrow_8 (by rw [hk]; decide) (by rw [hk]; decide) (by rw [hk]; rfl) (by decide) ?_
    refine lv_aload_n hx hb dRn_doThrow_54 rfl (lv_at hl 0 rfl) ?_
    refine lv_iload_n hx hb dRn_doThrow_55 rfl (lv_at hl 1 rfl) ?_
    refine lv_aload_n hx hb dRn_doThrow_56 rfl (lv_at hl 0 rfl) ?_
    refine ce_gR hx hb hts hown hK hP 0 (by decide) rfl lRn_18 rfl dRn_doThrow_57 ?_
    refine lv_iload_n hx hb dRn_doThrow_60 rfl (lv_at hl 1 rfl) ?_
    refine ce_ri (As := [.int (nI i)]) (rest := [.int (nI i), .ref (a 0)]) ⟨hx, hb, hml, hown, hts⟩ (c_Pg_low l D cI a P i hi h8) mPg_low lRn_154 iPg_low ⟨Nat.le_of_ble_eq_true rfl, Nat.le_of_ble_eq_true rfl⟩ ⟨rfl, rfl⟩ hK hN (hP.sub (ws' := wP a cI P) [1, 2, 3] rfl) 0 rfl rfl rfl hl.1 rfl (Nat.le_of_ble_eq_true rfl) dRn_doThrow_61 ⟨Nat.le_of_ble_eq_true rfl, Nat.le_of_ble_eq_true rfl⟩ (fun r_11 er_11 => ?_)
    obtain rfl : r_11 = nI (pN P i) := er_11
    refine ce_vi (As := [.int (nI i), .int (nI (pN P i))]) (rest := []) ⟨hx, hb, hml, hown, hts⟩ (c_Rn_ownComesUp l D cI a hd P u (nI i) (nI (pN P i))) mRn_ownComesUp lRn_151 iRn_ownComesUp ⟨Nat.le_of_ble_eq_true rfl, Nat.le_of_ble_eq_true rfl⟩ ⟨rfl, rfl⟩ hK hN hP hS rfl hl.1 rfl (Nat.le_of_ble_eq_true rfl) dRn_doThrow_64 ⟨Nat.le_of_ble_eq_true rfl, Nat.le_of_ble_eq_true rfl⟩ (fun r_12 u_13 H locs er_12 hP hS => ?_)
    obtain ⟨rfl, rfl⟩ := Prod.mk.inj er_12
    exact W.iret (v := 2) hx hb hr (fun t9 ht hW => ⟨⟨2, sOwn (sTa (sTr u 10) (nI i)) (nI (pN P i)), rfl, xThrow_own hk, ce_hp ht hP⟩, hS.F ht⟩) hS.2.2 dRn_doThrow_67
  ·
    refine lv_tableOut (tgt := 68) hx hb dRn_doThrow_8 (Or.inr (by rw [nI_toInt (by omega)]; omega)) (by decide) ?_
    refine lv_iconst (v := 0) hx hb dRn_doThrow_68 (by decide) ?_
    exact W.iret (v := 0) hx hb hr (fun t9 ht hW => ⟨⟨0, u, rfl, xThrow_no (by omega), ce_hp ht hP⟩, hS.F ht⟩) hS.2.2 dRn_doThrow_69
