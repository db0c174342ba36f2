theorem bI_one {b : Bool} (h : ¬ bI b = 0) : (1 : Int32) = bI b := by rw [bI1 h]; rfl
def xTell (u : RS) (k : Nat) : Int32 := match k with
  | 0 => xOutcome u
  | 1 => gAcc u
  | 2 => gSteps u
  | 3 => gFin u
  | 4 => gCat u
  | 5 => gTa u
  | 6 => gOwn u
  | _ => bI (gMark u)
set_option maxHeartbeats 4000000 in
set_option maxRecDepth 100000 in
theorem c_Rn_isKnown (l : Launch) (D : va_G) (cI : ClassId) (a : Nat → Nat) (hd : dR a) (P : PR) (u : RS) : Met l yRn_isKnown (ce_ws yRn_isKnown cRn_isKnown 1 (some .boolean)) (ce_rm 0) (ce_Pc D cI [.ref (a 0)] (wR a cI P u)) (vp_Si (fun r => r = bI (gKnown u))) 0 0 (fun _ => False) := by
  refine Met.ofW (cc := cRn_isKnown) (maxL := 1) (ret := (some .boolean)) (by decide) rfl ?_
  intro p e s m args below meth c s₁ B hml hv
  obtain ⟨rfl, hP, hK, hN⟩ := hv
  have hx := B.exec
  have hb := B.bytes
  have hr := B.returns
  have hts := atoms_spec (ws := ce_ws yRn_isKnown cRn_isKnown 1 (some .boolean)) B.pre
  have hown : s.vm.findClass RRn = some m.cls := findClass_of_methodNamed B.named
  have hlocks := B.notSynchronized
  have hl := lv_entry ([.ref (a 0)]) (n := 1) (Nat.le_of_ble_eq_true rfl)
  rw [lg_entry_eq]
  generalize (lg_sl ([.ref (a 0)]) ++ List.replicate (1 - (lg_sl ([.ref (a 0)])).length) Slot.unset).toArray = ls at hl ⊢
  have hl : lv_has ls 1 [(0, .ref (a 0))] := hl
  refine lv_aload_n hx hb dRn_isKnown_0 rfl (lv_at hl 0 rfl) ?_
  refine ce_gR hx hb hts hown hK hP 3 (by decide) rfl lRn_26 rfl dRn_isKnown_1 ?_
  exact W.zret (v := bI (gKnown u)) hx hb hr (bI_nar _) (fun t9 ht hW => ⟨bI (gKnown u), rfl, rfl, ht⟩) (fun _ h => by cases h) dRn_isKnown_4
set_option maxHeartbeats 4000000 in
set_option maxRecDepth 100000 in
theorem c_Rn_forget (l : Launch) (D : va_G) (cI : ClassId) (a : Nat → Nat) (hd : dR a) (P : PR) (u : RS) : Met l yRn_forget (ce_ws yRn_forget cRn_forget 1 none) (ce_rm 0) (ce_Pc D cI [.ref (a 0)] (wR a cI P u)) (va_Qv (fun u' => u' = sKnown u false) (fun u' t => va_P D vwCl (wR a cI P u') t.heap) (aR a)) 0 0 (aR a) := by
  refine Met.ofW (cc := cRn_forget) (maxL := 1) (ret := none) (by decide) rfl ?_
  intro p e s m args below meth c s₁ B hml hv
  obtain ⟨rfl, hP, hK, hN⟩ := hv
  have hx := B.exec
  have hb := B.bytes
  have hr := B.returns
  have hts := atoms_spec (ws := ce_ws yRn_forget cRn_forget 1 none) B.pre
  have hown : s.vm.findClass RRn = some m.cls := findClass_of_methodNamed B.named
  have hlocks := B.notSynchronized
  have hS : va_S (aR a) s.heap s.heap [] := va_S.rf
  have hl := lv_entry ([.ref (a 0)]) (n := 1) (Nat.le_of_ble_eq_true rfl)
  rw [lg_entry_eq]
  generalize (lg_sl ([.ref (a 0)]) ++ List.replicate (1 - (lg_sl ([.ref (a 0)])).length) Slot.unset).toArray = ls at hl ⊢
  have hl : lv_has ls 1 [(0, .ref (a 0))] := hl
  refine lv_aload_n hx hb dRn_forget_0 rfl (lv_at hl 0 rfl) ?_
  refine lv_iconst (v := 0) hx hb dRn_forget_1 (by decide) ?_
  refine ce_pKnown (x := false) hx hb hts hown hK hd hP hS lRn_26 dRn_forget_2 (fun H locs hP hS => ?_)
  exact W.vret hx hb hr (fun t9 ht hW => ⟨⟨sKnown u false, rfl, rfl, ce_hp ht hP⟩, hS.F ht⟩) hS.2.2 dRn_forget_5
set_option maxHeartbeats 4000000 in
set_option maxRecDepth 100000 in
theorem c_Rn_outcome (l : Launch) (D : va_G) (cI : ClassId) (a : Nat → Nat) (hd : dR a) (P : PR) (u : RS) : Met l yRn_outcome (ce_ws yRn_outcome cRn_outcome 1 (some .int)) (ce_rm 0) (ce_Pc D cI [.ref (a 0)] (wR a cI P u)) (vp_Si (fun r => r = xOutcome u)) 0 0 (fun _ => False) := by
  refine Met.ofW (cc := cRn_outcome) (maxL := 1) (ret := (some .int)) (by decide) rfl ?_
  intro p e s m args below meth c s₁ B hml hv
  obtain ⟨rfl, hP, hK, hN⟩ := hv
  have hx := B.exec
  have hb := B.bytes
  have hr := B.returns
  have hts := atoms_spec (ws := ce_ws yRn_outcome cRn_outcome 1 (some .int)) B.pre
  have hown : s.vm.findClass RRn = some m.cls := findClass_of_methodNamed B.named
  have hlocks := B.notSynchronized
  have hl := lv_entry ([.ref (a 0)]) (n := 1) (Nat.le_of_ble_eq_true rfl)
  rw [lg_entry_eq]
  generalize (lg_sl ([.ref (a 0)]) ++ List.replicate (1 - (lg_sl ([.ref (a 0)])).length) Slot.unset).toArray = ls at hl ⊢
  have hl : lv_has ls 1 [(0, .ref (a 0))] := hl
  refine lv_aload_n hx hb dRn_outcome_0 rfl (lv_at hl 0 rfl) ?_
  refine ce_gR hx hb hts hown hK hP 11 (by decide) rfl lRn_30 rfl dRn_outcome_1 ?_
  refine lv_iconst (v := (-1)) hx hb dRn_outcome_4 (by decide) ?_
  refine lv_icmp_ne (tgt := 12) hx hb dRn_outcome_5 (by decide) (fun c_1 => ?_) (fun c_1 => ?_)
  · -- 5 taken
    refine lv_bipush (v := 100) hx hb dRn_outcome_12 (by decide) ?_
    refine lv_aload_n hx hb dRn_outcome_14 rfl (lv_at hl 0 rfl) ?_
    refine ce_gR hx hb hts hown hK hP 11 (by decide) rfl lRn_30 rfl dRn_outcome_15 ?_
    refine lv_iadd hx hb dRn_outcome_18 ?_
    exact W.iret (v := 100 + (gTr u)) hx hb hr (fun t9 ht hW => ⟨100 + (gTr u), rfl, (if_neg c_1).symm, ht⟩) (fun _ h => by cases h) dRn_outcome_19
  · -- 5 not taken
    refine lv_iconst (v := 0) hx hb dRn_outcome_8 (by decide) ?_
    refine lv_goto (tgt := 19) hx hb dRn_outcome_9 (by decide) ?_
    exact W.iret (v := 0) hx hb hr (fun t9 ht hW => ⟨0, rfl, (if_pos c_1).symm, ht⟩) (fun _ h => by cases h) dRn_outcome_19
set_option maxHeartbeats 4000000 in
set_option maxRecDepth 100000 in
theorem c_Rn_counted (l : Launch) (D : va_G) (cI : ClassId) (a : Nat → Nat) (hd : dR a) (P : PR) (u : RS) : Met l yRn_counted (ce_ws yRn_counted cRn_counted 1 (some .long)) (ce_rm 0) (ce_Pc D cI [.ref (a 0)] (wR a cI P u)) (vp_Sl (fun r => r = gCnt u)) 0 0 (fun _ => False) := by
  refine Met.ofW (cc := cRn_counted) (maxL := 1) (ret := (some .long)) (by decide) rfl ?_
  intro p e s m args below meth c s₁ B hml hv
  obtain ⟨rfl, hP, hK, hN⟩ := hv
  have hx := B.exec
  have hb := B.bytes
  have hr := B.returns
  have hts := atoms_spec (ws := ce_ws yRn_counted cRn_counted 1 (some .long)) B.pre
  have hown : s.vm.findClass RRn = some m.cls := findClass_of_methodNamed B.named
  have hlocks := B.notSynchronized
  have hl := lv_entry ([.ref (a 0)]) (n := 1) (Nat.le_of_ble_eq_true rfl)
  rw [lg_entry_eq]
  generalize (lg_sl ([.ref (a 0)]) ++ List.replicate (1 - (lg_sl ([.ref (a 0)])).length) Slot.unset).toArray = ls at hl ⊢
  have hl : lv_has ls 1 [(0, .ref (a 0))] := hl
  refine lv_aload_n hx hb dRn_counted_0 rfl (lv_at hl 0 rfl) ?_
  refine ce_gR hx hb hts hown hK hP 10 (by decide) rfl lRn_34 rfl dRn_counted_1 ?_
  exact W.lret (v := gCnt u) hx hb hr (fun t9 ht hW => ⟨gCnt u, rfl, rfl, ht⟩) (fun _ h => by cases h) dRn_counted_4
set_option maxHeartbeats 4000000 in
set_option maxRecDepth 100000 in
theorem c_Rn_cellAtEnd (l : Launch) (D : va_G) (cI : ClassId) (a : Nat → Nat) (hd : dR a) (P : PR) (u : RS) (i : Nat) (hi : i < 8) : Met l yRn_cellAtEnd (ce_ws yRn_cellAtEnd cRn_cellAtEnd 2 (some .int)) (ce_rm 0) (ce_Pc D cI [.ref (a 0), .int (nI i)] (wR a cI P u)) (vp_Si (fun r => r = gCells u i)) 0 0 (fun _ => False) := by
  refine Met.ofW (cc := cRn_cellAtEnd) (maxL := 2) (ret := (some .int)) (by decide) rfl ?_
  intro p e s m args below meth c s₁ B hml hv
  obtain ⟨rfl, hP, hK, hN⟩ := hv
  have hx := B.exec
  have hb := B.bytes
  have hr := B.returns
  have hts := atoms_spec (ws := ce_ws yRn_cellAtEnd cRn_cellAtEnd 2 (some .int)) B.pre
  have hown : s.vm.findClass RRn = some m.cls := findClass_of_methodNamed B.named
  have hlocks := B.notSynchronized
  have hl := lv_entry ([.ref (a 0), .int (nI i)]) (n := 2) (Nat.le_of_ble_eq_true rfl)
  rw [lg_entry_eq]
  generalize (lg_sl ([.ref (a 0), .int (nI i)]) ++ List.replicate (2 - (lg_sl ([.ref (a 0), .int (nI i)])).length) Slot.unset).toArray = ls at hl ⊢
  have hl : lv_has ls 2 [(0, .ref (a 0)), (1, .int (nI i))] := hl
  refine lv_aload_n hx hb dRn_cellAtEnd_0 rfl (lv_at hl 0 rfl) ?_
  refine ce_gR hx hb hts hown hK hP 1 (by decide) rfl lRn_11 rfl dRn_cellAtEnd_1 ?_
  refine lv_iload_n hx hb dRn_cellAtEnd_4 rfl (lv_at hl 1 rfl) ?_
  refine va_iald hx hb hK hP 4 0 rfl rfl (vp_in_nI hi (by decide)) dRn_cellAtEnd_5 ?_
  refine lv_topi (fun y_1 ey_1 => ?_)
  obtain rfl : y_1 = (gCells u) i := ey_1.trans (congrArg (gCells u) (nI_clamp (by omega)))
  exact W.iret (v := (gCells u) i) hx hb hr (fun t9 ht hW => ⟨(gCells u) i, rfl, rfl, ht⟩) (fun _ h => by cases h) dRn_cellAtEnd_6
set_option maxHeartbeats 4000000 in
set_option maxRecDepth 100000 in
theorem c_Rn_tell (l : Launch) (D : va_G) (cI : ClassId) (a : Nat → Nat) (hd : dR a) (P : PR) (u : RS) (k : Nat) (hk : k < 8) : Met l yRn_tell (ce_ws yRn_tell cRn_tell 2 (some .int)) (ce_rm 1) (ce_Pc D cI [.ref (a 0), .int (nI k)] (wR a cI P u)) (vp_Si (fun r => r = xTell u k)) 0 0 (fun _ => False) := by
  refine Met.ofW (cc := cRn_tell) (maxL := 2) (ret := (some .int)) (by decide) rfl ?_
  intro p e s m args below meth c s₁ B hml hv
  obtain ⟨rfl, hP, hK, hN⟩ := hv
  have hx := B.exec
  have hb := B.bytes
  have hr := B.returns
  have hts := atoms_spec (ws := ce_ws yRn_tell cRn_tell 2 (some .int)) B.pre
  have hown : s.vm.findClass RRn = some m.cls := findClass_of_methodNamed B.named
  have hlocks := B.notSynchronized
  have hl := lv_entry ([.ref (a 0), .int (nI k)]) (n := 2) (Nat.le_of_ble_eq_true rfl)
  rw [lg_entry_eq]
  generalize (lg_sl ([.ref (a 0), .int (nI k)]) ++ List.replicate (2 - (lg_sl ([.ref (a 0), .int (nI k)])).length) Slot.unset).toArray = ls at hl ⊢
  have hl : lv_has ls 2 [(0, .ref (a 0)), (1, .int (nI k))] := hl
  refine lv_iload_n hx hb dRn_tell_0 rfl (lv_at hl 1 rfl) ?_
  rcases (show k = 0 ∨ k = 1 ∨ k = 2 ∨ k = 3 ∨ k = 4 ∨ k = 5 ∨ k = 6 ∨ k = 7 by omega) with rfl | rfl | rfl | rfl | rfl | rfl | rfl | rfl
  ·
    refine lv_tableIn (tgt := 44) hx hb dRn_tell_1 (by decide) (by decide) rfl (by decide) ?_
    refine lv_aload_n hx hb dRn_tell_44 rfl (lv_at hl 0 rfl) ?_
    refine ce_ri (As := []) (rest := []) ⟨hx, hb, hml, hown, hts⟩ (c_Rn_outcome l D cI a hd P u) mRn_outcome lRn_38 iRn_outcome ⟨Nat.le_of_ble_eq_true rfl, Nat.le_of_ble_eq_true rfl⟩ ⟨rfl, rfl⟩ hK hN hP 0 rfl rfl rfl hl.1 rfl (Nat.le_of_ble_eq_true rfl) dRn_tell_45 ⟨Nat.le_of_ble_eq_true rfl, Nat.le_of_ble_eq_true rfl⟩ (fun r_1 er_1 => ?_)
    obtain rfl : r_1 = xOutcome u := er_1
    exact W.iret (v := xOutcome u) hx hb hr (fun t9 ht hW => ⟨xOutcome u, rfl, rfl, ht⟩) (fun _ h => by cases h) dRn_tell_48
  ·
    refine lv_tableIn (tgt := 49) hx hb dRn_tell_1 (by decide) (by decide) rfl (by decide) ?_
    refine lv_aload_n hx hb dRn_tell_49 rfl (lv_at hl 0 rfl) ?_
    refine ce_gR hx hb hts hown hK hP 5 (by decide) rfl lRn_42 rfl dRn_tell_50 ?_
    exact W.iret (v := gAcc u) hx hb hr (fun t9 ht hW => ⟨gAcc u, rfl, rfl, ht⟩) (fun _ h => by cases h) dRn_tell_53
  ·
    refine lv_tableIn (tgt := 54) hx hb dRn_tell_1 (by decide) (by decide) rfl (by decide) ?_
    refine lv_aload_n hx hb dRn_tell_54 rfl (lv_at hl 0 rfl) ?_
    refine ce_gR hx hb hts hown hK hP 6 (by decide) rfl lRn_45 rfl dRn_tell_55 ?_
    exact W.iret (v := gSteps u) hx hb hr (fun t9 ht hW => ⟨gSteps u, rfl, rfl, ht⟩) (fun _ h => by cases h) dRn_tell_58
  ·
    refine lv_tableIn (tgt := 59) hx hb dRn_tell_1 (by decide) (by decide) rfl (by decide) ?_
    refine lv_aload_n hx hb dRn_tell_59 rfl (lv_at hl 0 rfl) ?_
    refine ce_gR hx hb hts hown hK hP 7 (by decide) rfl lRn_48 rfl dRn_tell_60 ?_
    exact W.iret (v := gFin u) hx hb hr (fun t9 ht hW => ⟨gFin u, rfl, rfl, ht⟩) (fun _ h => by cases h) dRn_tell_63
  ·
    refine lv_tableIn (tgt := 64) hx hb dRn_tell_1 (by decide) (by decide) rfl (by decide) ?_
    refine lv_aload_n hx hb dRn_tell_64 rfl (lv_at hl 0 rfl) ?_
    refine ce_gR hx hb hts hown hK hP 8 (by decide) rfl lRn_51 rfl dRn_tell_65 ?_
    exact W.iret (v := gCat u) hx hb hr (fun t9 ht hW => ⟨gCat u, rfl, rfl, ht⟩) (fun _ h => by cases h) dRn_tell_68
  ·
    refine lv_tableIn (tgt := 69) hx hb dRn_tell_1 (by decide) (by decide) rfl (by decide) ?_
    refine lv_aload_n hx hb dRn_tell_69 rfl (lv_at hl 0 rfl) ?_
    refine ce_gR hx hb hts hown hK hP 12 (by decide) rfl lRn_54 rfl dRn_tell_70 ?_
    exact W.iret (v := gTa u) hx hb hr (fun t9 ht hW => ⟨gTa u, rfl, rfl, ht⟩) (fun _ h => by cases h) dRn_tell_73
  ·
    refine lv_tableIn (tgt := 74) hx hb dRn_tell_1 (by decide) (by decide) rfl (by decide) ?_
    refine lv_aload_n hx hb dRn_tell_74 rfl (lv_at hl 0 rfl) ?_
    refine ce_gR hx hb hts hown hK hP 13 (by decide) rfl lRn_57 rfl dRn_tell_75 ?_
    exact W.iret (v := gOwn u) hx hb hr (fun t9 ht hW => ⟨gOwn u, rfl, rfl, ht⟩) (fun _ h => by cases h) dRn_tell_78
  ·
    refine lv_tableOut (tgt := 79) hx hb dRn_tell_1 (Or.inr (by decide)) (by decide) ?_
    refine lv_aload_n hx hb dRn_tell_79 rfl (lv_at hl 0 rfl) ?_
    refine ce_gR hx hb hts hown hK hP 9 (by decide) rfl lRn_60 rfl dRn_tell_80 ?_
    refine lv_if_eq (tgt := 90) hx hb dRn_tell_83 (by decide) (fun c_2 => ?_) (fun c_2 => ?_)
    · -- 83 taken
      refine lv_iconst (v := 0) hx hb dRn_tell_90 (by decide) ?_
      exact W.iret (v := 0) hx hb hr (fun t9 ht hW => ⟨0, rfl, c_2.symm, ht⟩) (fun _ h => by cases h) dRn_tell_91
    · -- 83 not taken
      refine lv_iconst (v := 1) hx hb dRn_tell_86 (by decide) ?_
      refine lv_goto (tgt := 91) hx hb dRn_tell_87 (by decide) ?_
      exact W.iret (v := 1) hx hb hr (fun t9 ht hW => ⟨1, rfl, bI_one c_2, ht⟩) (fun _ h => by cases h) dRn_tell_91
set_option maxHeartbeats 4000000 in
set_option maxRecDepth 100000 in
theorem c_Rn_become (l : Launch) (D : va_G) (cI : ClassId) (a : Nat → Nat) (hd : dR a) (P : PR) (u : RS) (x : Int32) : Met l yRn_become (ce_ws yRn_become cRn_become 2 (some .int)) (ce_rm 0) (ce_Pc D cI [.ref (a 0), .int x] (wR a cI P u)) (va_Qi (fun r u' => (r, u') = (0, sAcc u x)) (fun u' t => va_P D vwCl (wR a cI P u') t.heap) (aR a)) 0 0 (aR a) := by
  refine Met.ofW (cc := cRn_become) (maxL := 2) (ret := (some .int)) (by decide) rfl ?_
  intro p e s m args below meth c s₁ B hml hv
  obtain ⟨rfl, hP, hK, hN⟩ := hv
  have hx := B.exec
  have hb := B.bytes
  have hr := B.returns
  have hts := atoms_spec (ws := ce_ws yRn_become cRn_become 2 (some .int)) B.pre
  have hown : s.vm.findClass RRn = some m.cls := findClass_of_methodNamed B.named
  have hlocks := B.notSynchronized
  have hS : va_S (aR a) s.heap s.heap [] := va_S.rf
  have hl := lv_entry ([.ref (a 0), .int x]) (n := 2) (Nat.le_of_ble_eq_true rfl)
  rw [lg_entry_eq]
  generalize (lg_sl ([.ref (a 0), .int x]) ++ List.replicate (2 - (lg_sl ([.ref (a 0), .int x])).length) Slot.unset).toArray = ls at hl ⊢
  have hl : lv_has ls 2 [(0, .ref (a 0)), (1, .int x)] := hl
  refine lv_aload_n hx hb dRn_become_0 rfl (lv_at hl 0 rfl) ?_
  refine lv_iload_n hx hb dRn_become_1 rfl (lv_at hl 1 rfl) ?_
  refine ce_pAcc hx hb hts hown hK hd hP hS lRn_42 dRn_become_2 (fun H locs hP hS => ?_)
  refine lv_iconst (v := 0) hx hb dRn_become_5 (by decide) ?_
  exact W.iret (v := 0) hx hb hr (fun t9 ht hW => ⟨⟨0, sAcc u x, rfl, rfl, ce_hp ht hP⟩, hS.F ht⟩) hS.2.2 dRn_become_6
set_option maxHeartbeats 4000000 in
set_option maxRecDepth 100000 in
theorem c_Rn_comesUp (l : Launch) (D : va_G) (cI : ClassId) (a : Nat → Nat) (hd : dR a) (P : PR) (u : RS) (x t : Int32) : Met l yRn_comesUp (ce_ws yRn_comesUp cRn_comesUp 3 (some .int)) (ce_rm 0) (ce_Pc D cI [.ref (a 0), .int x, .int t] (wR a cI P u)) (va_Qi (fun r u' => (r, u') = xComes u x t) (fun u' t => va_P D vwCl (wR a cI P u') t.heap) (aR a)) 0 0 (aR a) := by
  refine Met.ofW (cc := cRn_comesUp) (maxL := 3) (ret := (some .int)) (by decide) rfl ?_
  intro p e s m args below meth c s₁ B hml hv
  obtain ⟨rfl, hP, hK, hN⟩ := hv
  have hx := B.exec
  have hb := B.bytes
  have hr := B.returns
  have hts := atoms_spec (ws := ce_ws yRn_comesUp cRn_comesUp 3 (some .int)) B.pre
  have hown : s.vm.findClass RRn = some m.cls := findClass_of_methodNamed B.named
  have hlocks := B.notSynchronized
  have hS : va_S (aR a) s.heap s.heap [] := va_S.rf
  have hl := lv_entry ([.ref (a 0), .int x, .int t]) (n := 3) (Nat.le_of_ble_eq_true rfl)
  rw [lg_entry_eq]
  generalize (lg_sl ([.ref (a 0), .int x, .int t]) ++ List.replicate (3 - (lg_sl ([.ref (a 0), .int x, .int t])).length) Slot.unset).toArray = ls at hl ⊢
  have hl : lv_has ls 3 [(0, .ref (a 0)), (1, .int x), (2, .int t)] := hl
  refine lv_aload_n hx hb dRn_comesUp_0 rfl (lv_at hl 0 rfl) ?_
  refine lv_iload_n hx hb dRn_comesUp_1 rfl (lv_at hl 2 rfl) ?_
  refine ce_pTr hx hb hts hown hK hd hP hS lRn_30 dRn_comesUp_2 (fun H locs hP hS => ?_)
  refine lv_aload_n hx hb dRn_comesUp_5 rfl (lv_at hl 0 rfl) ?_
  refine lv_iload_n hx hb dRn_comesUp_6 rfl (lv_at hl 1 rfl) ?_
  refine ce_pTa hx hb hts hown hK hd hP hS lRn_54 dRn_comesUp_7 (fun H locs hP hS => ?_)
  refine lv_aload_n hx hb dRn_comesUp_10 rfl (lv_at hl 0 rfl) ?_
  refine lv_iconst (v := (-1)) hx hb dRn_comesUp_11 (by decide) ?_
  refine ce_pOwn hx hb hts hown hK hd hP hS lRn_57 dRn_comesUp_12 (fun H locs hP hS => ?_)
  refine lv_iconst (v := 2) hx hb dRn_comesUp_15 (by decide) ?_
  exact W.iret (v := 2) hx hb hr (fun t9 ht hW => ⟨⟨2, sOwn (sTa (sTr u t) x) (-1), rfl, rfl, ce_hp ht hP⟩, hS.F ht⟩) hS.2.2 dRn_comesUp_16
set_option maxHeartbeats 4000000 in
set_option maxRecDepth 100000 in
theorem c_Rn_ownComesUp (l : Launch) (D : va_G) (cI : ClassId) (a : Nat → Nat) (hd : dR a) (P : PR) (u : RS) (x t : Int32) : Met l yRn_ownComesUp (ce_ws yRn_ownComesUp cRn_ownComesUp 3 (some .int)) (ce_rm 0) (ce_Pc D cI [.ref (a 0), .int x, .int t] (wR a cI P u)) (va_Qi (fun r u' => (r, u') = xOwn u x t) (fun u' t => va_P D vwCl (wR a cI P u') t.heap) (aR a)) 0 0 (aR a) := by
  refine Met.ofW (cc := cRn_ownComesUp) (maxL := 3) (ret := (some .int)) (by decide) rfl ?_
  intro p e s m args below meth c s₁ B hml hv
  obtain ⟨rfl, hP, hK, hN⟩ := hv
  have hx := B.exec
  have hb := B.bytes
  have hr := B.returns
  have hts := atoms_spec (ws := ce_ws yRn_ownComesUp cRn_ownComesUp 3 (some .int)) B.pre
  have hown : s.vm.findClass RRn = some m.cls := findClass_of_methodNamed B.named
  have hlocks := B.notSynchronized
  have hS : va_S (aR a) s.heap s.heap [] := va_S.rf
  have hl := lv_entry ([.ref (a 0), .int x, .int t]) (n := 3) (Nat.le_of_ble_eq_true rfl)
  rw [lg_entry_eq]
  generalize (lg_sl ([.ref (a 0), .int x, .int t]) ++ List.replicate (3 - (lg_sl ([.ref (a 0), .int x, .int t])).length) Slot.unset).toArray = ls at hl ⊢
  have hl : lv_has ls 3 [(0, .ref (a 0)), (1, .int x), (2, .int t)] := hl
  refine lv_aload_n hx hb dRn_ownComesUp_0 rfl (lv_at hl 0 rfl) ?_
  refine lv_bipush (v := 10) hx hb dRn_ownComesUp_1 (by decide) ?_
  refine ce_pTr hx hb hts hown hK hd hP hS lRn_30 dRn_ownComesUp_3 (fun H locs hP hS => ?_)
  refine lv_aload_n hx hb dRn_ownComesUp_6 rfl (lv_at hl 0 rfl) ?_
  refine lv_iload_n hx hb dRn_ownComesUp_7 rfl (lv_at hl 1 rfl) ?_
  refine ce_pTa hx hb hts hown hK hd hP hS lRn_54 dRn_ownComesUp_8 (fun H locs hP hS => ?_)
  refine lv_aload_n hx hb dRn_ownComesUp_11 rfl (lv_at hl 0 rfl) ?_
  refine lv_iload_n hx hb dRn_ownComesUp_12 rfl (lv_at hl 2 rfl) ?_
  refine ce_pOwn hx hb hts hown hK hd hP hS lRn_57 dRn_ownComesUp_13 (fun H locs hP hS => ?_)
  refine lv_iconst (v := 2) hx hb dRn_ownComesUp_16 (by decide) ?_
  exact W.iret (v := 2) hx hb hr (fun t9 ht hW => ⟨⟨2, sOwn (sTa (sTr u 10) x) t, rfl, rfl, ce_hp ht hP⟩, hS.F ht⟩) hS.2.2 dRn_ownComesUp_17
set_option maxHeartbeats 4000000 in
set_option maxRecDepth 100000 in
theorem c_Rn_forgetTrouble (l : Launch) (D : va_G) (cI : ClassId) (a : Nat → Nat) (hd : dR a) (P : PR) (u : RS) : Met l yRn_forgetTrouble (ce_ws yRn_forgetTrouble cRn_forgetTrouble 1 none) (ce_rm 0) (ce_Pc D cI [.ref (a 0)] (wR a cI P u)) (va_Qv (fun u' => u' = xForget u) (fun u' t => va_P D vwCl (wR a cI P u') t.heap) (aR a)) 0 0 (aR a) := by
  refine Met.ofW (cc := cRn_forgetTrouble) (maxL := 1) (ret := none) (by decide) rfl ?_
  intro p e s m args below meth c s₁ B hml hv
  obtain ⟨rfl, hP, hK, hN⟩ := hv
  have hx := B.exec
  have hb := B.bytes
  have hr := B.returns
  have hts := atoms_spec (ws := ce_ws yRn_forgetTrouble cRn_forgetTrouble 1 none) B.pre
  have hown : s.vm.findClass RRn = some m.cls := findClass_of_methodNamed B.named
  have hlocks := B.notSynchronized
  have hS : va_S (aR a) s.heap s.heap [] := va_S.rf
  have hl := lv_entry ([.ref (a 0)]) (n := 1) (Nat.le_of_ble_eq_true rfl)
  rw [lg_entry_eq]
  generalize (lg_sl ([.ref (a 0)]) ++ List.replicate (1 - (lg_sl ([.ref (a 0)])).length) Slot.unset).toArray = ls at hl ⊢
  have hl : lv_has ls 1 [(0, .ref (a 0))] := hl
  refine lv_aload_n hx hb dRn_forgetTrouble_0 rfl (lv_at hl 0 rfl) ?_
  refine lv_iconst (v := (-1)) hx hb dRn_forgetTrouble_1 (by decide) ?_
  refine ce_pTr hx hb hts hown hK hd hP hS lRn_30 dRn_forgetTrouble_2 (fun H locs hP hS => ?_)
  refine lv_aload_n hx hb dRn_forgetTrouble_5 rfl (lv_at hl 0 rfl) ?_
  refine lv_iconst (v := (-1)) hx hb dRn_forgetTrouble_6 (by decide) ?_
  refine ce_pTa hx hb hts hown hK hd hP hS lRn_54 dRn_forgetTrouble_7 (fun H locs hP hS => ?_)
  refine lv_aload_n hx hb dRn_forgetTrouble_10 rfl (lv_at hl 0 rfl) ?_
  refine lv_iconst (v := (-1)) hx hb dRn_forgetTrouble_11 (by decide) ?_
  refine ce_pOwn hx hb hts hown hK hd hP hS lRn_57 dRn_forgetTrouble_12 (fun H locs hP hS => ?_)
  exact W.vret hx hb hr (fun t9 ht hW => ⟨⟨sOwn (sTa (sTr u (-1)) (-1)) (-1), rfl, rfl, ce_hp ht hP⟩, hS.F ht⟩) hS.2.2 dRn_forgetTrouble_15
set_option maxHeartbeats 4000000 in
set_option maxRecDepth 100000 in
theorem c_Rn_doInterrupt (l : Launch) (D : va_G) (cI : ClassId) (a : Nat → Nat) (hd : dR a) (P : PR) (u : RS) : Met l yRn_doInterrupt (ce_ws yRn_doInterrupt cRn_doInterrupt 1 (some .int)) (ce_rm 0) (ce_Pc D cI [.ref (a 0)] (wR a cI P u)) (va_Qi (fun r u' => (r, u') = (0, sMark u true)) (fun u' t => va_P D vwCl (wR a cI P u') t.heap) (aR a)) 0 0 (aR a) := by
  refine Met.ofW (cc := cRn_doInterrupt) (maxL := 1) (ret := (some .int)) (by decide) rfl ?_
  intro p e s m args below meth c s₁ B hml hv
  obtain ⟨rfl, hP, hK, hN⟩ := hv
  have hx := B.exec
  have hb := B.bytes
  have hr := B.returns
  have hts := atoms_spec (ws := ce_ws yRn_doInterrupt cRn_doInterrupt 1 (some .int)) B.pre
  have hown : s.vm.findClass RRn = some m.cls := findClass_of_methodNamed B.named
  have hlocks := B.notSynchronized
  have hS : va_S (aR a) s.heap s.heap [] := va_S.rf
  have hl := lv_entry ([.ref (a 0)]) (n := 1) (Nat.le_of_ble_eq_true rfl)
  rw [lg_entry_eq]
  generalize (lg_sl ([.ref (a 0)]) ++ List.replicate (1 - (lg_sl ([.ref (a 0)])).length) Slot.unset).toArray = ls at hl ⊢
  have hl : lv_has ls 1 [(0, .ref (a 0))] := hl
  refine lv_aload_n hx hb dRn_doInterrupt_0 rfl (lv_at hl 0 rfl) ?_
  refine lv_iconst (v := 1) hx hb dRn_doInterrupt_1 (by decide) ?_
  refine ce_pMark (x := true) hx hb hts hown hK hd hP hS lRn_60 dRn_doInterrupt_2 (fun H locs hP hS => ?_)
  refine lv_iconst (v := 0) hx hb dRn_doInterrupt_5 (by decide) ?_
  exact W.iret (v := 0) hx hb hr (fun t9 ht hW => ⟨⟨0, sMark u true, rfl, rfl, ce_hp ht hP⟩, hS.F ht⟩) hS.2.2 dRn_doInterrupt_6
set_option maxHeartbeats 4000000 in
set_option maxRecDepth 100000 in
theorem c_Rn_doLook (l : Launch) (D : va_G) (cI : ClassId) (a : Nat → Nat) (hd : dR a) (P : PR) (u : RS) : Met l yRn_doLook (ce_ws yRn_doLook cRn_doLook 1 (some .int)) (ce_rm 0) (ce_Pc D cI [.ref (a 0)] (wR a cI P u)) (va_Qi (fun r u' => (r, u') = (0, sMark (sAcc u (bI (gMark u))) false)) (fun u' t => va_P D vwCl (wR a cI P u') t.heap) (aR a)) 0 0 (aR a) := by
  refine Met.ofW (cc := cRn_doLook) (maxL := 1) (ret := (some .int)) (by decide) rfl ?_
  intro p e s m args below meth c s₁ B hml hv
  obtain ⟨rfl, hP, hK, hN⟩ := hv
  have hx := B.exec
  have hb := B.bytes
  have hr := B.returns
  have hts := atoms_spec (ws := ce_ws yRn_doLook cRn_doLook 1 (some .int)) B.pre
  have hown : s.vm.findClass RRn = some m.cls := findClass_of_methodNamed B.named
  have hlocks := B.notSynchronized
  have hS : va_S (aR a) s.heap s.heap [] := va_S.rf
  have hl := lv_entry ([.ref (a 0)]) (n := 1) (Nat.le_of_ble_eq_true rfl)
  rw [lg_entry_eq]
  generalize (lg_sl ([.ref (a 0)]) ++ List.replicate (1 - (lg_sl ([.ref (a 0)])).length) Slot.unset).toArray = ls at hl ⊢
  have hl : lv_has ls 1 [(0, .ref (a 0))] := hl
  refine lv_aload_n hx hb dRn_doLook_0 rfl (lv_at hl 0 rfl) ?_
  refine lv_aload_n hx hb dRn_doLook_1 rfl (lv_at hl 0 rfl) ?_
  refine ce_gR hx hb hts hown hK hP 9 (by decide) rfl lRn_60 rfl dRn_doLook_2 ?_
  refine lv_if_eq (tgt := 12) hx hb dRn_doLook_5 (by decide) (fun c_1 => ?_) (fun c_1 => ?_)
  · -- 5 taken
    refine lv_iconst (v := 0) hx hb dRn_doLook_12 (by decide) ?_
    refine ce_pAcc hx hb hts hown hK hd hP hS lRn_42 dRn_doLook_13 (fun H locs hP hS => ?_)
    refine lv_aload_n hx hb dRn_doLook_16 rfl (lv_at hl 0 rfl) ?_
    refine lv_iconst (v := 0) hx hb dRn_doLook_17 (by decide) ?_
    refine ce_pMark (x := false) hx hb hts hown hK hd hP hS lRn_60 dRn_doLook_18 (fun H locs hP hS => ?_)
    refine lv_iconst (v := 0) hx hb dRn_doLook_21 (by decide) ?_
    exact W.iret (v := 0) hx hb hr (fun t9 ht hW => ⟨⟨0, sMark (sAcc u 0) false, rfl, by rw [c_1], ce_hp ht hP⟩, hS.F ht⟩) hS.2.2 dRn_doLook_22
  · -- 5 not taken
    refine lv_iconst (v := 1) hx hb dRn_doLook_8 (by decide) ?_
    refine lv_goto (tgt := 13) hx hb dRn_doLook_9 (by decide) ?_
    refine ce_pAcc hx hb hts hown hK hd hP hS lRn_42 dRn_doLook_13 (fun H locs hP hS => ?_)
    refine lv_aload_n hx hb dRn_doLook_16 rfl (lv_at hl 0 rfl) ?_
    refine lv_iconst (v := 0) hx hb dRn_doLook_17 (by decide) ?_
    refine ce_pMark (x := false) hx hb hts hown hK hd hP hS lRn_60 dRn_doLook_18 (fun H locs hP hS => ?_)
    refine lv_iconst (v := 0) hx hb dRn_doLook_21 (by decide) ?_
    exact W.iret (v := 0) hx hb hr (fun t9 ht hW => ⟨⟨0, sMark (sAcc u 1) false, rfl, by rw [← bI_one c_1], ce_hp ht hP⟩, hS.F ht⟩) hS.2.2 dRn_doLook_22
