theorem pB_0 {P : PR} {i : Nat} (e : Nat) (h : P.1 i < 10 ∨ 14 < P.1 i) : (0 : Int32) = nI (pB P i e) := by
  unfold pB
  rw [if_pos h]
  rfl
theorem pB_1 {P : PR} {i e : Nat} (h : ¬ P.1 i < 10) (h2 : ¬ 14 < P.1 i) (he : e - i - 1 < 14) (h8 : P.2.1 i ≤ 255) : (if nI (e - i - 1) < nI (pN P i) then nI (e - i - 1) else nI (pN P i)) = nI (pB P i e) := by
  have hN : pN P i < 16 := Nat.mod_lt _ (by decide)
  unfold pB
  rw [if_neg (show ¬ (P.1 i < 10 ∨ 14 < P.1 i) from fun q => q.elim h h2)]
  by_cases hc : e - i - 1 < pN P i
  · rw [if_pos (nI_lt hc (by omega)), Nat.min_eq_right (by omega)]
  · rw [if_neg (nI_nlt (by omega) (by omega)), Nat.min_eq_left (by omega)]
set_option maxHeartbeats 4000000 in
set_option maxRecDepth 100000 in
theorem c_Pg_size (l : Launch) (D : va_G) (cI : ClassId) (a : Nat → Nat) (P : PR) : Met l yPg_size (ce_ws yPg_size cPg_size 1 (some .int)) (ce_rm 0) (ce_Pc D cI [.ref (a 1)] (wP a cI P)) (vp_Si (fun r => r = nI P.2.2)) 0 0 (fun _ => False) := by
  refine Met.ofW (cc := cPg_size) (maxL := 1) (ret := (some .int)) (by decide) rfl ?_
  intro p e s m args below meth c s₁ B hml hv
  obtain ⟨rfl, hP, hK, hN⟩ := hv
  have hx := B.exec
  have hb := B.bytes
  have hr := B.returns
  have hts := atoms_spec (ws := ce_ws yPg_size cPg_size 1 (some .int)) B.pre
  have hown : s.vm.findClass RPg = some m.cls := findClass_of_methodNamed B.named
  have hlocks := B.notSynchronized
  have hl := lv_entry ([.ref (a 1)]) (n := 1) (Nat.le_of_ble_eq_true rfl)
  rw [lg_entry_eq]
  generalize (lg_sl ([.ref (a 1)]) ++ List.replicate (1 - (lg_sl ([.ref (a 1)])).length) Slot.unset).toArray = ls at hl ⊢
  have hl : lv_has ls 1 [(0, .ref (a 1))] := hl
  refine lv_aload_n hx hb dPg_size_0 rfl (lv_at hl 0 rfl) ?_
  refine ce_gP hx hb hts hown hK hP 2 (by decide) rfl lPg_18 rfl dPg_size_1 ?_
  exact W.iret (v := nI P.2.2) hx hb hr (fun t9 ht hW => ⟨nI P.2.2, rfl, rfl, ht⟩) (fun _ h => by cases h) dPg_size_4
set_option maxHeartbeats 4000000 in
set_option maxRecDepth 100000 in
theorem c_Pg_op (l : Launch) (D : va_G) (cI : ClassId) (a : Nat → Nat) (P : PR) (i : Nat) (hi : i < 14) : Met l yPg_op (ce_ws yPg_op cPg_op 2 (some .int)) (ce_rm 0) (ce_Pc D cI [.ref (a 1), .int (nI i)] (wP a cI P)) (vp_Si (fun r => r = nI (P.1 i))) 0 0 (fun _ => False) := by
  refine Met.ofW (cc := cPg_op) (maxL := 2) (ret := (some .int)) (by decide) rfl ?_
  intro p e s m args below meth c s₁ B hml hv
  obtain ⟨rfl, hP, hK, hN⟩ := hv
  have hx := B.exec
  have hb := B.bytes
  have hr := B.returns
  have hts := atoms_spec (ws := ce_ws yPg_op cPg_op 2 (some .int)) B.pre
  have hown : s.vm.findClass RPg = some m.cls := findClass_of_methodNamed B.named
  have hlocks := B.notSynchronized
  have hl := lv_entry ([.ref (a 1), .int (nI i)]) (n := 2) (Nat.le_of_ble_eq_true rfl)
  rw [lg_entry_eq]
  generalize (lg_sl ([.ref (a 1), .int (nI i)]) ++ List.replicate (2 - (lg_sl ([.ref (a 1), .int (nI i)])).length) Slot.unset).toArray = ls at hl ⊢
  have hl : lv_has ls 2 [(0, .ref (a 1)), (1, .int (nI i))] := hl
  refine lv_aload_n hx hb dPg_op_0 rfl (lv_at hl 0 rfl) ?_
  refine ce_gP hx hb hts hown hK hP 0 (by decide) rfl lPg_9 rfl dPg_op_1 ?_
  refine lv_iload_n hx hb dPg_op_4 rfl (lv_at hl 1 rfl) ?_
  refine va_iald hx hb hK hP 1 0 rfl rfl (vp_in_nI hi (by decide)) dPg_op_5 ?_
  refine lv_topi (fun y_1 ey_1 => ?_)
  obtain rfl : y_1 = nI (P.1 i) := ey_1.trans (congrArg (fun j => nI (P.1 j)) (nI_clamp (by omega)))
  exact W.iret (v := nI (P.1 i)) hx hb hr (fun t9 ht hW => ⟨nI (P.1 i), rfl, rfl, ht⟩) (fun _ h => by cases h) dPg_op_6
set_option maxHeartbeats 4000000 in
set_option maxRecDepth 100000 in
theorem c_Pg_value (l : Launch) (D : va_G) (cI : ClassId) (a : Nat → Nat) (P : PR) (i : Nat) (hi : i < 14) : Met l yPg_value (ce_ws yPg_value cPg_value 2 (some .int)) (ce_rm 0) (ce_Pc D cI [.ref (a 1), .int (nI i)] (wP a cI P)) (vp_Si (fun r => r = pV P i)) 0 0 (fun _ => False) := by
  refine Met.ofW (cc := cPg_value) (maxL := 2) (ret := (some .int)) (by decide) rfl ?_
  intro p e s m args below meth c s₁ B hml hv
  obtain ⟨rfl, hP, hK, hN⟩ := hv
  have hx := B.exec
  have hb := B.bytes
  have hr := B.returns
  have hts := atoms_spec (ws := ce_ws yPg_value cPg_value 2 (some .int)) B.pre
  have hown : s.vm.findClass RPg = some m.cls := findClass_of_methodNamed B.named
  have hlocks := B.notSynchronized
  have hl := lv_entry ([.ref (a 1), .int (nI i)]) (n := 2) (Nat.le_of_ble_eq_true rfl)
  rw [lg_entry_eq]
  generalize (lg_sl ([.ref (a 1), .int (nI i)]) ++ List.replicate (2 - (lg_sl ([.ref (a 1), .int (nI i)])).length) Slot.unset).toArray = ls at hl ⊢
  have hl : lv_has ls 2 [(0, .ref (a 1)), (1, .int (nI i))] := hl
  refine lv_aload_n hx hb dPg_value_0 rfl (lv_at hl 0 rfl) ?_
  refine ce_gP hx hb hts hown hK hP 1 (by decide) rfl lPg_15 rfl dPg_value_1 ?_
  refine lv_iload_n hx hb dPg_value_4 rfl (lv_at hl 1 rfl) ?_
  refine va_iald hx hb hK hP 2 0 rfl rfl (vp_in_nI hi (by decide)) dPg_value_5 ?_
  refine lv_topi (fun y_1 ey_1 => ?_)
  obtain rfl : y_1 = nI (P.2.1 i) := ey_1.trans (congrArg (fun j => nI (P.2.1 j)) (nI_clamp (by omega)))
  refine lv_bipush (v := 100) hx hb dPg_value_6 (by decide) ?_
  refine lv_isub hx hb dPg_value_8 ?_
  exact W.iret (v := (nI (P.2.1 i)) - 100) hx hb hr (fun t9 ht hW => ⟨(nI (P.2.1 i)) - 100, rfl, rfl, ht⟩) (fun _ h => by cases h) dPg_value_9
set_option maxHeartbeats 4000000 in
set_option maxRecDepth 100000 in
theorem c_Pg_low (l : Launch) (D : va_G) (cI : ClassId) (a : Nat → Nat) (P : PR) (i : Nat) (hi : i < 14) (h8 : P.2.1 i ≤ 255) : Met l yPg_low (ce_ws yPg_low cPg_low 2 (some .int)) (ce_rm 0) (ce_Pc D cI [.ref (a 1), .int (nI i)] (wP a cI P)) (vp_Si (fun r => r = nI (pN P i))) 0 0 (fun _ => False) := by
  refine Met.ofW (cc := cPg_low) (maxL := 2) (ret := (some .int)) (by decide) rfl ?_
  intro p e s m args below meth c s₁ B hml hv
  obtain ⟨rfl, hP, hK, hN⟩ := hv
  have hx := B.exec
  have hb := B.bytes
  have hr := B.returns
  have hts := atoms_spec (ws := ce_ws yPg_low cPg_low 2 (some .int)) B.pre
  have hown : s.vm.findClass RPg = some m.cls := findClass_of_methodNamed B.named
  have hlocks := B.notSynchronized
  have hl := lv_entry ([.ref (a 1), .int (nI i)]) (n := 2) (Nat.le_of_ble_eq_true rfl)
  rw [lg_entry_eq]
  generalize (lg_sl ([.ref (a 1), .int (nI i)]) ++ List.replicate (2 - (lg_sl ([.ref (a 1), .int (nI i)])).length) Slot.unset).toArray = ls at hl ⊢
  have hl : lv_has ls 2 [(0, .ref (a 1)), (1, .int (nI i))] := hl
  refine lv_aload_n hx hb dPg_low_0 rfl (lv_at hl 0 rfl) ?_
  refine ce_gP hx hb hts hown hK hP 1 (by decide) rfl lPg_15 rfl dPg_low_1 ?_
  refine lv_iload_n hx hb dPg_low_4 rfl (lv_at hl 1 rfl) ?_
  refine va_iald hx hb hK hP 2 0 rfl rfl (vp_in_nI hi (by decide)) dPg_low_5 ?_
  refine lv_topi (fun y_1 ey_1 => ?_)
  obtain rfl : y_1 = nI (P.2.1 i) := ey_1.trans (congrArg (fun j => nI (P.2.1 j)) (nI_clamp (by omega)))
  refine lv_bipush (v := 16) hx hb dPg_low_6 (by decide) ?_
  refine lv_irem hx hb dPg_low_8 (by decide) ?_
  exact W.iret (v := (nI (P.2.1 i)) - (nI (P.2.1 i)) / 16 * 16) hx hb hr (fun t9 ht hW => ⟨(nI (P.2.1 i)) - (nI (P.2.1 i)) / 16 * 16, rfl, pk_rem (d := 16) (by omega) (by decide) (by decide), ht⟩) (fun _ h => by cases h) dPg_low_9
set_option maxHeartbeats 4000000 in
set_option maxRecDepth 100000 in
theorem c_Pg_high (l : Launch) (D : va_G) (cI : ClassId) (a : Nat → Nat) (P : PR) (i : Nat) (hi : i < 14) (h8 : P.2.1 i ≤ 255) : Met l yPg_high (ce_ws yPg_high cPg_high 2 (some .int)) (ce_rm 0) (ce_Pc D cI [.ref (a 1), .int (nI i)] (wP a cI P)) (vp_Si (fun r => r = nI (pK P i))) 0 0 (fun _ => False) := by
  refine Met.ofW (cc := cPg_high) (maxL := 2) (ret := (some .int)) (by decide) rfl ?_
  intro p e s m args below meth c s₁ B hml hv
  obtain ⟨rfl, hP, hK, hN⟩ := hv
  have hx := B.exec
  have hb := B.bytes
  have hr := B.returns
  have hts := atoms_spec (ws := ce_ws yPg_high cPg_high 2 (some .int)) B.pre
  have hown : s.vm.findClass RPg = some m.cls := findClass_of_methodNamed B.named
  have hlocks := B.notSynchronized
  have hl := lv_entry ([.ref (a 1), .int (nI i)]) (n := 2) (Nat.le_of_ble_eq_true rfl)
  rw [lg_entry_eq]
  generalize (lg_sl ([.ref (a 1), .int (nI i)]) ++ List.replicate (2 - (lg_sl ([.ref (a 1), .int (nI i)])).length) Slot.unset).toArray = ls at hl ⊢
  have hl : lv_has ls 2 [(0, .ref (a 1)), (1, .int (nI i))] := hl
  refine lv_aload_n hx hb dPg_high_0 rfl (lv_at hl 0 rfl) ?_
  refine ce_gP hx hb hts hown hK hP 1 (by decide) rfl lPg_15 rfl dPg_high_1 ?_
  refine lv_iload_n hx hb dPg_high_4 rfl (lv_at hl 1 rfl) ?_
  refine va_iald hx hb hK hP 2 0 rfl rfl (vp_in_nI hi (by decide)) dPg_high_5 ?_
  refine lv_topi (fun y_1 ey_1 => ?_)
  obtain rfl : y_1 = nI (P.2.1 i) := ey_1.trans (congrArg (fun j => nI (P.2.1 j)) (nI_clamp (by omega)))
  refine lv_bipush (v := 16) hx hb dPg_high_6 (by decide) ?_
  refine lv_idiv hx hb dPg_high_8 (by decide) ?_
  exact W.iret (v := (nI (P.2.1 i)) / 16) hx hb hr (fun t9 ht hW => ⟨(nI (P.2.1 i)) / 16, rfl, pk_div (d := 16) (by omega) (by decide) (by decide), ht⟩) (fun _ h => by cases h) dPg_high_9
set_option maxHeartbeats 4000000 in
set_option maxRecDepth 100000 in
theorem c_Pg_blockLength (l : Launch) (D : va_G) (cI : ClassId) (a : Nat → Nat) (P : PR) (i z : Nat) (hie : i < z) (he : z ≤ 14) (h8 : P.2.1 i ≤ 255) (h21 : P.1 i ≤ 21) : Met l yPg_blockLength (ce_ws yPg_blockLength cPg_blockLength 3 (some .int)) (ce_rm 1) (ce_Pc D cI [.ref (a 1), .int (nI i), .int (nI z)] (wP a cI P)) (vp_Si (fun r => r = nI (pB P i z))) 0 0 (fun _ => False) := by
  refine Met.ofW (cc := cPg_blockLength) (maxL := 3) (ret := (some .int)) (by decide) rfl ?_
  intro p e s m args below meth c s₁ B hml hv
  obtain ⟨rfl, hP, hK, hN⟩ := hv
  have hx := B.exec
  have hb := B.bytes
  have hr := B.returns
  have hts := atoms_spec (ws := ce_ws yPg_blockLength cPg_blockLength 3 (some .int)) B.pre
  have hown : s.vm.findClass RPg = some m.cls := findClass_of_methodNamed B.named
  have hlocks := B.notSynchronized
  have hl := lv_entry ([.ref (a 1), .int (nI i), .int (nI z)]) (n := 3) (Nat.le_of_ble_eq_true rfl)
  rw [lg_entry_eq]
  generalize (lg_sl ([.ref (a 1), .int (nI i), .int (nI z)]) ++ List.replicate (3 - (lg_sl ([.ref (a 1), .int (nI i), .int (nI z)])).length) Slot.unset).toArray = ls at hl ⊢
  have hl : lv_has ls 3 [(0, .ref (a 1)), (1, .int (nI i)), (2, .int (nI z))] := hl
  have hi : i < 14 := by omega
  refine lv_aload_n hx hb dPg_blockLength_0 rfl (lv_at hl 0 rfl) ?_
  refine ce_gP hx hb hts hown hK hP 0 (by decide) rfl lPg_9 rfl dPg_blockLength_1 ?_
  refine lv_iload_n hx hb dPg_blockLength_4 rfl (lv_at hl 1 rfl) ?_
  refine va_iald hx hb hK hP 1 0 rfl rfl (vp_in_nI hi (by decide)) dPg_blockLength_5 ?_
  refine lv_topi (fun y_1 ey_1 => ?_)
  obtain rfl : y_1 = nI (P.1 i) := ey_1.trans (congrArg (fun j => nI (P.1 j)) (nI_clamp (by omega)))
  refine lv_bipush (v := 10) hx hb dPg_blockLength_6 (by decide) ?_
  refine lv_icmp_lt (tgt := 22) hx hb dPg_blockLength_8 (by decide) (fun c_2 => ?_) (fun c_2 => ?_)
  · -- 8 taken
    refine lv_iconst (v := 0) hx hb dPg_blockLength_22 (by decide) ?_
    exact W.iret (v := 0) hx hb hr (fun t9 ht hW => ⟨0, rfl, pB_0 z (Or.inl ((nI_ltI (b := 10) (by omega) (by decide)).mp c_2)), ht⟩) (fun _ h => by cases h) dPg_blockLength_23
  · -- 8 not taken
    refine lv_aload_n hx hb dPg_blockLength_11 rfl (lv_at hl 0 rfl) ?_
    refine ce_gP hx hb hts hown hK hP 0 (by decide) rfl lPg_9 rfl dPg_blockLength_12 ?_
    refine lv_iload_n hx hb dPg_blockLength_15 rfl (lv_at hl 1 rfl) ?_
    refine va_iald hx hb hK hP 1 0 rfl rfl (vp_in_nI hi (by decide)) dPg_blockLength_16 ?_
    refine lv_topi (fun y_3 ey_3 => ?_)
    obtain rfl : y_3 = nI (P.1 i) := ey_3.trans (congrArg (fun j => nI (P.1 j)) (nI_clamp (by omega)))
    refine lv_bipush (v := 14) hx hb dPg_blockLength_17 (by decide) ?_
    refine lv_icmp_le (tgt := 24) hx hb dPg_blockLength_19 (by decide) (fun c_4 => ?_) (fun c_4 => ?_)
    · -- 19 taken
      refine lv_aload_n hx hb dPg_blockLength_24 rfl (lv_at hl 0 rfl) ?_
      refine lv_iload_n hx hb dPg_blockLength_25 rfl (lv_at hl 1 rfl) ?_
      refine ce_ri (As := [.int (nI i)]) (rest := []) ⟨hx, hb, hml, hown, hts⟩ (c_Pg_low l D cI a P i hi h8) mPg_low lPg_24 iPg_low ⟨Nat.le_of_ble_eq_true rfl, Nat.le_of_ble_eq_true rfl⟩ ⟨rfl, rfl⟩ hK hN hP 0 rfl rfl rfl hl.1 rfl (Nat.le_of_ble_eq_true rfl) dPg_blockLength_26 ⟨Nat.le_of_ble_eq_true rfl, Nat.le_of_ble_eq_true rfl⟩ (fun r_5 er_5 => ?_)
      obtain rfl : r_5 = nI (pN P i) := er_5
      refine lv_iload_n hx hb dPg_blockLength_29 rfl (lv_at hl 2 rfl) ?_
      refine lv_iload_n hx hb dPg_blockLength_30 rfl (lv_at hl 1 rfl) ?_
      refine lv_isub hx hb dPg_blockLength_31 ?_
      refine lv_topi (fun y_6 ey_6 => ?_)
      obtain rfl : y_6 = nI (z - i) := ey_6.trans (pk_sub (by omega))
      refine lv_iconst (v := 1) hx hb dPg_blockLength_32 (by decide) ?_
      refine lv_isub hx hb dPg_blockLength_33 ?_
      refine lv_topi (fun y_7 ey_7 => ?_)
      obtain rfl : y_7 = nI (z - i - 1) := ey_7.trans (pk_sub (b := 1) (by omega))
      refine va_mmin hx hb (hml.trans hl.1.symm) hown (hts _ (List.mem_cons_of_mem _ minL)) (hts _ (List.mem_cons_of_mem _ minS)) (hts _ (List.mem_cons_of_mem _ minI)) (hts _ (List.mem_cons_of_mem _ minC)) (Nat.le_of_ble_eq_true rfl) (Nat.le_of_ble_eq_true rfl) (Nat.zero_le _) (Nat.zero_le _) dPg_blockLength_34 ?_
      exact W.iret (v := if nI (z - i - 1) < nI (pN P i) then nI (z - i - 1) else nI (pN P i)) hx hb hr (fun t9 ht hW => ⟨if nI (z - i - 1) < nI (pN P i) then nI (z - i - 1) else nI (pN P i), rfl, pB_1 (fun h => c_2 ((nI_ltI (b := 10) (by omega) (by decide)).mpr h)) (fun h => absurd ((nI_leI (b := 14) (by omega) (by decide)).mp c_4) (Nat.not_le.mpr h)) (by omega) h8, ht⟩) (fun _ h => by cases h) dPg_blockLength_37
    · -- 19 not taken
      refine lv_iconst (v := 0) hx hb dPg_blockLength_22 (by decide) ?_
      exact W.iret (v := 0) hx hb hr (fun t9 ht hW => ⟨0, rfl, pB_0 z (Or.inr (Nat.lt_of_not_le (fun h => c_4 ((nI_leI (b := 14) (by omega) (by decide)).mpr h)))), ht⟩) (fun _ h => by cases h) dPg_blockLength_23
