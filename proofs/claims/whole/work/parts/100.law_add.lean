set_option maxHeartbeats 8000000 in
set_option maxRecDepth 100000 in
theorem law_add {p : Program} {l : Launch} {e : Env} {s : State} {m : MethodId} {below : List Frame} {meth : Method} {c : Code} {D : va_G} {cI cP cR cZ : ClassId} {sb L : Nat} {xs : Nat → Int32} {a b : Nat → Nat} (hL : L ≤ 2048) (C0 : lw_At p s m meth c sb L xs) (hKX : va_K D vwCl [(cI, .int), (cP, .object RPg), (cR, .object RRn)] s) (hKM : va_K D vwCl [(cI, .int), (cZ, .boolean)] s) (hN : ce_N s) (hd : dX b) (hdM : dM a) (hba : apart a b) (hbS : ∀ q, aX b q → s.heap.size ≤ q) (haS : ∀ q, aM a q → s.heap.size ≤ q) {i : Nat} (hi4 : i + 4 ≤ L) (K : ∀ (E : XS) (g : MS) (H : Heap) (locs : List Loc) (ls : Array Slot), LR E g → va_P D vwCl (wX b cI cP cR E) H → va_P D vwCl (wM a cI cZ g) H → va_S (fun q : Nat => s.heap.size ≤ q) s.heap H locs → lv_has ls 4 [(0, .ref sb), (1, .ref (b 0)), (2, .ref (a 0)), (3, .int (nI (i + 4)))] → W p l e room_1 s m #[Value.ref sb] below meth c H locs 51 706 (lw_Z below #[Value.ref sb] s) (F0 m 18 ls [])) : ∀ (E : XS) (g : MS) (H : Heap) (locs : List Loc) (ls : Array Slot), LR E g → va_P D vwCl (wX b cI cP cR E) H → va_P D vwCl (wM a cI cZ g) H → va_S (fun q : Nat => s.heap.size ≤ q) s.heap H locs → lv_has ls 4 [(0, .ref sb), (1, .ref (b 0)), (2, .ref (a 0)), (3, .int (nI i))] → W p l e room_1 s m #[Value.ref sb] below meth c H locs 51 706 (lw_Z below #[Value.ref sb] s) (F0 m 80 ls []) := by
  obtain ⟨hx, hb, hr, hml, hown, hts, hX, hbl, hlocks, hgv⟩ := C0
  have hbA : ¬ (fun q : Nat => s.heap.size ≤ q) sb := Nat.not_le.mpr hbl
  intro E g H locs ls hLR hPX hPM hS hl
  by_cases hno : isI (xs (i + 1)) 6 = false ∨ isI (xs (i + 2)) 22 = false ∨ isI (xs (i + 3)) 256 = false
  ·
    refine lv_aload_n hx hb dLw_law_80 rfl (lv_at hl 1 rfl) ?_
    refine lv_aload_n hx hb dLw_law_81 rfl (lv_at hl 0 rfl) ?_
    refine lv_iload_n hx hb dLw_law_82 rfl (lv_at hl 3 rfl) ?_
    refine lv_iconst (v := 1) hx hb dLw_law_83 (by decide) ?_
    refine lv_iadd hx hb dLw_law_84 ?_
    refine lv_topi (fun y_1 ey_1 => ?_)
    obtain rfl : y_1 = nI (i + 1) := ey_1.trans (nI_add i 1)
    refine va_sld hx hb hX hbl hbA hS (vp_in_nI (show (i + 1) < L by omega) (by omega)) dLw_law_85 ?_
    refine lv_topi (fun y_2 ey_2 => ?_)
    obtain rfl : y_2 = xs (i + 1) := ey_2.trans (congrArg xs (nI_clamp (by omega)))
    refine lv_aload_n hx hb dLw_law_86 rfl (lv_at hl 0 rfl) ?_
    refine lv_iload_n hx hb dLw_law_87 rfl (lv_at hl 3 rfl) ?_
    refine lv_iconst (v := 2) hx hb dLw_law_88 (by decide) ?_
    refine lv_iadd hx hb dLw_law_89 ?_
    refine lv_topi (fun y_3 ey_3 => ?_)
    obtain rfl : y_3 = nI (i + 2) := ey_3.trans (nI_add i 2)
    refine va_sld hx hb hX hbl hbA hS (vp_in_nI (show (i + 2) < L by omega) (by omega)) dLw_law_90 ?_
    refine lv_topi (fun y_4 ey_4 => ?_)
    obtain rfl : y_4 = xs (i + 2) := ey_4.trans (congrArg xs (nI_clamp (by omega)))
    refine lv_aload_n hx hb dLw_law_91 rfl (lv_at hl 0 rfl) ?_
    refine lv_iload_n hx hb dLw_law_92 rfl (lv_at hl 3 rfl) ?_
    refine lv_iconst (v := 3) hx hb dLw_law_93 (by decide) ?_
    refine lv_iadd hx hb dLw_law_94 ?_
    refine lv_topi (fun y_5 ey_5 => ?_)
    obtain rfl : y_5 = nI (i + 3) := ey_5.trans (nI_add i 3)
    refine va_sld hx hb hX hbl hbA hS (vp_in_nI (show (i + 3) < L by omega) (by omega)) dLw_law_95 ?_
    refine lv_topi (fun y_6 ey_6 => ?_)
    obtain rfl : y_6 = xs (i + 3) := ey_6.trans (congrArg xs (nI_clamp (by omega)))
    refine lx_ri (As := [.int (xs (i + 1)), .int (xs (i + 2)), .int (xs (i + 3))]) (rest := []) ⟨hx, hb, hml, hown, hts⟩ (c_Ex_add_no l D cI cP cR b hd E (xs (i + 1)) (xs (i + 2)) (xs (i + 3)) hno) mEx_add lLw_13 iEx_add ⟨Nat.le_of_ble_eq_true rfl, Nat.le_of_ble_eq_true rfl⟩ ⟨rfl, rfl⟩ hKX hN hPX rfl hl.1 rfl (Nat.le_of_ble_eq_true rfl) dLw_law_96 ⟨Nat.le_of_ble_eq_true rfl, Nat.le_of_ble_eq_true rfl⟩ (fun r_7 er_7 => ?_)
    obtain rfl : r_7 = (-1) := er_7
    refine lv_aload_n hx hb dLw_law_99 rfl (lv_at hl 2 rfl) ?_
    refine lv_aload_n hx hb dLw_law_100 rfl (lv_at hl 0 rfl) ?_
    refine lv_iload_n hx hb dLw_law_101 rfl (lv_at hl 3 rfl) ?_
    refine lv_iconst (v := 1) hx hb dLw_law_102 (by decide) ?_
    refine lv_iadd hx hb dLw_law_103 ?_
    refine lv_topi (fun y_8 ey_8 => ?_)
    obtain rfl : y_8 = nI (i + 1) := ey_8.trans (nI_add i 1)
    refine va_sld hx hb hX hbl hbA hS (vp_in_nI (show (i + 1) < L by omega) (by omega)) dLw_law_104 ?_
    refine lv_topi (fun y_9 ey_9 => ?_)
    obtain rfl : y_9 = xs (i + 1) := ey_9.trans (congrArg xs (nI_clamp (by omega)))
    refine lv_aload_n hx hb dLw_law_105 rfl (lv_at hl 0 rfl) ?_
    refine lv_iload_n hx hb dLw_law_106 rfl (lv_at hl 3 rfl) ?_
    refine lv_iconst (v := 2) hx hb dLw_law_107 (by decide) ?_
    refine lv_iadd hx hb dLw_law_108 ?_
    refine lv_topi (fun y_10 ey_10 => ?_)
    obtain rfl : y_10 = nI (i + 2) := ey_10.trans (nI_add i 2)
    refine va_sld hx hb hX hbl hbA hS (vp_in_nI (show (i + 2) < L by omega) (by omega)) dLw_law_109 ?_
    refine lv_topi (fun y_11 ey_11 => ?_)
    obtain rfl : y_11 = xs (i + 2) := ey_11.trans (congrArg xs (nI_clamp (by omega)))
    refine lv_aload_n hx hb dLw_law_110 rfl (lv_at hl 0 rfl) ?_
    refine lv_iload_n hx hb dLw_law_111 rfl (lv_at hl 3 rfl) ?_
    refine lv_iconst (v := 3) hx hb dLw_law_112 (by decide) ?_
    refine lv_iadd hx hb dLw_law_113 ?_
    refine lv_topi (fun y_12 ey_12 => ?_)
    obtain rfl : y_12 = nI (i + 3) := ey_12.trans (nI_add i 3)
    refine va_sld hx hb hX hbl hbA hS (vp_in_nI (show (i + 3) < L by omega) (by omega)) dLw_law_114 ?_
    refine lv_topi (fun y_13 ey_13 => ?_)
    obtain rfl : y_13 = xs (i + 3) := ey_13.trans (congrArg xs (nI_clamp (by omega)))
    refine lm_ri (As := [.int (xs (i + 1)), .int (xs (i + 2)), .int (xs (i + 3))]) (rest := [.int (-1)]) ⟨hx, hb, hml, hown, hts⟩ (c_Md_add_no l D cI cZ a g (xs (i + 1)) (xs (i + 2)) (xs (i + 3)) hno) mMd_add lLw_17 iMd_add ⟨Nat.le_of_ble_eq_true rfl, Nat.le_of_ble_eq_true rfl⟩ ⟨rfl, rfl⟩ hKM hPM rfl hl.1 rfl (Nat.le_of_ble_eq_true rfl) dLw_law_115 ⟨Nat.le_of_ble_eq_true rfl, Nat.le_of_ble_eq_true rfl⟩ (fun r_14 er_14 => ?_)
    obtain rfl : r_14 = (-1) := er_14
    refine lv_icmp_eq (tgt := 321) hx hb dLw_law_118 (by decide) (fun c_15 => ?_) (fun c_15 => ?_)
    · -- 118 taken
      refine lv_iinc (v := nI (i + 4)) (lv' := [(3, .int (nI (i + 4))), (0, .ref sb), (1, .ref (b 0)), (2, .ref (a 0))]) hx hb dLw_law_321 hl (k := 3) rfl (nI_add i 4) (by decide) rfl (fun ls hl => ?_)
      refine lv_goto (tgt := 18) hx hb dLw_law_324 (by decide) ?_
      exact K E g _ _ _ (hLR) hPX hPM hS (lv_sub hl [1, 2, 3, 0] rfl)
    · -- 118 not taken
      exact absurd c_15 (by decide)
  ·
    obtain ⟨pn, hp6, e1⟩ := isI_ex (N := 6) (by decide) (eq_true_of_ne_false (fun q => hno (Or.inl q)))
    obtain ⟨o, ho, e2⟩ := isI_ex (N := 22) (by decide) (eq_true_of_ne_false (fun q => hno (Or.inr (Or.inl q))))
    obtain ⟨ag, hg, e3⟩ := isI_ex (N := 256) (by decide) (eq_true_of_ne_false (fun q => hno (Or.inr (Or.inr (q)))))
    have hq := hLR.add hp6 ho hg
    refine lv_aload_n hx hb dLw_law_80 rfl (lv_at hl 1 rfl) ?_
    refine lv_aload_n hx hb dLw_law_81 rfl (lv_at hl 0 rfl) ?_
    refine lv_iload_n hx hb dLw_law_82 rfl (lv_at hl 3 rfl) ?_
    refine lv_iconst (v := 1) hx hb dLw_law_83 (by decide) ?_
    refine lv_iadd hx hb dLw_law_84 ?_
    refine lv_topi (fun y_16 ey_16 => ?_)
    obtain rfl : y_16 = nI (i + 1) := ey_16.trans (nI_add i 1)
    refine va_sld hx hb hX hbl hbA hS (vp_in_nI (show (i + 1) < L by omega) (by omega)) dLw_law_85 ?_
    refine lv_topi (fun y_17 ey_17 => ?_)
    obtain rfl : y_17 = nI pn := ey_17.trans ((congrArg xs (nI_clamp (by omega))).trans e1)
    refine lv_aload_n hx hb dLw_law_86 rfl (lv_at hl 0 rfl) ?_
    refine lv_iload_n hx hb dLw_law_87 rfl (lv_at hl 3 rfl) ?_
    refine lv_iconst (v := 2) hx hb dLw_law_88 (by decide) ?_
    refine lv_iadd hx hb dLw_law_89 ?_
    refine lv_topi (fun y_18 ey_18 => ?_)
    obtain rfl : y_18 = nI (i + 2) := ey_18.trans (nI_add i 2)
    refine va_sld hx hb hX hbl hbA hS (vp_in_nI (show (i + 2) < L by omega) (by omega)) dLw_law_90 ?_
    refine lv_topi (fun y_19 ey_19 => ?_)
    obtain rfl : y_19 = nI o := ey_19.trans ((congrArg xs (nI_clamp (by omega))).trans e2)
    refine lv_aload_n hx hb dLw_law_91 rfl (lv_at hl 0 rfl) ?_
    refine lv_iload_n hx hb dLw_law_92 rfl (lv_at hl 3 rfl) ?_
    refine lv_iconst (v := 3) hx hb dLw_law_93 (by decide) ?_
    refine lv_iadd hx hb dLw_law_94 ?_
    refine lv_topi (fun y_20 ey_20 => ?_)
    obtain rfl : y_20 = nI (i + 3) := ey_20.trans (nI_add i 3)
    refine va_sld hx hb hX hbl hbA hS (vp_in_nI (show (i + 3) < L by omega) (by omega)) dLw_law_95 ?_
    refine lv_topi (fun y_21 ey_21 => ?_)
    obtain rfl : y_21 = nI ag := ey_21.trans ((congrArg xs (nI_clamp (by omega))).trans e3)
    refine lx_vi (As := [.int (nI pn), .int (nI o), .int (nI ag)]) (rest := []) ⟨hx, hb, hml, hown, hts⟩ (c_Ex_add l D cI cP cR b hd E pn o ag hp6 ho hg (hLR.1 pn hp6).1.1) mEx_add lLw_13 iEx_add ⟨Nat.le_of_ble_eq_true rfl, Nat.le_of_ble_eq_true rfl⟩ ⟨rfl, rfl⟩ hKX hN hPX hbS hS rfl hl.1 rfl (Nat.le_of_ble_eq_true rfl) dLw_law_96 ⟨Nat.le_of_ble_eq_true rfl, Nat.le_of_ble_eq_true rfl⟩ (fun r_22 u_23 H locs er_22 hPX hk9 hS => ?_)
    obtain ⟨rfl, rfl⟩ : r_22 = (xeAdd E pn o ag).1 ∧ u_23 = (xeAdd E pn o ag).2 := ⟨congrArg (fun t => t.1) er_22, congrArg (fun t => t.2) er_22⟩
    have hPM := kept_M hdM hba hPM hk9
    refine lv_aload_n hx hb dLw_law_99 rfl (lv_at hl 2 rfl) ?_
    refine lv_aload_n hx hb dLw_law_100 rfl (lv_at hl 0 rfl) ?_
    refine lv_iload_n hx hb dLw_law_101 rfl (lv_at hl 3 rfl) ?_
    refine lv_iconst (v := 1) hx hb dLw_law_102 (by decide) ?_
    refine lv_iadd hx hb dLw_law_103 ?_
    refine lv_topi (fun y_24 ey_24 => ?_)
    obtain rfl : y_24 = nI (i + 1) := ey_24.trans (nI_add i 1)
    refine va_sld hx hb hX hbl hbA hS (vp_in_nI (show (i + 1) < L by omega) (by omega)) dLw_law_104 ?_
    refine lv_topi (fun y_25 ey_25 => ?_)
    obtain rfl : y_25 = nI pn := ey_25.trans ((congrArg xs (nI_clamp (by omega))).trans e1)
    refine lv_aload_n hx hb dLw_law_105 rfl (lv_at hl 0 rfl) ?_
    refine lv_iload_n hx hb dLw_law_106 rfl (lv_at hl 3 rfl) ?_
    refine lv_iconst (v := 2) hx hb dLw_law_107 (by decide) ?_
    refine lv_iadd hx hb dLw_law_108 ?_
    refine lv_topi (fun y_26 ey_26 => ?_)
    obtain rfl : y_26 = nI (i + 2) := ey_26.trans (nI_add i 2)
    refine va_sld hx hb hX hbl hbA hS (vp_in_nI (show (i + 2) < L by omega) (by omega)) dLw_law_109 ?_
    refine lv_topi (fun y_27 ey_27 => ?_)
    obtain rfl : y_27 = nI o := ey_27.trans ((congrArg xs (nI_clamp (by omega))).trans e2)
    refine lv_aload_n hx hb dLw_law_110 rfl (lv_at hl 0 rfl) ?_
    refine lv_iload_n hx hb dLw_law_111 rfl (lv_at hl 3 rfl) ?_
    refine lv_iconst (v := 3) hx hb dLw_law_112 (by decide) ?_
    refine lv_iadd hx hb dLw_law_113 ?_
    refine lv_topi (fun y_28 ey_28 => ?_)
    obtain rfl : y_28 = nI (i + 3) := ey_28.trans (nI_add i 3)
    refine va_sld hx hb hX hbl hbA hS (vp_in_nI (show (i + 3) < L by omega) (by omega)) dLw_law_114 ?_
    refine lv_topi (fun y_29 ey_29 => ?_)
    obtain rfl : y_29 = nI ag := ey_29.trans ((congrArg xs (nI_clamp (by omega))).trans e3)
    refine lm_vi (As := [.int (nI pn), .int (nI o), .int (nI ag)]) (rest := [.int ((xeAdd E pn o ag).1)]) ⟨hx, hb, hml, hown, hts⟩ (c_Md_add l D cI cZ a hdM g pn o ag hp6 ho hg (hLR.inv pn hp6).1) mMd_add lLw_17 iMd_add ⟨Nat.le_of_ble_eq_true rfl, Nat.le_of_ble_eq_true rfl⟩ ⟨rfl, rfl⟩ hKM hPM haS hS rfl hl.1 rfl (Nat.le_of_ble_eq_true rfl) dLw_law_115 ⟨Nat.le_of_ble_eq_true rfl, Nat.le_of_ble_eq_true rfl⟩ (fun r_30 u_31 H locs er_30 hPM hk9 hS => ?_)
    obtain ⟨rfl, rfl⟩ : r_30 = (mAdd g pn o ag).1 ∧ u_31 = (mAdd g pn o ag).2 := ⟨congrArg (fun t => t.1) er_30, congrArg (fun t => t.2) er_30⟩
    have hPX := kept_X hd hba hPX hk9
    refine lv_icmp_eq (tgt := 321) hx hb dLw_law_118 (by decide) (fun c_32 => ?_) (fun c_32 => ?_)
    · -- 118 taken
      refine lv_iinc (v := nI (i + 4)) (lv' := [(3, .int (nI (i + 4))), (0, .ref sb), (1, .ref (b 0)), (2, .ref (a 0))]) hx hb dLw_law_321 hl (k := 3) rfl (nI_add i 4) (by decide) rfl (fun ls hl => ?_)
      refine lv_goto (tgt := 18) hx hb dLw_law_324 (by decide) ?_
      exact K ((xeAdd E pn o ag).2) ((mAdd g pn o ag).2) _ _ _ (hq.2) hPX hPM hS (lv_sub hl [1, 2, 3, 0] rfl)
    · -- 118 not taken
      exact absurd (hq.1) c_32
