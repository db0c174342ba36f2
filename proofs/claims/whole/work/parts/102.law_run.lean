set_option maxHeartbeats 8000000 in
set_option maxRecDepth 100000 in
theorem law_run {p : Program} {l : Launch} {e : Env} {s : State} {m : MethodId} {below : List Frame} {meth : Method} {c : Code} {D : va_G} {cI cP cR cZ : ClassId} {sb L : Nat} {xs : Nat → Int32} {a b : Nat → Nat} (hL : L ≤ 2048) (C0 : lw_At p s m meth c sb L xs) (hKX : va_K D vwCl [(cI, .int), (cP, .object RPg), (cR, .object RRn)] s) (hKM : va_K D vwCl [(cI, .int), (cZ, .boolean)] s) (hN : ce_N s) (hd : dX b) (hdM : dM a) (hba : apart a b) (hbS : ∀ q, aX b q → s.heap.size ≤ q) (haS : ∀ q, aM a q → s.heap.size ≤ q) {i : Nat} (hi4 : i + 4 ≤ L) (K : ∀ (E : XS) (g : MS) (H : Heap) (locs : List Loc) (ls : Array Slot), LR E g → va_P D vwCl (wX b cI cP cR E) H → va_P D vwCl (wM a cI cZ g) H → va_S (fun q : Nat => s.heap.size ≤ q) s.heap H locs → lv_has ls 4 [(0, .ref sb), (1, .ref (b 0)), (2, .ref (a 0)), (3, .int (nI (i + 4)))] → W p l e room_1 s m #[Value.ref sb] below meth c H locs 51 706 (lw_Z below #[Value.ref sb] s) (F0 m 18 ls [])) : ∀ (E : XS) (g : MS) (H : Heap) (locs : List Loc) (ls : Array Slot), LR E g → va_P D vwCl (wX b cI cP cR E) H → va_P D vwCl (wM a cI cZ g) H → va_S (fun q : Nat => s.heap.size ≤ q) s.heap H locs → lv_has ls 4 [(0, .ref sb), (1, .ref (b 0)), (2, .ref (a 0)), (3, .int (nI i))] → W p l e room_1 s m #[Value.ref sb] below meth c H locs 51 706 (lw_Z below #[Value.ref sb] s) (F0 m 146 ls []) := by
  obtain ⟨hx, hb, hr, hml, hown, hts, hX, hbl, hlocks, hgv⟩ := C0
  have hbA : ¬ (fun q : Nat => s.heap.size ≤ q) sb := Nat.not_le.mpr hbl
  intro E g H locs ls hLR hPX hPM hS hl
  by_cases hno : isI (xs (i + 1)) 6 = false
  ·
    refine lv_aload_n hx hb dLw_law_146 rfl (lv_at hl 1 rfl) ?_
    refine lv_aload_n hx hb dLw_law_147 rfl (lv_at hl 0 rfl) ?_
    refine lv_iload_n hx hb dLw_law_148 rfl (lv_at hl 3 rfl) ?_
    refine lv_iconst (v := 1) hx hb dLw_law_149 (by decide) ?_
    refine lv_iadd hx hb dLw_law_150 ?_
    refine lv_topi (fun y_1 ey_1 => ?_)
    obtain rfl : y_1 = nI (i + 1) := ey_1.trans (nI_add i 1)
    refine va_sld hx hb hX hbl hbA hS (vp_in_nI (show (i + 1) < L by omega) (by omega)) dLw_law_151 ?_
    refine lv_topi (fun y_2 ey_2 => ?_)
    obtain rfl : y_2 = xs (i + 1) := ey_2.trans (congrArg xs (nI_clamp (by omega)))
    refine lv_aload_n hx hb dLw_law_152 rfl (lv_at hl 0 rfl) ?_
    refine lv_iload_n hx hb dLw_law_153 rfl (lv_at hl 3 rfl) ?_
    refine lv_iconst (v := 2) hx hb dLw_law_154 (by decide) ?_
    refine lv_iadd hx hb dLw_law_155 ?_
    refine lv_topi (fun y_3 ey_3 => ?_)
    obtain rfl : y_3 = nI (i + 2) := ey_3.trans (nI_add i 2)
    refine va_sld hx hb hX hbl hbA hS (vp_in_nI (show (i + 2) < L by omega) (by omega)) dLw_law_156 ?_
    refine lv_topi (fun y_4 ey_4 => ?_)
    obtain rfl : y_4 = xs (i + 2) := ey_4.trans (congrArg xs (nI_clamp (by omega)))
    refine lv_if_eq (tgt := 164) hx hb dLw_law_157 (by decide) (fun c_5 => ?_) (fun c_5 => ?_)
    · -- 157 taken
      refine lv_iconst (v := 0) hx hb dLw_law_164 (by decide) ?_
      refine lx_ri (As := [.int (xs (i + 1)), .int 0]) (rest := []) ⟨hx, hb, hml, hown, hts⟩ (c_Ex_run_no l D cI cP cR b hd E (xs (i + 1)) false hno) mEx_run lLw_23 iEx_run ⟨Nat.le_of_ble_eq_true rfl, Nat.le_of_ble_eq_true rfl⟩ ⟨rfl, rfl⟩ hKX hN hPX rfl hl.1 rfl (Nat.le_of_ble_eq_true rfl) dLw_law_165 ⟨Nat.le_of_ble_eq_true rfl, Nat.le_of_ble_eq_true rfl⟩ (fun r_6 er_6 => ?_)
      obtain rfl : r_6 = (-1) := er_6
      refine lv_aload_n hx hb dLw_law_168 rfl (lv_at hl 2 rfl) ?_
      refine lv_aload_n hx hb dLw_law_169 rfl (lv_at hl 0 rfl) ?_
      refine lv_iload_n hx hb dLw_law_170 rfl (lv_at hl 3 rfl) ?_
      refine lv_iconst (v := 1) hx hb dLw_law_171 (by decide) ?_
      refine lv_iadd hx hb dLw_law_172 ?_
      refine lv_topi (fun y_7 ey_7 => ?_)
      obtain rfl : y_7 = nI (i + 1) := ey_7.trans (nI_add i 1)
      refine va_sld hx hb hX hbl hbA hS (vp_in_nI (show (i + 1) < L by omega) (by omega)) dLw_law_173 ?_
      refine lv_topi (fun y_8 ey_8 => ?_)
      obtain rfl : y_8 = xs (i + 1) := ey_8.trans (congrArg xs (nI_clamp (by omega)))
      refine lv_aload_n hx hb dLw_law_174 rfl (lv_at hl 0 rfl) ?_
      refine lv_iload_n hx hb dLw_law_175 rfl (lv_at hl 3 rfl) ?_
      refine lv_iconst (v := 2) hx hb dLw_law_176 (by decide) ?_
      refine lv_iadd hx hb dLw_law_177 ?_
      refine lv_topi (fun y_9 ey_9 => ?_)
      obtain rfl : y_9 = nI (i + 2) := ey_9.trans (nI_add i 2)
      refine va_sld hx hb hX hbl hbA hS (vp_in_nI (show (i + 2) < L by omega) (by omega)) dLw_law_178 ?_
      refine lv_topi (fun y_10 ey_10 => ?_)
      obtain rfl : y_10 = xs (i + 2) := ey_10.trans (congrArg xs (nI_clamp (by omega)))
      refine lv_if_eq (tgt := 186) hx hb dLw_law_179 (by decide) (fun c_11 => ?_) (fun c_11 => ?_)
      · -- 179 taken
        refine lv_iconst (v := 0) hx hb dLw_law_186 (by decide) ?_
        refine lm_ri (As := [.int (xs (i + 1)), .int 0]) (rest := [.int (-1)]) ⟨hx, hb, hml, hown, hts⟩ (c_Md_run_no l D cI cZ a g (xs (i + 1)) false hno) mMd_run lLw_27 iMd_run ⟨Nat.le_of_ble_eq_true rfl, Nat.le_of_ble_eq_true rfl⟩ ⟨rfl, rfl⟩ hKM hPM rfl hl.1 rfl (Nat.le_of_ble_eq_true rfl) dLw_law_187 ⟨Nat.le_of_ble_eq_true rfl, Nat.le_of_ble_eq_true rfl⟩ (fun r_12 er_12 => ?_)
        obtain rfl : r_12 = (-1) := er_12
        refine lv_icmp_eq (tgt := 321) hx hb dLw_law_190 (by decide) (fun c_13 => ?_) (fun c_13 => ?_)
        · -- 190 taken
          refine lv_iinc (v := nI (i + 4)) (lv' := [(3, .int (nI (i + 4))), (0, .ref sb), (1, .ref (b 0)), (2, .ref (a 0))]) hx hb dLw_law_321 hl (k := 3) rfl (nI_add i 4) (by decide) rfl (fun ls hl => ?_)
          refine lv_goto (tgt := 18) hx hb dLw_law_324 (by decide) ?_
          exact K E g _ _ _ (hLR) hPX hPM hS (lv_sub hl [1, 2, 3, 0] rfl)
        · -- 190 not taken
          exact absurd c_13 (by decide)
      · -- 179 not taken
        exact absurd c_5 c_11
    · -- 157 not taken
      refine lv_iconst (v := 1) hx hb dLw_law_160 (by decide) ?_
      refine lv_goto (tgt := 165) hx hb dLw_law_161 (by decide) ?_
      refine lx_ri (As := [.int (xs (i + 1)), .int 1]) (rest := []) ⟨hx, hb, hml, hown, hts⟩ (c_Ex_run_no l D cI cP cR b hd E (xs (i + 1)) true hno) mEx_run lLw_23 iEx_run ⟨Nat.le_of_ble_eq_true rfl, Nat.le_of_ble_eq_true rfl⟩ ⟨rfl, rfl⟩ hKX hN hPX rfl hl.1 rfl (Nat.le_of_ble_eq_true rfl) dLw_law_165 ⟨Nat.le_of_ble_eq_true rfl, Nat.le_of_ble_eq_true rfl⟩ (fun r_14 er_14 => ?_)
      obtain rfl : r_14 = (-1) := er_14
      refine lv_aload_n hx hb dLw_law_168 rfl (lv_at hl 2 rfl) ?_
      refine lv_aload_n hx hb dLw_law_169 rfl (lv_at hl 0 rfl) ?_
      refine lv_iload_n hx hb dLw_law_170 rfl (lv_at hl 3 rfl) ?_
      refine lv_iconst (v := 1) hx hb dLw_law_171 (by decide) ?_
      refine lv_iadd hx hb dLw_law_172 ?_
      refine lv_topi (fun y_15 ey_15 => ?_)
      obtain rfl : y_15 = nI (i + 1) := ey_15.trans (nI_add i 1)
      refine va_sld hx hb hX hbl hbA hS (vp_in_nI (show (i + 1) < L by omega) (by omega)) dLw_law_173 ?_
      refine lv_topi (fun y_16 ey_16 => ?_)
      obtain rfl : y_16 = xs (i + 1) := ey_16.trans (congrArg xs (nI_clamp (by omega)))
      refine lv_aload_n hx hb dLw_law_174 rfl (lv_at hl 0 rfl) ?_
      refine lv_iload_n hx hb dLw_law_175 rfl (lv_at hl 3 rfl) ?_
      refine lv_iconst (v := 2) hx hb dLw_law_176 (by decide) ?_
      refine lv_iadd hx hb dLw_law_177 ?_
      refine lv_topi (fun y_17 ey_17 => ?_)
      obtain rfl : y_17 = nI (i + 2) := ey_17.trans (nI_add i 2)
      refine va_sld hx hb hX hbl hbA hS (vp_in_nI (show (i + 2) < L by omega) (by omega)) dLw_law_178 ?_
      refine lv_topi (fun y_18 ey_18 => ?_)
      obtain rfl : y_18 = xs (i + 2) := ey_18.trans (congrArg xs (nI_clamp (by omega)))
      refine lv_if_eq (tgt := 186) hx hb dLw_law_179 (by decide) (fun c_19 => ?_) (fun c_19 => ?_)
      · -- 179 taken
        exact absurd c_19 c_5
      · -- 179 not taken
        refine lv_iconst (v := 1) hx hb dLw_law_182 (by decide) ?_
        refine lv_goto (tgt := 187) hx hb dLw_law_183 (by decide) ?_
        refine lm_ri (As := [.int (xs (i + 1)), .int 1]) (rest := [.int (-1)]) ⟨hx, hb, hml, hown, hts⟩ (c_Md_run_no l D cI cZ a g (xs (i + 1)) true hno) mMd_run lLw_27 iMd_run ⟨Nat.le_of_ble_eq_true rfl, Nat.le_of_ble_eq_true rfl⟩ ⟨rfl, rfl⟩ hKM hPM rfl hl.1 rfl (Nat.le_of_ble_eq_true rfl) dLw_law_187 ⟨Nat.le_of_ble_eq_true rfl, Nat.le_of_ble_eq_true rfl⟩ (fun r_20 er_20 => ?_)
        obtain rfl : r_20 = (-1) := er_20
        refine lv_icmp_eq (tgt := 321) hx hb dLw_law_190 (by decide) (fun c_21 => ?_) (fun c_21 => ?_)
        · -- 190 taken
          refine lv_iinc (v := nI (i + 4)) (lv' := [(3, .int (nI (i + 4))), (0, .ref sb), (1, .ref (b 0)), (2, .ref (a 0))]) hx hb dLw_law_321 hl (k := 3) rfl (nI_add i 4) (by decide) rfl (fun ls hl => ?_)
          refine lv_goto (tgt := 18) hx hb dLw_law_324 (by decide) ?_
          exact K E g _ _ _ (hLR) hPX hPM hS (lv_sub hl [1, 2, 3, 0] rfl)
        · -- 190 not taken
          exact absurd c_21 (by decide)
  ·
    obtain ⟨pn, hp6, e1⟩ := isI_ex (N := 6) (by decide) (eq_true_of_ne_false (fun q => hno (q)))
    refine lv_aload_n hx hb dLw_law_146 rfl (lv_at hl 1 rfl) ?_
    refine lv_aload_n hx hb dLw_law_147 rfl (lv_at hl 0 rfl) ?_
    refine lv_iload_n hx hb dLw_law_148 rfl (lv_at hl 3 rfl) ?_
    refine lv_iconst (v := 1) hx hb dLw_law_149 (by decide) ?_
    refine lv_iadd hx hb dLw_law_150 ?_
    refine lv_topi (fun y_22 ey_22 => ?_)
    obtain rfl : y_22 = nI (i + 1) := ey_22.trans (nI_add i 1)
    refine va_sld hx hb hX hbl hbA hS (vp_in_nI (show (i + 1) < L by omega) (by omega)) dLw_law_151 ?_
    refine lv_topi (fun y_23 ey_23 => ?_)
    obtain rfl : y_23 = nI pn := ey_23.trans ((congrArg xs (nI_clamp (by omega))).trans e1)
    refine lv_aload_n hx hb dLw_law_152 rfl (lv_at hl 0 rfl) ?_
    refine lv_iload_n hx hb dLw_law_153 rfl (lv_at hl 3 rfl) ?_
    refine lv_iconst (v := 2) hx hb dLw_law_154 (by decide) ?_
    refine lv_iadd hx hb dLw_law_155 ?_
    refine lv_topi (fun y_24 ey_24 => ?_)
    obtain rfl : y_24 = nI (i + 2) := ey_24.trans (nI_add i 2)
    refine va_sld hx hb hX hbl hbA hS (vp_in_nI (show (i + 2) < L by omega) (by omega)) dLw_law_156 ?_
    refine lv_topi (fun y_25 ey_25 => ?_)
    obtain rfl : y_25 = xs (i + 2) := ey_25.trans (congrArg xs (nI_clamp (by omega)))
    refine lv_if_eq (tgt := 164) hx hb dLw_law_157 (by decide) (fun c_26 => ?_) (fun c_26 => ?_)
    · -- 157 taken
      refine lv_iconst (v := 0) hx hb dLw_law_164 (by decide) ?_
      refine lx_vi (As := [.int (nI pn), .int 0]) (rest := []) ⟨hx, hb, hml, hown, hts⟩ (c_Ex_run l D cI cP cR b hd E pn false hp6 (hLR.1 pn hp6).1) mEx_run lLw_23 iEx_run ⟨Nat.le_of_ble_eq_true rfl, Nat.le_of_ble_eq_true rfl⟩ ⟨rfl, rfl⟩ hKX hN hPX hbS hS rfl hl.1 rfl (Nat.le_of_ble_eq_true rfl) dLw_law_165 ⟨Nat.le_of_ble_eq_true rfl, Nat.le_of_ble_eq_true rfl⟩ (fun r_27 u_28 H locs er_27 hPX hk9 hS => ?_)
      obtain ⟨rfl, rfl⟩ : r_27 = (xePerf false pn E).1 ∧ u_28 = (xePerf false pn E).2 := ⟨congrArg (fun t => t.1) er_27, congrArg (fun t => t.2) er_27⟩
      have hPM := kept_M hdM hba hPM hk9
      refine lv_aload_n hx hb dLw_law_168 rfl (lv_at hl 2 rfl) ?_
      refine lv_aload_n hx hb dLw_law_169 rfl (lv_at hl 0 rfl) ?_
      refine lv_iload_n hx hb dLw_law_170 rfl (lv_at hl 3 rfl) ?_
      refine lv_iconst (v := 1) hx hb dLw_law_171 (by decide) ?_
      refine lv_iadd hx hb dLw_law_172 ?_
      refine lv_topi (fun y_29 ey_29 => ?_)
      obtain rfl : y_29 = nI (i + 1) := ey_29.trans (nI_add i 1)
      refine va_sld hx hb hX hbl hbA hS (vp_in_nI (show (i + 1) < L by omega) (by omega)) dLw_law_173 ?_
      refine lv_topi (fun y_30 ey_30 => ?_)
      obtain rfl : y_30 = nI pn := ey_30.trans ((congrArg xs (nI_clamp (by omega))).trans e1)
      refine lv_aload_n hx hb dLw_law_174 rfl (lv_at hl 0 rfl) ?_
      refine lv_iload_n hx hb dLw_law_175 rfl (lv_at hl 3 rfl) ?_
      refine lv_iconst (v := 2) hx hb dLw_law_176 (by decide) ?_
      refine lv_iadd hx hb dLw_law_177 ?_
      refine lv_topi (fun y_31 ey_31 => ?_)
      obtain rfl : y_31 = nI (i + 2) := ey_31.trans (nI_add i 2)
      refine va_sld hx hb hX hbl hbA hS (vp_in_nI (show (i + 2) < L by omega) (by omega)) dLw_law_178 ?_
      refine lv_topi (fun y_32 ey_32 => ?_)
      obtain rfl : y_32 = xs (i + 2) := ey_32.trans (congrArg xs (nI_clamp (by omega)))
      refine lv_if_eq (tgt := 186) hx hb dLw_law_179 (by decide) (fun c_33 => ?_) (fun c_33 => ?_)
      · -- 179 taken
        refine lv_iconst (v := 0) hx hb dLw_law_186 (by decide) ?_
        refine lm_vi (As := [.int (nI pn), .int 0]) (rest := [.int ((xePerf false pn E).1)]) ⟨hx, hb, hml, hown, hts⟩ (c_Md_run l D cI cZ a hdM g pn false hp6 (hLR.inv pn hp6).1 (hLR.inv pn hp6).2) mMd_run lLw_27 iMd_run ⟨Nat.le_of_ble_eq_true rfl, Nat.le_of_ble_eq_true rfl⟩ ⟨rfl, rfl⟩ hKM hPM haS hS rfl hl.1 rfl (Nat.le_of_ble_eq_true rfl) dLw_law_187 ⟨Nat.le_of_ble_eq_true rfl, Nat.le_of_ble_eq_true rfl⟩ (fun r_34 u_35 H locs er_34 hPM hk9 hS => ?_)
        obtain ⟨rfl, rfl⟩ : r_34 = (mPerf false pn g).1 ∧ u_35 = (mPerf false pn g).2 := ⟨congrArg (fun t => t.1) er_34, congrArg (fun t => t.2) er_34⟩
        have hPX := kept_X hd hba hPX hk9
        refine lv_icmp_eq (tgt := 321) hx hb dLw_law_190 (by decide) (fun c_36 => ?_) (fun c_36 => ?_)
        · -- 190 taken
          refine lv_iinc (v := nI (i + 4)) (lv' := [(3, .int (nI (i + 4))), (0, .ref sb), (1, .ref (b 0)), (2, .ref (a 0))]) hx hb dLw_law_321 hl (k := 3) rfl (nI_add i 4) (by decide) rfl (fun ls hl => ?_)
          refine lv_goto (tgt := 18) hx hb dLw_law_324 (by decide) ?_
          exact K ((xePerf false pn E).2) ((mPerf false pn g).2) _ _ _ ((hLR.perf false hp6).2.1) hPX hPM hS (lv_sub hl [1, 2, 3, 0] rfl)
        · -- 190 not taken
          exact absurd ((hLR.perf false hp6).1) c_36
      · -- 179 not taken
        exact absurd c_26 c_33
    · -- 157 not taken
      refine lv_iconst (v := 1) hx hb dLw_law_160 (by decide) ?_
      refine lv_goto (tgt := 165) hx hb dLw_law_161 (by decide) ?_
      refine lx_vi (As := [.int (nI pn), .int 1]) (rest := []) ⟨hx, hb, hml, hown, hts⟩ (c_Ex_run l D cI cP cR b hd E pn true hp6 (hLR.1 pn hp6).1) mEx_run lLw_23 iEx_run ⟨Nat.le_of_ble_eq_true rfl, Nat.le_of_ble_eq_true rfl⟩ ⟨rfl, rfl⟩ hKX hN hPX hbS hS rfl hl.1 rfl (Nat.le_of_ble_eq_true rfl) dLw_law_165 ⟨Nat.le_of_ble_eq_true rfl, Nat.le_of_ble_eq_true rfl⟩ (fun r_37 u_38 H locs er_37 hPX hk9 hS => ?_)
      obtain ⟨rfl, rfl⟩ : r_37 = (xePerf true pn E).1 ∧ u_38 = (xePerf true pn E).2 := ⟨congrArg (fun t => t.1) er_37, congrArg (fun t => t.2) er_37⟩
      have hPM := kept_M hdM hba hPM hk9
      refine lv_aload_n hx hb dLw_law_168 rfl (lv_at hl 2 rfl) ?_
      refine lv_aload_n hx hb dLw_law_169 rfl (lv_at hl 0 rfl) ?_
      refine lv_iload_n hx hb dLw_law_170 rfl (lv_at hl 3 rfl) ?_
      refine lv_iconst (v := 1) hx hb dLw_law_171 (by decide) ?_
      refine lv_iadd hx hb dLw_law_172 ?_
      refine lv_topi (fun y_39 ey_39 => ?_)
      obtain rfl : y_39 = nI (i + 1) := ey_39.trans (nI_add i 1)
      refine va_sld hx hb hX hbl hbA hS (vp_in_nI (show (i + 1) < L by omega) (by omega)) dLw_law_173 ?_
      refine lv_topi (fun y_40 ey_40 => ?_)
      obtain rfl : y_40 = nI pn := ey_40.trans ((congrArg xs (nI_clamp (by omega))).trans e1)
      refine lv_aload_n hx hb dLw_law_174 rfl (lv_at hl 0 rfl) ?_
      refine lv_iload_n hx hb dLw_law_175 rfl (lv_at hl 3 rfl) ?_
      refine lv_iconst (v := 2) hx hb dLw_law_176 (by decide) ?_
      refine lv_iadd hx hb dLw_law_177 ?_
      refine lv_topi (fun y_41 ey_41 => ?_)
      obtain rfl : y_41 = nI (i + 2) := ey_41.trans (nI_add i 2)
      refine va_sld hx hb hX hbl hbA hS (vp_in_nI (show (i + 2) < L by omega) (by omega)) dLw_law_178 ?_
      refine lv_topi (fun y_42 ey_42 => ?_)
      obtain rfl : y_42 = xs (i + 2) := ey_42.trans (congrArg xs (nI_clamp (by omega)))
      refine lv_if_eq (tgt := 186) hx hb dLw_law_179 (by decide) (fun c_43 => ?_) (fun c_43 => ?_)
      · -- 179 taken
        exact absurd c_43 c_26
      · -- 179 not taken
        refine lv_iconst (v := 1) hx hb dLw_law_182 (by decide) ?_
        refine lv_goto (tgt := 187) hx hb dLw_law_183 (by decide) ?_
        refine lm_vi (As := [.int (nI pn), .int 1]) (rest := [.int ((xePerf true pn E).1)]) ⟨hx, hb, hml, hown, hts⟩ (c_Md_run l D cI cZ a hdM g pn true hp6 (hLR.inv pn hp6).1 (hLR.inv pn hp6).2) mMd_run lLw_27 iMd_run ⟨Nat.le_of_ble_eq_true rfl, Nat.le_of_ble_eq_true rfl⟩ ⟨rfl, rfl⟩ hKM hPM haS hS rfl hl.1 rfl (Nat.le_of_ble_eq_true rfl) dLw_law_187 ⟨Nat.le_of_ble_eq_true rfl, Nat.le_of_ble_eq_true rfl⟩ (fun r_44 u_45 H locs er_44 hPM hk9 hS => ?_)
        obtain ⟨rfl, rfl⟩ : r_44 = (mPerf true pn g).1 ∧ u_45 = (mPerf true pn g).2 := ⟨congrArg (fun t => t.1) er_44, congrArg (fun t => t.2) er_44⟩
        have hPX := kept_X hd hba hPX hk9
        refine lv_icmp_eq (tgt := 321) hx hb dLw_law_190 (by decide) (fun c_46 => ?_) (fun c_46 => ?_)
        · -- 190 taken
          refine lv_iinc (v := nI (i + 4)) (lv' := [(3, .int (nI (i + 4))), (0, .ref sb), (1, .ref (b 0)), (2, .ref (a 0))]) hx hb dLw_law_321 hl (k := 3) rfl (nI_add i 4) (by decide) rfl (fun ls hl => ?_)
          refine lv_goto (tgt := 18) hx hb dLw_law_324 (by decide) ?_
          exact K ((xePerf true pn E).2) ((mPerf true pn g).2) _ _ _ ((hLR.perf true hp6).2.1) hPX hPM hS (lv_sub hl [1, 2, 3, 0] rfl)
        · -- 190 not taken
          exact absurd ((hLR.perf true hp6).1) c_46
