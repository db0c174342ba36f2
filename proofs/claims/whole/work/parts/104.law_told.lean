set_option maxHeartbeats 8000000 in
set_option maxRecDepth 100000 in
theorem law_told {p : Program} {l : Launch} {e : Env} {s : State} {m : MethodId} {below : List Frame} {meth : Method} {c : Code} {D : va_G} {cI cP cR cZ : ClassId} {sb L : Nat} {xs : Nat → Int32} {a b : Nat → Nat} (hL : L ≤ 2048) (C0 : lw_At p s m meth c sb L xs) (hKX : va_K D vwCl [(cI, .int), (cP, .object RPg), (cR, .object RRn)] s) (hKM : va_K D vwCl [(cI, .int), (cZ, .boolean)] s) (hN : ce_N s) (hd : dX b) (hdM : dM a) (hba : apart a b) (hbS : ∀ q, aX b q → s.heap.size ≤ q) (haS : ∀ q, aM a q → s.heap.size ≤ q) {i : Nat} (hi4 : i + 4 ≤ L) (K : ∀ (E : XS) (g : MS) (H : Heap) (locs : List Loc) (ls : Array Slot), LR E g → va_P D vwCl (wX b cI cP cR E) H → va_P D vwCl (wM a cI cZ g) H → va_S (fun q : Nat => s.heap.size ≤ q) s.heap H locs → lv_has ls 4 [(0, .ref sb), (1, .ref (b 0)), (2, .ref (a 0)), (3, .int (nI (i + 4)))] → W p l e room_1 s m #[Value.ref sb] below meth c H locs 51 706 (lw_Z below #[Value.ref sb] s) (F0 m 18 ls [])) : ∀ (E : XS) (g : MS) (H : Heap) (locs : List Loc) (ls : Array Slot), LR E g → va_P D vwCl (wX b cI cP cR E) H → va_P D vwCl (wM a cI cZ g) H → va_S (fun q : Nat => s.heap.size ≤ q) s.heap H locs → lv_has ls 4 [(0, .ref sb), (1, .ref (b 0)), (2, .ref (a 0)), (3, .int (nI i))] → W p l e room_1 s m #[Value.ref sb] below meth c H locs 51 706 (lw_Z below #[Value.ref sb] s) (F0 m 218 ls []) := by
  obtain ⟨hx, hb, hr, hml, hown, hts, hX, hbl, hlocks, hgv⟩ := C0
  have hbA : ¬ (fun q : Nat => s.heap.size ≤ q) sb := Nat.not_le.mpr hbl
  intro E g H locs ls hLR hPX hPM hS hl
  by_cases hno : isI (xs (i + 1)) 6 = false ∨ isI (xs (i + 2)) 8 = false
  ·
    refine lv_aload_n hx hb dLw_law_218 rfl (lv_at hl 1 rfl) ?_
    refine lv_aload_n hx hb dLw_law_219 rfl (lv_at hl 0 rfl) ?_
    refine lv_iload_n hx hb dLw_law_220 rfl (lv_at hl 3 rfl) ?_
    refine lv_iconst (v := 1) hx hb dLw_law_221 (by decide) ?_
    refine lv_iadd hx hb dLw_law_222 ?_
    refine lv_topi (fun y_1 ey_1 => ?_)
    obtain rfl : y_1 = nI (i + 1) := ey_1.trans (nI_add i 1)
    refine va_sld hx hb hX hbl hbA hS (vp_in_nI (show (i + 1) < L by omega) (by omega)) dLw_law_223 ?_
    refine lv_topi (fun y_2 ey_2 => ?_)
    obtain rfl : y_2 = xs (i + 1) := ey_2.trans (congrArg xs (nI_clamp (by omega)))
    refine lv_aload_n hx hb dLw_law_224 rfl (lv_at hl 0 rfl) ?_
    refine lv_iload_n hx hb dLw_law_225 rfl (lv_at hl 3 rfl) ?_
    refine lv_iconst (v := 2) hx hb dLw_law_226 (by decide) ?_
    refine lv_iadd hx hb dLw_law_227 ?_
    refine lv_topi (fun y_3 ey_3 => ?_)
    obtain rfl : y_3 = nI (i + 2) := ey_3.trans (nI_add i 2)
    refine va_sld hx hb hX hbl hbA hS (vp_in_nI (show (i + 2) < L by omega) (by omega)) dLw_law_228 ?_
    refine lv_topi (fun y_4 ey_4 => ?_)
    obtain rfl : y_4 = xs (i + 2) := ey_4.trans (congrArg xs (nI_clamp (by omega)))
    refine lx_ri (As := [.int (xs (i + 1)), .int (xs (i + 2))]) (rest := []) ⟨hx, hb, hml, hown, hts⟩ (c_Ex_told_no l D cI cP cR b hd E (xs (i + 1)) (xs (i + 2)) hno) mEx_told lLw_32 iEx_told ⟨Nat.le_of_ble_eq_true rfl, Nat.le_of_ble_eq_true rfl⟩ ⟨rfl, rfl⟩ hKX hN hPX rfl hl.1 rfl (Nat.le_of_ble_eq_true rfl) dLw_law_229 ⟨Nat.le_of_ble_eq_true rfl, Nat.le_of_ble_eq_true rfl⟩ (fun r_5 er_5 => ?_)
    obtain rfl : r_5 = (-1) := er_5
    refine lv_aload_n hx hb dLw_law_232 rfl (lv_at hl 2 rfl) ?_
    refine lv_aload_n hx hb dLw_law_233 rfl (lv_at hl 0 rfl) ?_
    refine lv_iload_n hx hb dLw_law_234 rfl (lv_at hl 3 rfl) ?_
    refine lv_iconst (v := 1) hx hb dLw_law_235 (by decide) ?_
    refine lv_iadd hx hb dLw_law_236 ?_
    refine lv_topi (fun y_6 ey_6 => ?_)
    obtain rfl : y_6 = nI (i + 1) := ey_6.trans (nI_add i 1)
    refine va_sld hx hb hX hbl hbA hS (vp_in_nI (show (i + 1) < L by omega) (by omega)) dLw_law_237 ?_
    refine lv_topi (fun y_7 ey_7 => ?_)
    obtain rfl : y_7 = xs (i + 1) := ey_7.trans (congrArg xs (nI_clamp (by omega)))
    refine lv_aload_n hx hb dLw_law_238 rfl (lv_at hl 0 rfl) ?_
    refine lv_iload_n hx hb dLw_law_239 rfl (lv_at hl 3 rfl) ?_
    refine lv_iconst (v := 2) hx hb dLw_law_240 (by decide) ?_
    refine lv_iadd hx hb dLw_law_241 ?_
    refine lv_topi (fun y_8 ey_8 => ?_)
    obtain rfl : y_8 = nI (i + 2) := ey_8.trans (nI_add i 2)
    refine va_sld hx hb hX hbl hbA hS (vp_in_nI (show (i + 2) < L by omega) (by omega)) dLw_law_242 ?_
    refine lv_topi (fun y_9 ey_9 => ?_)
    obtain rfl : y_9 = xs (i + 2) := ey_9.trans (congrArg xs (nI_clamp (by omega)))
    refine lm_ri (As := [.int (xs (i + 1)), .int (xs (i + 2))]) (rest := [.int (-1)]) ⟨hx, hb, hml, hown, hts⟩ (c_Md_told_no l D cI cZ a g (xs (i + 1)) (xs (i + 2)) hno) mMd_told lLw_36 iMd_told ⟨Nat.le_of_ble_eq_true rfl, Nat.le_of_ble_eq_true rfl⟩ ⟨rfl, rfl⟩ hKM hPM rfl hl.1 rfl (Nat.le_of_ble_eq_true rfl) dLw_law_243 ⟨Nat.le_of_ble_eq_true rfl, Nat.le_of_ble_eq_true rfl⟩ (fun r_10 er_10 => ?_)
    obtain rfl : r_10 = (-1) := er_10
    refine lv_icmp_eq (tgt := 321) hx hb dLw_law_246 (by decide) (fun c_11 => ?_) (fun c_11 => ?_)
    · -- 246 taken
      refine lv_iinc (v := nI (i + 4)) (lv' := [(3, .int (nI (i + 4))), (0, .ref sb), (1, .ref (b 0)), (2, .ref (a 0))]) hx hb dLw_law_321 hl (k := 3) rfl (nI_add i 4) (by decide) rfl (fun ls hl => ?_)
      refine lv_goto (tgt := 18) hx hb dLw_law_324 (by decide) ?_
      exact K E g _ _ _ (hLR) hPX hPM hS (lv_sub hl [1, 2, 3, 0] rfl)
    · -- 246 not taken
      exact absurd c_11 (by decide)
  ·
    obtain ⟨pn, hp6, e1⟩ := isI_ex (N := 6) (by decide) (eq_true_of_ne_false (fun q => hno (Or.inl q)))
    obtain ⟨k, hk, e2⟩ := isI_ex (N := 8) (by decide) (eq_true_of_ne_false (fun q => hno (Or.inr (q))))
    refine lv_aload_n hx hb dLw_law_218 rfl (lv_at hl 1 rfl) ?_
    refine lv_aload_n hx hb dLw_law_219 rfl (lv_at hl 0 rfl) ?_
    refine lv_iload_n hx hb dLw_law_220 rfl (lv_at hl 3 rfl) ?_
    refine lv_iconst (v := 1) hx hb dLw_law_221 (by decide) ?_
    refine lv_iadd hx hb dLw_law_222 ?_
    refine lv_topi (fun y_12 ey_12 => ?_)
    obtain rfl : y_12 = nI (i + 1) := ey_12.trans (nI_add i 1)
    refine va_sld hx hb hX hbl hbA hS (vp_in_nI (show (i + 1) < L by omega) (by omega)) dLw_law_223 ?_
    refine lv_topi (fun y_13 ey_13 => ?_)
    obtain rfl : y_13 = nI pn := ey_13.trans ((congrArg xs (nI_clamp (by omega))).trans e1)
    refine lv_aload_n hx hb dLw_law_224 rfl (lv_at hl 0 rfl) ?_
    refine lv_iload_n hx hb dLw_law_225 rfl (lv_at hl 3 rfl) ?_
    refine lv_iconst (v := 2) hx hb dLw_law_226 (by decide) ?_
    refine lv_iadd hx hb dLw_law_227 ?_
    refine lv_topi (fun y_14 ey_14 => ?_)
    obtain rfl : y_14 = nI (i + 2) := ey_14.trans (nI_add i 2)
    refine va_sld hx hb hX hbl hbA hS (vp_in_nI (show (i + 2) < L by omega) (by omega)) dLw_law_228 ?_
    refine lv_topi (fun y_15 ey_15 => ?_)
    obtain rfl : y_15 = nI k := ey_15.trans ((congrArg xs (nI_clamp (by omega))).trans e2)
    refine lx_ri (As := [.int (nI pn), .int (nI k)]) (rest := []) ⟨hx, hb, hml, hown, hts⟩ (c_Ex_told l D cI cP cR b hd E pn k hp6 hk) mEx_told lLw_32 iEx_told ⟨Nat.le_of_ble_eq_true rfl, Nat.le_of_ble_eq_true rfl⟩ ⟨rfl, rfl⟩ hKX hN hPX rfl hl.1 rfl (Nat.le_of_ble_eq_true rfl) dLw_law_229 ⟨Nat.le_of_ble_eq_true rfl, Nat.le_of_ble_eq_true rfl⟩ (fun r_16 er_16 => ?_)
    obtain rfl : r_16 = xeTold E pn k := er_16
    refine lv_aload_n hx hb dLw_law_232 rfl (lv_at hl 2 rfl) ?_
    refine lv_aload_n hx hb dLw_law_233 rfl (lv_at hl 0 rfl) ?_
    refine lv_iload_n hx hb dLw_law_234 rfl (lv_at hl 3 rfl) ?_
    refine lv_iconst (v := 1) hx hb dLw_law_235 (by decide) ?_
    refine lv_iadd hx hb dLw_law_236 ?_
    refine lv_topi (fun y_17 ey_17 => ?_)
    obtain rfl : y_17 = nI (i + 1) := ey_17.trans (nI_add i 1)
    refine va_sld hx hb hX hbl hbA hS (vp_in_nI (show (i + 1) < L by omega) (by omega)) dLw_law_237 ?_
    refine lv_topi (fun y_18 ey_18 => ?_)
    obtain rfl : y_18 = nI pn := ey_18.trans ((congrArg xs (nI_clamp (by omega))).trans e1)
    refine lv_aload_n hx hb dLw_law_238 rfl (lv_at hl 0 rfl) ?_
    refine lv_iload_n hx hb dLw_law_239 rfl (lv_at hl 3 rfl) ?_
    refine lv_iconst (v := 2) hx hb dLw_law_240 (by decide) ?_
    refine lv_iadd hx hb dLw_law_241 ?_
    refine lv_topi (fun y_19 ey_19 => ?_)
    obtain rfl : y_19 = nI (i + 2) := ey_19.trans (nI_add i 2)
    refine va_sld hx hb hX hbl hbA hS (vp_in_nI (show (i + 2) < L by omega) (by omega)) dLw_law_242 ?_
    refine lv_topi (fun y_20 ey_20 => ?_)
    obtain rfl : y_20 = nI k := ey_20.trans ((congrArg xs (nI_clamp (by omega))).trans e2)
    refine lm_ri (As := [.int (nI pn), .int (nI k)]) (rest := [.int (xeTold E pn k)]) ⟨hx, hb, hml, hown, hts⟩ (c_Md_told l D cI cZ a g pn k hp6 hk) mMd_told lLw_36 iMd_told ⟨Nat.le_of_ble_eq_true rfl, Nat.le_of_ble_eq_true rfl⟩ ⟨rfl, rfl⟩ hKM hPM rfl hl.1 rfl (Nat.le_of_ble_eq_true rfl) dLw_law_243 ⟨Nat.le_of_ble_eq_true rfl, Nat.le_of_ble_eq_true rfl⟩ (fun r_21 er_21 => ?_)
    obtain rfl : r_21 = (if qRan g pn = true then qTold g (pn * 8 + k) else -3) := er_21
    refine lv_icmp_eq (tgt := 321) hx hb dLw_law_246 (by decide) (fun c_22 => ?_) (fun c_22 => ?_)
    · -- 246 taken
      refine lv_iinc (v := nI (i + 4)) (lv' := [(3, .int (nI (i + 4))), (0, .ref sb), (1, .ref (b 0)), (2, .ref (a 0))]) hx hb dLw_law_321 hl (k := 3) rfl (nI_add i 4) (by decide) rfl (fun ls hl => ?_)
      refine lv_goto (tgt := 18) hx hb dLw_law_324 (by decide) ?_
      exact K E g _ _ _ (hLR) hPX hPM hS (lv_sub hl [1, 2, 3, 0] rfl)
    · -- 246 not taken
      exact absurd ((hLR.told hp6 hk).symm) c_22
