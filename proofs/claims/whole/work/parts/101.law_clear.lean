set_option maxHeartbeats 8000000 in
set_option maxRecDepth 100000 in
theorem law_clear {p : Program} {l : Launch} {e : Env} {s : State} {m : MethodId} {below : List Frame} {meth : Method} {c : Code} {D : va_G} {cI cP cR cZ : ClassId} {sb L : Nat} {xs : Nat → Int32} {a b : Nat → Nat} (hL : L ≤ 2048) (C0 : lw_At p s m meth c sb L xs) (hKX : va_K D vwCl [(cI, .int), (cP, .object RPg), (cR, .object RRn)] s) (hKM : va_K D vwCl [(cI, .int), (cZ, .boolean)] s) (hN : ce_N s) (hd : dX b) (hdM : dM a) (hba : apart a b) (hbS : ∀ q, aX b q → s.heap.size ≤ q) (haS : ∀ q, aM a q → s.heap.size ≤ q) {i : Nat} (hi4 : i + 4 ≤ L) (K : ∀ (E : XS) (g : MS) (H : Heap) (locs : List Loc) (ls : Array Slot), LR E g → va_P D vwCl (wX b cI cP cR E) H → va_P D vwCl (wM a cI cZ g) H → va_S (fun q : Nat => s.heap.size ≤ q) s.heap H locs → lv_has ls 4 [(0, .ref sb), (1, .ref (b 0)), (2, .ref (a 0)), (3, .int (nI (i + 4)))] → W p l e room_1 s m #[Value.ref sb] below meth c H locs 51 706 (lw_Z below #[Value.ref sb] s) (F0 m 18 ls [])) : ∀ (E : XS) (g : MS) (H : Heap) (locs : List Loc) (ls : Array Slot), LR E g → va_P D vwCl (wX b cI cP cR E) H → va_P D vwCl (wM a cI cZ g) H → va_S (fun q : Nat => s.heap.size ≤ q) s.heap H locs → lv_has ls 4 [(0, .ref sb), (1, .ref (b 0)), (2, .ref (a 0)), (3, .int (nI i))] → W p l e room_1 s m #[Value.ref sb] below meth c H locs 51 706 (lw_Z below #[Value.ref sb] s) (F0 m 123 ls []) := by
  obtain ⟨hx, hb, hr, hml, hown, hts, hX, hbl, hlocks, hgv⟩ := C0
  have hbA : ¬ (fun q : Nat => s.heap.size ≤ q) sb := Nat.not_le.mpr hbl
  intro E g H locs ls hLR hPX hPM hS hl
  by_cases hno : isI (xs (i + 1)) 6 = false
  ·
    refine lv_aload_n hx hb dLw_law_123 rfl (lv_at hl 1 rfl) ?_
    refine lv_aload_n hx hb dLw_law_124 rfl (lv_at hl 0 rfl) ?_
    refine lv_iload_n hx hb dLw_law_125 rfl (lv_at hl 3 rfl) ?_
    refine lv_iconst (v := 1) hx hb dLw_law_126 (by decide) ?_
    refine lv_iadd hx hb dLw_law_127 ?_
    refine lv_topi (fun y_1 ey_1 => ?_)
    obtain rfl : y_1 = nI (i + 1) := ey_1.trans (nI_add i 1)
    refine va_sld hx hb hX hbl hbA hS (vp_in_nI (show (i + 1) < L by omega) (by omega)) dLw_law_128 ?_
    refine lv_topi (fun y_2 ey_2 => ?_)
    obtain rfl : y_2 = xs (i + 1) := ey_2.trans (congrArg xs (nI_clamp (by omega)))
    refine lx_ri (As := [.int (xs (i + 1))]) (rest := []) ⟨hx, hb, hml, hown, hts⟩ (c_Ex_clear_no l D cI cP cR b hd E (xs (i + 1)) hno) mEx_clear lLw_18 iEx_clear ⟨Nat.le_of_ble_eq_true rfl, Nat.le_of_ble_eq_true rfl⟩ ⟨rfl, rfl⟩ hKX hN hPX rfl hl.1 rfl (Nat.le_of_ble_eq_true rfl) dLw_law_129 ⟨Nat.le_of_ble_eq_true rfl, Nat.le_of_ble_eq_true rfl⟩ (fun r_3 er_3 => ?_)
    obtain rfl : r_3 = (-1) := er_3
    refine lv_aload_n hx hb dLw_law_132 rfl (lv_at hl 2 rfl) ?_
    refine lv_aload_n hx hb dLw_law_133 rfl (lv_at hl 0 rfl) ?_
    refine lv_iload_n hx hb dLw_law_134 rfl (lv_at hl 3 rfl) ?_
    refine lv_iconst (v := 1) hx hb dLw_law_135 (by decide) ?_
    refine lv_iadd hx hb dLw_law_136 ?_
    refine lv_topi (fun y_4 ey_4 => ?_)
    obtain rfl : y_4 = nI (i + 1) := ey_4.trans (nI_add i 1)
    refine va_sld hx hb hX hbl hbA hS (vp_in_nI (show (i + 1) < L by omega) (by omega)) dLw_law_137 ?_
    refine lv_topi (fun y_5 ey_5 => ?_)
    obtain rfl : y_5 = xs (i + 1) := ey_5.trans (congrArg xs (nI_clamp (by omega)))
    refine lm_ri (As := [.int (xs (i + 1))]) (rest := [.int (-1)]) ⟨hx, hb, hml, hown, hts⟩ (c_Md_clear_no l D cI cZ a g (xs (i + 1)) hno) mMd_clear lLw_22 iMd_clear ⟨Nat.le_of_ble_eq_true rfl, Nat.le_of_ble_eq_true rfl⟩ ⟨rfl, rfl⟩ hKM hPM rfl hl.1 rfl (Nat.le_of_ble_eq_true rfl) dLw_law_138 ⟨Nat.le_of_ble_eq_true rfl, Nat.le_of_ble_eq_true rfl⟩ (fun r_6 er_6 => ?_)
    obtain rfl : r_6 = (-1) := er_6
    refine lv_icmp_eq (tgt := 321) hx hb dLw_law_141 (by decide) (fun c_7 => ?_) (fun c_7 => ?_)
    · -- 141 taken
      refine lv_iinc (v := nI (i + 4)) (lv' := [(3, .int (nI (i + 4))), (0, .ref sb), (1, .ref (b 0)), (2, .ref (a 0))]) hx hb dLw_law_321 hl (k := 3) rfl (nI_add i 4) (by decide) rfl (fun ls hl => ?_)
      refine lv_goto (tgt := 18) hx hb dLw_law_324 (by decide) ?_
      exact K E g _ _ _ (hLR) hPX hPM hS (lv_sub hl [1, 2, 3, 0] rfl)
    · -- 141 not taken
      exact absurd c_7 (by decide)
  ·
    obtain ⟨pn, hp6, e1⟩ := isI_ex (N := 6) (by decide) (eq_true_of_ne_false (fun q => hno (q)))
    have hq := hLR.clear hp6
    refine lv_aload_n hx hb dLw_law_123 rfl (lv_at hl 1 rfl) ?_
    refine lv_aload_n hx hb dLw_law_124 rfl (lv_at hl 0 rfl) ?_
    refine lv_iload_n hx hb dLw_law_125 rfl (lv_at hl 3 rfl) ?_
    refine lv_iconst (v := 1) hx hb dLw_law_126 (by decide) ?_
    refine lv_iadd hx hb dLw_law_127 ?_
    refine lv_topi (fun y_8 ey_8 => ?_)
    obtain rfl : y_8 = nI (i + 1) := ey_8.trans (nI_add i 1)
    refine va_sld hx hb hX hbl hbA hS (vp_in_nI (show (i + 1) < L by omega) (by omega)) dLw_law_128 ?_
    refine lv_topi (fun y_9 ey_9 => ?_)
    obtain rfl : y_9 = nI pn := ey_9.trans ((congrArg xs (nI_clamp (by omega))).trans e1)
    refine lx_vi (As := [.int (nI pn)]) (rest := []) ⟨hx, hb, hml, hown, hts⟩ (c_Ex_clear l D cI cP cR b hd E pn hp6) mEx_clear lLw_18 iEx_clear ⟨Nat.le_of_ble_eq_true rfl, Nat.le_of_ble_eq_true rfl⟩ ⟨rfl, rfl⟩ hKX hN hPX hbS hS rfl hl.1 rfl (Nat.le_of_ble_eq_true rfl) dLw_law_129 ⟨Nat.le_of_ble_eq_true rfl, Nat.le_of_ble_eq_true rfl⟩ (fun r_10 u_11 H locs er_10 hPX hk9 hS => ?_)
    obtain ⟨rfl, rfl⟩ : r_10 = 0 ∧ u_11 = xeClear E pn := ⟨congrArg (fun t => t.1) er_10, congrArg (fun t => t.2) er_10⟩
    have hPM := kept_M hdM hba hPM hk9
    refine lv_aload_n hx hb dLw_law_132 rfl (lv_at hl 2 rfl) ?_
    refine lv_aload_n hx hb dLw_law_133 rfl (lv_at hl 0 rfl) ?_
    refine lv_iload_n hx hb dLw_law_134 rfl (lv_at hl 3 rfl) ?_
    refine lv_iconst (v := 1) hx hb dLw_law_135 (by decide) ?_
    refine lv_iadd hx hb dLw_law_136 ?_
    refine lv_topi (fun y_12 ey_12 => ?_)
    obtain rfl : y_12 = nI (i + 1) := ey_12.trans (nI_add i 1)
    refine va_sld hx hb hX hbl hbA hS (vp_in_nI (show (i + 1) < L by omega) (by omega)) dLw_law_137 ?_
    refine lv_topi (fun y_13 ey_13 => ?_)
    obtain rfl : y_13 = nI pn := ey_13.trans ((congrArg xs (nI_clamp (by omega))).trans e1)
    refine lm_vi (As := [.int (nI pn)]) (rest := [.int 0]) ⟨hx, hb, hml, hown, hts⟩ (c_Md_clear l D cI cZ a hdM g pn hp6) mMd_clear lLw_22 iMd_clear ⟨Nat.le_of_ble_eq_true rfl, Nat.le_of_ble_eq_true rfl⟩ ⟨rfl, rfl⟩ hKM hPM haS hS rfl hl.1 rfl (Nat.le_of_ble_eq_true rfl) dLw_law_138 ⟨Nat.le_of_ble_eq_true rfl, Nat.le_of_ble_eq_true rfl⟩ (fun r_14 u_15 H locs er_14 hPM hk9 hS => ?_)
    obtain ⟨rfl, rfl⟩ : r_14 = 0 ∧ u_15 = mForget (zSize g (va_up (qSize g) pn 0)) pn := ⟨congrArg (fun t => t.1) er_14, congrArg (fun t => t.2) er_14⟩
    have hPX := kept_X hd hba hPX hk9
    refine lv_icmp_eq (tgt := 321) hx hb dLw_law_141 (by decide) (fun c_16 => ?_) (fun c_16 => ?_)
    · -- 141 taken
      refine lv_iinc (v := nI (i + 4)) (lv' := [(3, .int (nI (i + 4))), (0, .ref sb), (1, .ref (b 0)), (2, .ref (a 0))]) hx hb dLw_law_321 hl (k := 3) rfl (nI_add i 4) (by decide) rfl (fun ls hl => ?_)
      refine lv_goto (tgt := 18) hx hb dLw_law_324 (by decide) ?_
      exact K (xeClear E pn) (mForget (zSize g (va_up (qSize g) pn 0)) pn) _ _ _ (hq) hPX hPM hS (lv_sub hl [1, 2, 3, 0] rfl)
    · -- 141 not taken
      exact absurd c_16 (by decide)
