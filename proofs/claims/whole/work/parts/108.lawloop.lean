set_option maxHeartbeats 8000000 in
set_option maxRecDepth 100000 in
theorem law_loop {p : Program} {l : Launch} {e : Env} {s : State} {m : MethodId} {below : List Frame} {meth : Method} {c : Code} {D : va_G} {cI cP cR cZ : ClassId} {sb L : Nat} {xs : Nat → Int32} {a b : Nat → Nat} (hL : L ≤ 2048) (C0 : lw_At p s m meth c sb L xs) (hKX : va_K D vwCl [(cI, .int), (cP, .object RPg), (cR, .object RRn)] s) (hKM : va_K D vwCl [(cI, .int), (cZ, .boolean)] s) (hN : ce_N s) (hd : dX b) (hdM : dM a) (hba : apart a b) (hbS : ∀ q, aX b q → s.heap.size ≤ q) (haS : ∀ q, aM a q → s.heap.size ≤ q) : ∀ (n i : Nat), i ≤ L → L + 1 ≤ i + n → ∀ (E : XS) (g : MS) (H : Heap) (locs : List Loc) (ls : Array Slot), LR E g → va_P D vwCl (wX b cI cP cR E) H → va_P D vwCl (wM a cI cZ g) H → va_S (fun q : Nat => s.heap.size ≤ q) s.heap H locs → lv_has ls 4 [(0, .ref sb), (1, .ref (b 0)), (2, .ref (a 0)), (3, .int (nI i))] → W p l e room_1 s m #[Value.ref sb] below meth c H locs 51 706 (lw_Z below #[Value.ref sb] s) (F0 m 18 ls []) := by
  obtain ⟨hx, hb, hr, hml, hown, hts, hX, hbl, hlocks, hgv⟩ := id C0
  have hbA : ¬ (fun q : Nat => s.heap.size ≤ q) sb := Nat.not_le.mpr hbl
  intro n
  induction n with
  | zero => intro i h1 h2; exact absurd h2 (by omega)
  | succ n ih =>
    intro i hi hin E g H locs ls hLR hPX hPM hS hl
    refine lv_iload_n hx hb dLw_law_18 rfl (lv_at hl 3 rfl) ?_
    refine lv_aload_n hx hb dLw_law_19 rfl (lv_at hl 0 rfl) ?_
    refine va_slen hx hb hX hbl hbA hS dLw_law_20 ?_
    refine lv_iconst (v := 4) hx hb dLw_law_21 (by decide) ?_
    refine lv_isub hx hb dLw_law_22 ?_
    refine lv_icmp_gt (tgt := 327) hx hb dLw_law_23 (by decide) (fun c_1 => ?_) (fun c_1 => ?_)
    · refine lv_iconst (v := 1) hx hb dLw_law_327 (by decide) ?_
      refine va_forget (fun q hq => hS.2.2 q hq) ?_
      refine W.widen (k := 600000) (n := 7302250) (Nat.le_of_ble_eq_true rfl) (Nat.le_of_ble_eq_true rfl) ?_
      exact lw_ret hx hb hr hlocks dLw_law_328
    · have hi4 : i + 4 ≤ L := lw_in4 hL hi c_1
      have K := ih (i + 4) hi4 (by omega)
      refine lv_aload_n hx hb dLw_law_26 rfl (lv_at hl 0 rfl) ?_
      refine lv_iload_n hx hb dLw_law_27 rfl (lv_at hl 3 rfl) ?_
      refine va_sld hx hb hX hbl hbA hS (vp_in_nI (show i < L by omega) (by omega)) dLw_law_28 ?_
      refine lv_bipush (v := 7) hx hb dLw_law_29 (by decide) ?_
      refine lv_iand hx hb dLw_law_31 ?_
      refine lv_topi (fun y ey => ?_)
      obtain ⟨k, hk, ek⟩ := w_and7 (xs (nI i).toNatClampNeg)
      have ey2 := ey.trans ek
      clear ey ek
      rcases (show k = 0 ∨ k = 1 ∨ k = 2 ∨ k = 3 ∨ k = 4 ∨ k = 5 ∨ k = 6 ∨ k = 7 by omega) with rfl | rfl | rfl | rfl | rfl | rfl | rfl | rfl
      · obtain rfl : y = nI 0 := ey2
        refine lv_tableIn (x := nI 0) (tgt := 80) hx hb dLw_law_32 (by decide) (by decide) rfl (by decide) ?_
        exact law_add hL C0 hKX hKM hN hd hdM hba hbS haS hi4 K E g H locs ls hLR hPX hPM hS hl
      · obtain rfl : y = nI 1 := ey2
        refine lv_tableIn (x := nI 1) (tgt := 123) hx hb dLw_law_32 (by decide) (by decide) rfl (by decide) ?_
        exact law_clear hL C0 hKX hKM hN hd hdM hba hbS haS hi4 K E g H locs ls hLR hPX hPM hS hl
      · obtain rfl : y = nI 2 := ey2
        refine lv_tableIn (x := nI 2) (tgt := 146) hx hb dLw_law_32 (by decide) (by decide) rfl (by decide) ?_
        exact law_run hL C0 hKX hKM hN hd hdM hba hbS haS hi4 K E g H locs ls hLR hPX hPM hS hl
      · obtain rfl : y = nI 3 := ey2
        refine lv_tableIn (x := nI 3) (tgt := 195) hx hb dLw_law_32 (by decide) (by decide) rfl (by decide) ?_
        exact law_runAll hL C0 hKX hKM hN hd hdM hba hbS haS hi4 K E g H locs ls hLR hPX hPM hS hl
      · obtain rfl : y = nI 4 := ey2
        refine lv_tableIn (x := nI 4) (tgt := 218) hx hb dLw_law_32 (by decide) (by decide) rfl (by decide) ?_
        exact law_told hL C0 hKX hKM hN hd hdM hba hbS haS hi4 K E g H locs ls hLR hPX hPM hS hl
      · obtain rfl : y = nI 5 := ey2
        refine lv_tableIn (x := nI 5) (tgt := 251) hx hb dLw_law_32 (by decide) (by decide) rfl (by decide) ?_
        exact law_cell hL C0 hKX hKM hN hd hdM hba hbS haS hi4 K E g H locs ls hLR hPX hPM hS hl
      · obtain rfl : y = nI 6 := ey2
        refine lv_tableIn (x := nI 6) (tgt := 284) hx hb dLw_law_32 (by decide) (by decide) rfl (by decide) ?_
        exact law_counter hL C0 hKX hKM hN hd hdM hba hbS haS hi4 K E g H locs ls hLR hPX hPM hS hl
      · obtain rfl : y = nI 7 := ey2
        refine lv_tableIn (x := nI 7) (tgt := 298) hx hb dLw_law_32 (by decide) (by decide) rfl (by decide) ?_
        exact law_count hL C0 hKX hKM hN hd hdM hba hbS haS hi4 K E g H locs ls hLR hPX hPM hS hl
