set_option maxHeartbeats 8000000 in
set_option maxRecDepth 100000 in
theorem law_counter {p : Program} {l : Launch} {e : Env} {s : State} {m : MethodId} {below : List Frame} {meth : Method} {c : Code} {D : va_G} {cI cP cR cZ : ClassId} {sb L : Nat} {xs : Nat → Int32} {a b : Nat → Nat} (hL : L ≤ 2048) (C0 : lw_At p s m meth c sb L xs) (hKX : va_K D vwCl [(cI, .int), (cP, .object RPg), (cR, .object RRn)] s) (hKM : va_K D vwCl [(cI, .int), (cZ, .boolean)] s) (hN : ce_N s) (hd : dX b) (hdM : dM a) (hba : apart a b) (hbS : ∀ q, aX b q → s.heap.size ≤ q) (haS : ∀ q, aM a q → s.heap.size ≤ q) {i : Nat} (hi4 : i + 4 ≤ L) (K : ∀ (E : XS) (g : MS) (H : Heap) (locs : List Loc) (ls : Array Slot), LR E g → va_P D vwCl (wX b cI cP cR E) H → va_P D vwCl (wM a cI cZ g) H → va_S (fun q : Nat => s.heap.size ≤ q) s.heap H locs → lv_has ls 4 [(0, .ref sb), (1, .ref (b 0)), (2, .ref (a 0)), (3, .int (nI (i + 4)))] → W p l e room_1 s m #[Value.ref sb] below meth c H locs 51 706 (lw_Z below #[Value.ref sb] s) (F0 m 18 ls [])) : ∀ (E : XS) (g : MS) (H : Heap) (locs : List Loc) (ls : Array Slot), LR E g → va_P D vwCl (wX b cI cP cR E) H → va_P D vwCl (wM a cI cZ g) H → va_S (fun q : Nat => s.heap.size ≤ q) s.heap H locs → lv_has ls 4 [(0, .ref sb), (1, .ref (b 0)), (2, .ref (a 0)), (3, .int (nI i))] → W p l e room_1 s m #[Value.ref sb] below meth c H locs 51 706 (lw_Z below #[Value.ref sb] s) (F0 m 284 ls []) := by
  obtain ⟨hx, hb, hr, hml, hown, hts, hX, hbl, hlocks, hgv⟩ := C0
  have hbA : ¬ (fun q : Nat => s.heap.size ≤ q) sb := Nat.not_le.mpr hbl
  intro E g H locs ls hLR hPX hPM hS hl
  refine lv_aload_n hx hb dLw_law_284 rfl (lv_at hl 1 rfl) ?_
  refine lx_rl (As := []) (rest := []) ⟨hx, hb, hml, hown, hts⟩ (c_Ex_counter l D cI cP cR b hd E) mEx_counter lLw_41 iEx_counter ⟨Nat.le_of_ble_eq_true rfl, Nat.le_of_ble_eq_true rfl⟩ ⟨rfl, rfl⟩ hKX hN hPX rfl hl.1 rfl (Nat.le_of_ble_eq_true rfl) dLw_law_285 ⟨Nat.le_of_ble_eq_true rfl, Nat.le_of_ble_eq_true rfl⟩ (fun r_1 er_1 => ?_)
  obtain rfl : r_1 = eC E := er_1
  refine lv_aload_n hx hb dLw_law_288 rfl (lv_at hl 2 rfl) ?_
  refine lm_rl (As := []) (rest := [.long (eC E)]) ⟨hx, hb, hml, hown, hts⟩ (c_Md_counter l D cI cZ a g) mMd_counter lLw_45 iMd_counter ⟨Nat.le_of_ble_eq_true rfl, Nat.le_of_ble_eq_true rfl⟩ ⟨rfl, rfl⟩ hKM hPM rfl hl.1 rfl (Nat.le_of_ble_eq_true rfl) dLw_law_289 ⟨Nat.le_of_ble_eq_true rfl, Nat.le_of_ble_eq_true rfl⟩ (fun r_2 er_2 => ?_)
  obtain rfl : r_2 = qCtr g := er_2
  refine W.lcmp hx hb dLw_law_292 ?_
  refine lv_if_eq (tgt := 321) hx hb dLw_law_293 (by decide) (fun c_3 => ?_) (fun c_3 => ?_)
  · -- 293 taken
    refine lv_iinc (v := nI (i + 4)) (lv' := [(3, .int (nI (i + 4))), (0, .ref sb), (1, .ref (b 0)), (2, .ref (a 0))]) hx hb dLw_law_321 hl (k := 3) rfl (nI_add i 4) (by decide) rfl (fun ls hl => ?_)
    refine lv_goto (tgt := 18) hx hb dLw_law_324 (by decide) ?_
    exact K E g _ _ _ (hLR) hPX hPM hS (lv_sub hl [1, 2, 3, 0] rfl)
  · -- 293 not taken
    exact absurd (lcmp0 hLR.2.2.1) c_3
