theorem LR_00 : LR E00 m00 := by
  refine ⟨fun j hj => ⟨⟨Nat.zero_le _, fun i hi => absurd hi (Nat.not_lt_zero i)⟩, rfl, fun i hi => ⟨rfl, rfl⟩⟩, fun j hj => ⟨rfl, fun q => absurd (show false = true from q) (by decide), fun k hk => rfl⟩, rfl, rfl, rfl, rfl⟩
theorem ex_blind {D : va_G} {cI cP cR : ClassId} {h0 sz : Nat} : FrameBlind (exPc D cI cP cR h0 sz) := fun a U g mk q => ⟨q.1, q.2.1, q.2.2.1, va_K.moved (u := U) (U := U.calling g mk a) (Vm.Alike.refl U.vm) q.2.2.2.1, va_AO.moved (u := U) (U := U.calling g mk a) (Vm.Alike.refl U.vm) q.2.2.2.2.1, va_AO.moved (u := U) (U := U.calling g mk a) (Vm.Alike.refl U.vm) q.2.2.2.2.2.1, va_Nw.same rfl (u := U) (U := U.calling g mk a) rfl q.2.2.2.2.2.2⟩
theorem md_blind {D : va_G} {cI cZ : ClassId} {av : List Value} {ws : va_W} {sz : Nat} : FrameBlind (va_Pc av (fun U => U.heap.size = sz ∧ va_P D vwCl ws U.heap ∧ va_K D vwCl [(cI, .int), (cZ, .boolean)] U)) := fun a U g mk q => ⟨q.1, q.2.1, q.2.2.1, va_K.moved (u := U) (U := U.calling g mk a) (Vm.Alike.refl U.vm) q.2.2.2⟩
theorem dvEx : ∀ j, j < 6 → defaultValue (tyEx j) = vp_V [.null, .null, .long 0, .int 0, .int 0, .int 0] j := by
  intro j hj
  rcases (show j = 0 ∨ j = 1 ∨ j = 2 ∨ j = 3 ∨ j = 4 ∨ j = 5 by omega) with rfl | rfl | rfl | rfl | rfl | rfl <;> rfl
theorem dvMd : ∀ j, j < 27 → defaultValue (tyMd j) = vp_V [.null, .null, .null, .null, .null, .null, .long 0, .int 0, .int 0, .int 0, .null, .null, .null, .int 0, .null, .null, .int 0, .int 0, .int 0, .int 0, .int 0, .int 0, .int 0, .int 0, .int 0, .int 0, .int 0] j := by
  intro j hj
  rcases (show j = 0 ∨ j = 1 ∨ j = 2 ∨ j = 3 ∨ j = 4 ∨ j = 5 ∨ j = 6 ∨ j = 7 ∨ j = 8 ∨ j = 9 ∨ j = 10 ∨ j = 11 ∨ j = 12 ∨ j = 13 ∨ j = 14 ∨ j = 15 ∨ j = 16 ∨ j = 17 ∨ j = 18 ∨ j = 19 ∨ j = 20 ∨ j = 21 ∨ j = 22 ∨ j = 23 ∨ j = 24 ∨ j = 25 ∨ j = 26 by omega) with rfl | rfl | rfl | rfl | rfl | rfl | rfl | rfl | rfl | rfl | rfl | rfl | rfl | rfl | rfl | rfl | rfl | rfl | rfl | rfl | rfl | rfl | rfl | rfl | rfl | rfl | rfl <;> rfl
set_option maxHeartbeats 8000000 in
set_option maxRecDepth 100000 in
theorem whole_start {p : Program} {e : Env} {s : State} {m : MethodId} {below : List Frame} {meth : Method} {c : Code} (l : Launch) {b L : Nat} {xs : Nat → Int32} (hL : L ≤ 2048) (C0 : lw_At p s m meth c b L xs) : W p l e room_1 s m #[Value.ref b] below meth c s.heap [] 0 0 (lw_Z below #[Value.ref b] s) (entryFrame m ([Value.ref b] : List Value).toArray 4) := by
  obtain ⟨hx, hb, hr, hml, hown, hts, hX, hbl, hlocks, hgv⟩ := id C0
  have htw : ∀ w ∈ ce_W, w.before #[Value.ref b] s = true := fun w h => hts w (ce_tbl w h)
  have hA : ∀ q : Nat, s.heap.size ≤ q → (fun q : Nat => s.heap.size ≤ q) q := fun _ h => h
  obtain ⟨c0, iS0, hKn0⟩ := u_known (C := RPg) (T := TPg) (N := 3) (n := 3) htw ce_iP (htw _ inPg)
  obtain ⟨c1, iS1, hKn1⟩ := u_known (C := RRn) (T := TRn) (N := 14) (n := 14) htw ce_iR (htw _ inRn)
  obtain ⟨c2, iS2, hKn2⟩ := u_known (C := REx) (T := TEx) (N := 6) (n := 6) htw cx_iX (htw _ inEx)
  obtain ⟨c3, iS3, hKn3⟩ := u_known (C := RMd) (T := TMd) (N := 27) (n := 27) htw cm_iM (htw _ inMd)
  obtain ⟨D, hKc⟩ : ∃ D : va_G, ∀ (k : Nat) (q : vw_C), vwCl[k]? = some q → u_Kn s q.1 q.2.1 q.2.2 (D.1 k) (D.2 k) := by
    refine ⟨(fun k => if k = 0 then c0 else if k = 1 then c1 else if k = 2 then c2 else c3, fun k => if k = 0 then iS0 else if k = 1 then iS1 else if k = 2 then iS2 else iS3), ?_⟩
    intro k q hq
    match k, hq with
    | 0, hq => cases hq; exact hKn0
    | 1, hq => cases hq; exact hKn1
    | 2, hq => cases hq; exact hKn2
    | 3, hq => cases hq; exact hKn3
    | k + 4, hq => simp [vwCl] at hq
  obtain ⟨cI, kI⟩ := arr_K (htw _ arr_int) (fun C h => by cases h)
  obtain ⟨cZ, kZ⟩ := arr_K (htw _ arr_boolean) (fun C h => by cases h)
  have oP : (Cond.arrayOver (.object RPg)).before #[Value.ref b] s = true := hts _ (by decide +kernel)
  have oR : (Cond.arrayOver (.object RRn)).before #[Value.ref b] s = true := hts _ (by decide +kernel)
  obtain ⟨cP, kP⟩ := va_RAO oP
  obtain ⟨cR, kR⟩ := va_RAO oR
  have hKX : va_K D vwCl [(cI, .int), (cP, .object RPg), (cR, .object RRn)] s := ⟨hKc, fun k q h => by
    match k, h with
    | 0, h => cases h; exact kI
    | 1, h => cases h; exact kP
    | 2, h => cases h; exact kR
    | k + 3, h => simp at h⟩
  have hKM : va_K D vwCl [(cI, .int), (cZ, .boolean)] s := ⟨hKc, fun k q h => by
    match k, h with
    | 0, h => cases h; exact kI
    | 1, h => cases h; exact kZ
    | k + 2, h => simp at h⟩
  have hN : ce_N s := va_Nw.of rfl (hts (.methodLinkNest RRn 22 yEx_isWithin "CaseExecutor") (by decide +kernel))
  have hNe : va_Nw (.methodLinkNest REx 21 yPg_init "CaseExecutor") s := va_Nw.of rfl (hts (.methodLinkNest REx 21 yPg_init "CaseExecutor") (by decide +kernel))
  have hS : va_S (fun q : Nat => s.heap.size ≤ q) s.heap s.heap [] := va_S.rf
  have hP : va_P D vwCl [] s.heap := fun k q h => by simp at h
  have hD : va_D (fun q : Nat => s.heap.size ≤ q) [] := ⟨fun i j p q h => by simp at h, fun k q h => by simp at h⟩
  have hl := lv_entry ([.ref b]) (n := 4) (Nat.le_of_ble_eq_true rfl)
  rw [lg_entry_eq]
  generalize (lg_sl ([.ref b]) ++ List.replicate (4 - (lg_sl ([.ref b])).length) Slot.unset).toArray = ls at hl ⊢
  have hl : lv_has ls 4 [(0, .ref b)] := hl
  refine va_new (ci := 2) (C := REx) (T := TEx) (N := 6) (fs := [.null, .null, .long 0, .int 0, .int 0, .int 0]) hx hb htw cx_iX tyEx tyEx_ok hown (htw _ lLw_7) (htw _ inEx) (htw _ iniEx) hKX hP hD hS hA rfl dvEx (Nat.le_of_ble_eq_true rfl) (Nat.le_of_ble_eq_true rfl) dLw_law_0 (fun q0 H hP hD hS => ?_)
  have hP : va_P D vwCl [(q0, .inr (2, [.null, .null, .long 0, .int 0, .int 0, .int 0]))] H := hP
  have hq0 : s.heap.size ≤ q0 := hD.2 0 _ rfl
  refine W.widen (k := 1) (n := 6) (by omega) (by omega) ?_
  refine lv_dup hx hb dLw_law_3 rfl ?_
  have hfA := fr1 (v := .inr (2, [.null, .null, .long 0, .int 0, .int 0, .int 0])) (A := fun q : Nat => s.heap.size ≤ q) hq0 (fun x (h : H.size ≤ x) => Nat.le_trans hS.1 h)
  refine va_callv (va_runI (b := q0) (As := []) (rest := [.ref q0]) ⟨hx, hb, hml, hown, hts⟩ (c_Ex_init l D cI cP cR q0 H.size) (ce_cI hts (ce_goodL mEx_init.1) mEx_init rfl rfl lLw_9 iEx_init rfl ⟨Nat.le_of_ble_eq_true rfl, Nat.le_of_ble_eq_true rfl⟩ ce_tbl) ⟨ex_blind, fun U hU hW => ⟨rfl, by rw [hU], by rw [hU]; exact hP, va_K.moved hW.alike hKX, va_AO.moved hW.alike (va_AO.of oP), va_AO.moved hW.alike (va_AO.of oR), va_Nw.warmM hW hNe⟩⟩ rfl rfl hl.1 rfl (lv_room (Nat.le_of_ble_eq_true rfl)) dLw_law_4 ⟨Nat.le_of_ble_eq_true rfl, Nat.le_of_ble_eq_true rfl⟩) hS (fun q _ h => hfA q h) hfA (fun bb t H1 locs1 ht _ hp hB hsz1 hk1 hS1 => ?_)
  obtain ⟨hb0, hdX, hbF⟩ := hp
  have hPX : va_P D vwCl (wX bb cI cP cR E00) H1 := ht ▸ hB
  have hbS : ∀ q, aX bb q → s.heap.size ≤ q := by
    rintro q ⟨i, hi, rfl⟩
    by_cases c : i = 0
    · subst c
      rw [hb0]
      exact hq0
    · exact Nat.le_trans hS.1 (hbF i (by omega) hi)
  clear hB hk1 hP hD hfA hsz1 ht
  refine W.widen (k := 39) (n := 348) (Nat.le_of_ble_eq_true rfl) (Nat.le_of_ble_eq_true rfl) ?_
  refine lv_astore_n (lv' := [(1, .ref q0), (0, .ref b)]) hx hb dLw_law_7 rfl hl (by decide) rfl (fun ls hl => ?_)
  have hDX : va_D (fun q : Nat => s.heap.size ≤ q) (wX bb cI cP cR E00) := ⟨(dDX hdX cI cP cR E00).1, fun k q hk => hbS _ ((dDX hdX cI cP cR E00).2 k q hk)⟩
  refine va_new (ci := 3) (C := RMd) (T := TMd) (N := 27) (fs := [.null, .null, .null, .null, .null, .null, .long 0, .int 0, .int 0, .int 0, .null, .null, .null, .int 0, .null, .null, .int 0, .int 0, .int 0, .int 0, .int 0, .int 0, .int 0, .int 0, .int 0, .int 0, .int 0]) hx hb htw cm_iM tyMd tyMd_ok hown (htw _ lLw_10) (htw _ inMd) (htw _ iniMd) hKM hPX hDX hS1 hA rfl dvMd (Nat.le_of_ble_eq_true rfl) (Nat.le_of_ble_eq_true rfl) dLw_law_8 (fun q1 H2 hP hD hS => ?_)
  have hq1 : s.heap.size ≤ q1 := hD.2 39 (q1, .inr (3, [.null, .null, .null, .null, .null, .null, .long 0, .int 0, .int 0, .int 0, .null, .null, .null, .int 0, .null, .null, .int 0, .int 0, .int 0, .int 0, .int 0, .int 0, .int 0, .int 0, .int 0, .int 0, .int 0])) rfl
  have hPX : va_P D vwCl (wX bb cI cP cR E00) H2 := vP_mem.mpr (fun q hq => vP_mem.mp hP q (List.mem_append_left _ hq))
  have hPq : va_P D vwCl [(q1, .inr (3, [.null, .null, .null, .null, .null, .null, .long 0, .int 0, .int 0, .int 0, .null, .null, .null, .int 0, .null, .null, .int 0, .int 0, .int 0, .int 0, .int 0, .int 0, .int 0, .int 0, .int 0, .int 0, .int 0]))] H2 := vP_mem.mpr (fun q hq => vP_mem.mp hP q (List.mem_append_right _ hq))
  have hne : ∀ i, i < 39 → bb i ≠ q1 := by
    intro i hi e9
    obtain ⟨x, x1, x2⟩ : ∃ x : Nat × va_E, (wX bb cI cP cR E00)[i]? = some x ∧ x.1 = bb i := by
      have h1 : ((wX bb cI cP cR E00).map Prod.fst)[i]? = some (bb i) := by
        rw [wX_fst, List.getElem?_map, List.getElem?_range hi]
        rfl
      rw [List.getElem?_map] at h1
      cases hx9 : (wX bb cI cP cR E00)[i]? with
      | none => rw [hx9] at h1; cases h1
      | some x => rw [hx9] at h1; exact ⟨x, rfl, Option.some.inj h1⟩
    have x3 : (wX bb cI cP cR E00 ++ [(q1, .inr (3, [.null, .null, .null, .null, .null, .null, .long 0, .int 0, .int 0, .int 0, .null, .null, .null, .int 0, .null, .null, .int 0, .int 0, .int 0, .int 0, .int 0, .int 0, .int 0, .int 0, .int 0, .int 0, .int 0]))])[i]? = some x := by
      rw [List.getElem?_append_left (show i < (wX bb cI cP cR E00).length from hi)]
      exact x1
    have := hD.1 i 39 x (q1, .inr (3, [.null, .null, .null, .null, .null, .null, .long 0, .int 0, .int 0, .int 0, .null, .null, .null, .int 0, .null, .null, .int 0, .int 0, .int 0, .int 0, .int 0, .int 0, .int 0, .int 0, .int 0, .int 0, .int 0])) x3 rfl (x2.trans e9)
    omega
  have hlt : ∀ i, i < 39 → bb i < H2.size := by
    intro i hi
    obtain ⟨x, x1, x2⟩ : ∃ x : Nat × va_E, (wX bb cI cP cR E00)[i]? = some x ∧ x.1 = bb i := by
      have h1 : ((wX bb cI cP cR E00).map Prod.fst)[i]? = some (bb i) := by
        rw [wX_fst, List.getElem?_map, List.getElem?_range hi]
        rfl
      rw [List.getElem?_map] at h1
      cases hx9 : (wX bb cI cP cR E00)[i]? with
      | none => rw [hx9] at h1; cases h1
      | some x => rw [hx9] at h1; exact ⟨x, rfl, Option.some.inj h1⟩
    rw [← x2]
    exact (hPX i x x1).lt
  clear hP hD hDX
  refine W.widen (k := 40) (n := 375) (Nat.le_of_ble_eq_true rfl) (Nat.le_of_ble_eq_true rfl) ?_
  refine lv_dup hx hb dLw_law_11 rfl ?_
  have hfA := fr1 (v := .inr (3, [.null, .null, .null, .null, .null, .null, .long 0, .int 0, .int 0, .int 0, .null, .null, .null, .int 0, .null, .null, .int 0, .int 0, .int 0, .int 0, .int 0, .int 0, .int 0, .int 0, .int 0, .int 0, .int 0])) (A := fun q : Nat => s.heap.size ≤ q) hq1 (fun x (h : H2.size ≤ x) => Nat.le_trans hS.1 h)
  refine va_callv (va_runI (b := q1) (As := []) (rest := [.ref q1]) ⟨hx, hb, hml, hown, hts⟩ (c_Md_init l D cI cZ q1 H2.size) (ce_cI hts (ce_goodL mMd_init.1) mMd_init rfl rfl lLw_12 iMd_init rfl ⟨Nat.le_of_ble_eq_true rfl, Nat.le_of_ble_eq_true rfl⟩ ce_tbl) ⟨md_blind, fun U hU hW => ⟨rfl, by rw [hU], by rw [hU]; exact hPq, va_K.moved hW.alike hKM⟩⟩ rfl rfl hl.1 rfl (lv_room (Nat.le_of_ble_eq_true rfl)) dLw_law_12 ⟨Nat.le_of_ble_eq_true rfl, Nat.le_of_ble_eq_true rfl⟩) hS (fun q _ h => hfA q h) hfA (fun aa t H3 locs3 ht _ hp hB hsz3 hk3 hS3 => ?_)
  obtain ⟨ha0, hdM, haF⟩ := hp
  have hPM : va_P D vwCl (wM aa cI cZ m00) H3 := ht ▸ hB
  have hPX : va_P D vwCl (wX bb cI cP cR E00) H3 := by
    refine hPX.kept (fun k q hq => hk3 q.1 (hPX k q hq).lt ?_)
    obtain ⟨i, hi, e9⟩ := (dDX hdX cI cP cR E00).2 k q hq
    rintro (⟨j, v9, hj⟩ | h9)
    · match j, hj with
      | 0, hj =>
        have e0 : q1 = q.1 := congrArg Prod.fst (Option.some.inj hj)
        exact hne i hi (e9.symm.trans e0.symm)
      | j + 1, hj => simp at hj
    · have := hlt i hi
      omega
  have hba : apart aa bb := by
    intro i j hi hj e9
    by_cases c : j = 0
    · subst c
      rw [ha0] at e9
      exact hne i hi e9
    · have h1 := hlt i hi
      have h2 := haF j (by omega) hj
      omega
  have haS : ∀ q, aM aa q → s.heap.size ≤ q := by
    rintro q ⟨i, hi, rfl⟩
    by_cases c : i = 0
    · subst c
      rw [ha0]
      exact hq1
    · exact Nat.le_trans hS.1 (haF i (by omega) hi)
  clear hB hk3 hfA hsz3 ht
  refine W.widen (k := 51) (n := 706) (Nat.le_of_ble_eq_true rfl) (Nat.le_of_ble_eq_true rfl) ?_
  refine lv_astore_n (lv' := [(2, .ref q1), (1, .ref q0), (0, .ref b)]) hx hb dLw_law_15 rfl hl (by decide) rfl (fun ls hl => ?_)
  refine lv_iconst (v := 0) hx hb dLw_law_16 (by decide) ?_
  refine lv_istore_n (lv' := [(3, .int 0), (2, .ref q1), (1, .ref q0), (0, .ref b)]) hx hb dLw_law_17 rfl hl (by decide) rfl (fun ls hl => ?_)
  refine law_loop hL C0 hKX hKM hN hdX hdM hba hbS haS (L + 1) 0 (Nat.zero_le _) (by omega) E00 m00 H3 locs3 ls LR_00 hPX hPM hS3 ?_
  rw [hb0, ha0]
  exact lv_sub hl [3, 2, 1, 0] rfl
