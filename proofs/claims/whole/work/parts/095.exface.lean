set_option maxHeartbeats 8000000 in
set_option maxRecDepth 100000 in
theorem c_Ex_add_no (l : Launch) (D : va_G) (cI cP cR : ClassId) (b : Nat → Nat) (hd : dX b) (E : XS) (x y z : Int32) (hno : isI x 6 = false ∨ isI y 22 = false ∨ isI z 256 = false) : Met l yEx_add (ce_ws yEx_add cEx_add 5 (some .int)) (ce_rm 2) (cx_Pc D cI cP cR [.ref (b 0), .int x, .int y, .int z] (wX b cI cP cR E)) (vp_Si (fun r => r = -1)) 0 0 (fun _ => False) := by
  refine Met.ofW (cc := cEx_add) (maxL := 5) (ret := (some .int)) (by decide) rfl ?_
  intro p e s m args below meth c s₁ B hml hv
  obtain ⟨rfl, hP, hK, hN⟩ := hv
  have hx := B.exec
  have hb := B.bytes
  have hr := B.returns
  have hts := atoms_spec (ws := ce_ws yEx_add cEx_add 5 (some .int)) B.pre
  have hown : s.vm.findClass REx = some m.cls := findClass_of_methodNamed B.named
  have hlocks := B.notSynchronized
  have hK1 := hK.sub (tys' := [(cI, .int)]) [0] rfl
  have hl := lv_entry ([.ref (b 0), .int x, .int y, .int z]) (n := 5) (Nat.le_of_ble_eq_true rfl)
  rw [lg_entry_eq]
  generalize (lg_sl ([.ref (b 0), .int x, .int y, .int z]) ++ List.replicate (5 - (lg_sl ([.ref (b 0), .int x, .int y, .int z])).length) Slot.unset).toArray = ls at hl ⊢
  have hl : lv_has ls 5 [(0, .ref (b 0)), (1, .int x), (2, .int y), (3, .int z)] := hl
  refine lv_iload_n hx hb dEx_add_0 rfl (lv_at hl 1 rfl) ?_
  refine ce_si (As := [.int x]) (rest := []) ⟨hx, hb, hml, hown, hts⟩ (c_Ex_isProgram l D cI b (wX b cI cP cR E) x) mEx_isProgram lEx_25 sEx_isProgram (ce_hR (by omega) (by decide)) ⟨rfl, rfl⟩ hK1 hN hP rfl hl.1 rfl (Nat.le_of_ble_eq_true rfl) dEx_add_1 ⟨Nat.le_of_ble_eq_true rfl, Nat.le_of_ble_eq_true rfl⟩ (fun r_1 er_1 => ?_)
  obtain rfl : r_1 = bI (isW x 5) := er_1
  refine lv_if_eq (tgt := 26) hx hb dEx_add_4 (by decide) (fun c_2 => ?_) (fun c_2 => ?_)
  · -- 4 taken
    refine lv_iconst (v := (-1)) hx hb dEx_add_26 (by decide) ?_
    exact W.iret (v := (-1)) hx hb hr (fun t9 ht hW => ⟨(-1), rfl, rfl, ht⟩) (fun _ h => by cases h) dEx_add_27
  · -- 4 not taken
    refine lv_iload_n hx hb dEx_add_7 rfl (lv_at hl 2 rfl) ?_
    refine lv_bipush (v := 21) hx hb dEx_add_8 (by decide) ?_
    refine ce_si (As := [.int y, .int 21]) (rest := []) ⟨hx, hb, hml, hown, hts⟩ (c_Ex_isWithin l D cI b (wX b cI cP cR E) y 21) mEx_isWithin lEx_29 sEx_isWithin (ce_hR (by omega) (by decide)) ⟨rfl, rfl⟩ hK1 hN hP rfl hl.1 rfl (Nat.le_of_ble_eq_true rfl) dEx_add_10 ⟨Nat.le_of_ble_eq_true rfl, Nat.le_of_ble_eq_true rfl⟩ (fun r_3 er_3 => ?_)
    obtain rfl : r_3 = bI (isW y 21) := er_3
    refine lv_if_eq (tgt := 26) hx hb dEx_add_13 (by decide) (fun c_4 => ?_) (fun c_4 => ?_)
    · -- 13 taken
      refine lv_iconst (v := (-1)) hx hb dEx_add_26 (by decide) ?_
      exact W.iret (v := (-1)) hx hb hr (fun t9 ht hW => ⟨(-1), rfl, rfl, ht⟩) (fun _ h => by cases h) dEx_add_27
    · -- 13 not taken
      refine lv_iload_n hx hb dEx_add_16 rfl (lv_at hl 3 rfl) ?_
      refine lv_sipush (v := 255) hx hb dEx_add_17 (by decide) ?_
      refine ce_si (As := [.int z, .int 255]) (rest := []) ⟨hx, hb, hml, hown, hts⟩ (c_Ex_isWithin l D cI b (wX b cI cP cR E) z 255) mEx_isWithin lEx_29 sEx_isWithin (ce_hR (by omega) (by decide)) ⟨rfl, rfl⟩ hK1 hN hP rfl hl.1 rfl (Nat.le_of_ble_eq_true rfl) dEx_add_20 ⟨Nat.le_of_ble_eq_true rfl, Nat.le_of_ble_eq_true rfl⟩ (fun r_5 er_5 => ?_)
      obtain rfl : r_5 = bI (isW z 255) := er_5
      refine lv_if_ne (tgt := 28) hx hb dEx_add_23 (by decide) (fun c_6 => ?_) (fun c_6 => ?_)
      · -- 23 taken
        exact absurd hno (by rw [(isW_6 _).symm.trans (bI1 c_2), (isW_22 _).symm.trans (bI1 c_4), (isW_256 _).symm.trans (bI1 c_6)]; decide)
      · -- 23 not taken
        refine lv_iconst (v := (-1)) hx hb dEx_add_26 (by decide) ?_
        exact W.iret (v := (-1)) hx hb hr (fun t9 ht hW => ⟨(-1), rfl, rfl, ht⟩) (fun _ h => by cases h) dEx_add_27
set_option maxHeartbeats 8000000 in
set_option maxRecDepth 100000 in
theorem c_Ex_add (l : Launch) (D : va_G) (cI cP cR : ClassId) (b : Nat → Nat) (hd : dX b) (E : XS) (pn o g : Nat) (hp6 : pn < 6) (ho : o < 22) (hg : g < 256) (hz : gZ (eP E pn) ≤ 14) : Met l yEx_add (ce_ws yEx_add cEx_add 5 (some .int)) (ce_rm 2) (cx_Pc D cI cP cR [.ref (b 0), .int (nI pn), .int (nI o), .int (nI g)] (wX b cI cP cR E)) (va_Qi (fun r E2 => (r, E2) = xeAdd E pn o g) (fun E2 t => va_P D vwCl (wX b cI cP cR E2) t.heap) (aX b)) 0 0 (aX b) := by
  refine Met.ofW (cc := cEx_add) (maxL := 5) (ret := (some .int)) (by decide) rfl ?_
  intro p e s m args below meth c s₁ B hml hv
  obtain ⟨rfl, hP, hK, hN⟩ := hv
  have hx := B.exec
  have hb := B.bytes
  have hr := B.returns
  have hts := atoms_spec (ws := ce_ws yEx_add cEx_add 5 (some .int)) B.pre
  have hown : s.vm.findClass REx = some m.cls := findClass_of_methodNamed B.named
  have hlocks := B.notSynchronized
  have hK1 := hK.sub (tys' := [(cI, .int)]) [0] rfl
  have hS : va_S (aX b) s.heap s.heap [] := va_S.rf
  have hl := lv_entry ([.ref (b 0), .int (nI pn), .int (nI o), .int (nI g)]) (n := 5) (Nat.le_of_ble_eq_true rfl)
  rw [lg_entry_eq]
  generalize (lg_sl ([.ref (b 0), .int (nI pn), .int (nI o), .int (nI g)]) ++ List.replicate (5 - (lg_sl ([.ref (b 0), .int (nI pn), .int (nI o), .int (nI g)])).length) Slot.unset).toArray = ls at hl ⊢
  have hl : lv_has ls 5 [(0, .ref (b 0)), (1, .int (nI pn)), (2, .int (nI o)), (3, .int (nI g))] := hl
  refine lv_iload_n hx hb dEx_add_0 rfl (lv_at hl 1 rfl) ?_
  refine ce_si (As := [.int (nI pn)]) (rest := []) ⟨hx, hb, hml, hown, hts⟩ (c_Ex_isProgram l D cI b (wX b cI cP cR E) (nI pn)) mEx_isProgram lEx_25 sEx_isProgram (ce_hR (by omega) (by decide)) ⟨rfl, rfl⟩ hK1 hN hP rfl hl.1 rfl (Nat.le_of_ble_eq_true rfl) dEx_add_1 ⟨Nat.le_of_ble_eq_true rfl, Nat.le_of_ble_eq_true rfl⟩ (fun r_1 er_1 => ?_)
  obtain rfl : r_1 = bI (isW (nI pn) 5) := er_1
  refine lv_if_eq (tgt := 26) hx hb dEx_add_4 (by decide) (fun c_2 => ?_) (fun c_2 => ?_)
  · -- 4 taken
    exact absurd (((isW_6 _).trans (isI_t hp6 (by decide))).symm.trans (bI0 c_2)) (by decide)
  · -- 4 not taken
    refine lv_iload_n hx hb dEx_add_7 rfl (lv_at hl 2 rfl) ?_
    refine lv_bipush (v := 21) hx hb dEx_add_8 (by decide) ?_
    refine ce_si (As := [.int (nI o), .int 21]) (rest := []) ⟨hx, hb, hml, hown, hts⟩ (c_Ex_isWithin l D cI b (wX b cI cP cR E) (nI o) 21) mEx_isWithin lEx_29 sEx_isWithin (ce_hR (by omega) (by decide)) ⟨rfl, rfl⟩ hK1 hN hP rfl hl.1 rfl (Nat.le_of_ble_eq_true rfl) dEx_add_10 ⟨Nat.le_of_ble_eq_true rfl, Nat.le_of_ble_eq_true rfl⟩ (fun r_3 er_3 => ?_)
    obtain rfl : r_3 = bI (isW (nI o) 21) := er_3
    refine lv_if_eq (tgt := 26) hx hb dEx_add_13 (by decide) (fun c_4 => ?_) (fun c_4 => ?_)
    · -- 13 taken
      exact absurd (((isW_22 _).trans (isI_t ho (by decide))).symm.trans (bI0 c_4)) (by decide)
    · -- 13 not taken
      refine lv_iload_n hx hb dEx_add_16 rfl (lv_at hl 3 rfl) ?_
      refine lv_sipush (v := 255) hx hb dEx_add_17 (by decide) ?_
      refine ce_si (As := [.int (nI g), .int 255]) (rest := []) ⟨hx, hb, hml, hown, hts⟩ (c_Ex_isWithin l D cI b (wX b cI cP cR E) (nI g) 255) mEx_isWithin lEx_29 sEx_isWithin (ce_hR (by omega) (by decide)) ⟨rfl, rfl⟩ hK1 hN hP rfl hl.1 rfl (Nat.le_of_ble_eq_true rfl) dEx_add_20 ⟨Nat.le_of_ble_eq_true rfl, Nat.le_of_ble_eq_true rfl⟩ (fun r_5 er_5 => ?_)
      obtain rfl : r_5 = bI (isW (nI g) 255) := er_5
      refine lv_if_ne (tgt := 28) hx hb dEx_add_23 (by decide) (fun c_6 => ?_) (fun c_6 => ?_)
      · -- 23 taken
        refine lv_aload_n hx hb dEx_add_28 rfl (lv_at hl 0 rfl) ?_
        refine cx_g hx hb hts hown hK hP 0 (by decide) rfl lEx_11 rfl dEx_add_29 ?_
        refine lv_iload_n hx hb dEx_add_32 rfl (lv_at hl 1 rfl) ?_
        refine cx_lP (j := pn) hp6 hx hb hK hP dEx_add_33 ?_
        refine lv_iload_n hx hb dEx_add_34 rfl (lv_at hl 2 rfl) ?_
        refine lv_iload_n hx hb dEx_add_35 rfl (lv_at hl 3 rfl) ?_
        refine cx_pi (j := pn) (As := [.int (nI o), .int (nI g)]) (rest := []) hp6 ⟨hx, hb, hml, hown, hts⟩ (c_Pg_append l D cI (adr b pn) (dR_P (dX_R hd hp6)) (eP E pn) o g hz) mPg_append lEx_33 iPg_append (ce_hR (by omega) (by decide)) ⟨rfl, rfl⟩ hK hN hd hP hS rfl hl.1 rfl (Nat.le_of_ble_eq_true rfl) dEx_add_36 ⟨Nat.le_of_ble_eq_true rfl, Nat.le_of_ble_eq_true rfl⟩ (fun r_7 q_8 H locs er_7 hP hS => ?_)
        obtain ⟨rfl, rfl⟩ : r_7 = (pAdd (eP E pn) o g).1 ∧ q_8 = (pAdd (eP E pn) o g).2 := ⟨congrArg (fun t => t.1) er_7, congrArg (fun t => t.2) er_7⟩
        have hP : va_P D vwCl (wX b cI cP cR (eAdd1 E pn o g)) H := hP
        refine lv_istore (lv' := [(4, .int ((pAdd (eP E pn) o g).1)), (0, .ref (b 0)), (1, .int (nI pn)), (2, .int (nI o)), (3, .int (nI g))]) hx hb dEx_add_39 hl (by decide) rfl (fun ls hl => ?_)
        refine lv_iload hx hb dEx_add_41 (lv_at hl 0 rfl) ?_
        refine lv_bipush (v := (-2)) hx hb dEx_add_43 (by decide) ?_
        refine lv_icmp_eq (tgt := 57) hx hb dEx_add_45 (by decide) (fun c_9 => ?_) (fun c_9 => ?_)
        · -- 45 taken
          refine lv_iload hx hb dEx_add_57 (lv_at hl 0 rfl) ?_
          exact W.iret (v := (pAdd (eP E pn) o g).1) hx hb hr (fun t9 ht hW => ⟨⟨(pAdd (eP E pn) o g).1, eAdd1 E pn o g, rfl, (if_pos c_9).symm, ce_hp ht hP⟩, hS.F ht⟩) hS.2.2 dEx_add_59
        · -- 45 not taken
          refine lv_aload_n hx hb dEx_add_48 rfl (lv_at hl 1 rfl) ?_
          refine cx_g hx hb hts hown hK hP 1 (by decide) rfl lEx_17 rfl dEx_add_49 ?_
          refine lv_iload_n hx hb dEx_add_52 rfl (lv_at hl 2 rfl) ?_
          refine cx_lR (j := pn) hp6 hx hb hK hP dEx_add_53 ?_
          refine cx_vv (j := pn) (As := []) (rest := []) hp6 ⟨hx, hb, hml, hown, hts⟩ (c_Rn_forget l D cI (adr b pn) (dX_R hd hp6) (eP (eAdd1 E pn o g) pn) (eU (eAdd1 E pn o g) pn)) mRn_forget lEx_37 iRn_forget (ce_hR (by omega) (by decide)) ⟨rfl, rfl⟩ hK hN hd hP hS rfl hl.1 rfl (Nat.le_of_ble_eq_true rfl) dEx_add_54 ⟨Nat.le_of_ble_eq_true rfl, Nat.le_of_ble_eq_true rfl⟩ (fun u_10 H locs eu_10 hP hS => ?_)
          obtain rfl := eu_10
          have hP : va_P D vwCl (wX b cI cP cR (eForget (eAdd1 E pn o g) pn)) H := hP
          refine lv_iload hx hb dEx_add_57 (lv_at hl 0 rfl) ?_
          exact W.iret (v := (pAdd (eP E pn) o g).1) hx hb hr (fun t9 ht hW => ⟨⟨(pAdd (eP E pn) o g).1, eForget (eAdd1 E pn o g) pn, rfl, (if_neg c_9).symm, ce_hp ht hP⟩, hS.F ht⟩) hS.2.2 dEx_add_59
      · -- 23 not taken
        exact absurd (((isW_256 _).trans (isI_t hg (by decide))).symm.trans (bI0 c_6)) (by decide)
set_option maxHeartbeats 8000000 in
set_option maxRecDepth 100000 in
theorem c_Ex_clear_no (l : Launch) (D : va_G) (cI cP cR : ClassId) (b : Nat → Nat) (hd : dX b) (E : XS) (x : Int32) (hno : isI x 6 = false) : Met l yEx_clear (ce_ws yEx_clear cEx_clear 2 (some .int)) (ce_rm 2) (cx_Pc D cI cP cR [.ref (b 0), .int x] (wX b cI cP cR E)) (vp_Si (fun r => r = -1)) 0 0 (fun _ => False) := by
  refine Met.ofW (cc := cEx_clear) (maxL := 2) (ret := (some .int)) (by decide) rfl ?_
  intro p e s m args below meth c s₁ B hml hv
  obtain ⟨rfl, hP, hK, hN⟩ := hv
  have hx := B.exec
  have hb := B.bytes
  have hr := B.returns
  have hts := atoms_spec (ws := ce_ws yEx_clear cEx_clear 2 (some .int)) B.pre
  have hown : s.vm.findClass REx = some m.cls := findClass_of_methodNamed B.named
  have hlocks := B.notSynchronized
  have hK1 := hK.sub (tys' := [(cI, .int)]) [0] rfl
  have hl := lv_entry ([.ref (b 0), .int x]) (n := 2) (Nat.le_of_ble_eq_true rfl)
  rw [lg_entry_eq]
  generalize (lg_sl ([.ref (b 0), .int x]) ++ List.replicate (2 - (lg_sl ([.ref (b 0), .int x])).length) Slot.unset).toArray = ls at hl ⊢
  have hl : lv_has ls 2 [(0, .ref (b 0)), (1, .int x)] := hl
  refine lv_iload_n hx hb dEx_clear_0 rfl (lv_at hl 1 rfl) ?_
  refine ce_si (As := [.int x]) (rest := []) ⟨hx, hb, hml, hown, hts⟩ (c_Ex_isProgram l D cI b (wX b cI cP cR E) x) mEx_isProgram lEx_25 sEx_isProgram (ce_hR (by omega) (by decide)) ⟨rfl, rfl⟩ hK1 hN hP rfl hl.1 rfl (Nat.le_of_ble_eq_true rfl) dEx_clear_1 ⟨Nat.le_of_ble_eq_true rfl, Nat.le_of_ble_eq_true rfl⟩ (fun r_1 er_1 => ?_)
  obtain rfl : r_1 = bI (isW x 5) := er_1
  refine lv_if_ne (tgt := 9) hx hb dEx_clear_4 (by decide) (fun c_2 => ?_) (fun c_2 => ?_)
  · -- 4 taken
    exact absurd hno (by rw [(isW_6 _).symm.trans (bI1 c_2)]; decide)
  · -- 4 not taken
    refine lv_iconst (v := (-1)) hx hb dEx_clear_7 (by decide) ?_
    exact W.iret (v := (-1)) hx hb hr (fun t9 ht hW => ⟨(-1), rfl, rfl, ht⟩) (fun _ h => by cases h) dEx_clear_8
set_option maxHeartbeats 8000000 in
set_option maxRecDepth 100000 in
theorem c_Ex_clear (l : Launch) (D : va_G) (cI cP cR : ClassId) (b : Nat → Nat) (hd : dX b) (E : XS) (pn : Nat) (hp6 : pn < 6) : Met l yEx_clear (ce_ws yEx_clear cEx_clear 2 (some .int)) (ce_rm 2) (cx_Pc D cI cP cR [.ref (b 0), .int (nI pn)] (wX b cI cP cR E)) (va_Qi (fun r E2 => (r, E2) = (0, xeClear E pn)) (fun E2 t => va_P D vwCl (wX b cI cP cR E2) t.heap) (aX b)) 0 0 (aX b) := by
  refine Met.ofW (cc := cEx_clear) (maxL := 2) (ret := (some .int)) (by decide) rfl ?_
  intro p e s m args below meth c s₁ B hml hv
  obtain ⟨rfl, hP, hK, hN⟩ := hv
  have hx := B.exec
  have hb := B.bytes
  have hr := B.returns
  have hts := atoms_spec (ws := ce_ws yEx_clear cEx_clear 2 (some .int)) B.pre
  have hown : s.vm.findClass REx = some m.cls := findClass_of_methodNamed B.named
  have hlocks := B.notSynchronized
  have hK1 := hK.sub (tys' := [(cI, .int)]) [0] rfl
  have hS : va_S (aX b) s.heap s.heap [] := va_S.rf
  have hl := lv_entry ([.ref (b 0), .int (nI pn)]) (n := 2) (Nat.le_of_ble_eq_true rfl)
  rw [lg_entry_eq]
  generalize (lg_sl ([.ref (b 0), .int (nI pn)]) ++ List.replicate (2 - (lg_sl ([.ref (b 0), .int (nI pn)])).length) Slot.unset).toArray = ls at hl ⊢
  have hl : lv_has ls 2 [(0, .ref (b 0)), (1, .int (nI pn))] := hl
  refine lv_iload_n hx hb dEx_clear_0 rfl (lv_at hl 1 rfl) ?_
  refine ce_si (As := [.int (nI pn)]) (rest := []) ⟨hx, hb, hml, hown, hts⟩ (c_Ex_isProgram l D cI b (wX b cI cP cR E) (nI pn)) mEx_isProgram lEx_25 sEx_isProgram (ce_hR (by omega) (by decide)) ⟨rfl, rfl⟩ hK1 hN hP rfl hl.1 rfl (Nat.le_of_ble_eq_true rfl) dEx_clear_1 ⟨Nat.le_of_ble_eq_true rfl, Nat.le_of_ble_eq_true rfl⟩ (fun r_1 er_1 => ?_)
  obtain rfl : r_1 = bI (isW (nI pn) 5) := er_1
  refine lv_if_ne (tgt := 9) hx hb dEx_clear_4 (by decide) (fun c_2 => ?_) (fun c_2 => ?_)
  · -- 4 taken
    refine lv_aload_n hx hb dEx_clear_9 rfl (lv_at hl 0 rfl) ?_
    refine cx_g hx hb hts hown hK hP 1 (by decide) rfl lEx_17 rfl dEx_clear_10 ?_
    refine lv_iload_n hx hb dEx_clear_13 rfl (lv_at hl 1 rfl) ?_
    refine cx_lR (j := pn) hp6 hx hb hK hP dEx_clear_14 ?_
    refine cx_vv (j := pn) (As := []) (rest := []) hp6 ⟨hx, hb, hml, hown, hts⟩ (c_Rn_forget l D cI (adr b pn) (dX_R hd hp6) (eP E pn) (eU E pn)) mRn_forget lEx_37 iRn_forget (ce_hR (by omega) (by decide)) ⟨rfl, rfl⟩ hK hN hd hP hS rfl hl.1 rfl (Nat.le_of_ble_eq_true rfl) dEx_clear_15 ⟨Nat.le_of_ble_eq_true rfl, Nat.le_of_ble_eq_true rfl⟩ (fun u_3 H locs eu_3 hP hS => ?_)
    obtain rfl := eu_3
    have hP : va_P D vwCl (wX b cI cP cR (eForget E pn)) H := hP
    refine lv_aload_n hx hb dEx_clear_18 rfl (lv_at hl 0 rfl) ?_
    refine cx_g hx hb hts hown hK hP 0 (by decide) rfl lEx_11 rfl dEx_clear_19 ?_
    refine lv_iload_n hx hb dEx_clear_22 rfl (lv_at hl 1 rfl) ?_
    refine cx_lP (j := pn) hp6 hx hb hK hP dEx_clear_23 ?_
    refine cx_pv (j := pn) (As := []) (rest := []) hp6 ⟨hx, hb, hml, hown, hts⟩ (c_Pg_empty l D cI (adr b pn) (dR_P (dX_R hd hp6)) (eP (eForget E pn) pn)) mPg_empty lEx_40 iPg_empty (ce_hR (by omega) (by decide)) ⟨rfl, rfl⟩ hK hN hd hP hS rfl hl.1 rfl (Nat.le_of_ble_eq_true rfl) dEx_clear_24 ⟨Nat.le_of_ble_eq_true rfl, Nat.le_of_ble_eq_true rfl⟩ (fun u_4 H locs eu_4 hP hS => ?_)
    obtain rfl := eu_4
    have hP : va_P D vwCl (wX b cI cP cR (xeClear E pn)) H := hP
    refine lv_iconst (v := 0) hx hb dEx_clear_27 (by decide) ?_
    exact W.iret (v := 0) hx hb hr (fun t9 ht hW => ⟨⟨0, xeClear E pn, rfl, rfl, ce_hp ht hP⟩, hS.F ht⟩) hS.2.2 dEx_clear_28
  · -- 4 not taken
    exact absurd (((isW_6 _).trans (isI_t hp6 (by decide))).symm.trans (bI0 c_2)) (by decide)
set_option maxHeartbeats 8000000 in
set_option maxRecDepth 100000 in
theorem c_Ex_told_no (l : Launch) (D : va_G) (cI cP cR : ClassId) (b : Nat → Nat) (hd : dX b) (E : XS) (x y : Int32) (hno : isI x 6 = false ∨ isI y 8 = false) : Met l yEx_told (ce_ws yEx_told cEx_told 3 (some .int)) (ce_rm 2) (cx_Pc D cI cP cR [.ref (b 0), .int x, .int y] (wX b cI cP cR E)) (vp_Si (fun r => r = -1)) 0 0 (fun _ => False) := by
  refine Met.ofW (cc := cEx_told) (maxL := 3) (ret := (some .int)) (by decide) rfl ?_
  intro p e s m args below meth c s₁ B hml hv
  obtain ⟨rfl, hP, hK, hN⟩ := hv
  have hx := B.exec
  have hb := B.bytes
  have hr := B.returns
  have hts := atoms_spec (ws := ce_ws yEx_told cEx_told 3 (some .int)) B.pre
  have hown : s.vm.findClass REx = some m.cls := findClass_of_methodNamed B.named
  have hlocks := B.notSynchronized
  have hK1 := hK.sub (tys' := [(cI, .int)]) [0] rfl
  have hl := lv_entry ([.ref (b 0), .int x, .int y]) (n := 3) (Nat.le_of_ble_eq_true rfl)
  rw [lg_entry_eq]
  generalize (lg_sl ([.ref (b 0), .int x, .int y]) ++ List.replicate (3 - (lg_sl ([.ref (b 0), .int x, .int y])).length) Slot.unset).toArray = ls at hl ⊢
  have hl : lv_has ls 3 [(0, .ref (b 0)), (1, .int x), (2, .int y)] := hl
  refine lv_iload_n hx hb dEx_told_0 rfl (lv_at hl 1 rfl) ?_
  refine ce_si (As := [.int x]) (rest := []) ⟨hx, hb, hml, hown, hts⟩ (c_Ex_isProgram l D cI b (wX b cI cP cR E) x) mEx_isProgram lEx_25 sEx_isProgram (ce_hR (by omega) (by decide)) ⟨rfl, rfl⟩ hK1 hN hP rfl hl.1 rfl (Nat.le_of_ble_eq_true rfl) dEx_told_1 ⟨Nat.le_of_ble_eq_true rfl, Nat.le_of_ble_eq_true rfl⟩ (fun r_1 er_1 => ?_)
  obtain rfl : r_1 = bI (isW x 5) := er_1
  refine lv_if_eq (tgt := 16) hx hb dEx_told_4 (by decide) (fun c_2 => ?_) (fun c_2 => ?_)
  · -- 4 taken
    refine lv_iconst (v := (-1)) hx hb dEx_told_16 (by decide) ?_
    exact W.iret (v := (-1)) hx hb hr (fun t9 ht hW => ⟨(-1), rfl, rfl, ht⟩) (fun _ h => by cases h) dEx_told_17
  · -- 4 not taken
    refine lv_iload_n hx hb dEx_told_7 rfl (lv_at hl 2 rfl) ?_
    refine lv_bipush (v := 7) hx hb dEx_told_8 (by decide) ?_
    refine ce_si (As := [.int y, .int 7]) (rest := []) ⟨hx, hb, hml, hown, hts⟩ (c_Ex_isWithin l D cI b (wX b cI cP cR E) y 7) mEx_isWithin lEx_29 sEx_isWithin (ce_hR (by omega) (by decide)) ⟨rfl, rfl⟩ hK1 hN hP rfl hl.1 rfl (Nat.le_of_ble_eq_true rfl) dEx_told_10 ⟨Nat.le_of_ble_eq_true rfl, Nat.le_of_ble_eq_true rfl⟩ (fun r_3 er_3 => ?_)
    obtain rfl : r_3 = bI (isW y 7) := er_3
    refine lv_if_ne (tgt := 18) hx hb dEx_told_13 (by decide) (fun c_4 => ?_) (fun c_4 => ?_)
    · -- 13 taken
      exact absurd hno (by rw [(isW_6 _).symm.trans (bI1 c_2), (isW7 _).symm.trans (bI1 c_4)]; decide)
    · -- 13 not taken
      refine lv_iconst (v := (-1)) hx hb dEx_told_16 (by decide) ?_
      exact W.iret (v := (-1)) hx hb hr (fun t9 ht hW => ⟨(-1), rfl, rfl, ht⟩) (fun _ h => by cases h) dEx_told_17
set_option maxHeartbeats 8000000 in
set_option maxRecDepth 100000 in
theorem c_Ex_told (l : Launch) (D : va_G) (cI cP cR : ClassId) (b : Nat → Nat) (hd : dX b) (E : XS) (pn k : Nat) (hp6 : pn < 6) (hk : k < 8) : Met l yEx_told (ce_ws yEx_told cEx_told 3 (some .int)) (ce_rm 2) (cx_Pc D cI cP cR [.ref (b 0), .int (nI pn), .int (nI k)] (wX b cI cP cR E)) (vp_Si (fun r => r = xeTold E pn k)) 0 0 (fun _ => False) := by
  refine Met.ofW (cc := cEx_told) (maxL := 3) (ret := (some .int)) (by decide) rfl ?_
  intro p e s m args below meth c s₁ B hml hv
  obtain ⟨rfl, hP, hK, hN⟩ := hv
  have hx := B.exec
  have hb := B.bytes
  have hr := B.returns
  have hts := atoms_spec (ws := ce_ws yEx_told cEx_told 3 (some .int)) B.pre
  have hown : s.vm.findClass REx = some m.cls := findClass_of_methodNamed B.named
  have hlocks := B.notSynchronized
  have hK1 := hK.sub (tys' := [(cI, .int)]) [0] rfl
  have hl := lv_entry ([.ref (b 0), .int (nI pn), .int (nI k)]) (n := 3) (Nat.le_of_ble_eq_true rfl)
  rw [lg_entry_eq]
  generalize (lg_sl ([.ref (b 0), .int (nI pn), .int (nI k)]) ++ List.replicate (3 - (lg_sl ([.ref (b 0), .int (nI pn), .int (nI k)])).length) Slot.unset).toArray = ls at hl ⊢
  have hl : lv_has ls 3 [(0, .ref (b 0)), (1, .int (nI pn)), (2, .int (nI k))] := hl
  refine lv_iload_n hx hb dEx_told_0 rfl (lv_at hl 1 rfl) ?_
  refine ce_si (As := [.int (nI pn)]) (rest := []) ⟨hx, hb, hml, hown, hts⟩ (c_Ex_isProgram l D cI b (wX b cI cP cR E) (nI pn)) mEx_isProgram lEx_25 sEx_isProgram (ce_hR (by omega) (by decide)) ⟨rfl, rfl⟩ hK1 hN hP rfl hl.1 rfl (Nat.le_of_ble_eq_true rfl) dEx_told_1 ⟨Nat.le_of_ble_eq_true rfl, Nat.le_of_ble_eq_true rfl⟩ (fun r_1 er_1 => ?_)
  obtain rfl : r_1 = bI (isW (nI pn) 5) := er_1
  refine lv_if_eq (tgt := 16) hx hb dEx_told_4 (by decide) (fun c_2 => ?_) (fun c_2 => ?_)
  · -- 4 taken
    exact absurd (((isW_6 _).trans (isI_t hp6 (by decide))).symm.trans (bI0 c_2)) (by decide)
  · -- 4 not taken
    refine lv_iload_n hx hb dEx_told_7 rfl (lv_at hl 2 rfl) ?_
    refine lv_bipush (v := 7) hx hb dEx_told_8 (by decide) ?_
    refine ce_si (As := [.int (nI k), .int 7]) (rest := []) ⟨hx, hb, hml, hown, hts⟩ (c_Ex_isWithin l D cI b (wX b cI cP cR E) (nI k) 7) mEx_isWithin lEx_29 sEx_isWithin (ce_hR (by omega) (by decide)) ⟨rfl, rfl⟩ hK1 hN hP rfl hl.1 rfl (Nat.le_of_ble_eq_true rfl) dEx_told_10 ⟨Nat.le_of_ble_eq_true rfl, Nat.le_of_ble_eq_true rfl⟩ (fun r_3 er_3 => ?_)
    obtain rfl : r_3 = bI (isW (nI k) 7) := er_3
    refine lv_if_ne (tgt := 18) hx hb dEx_told_13 (by decide) (fun c_4 => ?_) (fun c_4 => ?_)
    · -- 13 taken
      refine lv_aload_n hx hb dEx_told_18 rfl (lv_at hl 0 rfl) ?_
      refine cx_g hx hb hts hown hK hP 1 (by decide) rfl lEx_17 rfl dEx_told_19 ?_
      refine lv_iload_n hx hb dEx_told_22 rfl (lv_at hl 1 rfl) ?_
      refine cx_lR (j := pn) hp6 hx hb hK hP dEx_told_23 ?_
      refine ce_ri (As := []) (rest := []) ⟨hx, hb, hml, hown, hts⟩ (c_Rn_isKnown l D cI (adr b pn) (dX_R hd hp6) (eP E pn) (eU E pn)) mRn_isKnown lEx_47 iRn_isKnown (ce_hR (by omega) (by decide)) ⟨rfl, rfl⟩ hK1 hN ((wX_P.mp hP).2 pn hp6) 0 rfl rfl rfl hl.1 rfl (Nat.le_of_ble_eq_true rfl) dEx_told_24 ⟨Nat.le_of_ble_eq_true rfl, Nat.le_of_ble_eq_true rfl⟩ (fun r_5 er_5 => ?_)
      obtain rfl : r_5 = bI (gKnown (eU E pn)) := er_5
      refine lv_if_eq (tgt := 43) hx hb dEx_told_27 (by decide) (fun c_6 => ?_) (fun c_6 => ?_)
      · -- 27 taken
        refine lv_bipush (v := (-3)) hx hb dEx_told_43 (by decide) ?_
        exact W.iret (v := (-3)) hx hb hr (fun t9 ht hW => ⟨(-3), rfl, (if_neg (by rw [bI0 c_6]; decide)).symm, ht⟩) (fun _ h => by cases h) dEx_told_45
      · -- 27 not taken
        refine lv_aload_n hx hb dEx_told_30 rfl (lv_at hl 0 rfl) ?_
        refine cx_g hx hb hts hown hK hP 1 (by decide) rfl lEx_17 rfl dEx_told_31 ?_
        refine lv_iload_n hx hb dEx_told_34 rfl (lv_at hl 1 rfl) ?_
        refine cx_lR (j := pn) hp6 hx hb hK hP dEx_told_35 ?_
        refine lv_iload_n hx hb dEx_told_36 rfl (lv_at hl 2 rfl) ?_
        refine ce_ri (As := [.int (nI k)]) (rest := []) ⟨hx, hb, hml, hown, hts⟩ (c_Rn_tell l D cI (adr b pn) (dX_R hd hp6) (eP E pn) (eU E pn) k hk) mRn_tell lEx_51 iRn_tell (ce_hR (by omega) (by decide)) ⟨rfl, rfl⟩ hK1 hN ((wX_P.mp hP).2 pn hp6) 0 rfl rfl rfl hl.1 rfl (Nat.le_of_ble_eq_true rfl) dEx_told_37 ⟨Nat.le_of_ble_eq_true rfl, Nat.le_of_ble_eq_true rfl⟩ (fun r_7 er_7 => ?_)
        obtain rfl : r_7 = xTell (eU E pn) k := er_7
        refine lv_goto (tgt := 45) hx hb dEx_told_40 (by decide) ?_
        exact W.iret (v := xTell (eU E pn) k) hx hb hr (fun t9 ht hW => ⟨xTell (eU E pn) k, rfl, (if_pos (bI1 c_6)).symm, ht⟩) (fun _ h => by cases h) dEx_told_45
    · -- 13 not taken
      exact absurd (((isW7 _).trans (isI_t hk (by decide))).symm.trans (bI0 c_4)) (by decide)
set_option maxHeartbeats 8000000 in
set_option maxRecDepth 100000 in
theorem c_Ex_cell_no (l : Launch) (D : va_G) (cI cP cR : ClassId) (b : Nat → Nat) (hd : dX b) (E : XS) (x y : Int32) (hno : isI x 6 = false ∨ isI y 8 = false) : Met l yEx_cell (ce_ws yEx_cell cEx_cell 3 (some .int)) (ce_rm 2) (cx_Pc D cI cP cR [.ref (b 0), .int x, .int y] (wX b cI cP cR E)) (vp_Si (fun r => r = -1)) 0 0 (fun _ => False) := by
  refine Met.ofW (cc := cEx_cell) (maxL := 3) (ret := (some .int)) (by decide) rfl ?_
  intro p e s m args below meth c s₁ B hml hv
  obtain ⟨rfl, hP, hK, hN⟩ := hv
  have hx := B.exec
  have hb := B.bytes
  have hr := B.returns
  have hts := atoms_spec (ws := ce_ws yEx_cell cEx_cell 3 (some .int)) B.pre
  have hown : s.vm.findClass REx = some m.cls := findClass_of_methodNamed B.named
  have hlocks := B.notSynchronized
  have hK1 := hK.sub (tys' := [(cI, .int)]) [0] rfl
  have hl := lv_entry ([.ref (b 0), .int x, .int y]) (n := 3) (Nat.le_of_ble_eq_true rfl)
  rw [lg_entry_eq]
  generalize (lg_sl ([.ref (b 0), .int x, .int y]) ++ List.replicate (3 - (lg_sl ([.ref (b 0), .int x, .int y])).length) Slot.unset).toArray = ls at hl ⊢
  have hl : lv_has ls 3 [(0, .ref (b 0)), (1, .int x), (2, .int y)] := hl
  refine lv_iload_n hx hb dEx_cell_0 rfl (lv_at hl 1 rfl) ?_
  refine ce_si (As := [.int x]) (rest := []) ⟨hx, hb, hml, hown, hts⟩ (c_Ex_isProgram l D cI b (wX b cI cP cR E) x) mEx_isProgram lEx_25 sEx_isProgram (ce_hR (by omega) (by decide)) ⟨rfl, rfl⟩ hK1 hN hP rfl hl.1 rfl (Nat.le_of_ble_eq_true rfl) dEx_cell_1 ⟨Nat.le_of_ble_eq_true rfl, Nat.le_of_ble_eq_true rfl⟩ (fun r_1 er_1 => ?_)
  obtain rfl : r_1 = bI (isW x 5) := er_1
  refine lv_if_eq (tgt := 14) hx hb dEx_cell_4 (by decide) (fun c_2 => ?_) (fun c_2 => ?_)
  · -- 4 taken
    refine lv_iconst (v := (-1)) hx hb dEx_cell_14 (by decide) ?_
    exact W.iret (v := (-1)) hx hb hr (fun t9 ht hW => ⟨(-1), rfl, rfl, ht⟩) (fun _ h => by cases h) dEx_cell_15
  · -- 4 not taken
    refine lv_iload_n hx hb dEx_cell_7 rfl (lv_at hl 2 rfl) ?_
    refine ce_si (As := [.int y]) (rest := []) ⟨hx, hb, hml, hown, hts⟩ (c_Rn_isCell l D cI b (wX b cI cP cR E) y) mRn_isCell lEx_55 sRn_isCell (ce_hR (by omega) (by decide)) ⟨rfl, rfl⟩ hK1 hN hP rfl hl.1 rfl (Nat.le_of_ble_eq_true rfl) dEx_cell_8 ⟨Nat.le_of_ble_eq_true rfl, Nat.le_of_ble_eq_true rfl⟩ (fun r_3 er_3 => ?_)
    obtain rfl : r_3 = bI (isW y 7) := er_3
    refine lv_if_ne (tgt := 16) hx hb dEx_cell_11 (by decide) (fun c_4 => ?_) (fun c_4 => ?_)
    · -- 11 taken
      exact absurd hno (by rw [(isW_6 _).symm.trans (bI1 c_2), (isW7 _).symm.trans (bI1 c_4)]; decide)
    · -- 11 not taken
      refine lv_iconst (v := (-1)) hx hb dEx_cell_14 (by decide) ?_
      exact W.iret (v := (-1)) hx hb hr (fun t9 ht hW => ⟨(-1), rfl, rfl, ht⟩) (fun _ h => by cases h) dEx_cell_15
set_option maxHeartbeats 8000000 in
set_option maxRecDepth 100000 in
theorem c_Ex_cell (l : Launch) (D : va_G) (cI cP cR : ClassId) (b : Nat → Nat) (hd : dX b) (E : XS) (pn k : Nat) (hp6 : pn < 6) (hk : k < 8) : Met l yEx_cell (ce_ws yEx_cell cEx_cell 3 (some .int)) (ce_rm 2) (cx_Pc D cI cP cR [.ref (b 0), .int (nI pn), .int (nI k)] (wX b cI cP cR E)) (vp_Si (fun r => r = xeCell E pn k)) 0 0 (fun _ => False) := by
  refine Met.ofW (cc := cEx_cell) (maxL := 3) (ret := (some .int)) (by decide) rfl ?_
  intro p e s m args below meth c s₁ B hml hv
  obtain ⟨rfl, hP, hK, hN⟩ := hv
  have hx := B.exec
  have hb := B.bytes
  have hr := B.returns
  have hts := atoms_spec (ws := ce_ws yEx_cell cEx_cell 3 (some .int)) B.pre
  have hown : s.vm.findClass REx = some m.cls := findClass_of_methodNamed B.named
  have hlocks := B.notSynchronized
  have hK1 := hK.sub (tys' := [(cI, .int)]) [0] rfl
  have hl := lv_entry ([.ref (b 0), .int (nI pn), .int (nI k)]) (n := 3) (Nat.le_of_ble_eq_true rfl)
  rw [lg_entry_eq]
  generalize (lg_sl ([.ref (b 0), .int (nI pn), .int (nI k)]) ++ List.replicate (3 - (lg_sl ([.ref (b 0), .int (nI pn), .int (nI k)])).length) Slot.unset).toArray = ls at hl ⊢
  have hl : lv_has ls 3 [(0, .ref (b 0)), (1, .int (nI pn)), (2, .int (nI k))] := hl
  refine lv_iload_n hx hb dEx_cell_0 rfl (lv_at hl 1 rfl) ?_
  refine ce_si (As := [.int (nI pn)]) (rest := []) ⟨hx, hb, hml, hown, hts⟩ (c_Ex_isProgram l D cI b (wX b cI cP cR E) (nI pn)) mEx_isProgram lEx_25 sEx_isProgram (ce_hR (by omega) (by decide)) ⟨rfl, rfl⟩ hK1 hN hP rfl hl.1 rfl (Nat.le_of_ble_eq_true rfl) dEx_cell_1 ⟨Nat.le_of_ble_eq_true rfl, Nat.le_of_ble_eq_true rfl⟩ (fun r_1 er_1 => ?_)
  obtain rfl : r_1 = bI (isW (nI pn) 5) := er_1
  refine lv_if_eq (tgt := 14) hx hb dEx_cell_4 (by decide) (fun c_2 => ?_) (fun c_2 => ?_)
  · -- 4 taken
    exact absurd (((isW_6 _).trans (isI_t hp6 (by decide))).symm.trans (bI0 c_2)) (by decide)
  · -- 4 not taken
    refine lv_iload_n hx hb dEx_cell_7 rfl (lv_at hl 2 rfl) ?_
    refine ce_si (As := [.int (nI k)]) (rest := []) ⟨hx, hb, hml, hown, hts⟩ (c_Rn_isCell l D cI b (wX b cI cP cR E) (nI k)) mRn_isCell lEx_55 sRn_isCell (ce_hR (by omega) (by decide)) ⟨rfl, rfl⟩ hK1 hN hP rfl hl.1 rfl (Nat.le_of_ble_eq_true rfl) dEx_cell_8 ⟨Nat.le_of_ble_eq_true rfl, Nat.le_of_ble_eq_true rfl⟩ (fun r_3 er_3 => ?_)
    obtain rfl : r_3 = bI (isW (nI k) 7) := er_3
    refine lv_if_ne (tgt := 16) hx hb dEx_cell_11 (by decide) (fun c_4 => ?_) (fun c_4 => ?_)
    · -- 11 taken
      refine lv_aload_n hx hb dEx_cell_16 rfl (lv_at hl 0 rfl) ?_
      refine cx_g hx hb hts hown hK hP 1 (by decide) rfl lEx_17 rfl dEx_cell_17 ?_
      refine lv_iload_n hx hb dEx_cell_20 rfl (lv_at hl 1 rfl) ?_
      refine cx_lR (j := pn) hp6 hx hb hK hP dEx_cell_21 ?_
      refine ce_ri (As := []) (rest := []) ⟨hx, hb, hml, hown, hts⟩ (c_Rn_isKnown l D cI (adr b pn) (dX_R hd hp6) (eP E pn) (eU E pn)) mRn_isKnown lEx_47 iRn_isKnown (ce_hR (by omega) (by decide)) ⟨rfl, rfl⟩ hK1 hN ((wX_P.mp hP).2 pn hp6) 0 rfl rfl rfl hl.1 rfl (Nat.le_of_ble_eq_true rfl) dEx_cell_22 ⟨Nat.le_of_ble_eq_true rfl, Nat.le_of_ble_eq_true rfl⟩ (fun r_5 er_5 => ?_)
      obtain rfl : r_5 = bI (gKnown (eU E pn)) := er_5
      refine lv_if_eq (tgt := 41) hx hb dEx_cell_25 (by decide) (fun c_6 => ?_) (fun c_6 => ?_)
      · -- 25 taken
        refine lv_iconst (v := 0) hx hb dEx_cell_41 (by decide) ?_
        exact W.iret (v := 0) hx hb hr (fun t9 ht hW => ⟨0, rfl, (if_neg (by rw [bI0 c_6]; decide)).symm, ht⟩) (fun _ h => by cases h) dEx_cell_42
      · -- 25 not taken
        refine lv_aload_n hx hb dEx_cell_28 rfl (lv_at hl 0 rfl) ?_
        refine cx_g hx hb hts hown hK hP 1 (by decide) rfl lEx_17 rfl dEx_cell_29 ?_
        refine lv_iload_n hx hb dEx_cell_32 rfl (lv_at hl 1 rfl) ?_
        refine cx_lR (j := pn) hp6 hx hb hK hP dEx_cell_33 ?_
        refine lv_iload_n hx hb dEx_cell_34 rfl (lv_at hl 2 rfl) ?_
        refine ce_ri (As := [.int (nI k)]) (rest := []) ⟨hx, hb, hml, hown, hts⟩ (c_Rn_cellAtEnd l D cI (adr b pn) (dX_R hd hp6) (eP E pn) (eU E pn) k hk) mRn_cellAtEnd lEx_58 iRn_cellAtEnd (ce_hR (by omega) (by decide)) ⟨rfl, rfl⟩ hK1 hN ((wX_P.mp hP).2 pn hp6) 0 rfl rfl rfl hl.1 rfl (Nat.le_of_ble_eq_true rfl) dEx_cell_35 ⟨Nat.le_of_ble_eq_true rfl, Nat.le_of_ble_eq_true rfl⟩ (fun r_7 er_7 => ?_)
        obtain rfl : r_7 = gCells (eU E pn) k := er_7
        refine lv_goto (tgt := 42) hx hb dEx_cell_38 (by decide) ?_
        exact W.iret (v := gCells (eU E pn) k) hx hb hr (fun t9 ht hW => ⟨gCells (eU E pn) k, rfl, (if_pos (bI1 c_6)).symm, ht⟩) (fun _ h => by cases h) dEx_cell_42
    · -- 11 not taken
      exact absurd (((isW7 _).trans (isI_t hk (by decide))).symm.trans (bI0 c_4)) (by decide)
set_option maxHeartbeats 8000000 in
set_option maxRecDepth 100000 in
theorem c_Ex_counter (l : Launch) (D : va_G) (cI cP cR : ClassId) (b : Nat → Nat) (hd : dX b) (E : XS)  : Met l yEx_counter (ce_ws yEx_counter cEx_counter 1 (some .long)) (ce_rm 0) (cx_Pc D cI cP cR [.ref (b 0)] (wX b cI cP cR E)) (vp_Sl (fun r => r = eC E)) 0 0 (fun _ => False) := by
  refine Met.ofW (cc := cEx_counter) (maxL := 1) (ret := (some .long)) (by decide) rfl ?_
  intro p e s m args below meth c s₁ B hml hv
  obtain ⟨rfl, hP, hK, hN⟩ := hv
  have hx := B.exec
  have hb := B.bytes
  have hr := B.returns
  have hts := atoms_spec (ws := ce_ws yEx_counter cEx_counter 1 (some .long)) B.pre
  have hown : s.vm.findClass REx = some m.cls := findClass_of_methodNamed B.named
  have hlocks := B.notSynchronized
  have hK1 := hK.sub (tys' := [(cI, .int)]) [0] rfl
  have hl := lv_entry ([.ref (b 0)]) (n := 1) (Nat.le_of_ble_eq_true rfl)
  rw [lg_entry_eq]
  generalize (lg_sl ([.ref (b 0)]) ++ List.replicate (1 - (lg_sl ([.ref (b 0)])).length) Slot.unset).toArray = ls at hl ⊢
  have hl : lv_has ls 1 [(0, .ref (b 0))] := hl
  refine lv_aload_n hx hb dEx_counter_0 rfl (lv_at hl 0 rfl) ?_
  refine cx_g hx hb hts hown hK hP 2 (by decide) rfl lEx_61 rfl dEx_counter_1 ?_
  exact W.lret (v := eC E) hx hb hr (fun t9 ht hW => ⟨eC E, rfl, rfl, ht⟩) (fun _ h => by cases h) dEx_counter_4
set_option maxHeartbeats 8000000 in
set_option maxRecDepth 100000 in
theorem c_Ex_count_no (l : Launch) (D : va_G) (cI cP cR : ClassId) (b : Nat → Nat) (hd : dX b) (E : XS) (x : Int32) (hno : isI x 9 = false) : Met l yEx_count (ce_ws yEx_count cEx_count 2 (some .int)) (ce_rm 2) (cx_Pc D cI cP cR [.ref (b 0), .int x] (wX b cI cP cR E)) (vp_Si (fun r => r = -1)) 0 0 (fun _ => False) := by
  refine Met.ofW (cc := cEx_count) (maxL := 2) (ret := (some .int)) (by decide) rfl ?_
  intro p e s m args below meth c s₁ B hml hv
  obtain ⟨rfl, hP, hK, hN⟩ := hv
  have hx := B.exec
  have hb := B.bytes
  have hr := B.returns
  have hts := atoms_spec (ws := ce_ws yEx_count cEx_count 2 (some .int)) B.pre
  have hown : s.vm.findClass REx = some m.cls := findClass_of_methodNamed B.named
  have hlocks := B.notSynchronized
  have hK1 := hK.sub (tys' := [(cI, .int)]) [0] rfl
  have hl := lv_entry ([.ref (b 0), .int x]) (n := 2) (Nat.le_of_ble_eq_true rfl)
  rw [lg_entry_eq]
  generalize (lg_sl ([.ref (b 0), .int x]) ++ List.replicate (2 - (lg_sl ([.ref (b 0), .int x])).length) Slot.unset).toArray = ls at hl ⊢
  have hl : lv_has ls 2 [(0, .ref (b 0)), (1, .int x)] := hl
  refine lv_iload_n hx hb dEx_count_0 rfl (lv_at hl 1 rfl) ?_
  refine lv_tableOut (x := x) (tgt := 43) hx hb dEx_count_1 (cnt_out hno) (by decide) ?_
  refine lv_iload_n hx hb dEx_count_43 rfl (lv_at hl 1 rfl) ?_
  refine lv_iconst (v := 3) hx hb dEx_count_44 (by decide) ?_
  refine lv_isub hx hb dEx_count_45 ?_
  refine ce_si (As := [.int (x - 3)]) (rest := []) ⟨hx, hb, hml, hown, hts⟩ (c_Ex_isProgram l D cI b (wX b cI cP cR E) (x - 3)) mEx_isProgram lEx_25 sEx_isProgram (ce_hR (by omega) (by decide)) ⟨rfl, rfl⟩ hK1 hN hP rfl hl.1 rfl (Nat.le_of_ble_eq_true rfl) dEx_count_46 ⟨Nat.le_of_ble_eq_true rfl, Nat.le_of_ble_eq_true rfl⟩ (fun r_1 er_1 => ?_)
  obtain rfl : r_1 = bI (isW (x - 3) 5) := er_1
  refine lv_if_eq (tgt := 66) hx hb dEx_count_49 (by decide) (fun c_2 => ?_) (fun c_2 => ?_)
  · -- 49 taken
    refine lv_iconst (v := (-1)) hx hb dEx_count_66 (by decide) ?_
    exact W.iret (v := (-1)) hx hb hr (fun t9 ht hW => ⟨(-1), rfl, rfl, ht⟩) (fun _ h => by cases h) dEx_count_67
  · -- 49 not taken
    exact absurd ((cnt_no hno).symm.trans (bI1 c_2)) (by decide)
set_option maxHeartbeats 8000000 in
set_option maxRecDepth 100000 in
theorem c_Ex_count (l : Launch) (D : va_G) (cI cP cR : ClassId) (b : Nat → Nat) (hd : dX b) (E : XS) (k : Nat) (hk : k < 9) : Met l yEx_count (ce_ws yEx_count cEx_count 2 (some .int)) (ce_rm 2) (cx_Pc D cI cP cR [.ref (b 0), .int (nI k)] (wX b cI cP cR E)) (vp_Si (fun r => r = xeCount E k)) 0 0 (fun _ => False) := by
  refine Met.ofW (cc := cEx_count) (maxL := 2) (ret := (some .int)) (by decide) rfl ?_
  intro p e s m args below meth c s₁ B hml hv
  obtain ⟨rfl, hP, hK, hN⟩ := hv
  have hx := B.exec
  have hb := B.bytes
  have hr := B.returns
  have hts := atoms_spec (ws := ce_ws yEx_count cEx_count 2 (some .int)) B.pre
  have hown : s.vm.findClass REx = some m.cls := findClass_of_methodNamed B.named
  have hlocks := B.notSynchronized
  have hK1 := hK.sub (tys' := [(cI, .int)]) [0] rfl
  have hl := lv_entry ([.ref (b 0), .int (nI k)]) (n := 2) (Nat.le_of_ble_eq_true rfl)
  rw [lg_entry_eq]
  generalize (lg_sl ([.ref (b 0), .int (nI k)]) ++ List.replicate (2 - (lg_sl ([.ref (b 0), .int (nI k)])).length) Slot.unset).toArray = ls at hl ⊢
  have hl : lv_has ls 2 [(0, .ref (b 0)), (1, .int (nI k))] := hl
  rcases (show k = 0 ∨ k = 1 ∨ k = 2 ∨ k = 3 ∨ k = 4 ∨ k = 5 ∨ k = 6 ∨ k = 7 ∨ k = 8 by omega) with rfl | rfl | rfl | rfl | rfl | rfl | rfl | rfl | rfl
  ·
    refine lv_iload_n hx hb dEx_count_0 rfl (lv_at hl 1 rfl) ?_
    refine lv_tableIn (x := nI 0) (tgt := 28) hx hb dEx_count_1 (by decide) (by decide) rfl (by decide) ?_
    refine lv_aload_n hx hb dEx_count_28 rfl (lv_at hl 0 rfl) ?_
    refine cx_g hx hb hts hown hK hP 3 (by decide) rfl lEx_65 rfl dEx_count_29 ?_
    exact W.iret (v := eR E) hx hb hr (fun t9 ht hW => ⟨eR E, rfl, rfl, ht⟩) (fun _ h => by cases h) dEx_count_32
  ·
    refine lv_iload_n hx hb dEx_count_0 rfl (lv_at hl 1 rfl) ?_
    refine lv_tableIn (x := nI 1) (tgt := 33) hx hb dEx_count_1 (by decide) (by decide) rfl (by decide) ?_
    refine lv_aload_n hx hb dEx_count_33 rfl (lv_at hl 0 rfl) ?_
    refine cx_g hx hb hts hown hK hP 4 (by decide) rfl lEx_69 rfl dEx_count_34 ?_
    exact W.iret (v := eT E) hx hb hr (fun t9 ht hW => ⟨eT E, rfl, rfl, ht⟩) (fun _ h => by cases h) dEx_count_37
  ·
    refine lv_iload_n hx hb dEx_count_0 rfl (lv_at hl 1 rfl) ?_
    refine lv_tableIn (x := nI 2) (tgt := 38) hx hb dEx_count_1 (by decide) (by decide) rfl (by decide) ?_
    refine lv_aload_n hx hb dEx_count_38 rfl (lv_at hl 0 rfl) ?_
    refine cx_g hx hb hts hown hK hP 5 (by decide) rfl lEx_72 rfl dEx_count_39 ?_
    exact W.iret (v := eB E) hx hb hr (fun t9 ht hW => ⟨eB E, rfl, rfl, ht⟩) (fun _ h => by cases h) dEx_count_42
  ·
    refine lv_iload_n hx hb dEx_count_0 rfl (lv_at hl 1 rfl) ?_
    refine lv_tableOut (x := nI 3) (tgt := 43) hx hb dEx_count_1 (by decide) (by decide) ?_
    refine lv_iload_n hx hb dEx_count_43 rfl (lv_at hl 1 rfl) ?_
    refine lv_iconst (v := 3) hx hb dEx_count_44 (by decide) ?_
    refine lv_isub hx hb dEx_count_45 ?_
    refine lv_topi (fun y_1 ey_1 => ?_)
    obtain rfl : y_1 = nI 0 := ey_1.trans (pk_sub (b := 3) (by decide))
    refine ce_si (As := [.int (nI 0)]) (rest := []) ⟨hx, hb, hml, hown, hts⟩ (c_Ex_isProgram l D cI b (wX b cI cP cR E) (nI 0)) mEx_isProgram lEx_25 sEx_isProgram (ce_hR (by omega) (by decide)) ⟨rfl, rfl⟩ hK1 hN hP rfl hl.1 rfl (Nat.le_of_ble_eq_true rfl) dEx_count_46 ⟨Nat.le_of_ble_eq_true rfl, Nat.le_of_ble_eq_true rfl⟩ (fun r_2 er_2 => ?_)
    obtain rfl : r_2 = bI (isW (nI 0) 5) := er_2
    refine lv_if_eq (tgt := 66) hx hb dEx_count_49 (by decide) (fun c_3 => ?_) (fun c_3 => ?_)
    · -- 49 taken
      exact absurd (((isW_6 _).trans (isI_t (N := 6) (p := 0) (by decide) (by decide))).symm.trans (bI0 c_3)) (by decide)
    · -- 49 not taken
      refine lv_aload_n hx hb dEx_count_52 rfl (lv_at hl 0 rfl) ?_
      refine cx_g hx hb hts hown hK hP 0 (by decide) rfl lEx_11 rfl dEx_count_53 ?_
      refine lv_iload_n hx hb dEx_count_56 rfl (lv_at hl 1 rfl) ?_
      refine lv_iconst (v := 3) hx hb dEx_count_57 (by decide) ?_
      refine lv_isub hx hb dEx_count_58 ?_
      refine lv_topi (fun y_4 ey_4 => ?_)
      obtain rfl : y_4 = nI 0 := ey_4.trans (pk_sub (b := 3) (by decide))
      refine cx_lP (j := 0) (by decide) hx hb hK hP dEx_count_59 ?_
      refine ce_ri (As := []) (rest := []) ⟨hx, hb, hml, hown, hts⟩ (c_Pg_size l D cI (adr b 0) (eP E 0)) mPg_size lEx_75 iPg_size (ce_hR (by omega) (by decide)) ⟨rfl, rfl⟩ hK1 hN (((wX_P.mp hP).2 0 (by decide)).sub (ws' := wP (adr b 0) cI (eP E 0)) [1, 2, 3] rfl) 0 rfl rfl rfl hl.1 rfl (Nat.le_of_ble_eq_true rfl) dEx_count_60 ⟨Nat.le_of_ble_eq_true rfl, Nat.le_of_ble_eq_true rfl⟩ (fun r_5 er_5 => ?_)
      obtain rfl : r_5 = nI (eP E 0).2.2 := er_5
      refine lv_goto (tgt := 67) hx hb dEx_count_63 (by decide) ?_
      exact W.iret (v := nI (eP E 0).2.2) hx hb hr (fun t9 ht hW => ⟨nI (eP E 0).2.2, rfl, rfl, ht⟩) (fun _ h => by cases h) dEx_count_67
  ·
    refine lv_iload_n hx hb dEx_count_0 rfl (lv_at hl 1 rfl) ?_
    refine lv_tableOut (x := nI 4) (tgt := 43) hx hb dEx_count_1 (by decide) (by decide) ?_
    refine lv_iload_n hx hb dEx_count_43 rfl (lv_at hl 1 rfl) ?_
    refine lv_iconst (v := 3) hx hb dEx_count_44 (by decide) ?_
    refine lv_isub hx hb dEx_count_45 ?_
    refine lv_topi (fun y_6 ey_6 => ?_)
    obtain rfl : y_6 = nI 1 := ey_6.trans (pk_sub (b := 3) (by decide))
    refine ce_si (As := [.int (nI 1)]) (rest := []) ⟨hx, hb, hml, hown, hts⟩ (c_Ex_isProgram l D cI b (wX b cI cP cR E) (nI 1)) mEx_isProgram lEx_25 sEx_isProgram (ce_hR (by omega) (by decide)) ⟨rfl, rfl⟩ hK1 hN hP rfl hl.1 rfl (Nat.le_of_ble_eq_true rfl) dEx_count_46 ⟨Nat.le_of_ble_eq_true rfl, Nat.le_of_ble_eq_true rfl⟩ (fun r_7 er_7 => ?_)
    obtain rfl : r_7 = bI (isW (nI 1) 5) := er_7
    refine lv_if_eq (tgt := 66) hx hb dEx_count_49 (by decide) (fun c_8 => ?_) (fun c_8 => ?_)
    · -- 49 taken
      exact absurd (((isW_6 _).trans (isI_t (N := 6) (p := 1) (by decide) (by decide))).symm.trans (bI0 c_8)) (by decide)
    · -- 49 not taken
      refine lv_aload_n hx hb dEx_count_52 rfl (lv_at hl 0 rfl) ?_
      refine cx_g hx hb hts hown hK hP 0 (by decide) rfl lEx_11 rfl dEx_count_53 ?_
      refine lv_iload_n hx hb dEx_count_56 rfl (lv_at hl 1 rfl) ?_
      refine lv_iconst (v := 3) hx hb dEx_count_57 (by decide) ?_
      refine lv_isub hx hb dEx_count_58 ?_
      refine lv_topi (fun y_9 ey_9 => ?_)
      obtain rfl : y_9 = nI 1 := ey_9.trans (pk_sub (b := 3) (by decide))
      refine cx_lP (j := 1) (by decide) hx hb hK hP dEx_count_59 ?_
      refine ce_ri (As := []) (rest := []) ⟨hx, hb, hml, hown, hts⟩ (c_Pg_size l D cI (adr b 1) (eP E 1)) mPg_size lEx_75 iPg_size (ce_hR (by omega) (by decide)) ⟨rfl, rfl⟩ hK1 hN (((wX_P.mp hP).2 1 (by decide)).sub (ws' := wP (adr b 1) cI (eP E 1)) [1, 2, 3] rfl) 0 rfl rfl rfl hl.1 rfl (Nat.le_of_ble_eq_true rfl) dEx_count_60 ⟨Nat.le_of_ble_eq_true rfl, Nat.le_of_ble_eq_true rfl⟩ (fun r_10 er_10 => ?_)
      obtain rfl : r_10 = nI (eP E 1).2.2 := er_10
      refine lv_goto (tgt := 67) hx hb dEx_count_63 (by decide) ?_
      exact W.iret (v := nI (eP E 1).2.2) hx hb hr (fun t9 ht hW => ⟨nI (eP E 1).2.2, rfl, rfl, ht⟩) (fun _ h => by cases h) dEx_count_67
  ·
    refine lv_iload_n hx hb dEx_count_0 rfl (lv_at hl 1 rfl) ?_
    refine lv_tableOut (x := nI 5) (tgt := 43) hx hb dEx_count_1 (by decide) (by decide) ?_
    refine lv_iload_n hx hb dEx_count_43 rfl (lv_at hl 1 rfl) ?_
    refine lv_iconst (v := 3) hx hb dEx_count_44 (by decide) ?_
    refine lv_isub hx hb dEx_count_45 ?_
    refine lv_topi (fun y_11 ey_11 => ?_)
    obtain rfl : y_11 = nI 2 := ey_11.trans (pk_sub (b := 3) (by decide))
    refine ce_si (As := [.int (nI 2)]) (rest := []) ⟨hx, hb, hml, hown, hts⟩ (c_Ex_isProgram l D cI b (wX b cI cP cR E) (nI 2)) mEx_isProgram lEx_25 sEx_isProgram (ce_hR (by omega) (by decide)) ⟨rfl, rfl⟩ hK1 hN hP rfl hl.1 rfl (Nat.le_of_ble_eq_true rfl) dEx_count_46 ⟨Nat.le_of_ble_eq_true rfl, Nat.le_of_ble_eq_true rfl⟩ (fun r_12 er_12 => ?_)
    obtain rfl : r_12 = bI (isW (nI 2) 5) := er_12
    refine lv_if_eq (tgt := 66) hx hb dEx_count_49 (by decide) (fun c_13 => ?_) (fun c_13 => ?_)
    · -- 49 taken
      exact absurd (((isW_6 _).trans (isI_t (N := 6) (p := 2) (by decide) (by decide))).symm.trans (bI0 c_13)) (by decide)
    · -- 49 not taken
      refine lv_aload_n hx hb dEx_count_52 rfl (lv_at hl 0 rfl) ?_
      refine cx_g hx hb hts hown hK hP 0 (by decide) rfl lEx_11 rfl dEx_count_53 ?_
      refine lv_iload_n hx hb dEx_count_56 rfl (lv_at hl 1 rfl) ?_
      refine lv_iconst (v := 3) hx hb dEx_count_57 (by decide) ?_
      refine lv_isub hx hb dEx_count_58 ?_
      refine lv_topi (fun y_14 ey_14 => ?_)
      obtain rfl : y_14 = nI 2 := ey_14.trans (pk_sub (b := 3) (by decide))
      refine cx_lP (j := 2) (by decide) hx hb hK hP dEx_count_59 ?_
      refine ce_ri (As := []) (rest := []) ⟨hx, hb, hml, hown, hts⟩ (c_Pg_size l D cI (adr b 2) (eP E 2)) mPg_size lEx_75 iPg_size (ce_hR (by omega) (by decide)) ⟨rfl, rfl⟩ hK1 hN (((wX_P.mp hP).2 2 (by decide)).sub (ws' := wP (adr b 2) cI (eP E 2)) [1, 2, 3] rfl) 0 rfl rfl rfl hl.1 rfl (Nat.le_of_ble_eq_true rfl) dEx_count_60 ⟨Nat.le_of_ble_eq_true rfl, Nat.le_of_ble_eq_true rfl⟩ (fun r_15 er_15 => ?_)
      obtain rfl : r_15 = nI (eP E 2).2.2 := er_15
      refine lv_goto (tgt := 67) hx hb dEx_count_63 (by decide) ?_
      exact W.iret (v := nI (eP E 2).2.2) hx hb hr (fun t9 ht hW => ⟨nI (eP E 2).2.2, rfl, rfl, ht⟩) (fun _ h => by cases h) dEx_count_67
  ·
    refine lv_iload_n hx hb dEx_count_0 rfl (lv_at hl 1 rfl) ?_
    refine lv_tableOut (x := nI 6) (tgt := 43) hx hb dEx_count_1 (by decide) (by decide) ?_
    refine lv_iload_n hx hb dEx_count_43 rfl (lv_at hl 1 rfl) ?_
    refine lv_iconst (v := 3) hx hb dEx_count_44 (by decide) ?_
    refine lv_isub hx hb dEx_count_45 ?_
    refine lv_topi (fun y_16 ey_16 => ?_)
    obtain rfl : y_16 = nI 3 := ey_16.trans (pk_sub (b := 3) (by decide))
    refine ce_si (As := [.int (nI 3)]) (rest := []) ⟨hx, hb, hml, hown, hts⟩ (c_Ex_isProgram l D cI b (wX b cI cP cR E) (nI 3)) mEx_isProgram lEx_25 sEx_isProgram (ce_hR (by omega) (by decide)) ⟨rfl, rfl⟩ hK1 hN hP rfl hl.1 rfl (Nat.le_of_ble_eq_true rfl) dEx_count_46 ⟨Nat.le_of_ble_eq_true rfl, Nat.le_of_ble_eq_true rfl⟩ (fun r_17 er_17 => ?_)
    obtain rfl : r_17 = bI (isW (nI 3) 5) := er_17
    refine lv_if_eq (tgt := 66) hx hb dEx_count_49 (by decide) (fun c_18 => ?_) (fun c_18 => ?_)
    · -- 49 taken
      exact absurd (((isW_6 _).trans (isI_t (N := 6) (p := 3) (by decide) (by decide))).symm.trans (bI0 c_18)) (by decide)
    · -- 49 not taken
      refine lv_aload_n hx hb dEx_count_52 rfl (lv_at hl 0 rfl) ?_
      refine cx_g hx hb hts hown hK hP 0 (by decide) rfl lEx_11 rfl dEx_count_53 ?_
      refine lv_iload_n hx hb dEx_count_56 rfl (lv_at hl 1 rfl) ?_
      refine lv_iconst (v := 3) hx hb dEx_count_57 (by decide) ?_
      refine lv_isub hx hb dEx_count_58 ?_
      refine lv_topi (fun y_19 ey_19 => ?_)
      obtain rfl : y_19 = nI 3 := ey_19.trans (pk_sub (b := 3) (by decide))
      refine cx_lP (j := 3) (by decide) hx hb hK hP dEx_count_59 ?_
      refine ce_ri (As := []) (rest := []) ⟨hx, hb, hml, hown, hts⟩ (c_Pg_size l D cI (adr b 3) (eP E 3)) mPg_size lEx_75 iPg_size (ce_hR (by omega) (by decide)) ⟨rfl, rfl⟩ hK1 hN (((wX_P.mp hP).2 3 (by decide)).sub (ws' := wP (adr b 3) cI (eP E 3)) [1, 2, 3] rfl) 0 rfl rfl rfl hl.1 rfl (Nat.le_of_ble_eq_true rfl) dEx_count_60 ⟨Nat.le_of_ble_eq_true rfl, Nat.le_of_ble_eq_true rfl⟩ (fun r_20 er_20 => ?_)
      obtain rfl : r_20 = nI (eP E 3).2.2 := er_20
      refine lv_goto (tgt := 67) hx hb dEx_count_63 (by decide) ?_
      exact W.iret (v := nI (eP E 3).2.2) hx hb hr (fun t9 ht hW => ⟨nI (eP E 3).2.2, rfl, rfl, ht⟩) (fun _ h => by cases h) dEx_count_67
  ·
    refine lv_iload_n hx hb dEx_count_0 rfl (lv_at hl 1 rfl) ?_
    refine lv_tableOut (x := nI 7) (tgt := 43) hx hb dEx_count_1 (by decide) (by decide) ?_
    refine lv_iload_n hx hb dEx_count_43 rfl (lv_at hl 1 rfl) ?_
    refine lv_iconst (v := 3) hx hb dEx_count_44 (by decide) ?_
    refine lv_isub hx hb dEx_count_45 ?_
    refine lv_topi (fun y_21 ey_21 => ?_)
    obtain rfl : y_21 = nI 4 := ey_21.trans (pk_sub (b := 3) (by decide))
    refine ce_si (As := [.int (nI 4)]) (rest := []) ⟨hx, hb, hml, hown, hts⟩ (c_Ex_isProgram l D cI b (wX b cI cP cR E) (nI 4)) mEx_isProgram lEx_25 sEx_isProgram (ce_hR (by omega) (by decide)) ⟨rfl, rfl⟩ hK1 hN hP rfl hl.1 rfl (Nat.le_of_ble_eq_true rfl) dEx_count_46 ⟨Nat.le_of_ble_eq_true rfl, Nat.le_of_ble_eq_true rfl⟩ (fun r_22 er_22 => ?_)
    obtain rfl : r_22 = bI (isW (nI 4) 5) := er_22
    refine lv_if_eq (tgt := 66) hx hb dEx_count_49 (by decide) (fun c_23 => ?_) (fun c_23 => ?_)
    · -- 49 taken
      exact absurd (((isW_6 _).trans (isI_t (N := 6) (p := 4) (by decide) (by decide))).symm.trans (bI0 c_23)) (by decide)
    · -- 49 not taken
      refine lv_aload_n hx hb dEx_count_52 rfl (lv_at hl 0 rfl) ?_
      refine cx_g hx hb hts hown hK hP 0 (by decide) rfl lEx_11 rfl dEx_count_53 ?_
      refine lv_iload_n hx hb dEx_count_56 rfl (lv_at hl 1 rfl) ?_
      refine lv_iconst (v := 3) hx hb dEx_count_57 (by decide) ?_
      refine lv_isub hx hb dEx_count_58 ?_
      refine lv_topi (fun y_24 ey_24 => ?_)
      obtain rfl : y_24 = nI 4 := ey_24.trans (pk_sub (b := 3) (by decide))
      refine cx_lP (j := 4) (by decide) hx hb hK hP dEx_count_59 ?_
      refine ce_ri (As := []) (rest := []) ⟨hx, hb, hml, hown, hts⟩ (c_Pg_size l D cI (adr b 4) (eP E 4)) mPg_size lEx_75 iPg_size (ce_hR (by omega) (by decide)) ⟨rfl, rfl⟩ hK1 hN (((wX_P.mp hP).2 4 (by decide)).sub (ws' := wP (adr b 4) cI (eP E 4)) [1, 2, 3] rfl) 0 rfl rfl rfl hl.1 rfl (Nat.le_of_ble_eq_true rfl) dEx_count_60 ⟨Nat.le_of_ble_eq_true rfl, Nat.le_of_ble_eq_true rfl⟩ (fun r_25 er_25 => ?_)
      obtain rfl : r_25 = nI (eP E 4).2.2 := er_25
      refine lv_goto (tgt := 67) hx hb dEx_count_63 (by decide) ?_
      exact W.iret (v := nI (eP E 4).2.2) hx hb hr (fun t9 ht hW => ⟨nI (eP E 4).2.2, rfl, rfl, ht⟩) (fun _ h => by cases h) dEx_count_67
  ·
    refine lv_iload_n hx hb dEx_count_0 rfl (lv_at hl 1 rfl) ?_
    refine lv_tableOut (x := nI 8) (tgt := 43) hx hb dEx_count_1 (by decide) (by decide) ?_
    refine lv_iload_n hx hb dEx_count_43 rfl (lv_at hl 1 rfl) ?_
    refine lv_iconst (v := 3) hx hb dEx_count_44 (by decide) ?_
    refine lv_isub hx hb dEx_count_45 ?_
    refine lv_topi (fun y_26 ey_26 => ?_)
    obtain rfl : y_26 = nI 5 := ey_26.trans (pk_sub (b := 3) (by decide))
    refine ce_si (As := [.int (nI 5)]) (rest := []) ⟨hx, hb, hml, hown, hts⟩ (c_Ex_isProgram l D cI b (wX b cI cP cR E) (nI 5)) mEx_isProgram lEx_25 sEx_isProgram (ce_hR (by omega) (by decide)) ⟨rfl, rfl⟩ hK1 hN hP rfl hl.1 rfl (Nat.le_of_ble_eq_true rfl) dEx_count_46 ⟨Nat.le_of_ble_eq_true rfl, Nat.le_of_ble_eq_true rfl⟩ (fun r_27 er_27 => ?_)
    obtain rfl : r_27 = bI (isW (nI 5) 5) := er_27
    refine lv_if_eq (tgt := 66) hx hb dEx_count_49 (by decide) (fun c_28 => ?_) (fun c_28 => ?_)
    · -- 49 taken
      exact absurd (((isW_6 _).trans (isI_t (N := 6) (p := 5) (by decide) (by decide))).symm.trans (bI0 c_28)) (by decide)
    · -- 49 not taken
      refine lv_aload_n hx hb dEx_count_52 rfl (lv_at hl 0 rfl) ?_
      refine cx_g hx hb hts hown hK hP 0 (by decide) rfl lEx_11 rfl dEx_count_53 ?_
      refine lv_iload_n hx hb dEx_count_56 rfl (lv_at hl 1 rfl) ?_
      refine lv_iconst (v := 3) hx hb dEx_count_57 (by decide) ?_
      refine lv_isub hx hb dEx_count_58 ?_
      refine lv_topi (fun y_29 ey_29 => ?_)
      obtain rfl : y_29 = nI 5 := ey_29.trans (pk_sub (b := 3) (by decide))
      refine cx_lP (j := 5) (by decide) hx hb hK hP dEx_count_59 ?_
      refine ce_ri (As := []) (rest := []) ⟨hx, hb, hml, hown, hts⟩ (c_Pg_size l D cI (adr b 5) (eP E 5)) mPg_size lEx_75 iPg_size (ce_hR (by omega) (by decide)) ⟨rfl, rfl⟩ hK1 hN (((wX_P.mp hP).2 5 (by decide)).sub (ws' := wP (adr b 5) cI (eP E 5)) [1, 2, 3] rfl) 0 rfl rfl rfl hl.1 rfl (Nat.le_of_ble_eq_true rfl) dEx_count_60 ⟨Nat.le_of_ble_eq_true rfl, Nat.le_of_ble_eq_true rfl⟩ (fun r_30 er_30 => ?_)
      obtain rfl : r_30 = nI (eP E 5).2.2 := er_30
      refine lv_goto (tgt := 67) hx hb dEx_count_63 (by decide) ?_
      exact W.iret (v := nI (eP E 5).2.2) hx hb hr (fun t9 ht hW => ⟨nI (eP E 5).2.2, rfl, rfl, ht⟩) (fun _ h => by cases h) dEx_count_67
