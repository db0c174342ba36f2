set_option maxHeartbeats 8000000 in
set_option maxRecDepth 100000 in
theorem c_Ex_perform (l : Launch) (D : va_G) (cI cP cR : ClassId) (b : Nat → Nat) (hd : dX b) (E : XS) (pn : Nat) (th : Bool) (hp6 : pn < 6) (hok : pOk (eP E pn)) : Met l yEx_perform (ce_ws yEx_perform cEx_perform 4 (some .int)) (ce_rm 49) (cx_Pc D cI cP cR [.ref (b 0), .int (nI pn), .int (bI th)] (wX b cI cP cR E)) (va_Qi (fun r E2 => (r, E2) = xePerf th pn E) (fun E2 t => va_P D vwCl (wX b cI cP cR E2) t.heap) (aX b)) 0 0 (aX b) := by
  refine Met.ofW (cc := cEx_perform) (maxL := 4) (ret := (some .int)) (by decide) rfl ?_
  intro p e s m args below meth c s₁ B hml hv
  obtain ⟨rfl, hP, hK, hN⟩ := hv
  have hx := B.exec
  have hb := B.bytes
  have hr := B.returns
  have hts := atoms_spec (ws := ce_ws yEx_perform cEx_perform 4 (some .int)) B.pre
  have hown : s.vm.findClass REx = some m.cls := findClass_of_methodNamed B.named
  have hlocks := B.notSynchronized
  have hK1 := hK.sub (tys' := [(cI, .int)]) [0] rfl
  have hS : va_S (aX b) s.heap s.heap [] := va_S.rf
  have hl := lv_entry ([.ref (b 0), .int (nI pn), .int (bI th)]) (n := 4) (Nat.le_of_ble_eq_true rfl)
  rw [lg_entry_eq]
  generalize (lg_sl ([.ref (b 0), .int (nI pn), .int (bI th)]) ++ List.replicate (4 - (lg_sl ([.ref (b 0), .int (nI pn), .int (bI th)])).length) Slot.unset).toArray = ls at hl ⊢
  have hl : lv_has ls 4 [(0, .ref (b 0)), (1, .int (nI pn)), (2, .int (bI th))] := hl
  refine lv_aload_n hx hb dEx_perform_0 rfl (lv_at hl 0 rfl) ?_
  refine cx_g hx hb hts hown hK hP 1 (by decide) rfl lEx_17 rfl dEx_perform_1 ?_
  refine lv_iload_n hx hb dEx_perform_4 rfl (lv_at hl 1 rfl) ?_
  refine cx_lR (j := pn) hp6 hx hb hK hP dEx_perform_5 ?_
  refine lv_astore_n (lv' := [(3, .ref (adr b pn 0)), (0, .ref (b 0)), (1, .int (nI pn)), (2, .int (bI th))]) hx hb dEx_perform_6 rfl hl (by decide) rfl (fun ls hl => ?_)
  refine lv_aload_n hx hb dEx_perform_7 rfl (lv_at hl 0 rfl) ?_
  refine lv_iload_n hx hb dEx_perform_8 rfl (lv_at hl 3 rfl) ?_
  refine lv_if_eq (tgt := 19) hx hb dEx_perform_9 (by decide) (fun c_1 => ?_) (fun c_1 => ?_)
  · -- 9 taken
    refine lv_bipush (v := 10) hx hb dEx_perform_19 (by decide) ?_
    refine cx_vv (j := pn) (As := [.int 10]) (rest := []) hp6 ⟨hx, hb, hml, hown, hts⟩ (c_Rn_perform l D cI (adr b pn) (dX_R hd hp6) (eP E pn) hok (eU E pn) 10) mRn_perform lEx_79 iRn_perform (ce_hR (by omega) (by decide)) ⟨rfl, rfl⟩ hK hN hd hP hS rfl hl.1 rfl (Nat.le_of_ble_eq_true rfl) dEx_perform_21 ⟨Nat.le_of_ble_eq_true rfl, Nat.le_of_ble_eq_true rfl⟩ (fun u_2 H locs eu_2 hP hS => ?_)
    obtain rfl : u_2 = xU th pn E := eu_2.trans (xU_f (bI0 c_1))
    have hP : va_P D vwCl (wX b cI cP cR (tU E (va_up (eU E) pn (xU th pn E)))) H := hP
    refine lv_aload_n hx hb dEx_perform_24 rfl (lv_at hl 1 rfl) ?_
    refine lv_dup hx hb dEx_perform_25 rfl ?_
    refine cx_g hx hb hts hown hK hP 3 (by decide) rfl lEx_65 rfl dEx_perform_26 ?_
    refine lv_topi (fun y_3 ey_3 => ?_)
    obtain rfl : y_3 = eR E := ey_3.trans (by rw [eR_tU])
    refine lv_iconst (v := 1) hx hb dEx_perform_29 (by decide) ?_
    refine lv_iadd hx hb dEx_perform_30 ?_
    refine cx_pR (x := (eR E) + 1) hx hb hts hown hK hd hP hS lEx_65 dEx_perform_31 (fun H locs hP hS => ?_)
    refine lv_iload_n hx hb dEx_perform_34 rfl (lv_at hl 3 rfl) ?_
    refine lv_if_eq (tgt := 48) hx hb dEx_perform_35 (by decide) (fun c_4 => ?_) (fun c_4 => ?_)
    · -- 35 taken
      refine lv_aload_n hx hb dEx_perform_48 rfl (lv_at hl 0 rfl) ?_
      refine ce_ri (As := []) (rest := []) ⟨hx, hb, hml, hown, hts⟩ (c_Rn_outcome l D cI (adr b pn) (dX_R hd hp6) (eP (tR (tU E (va_up (eU E) pn (xU th pn E))) ((eR E) + 1)) pn) (eU (tR (tU E (va_up (eU E) pn (xU th pn E))) ((eR E) + 1)) pn)) mRn_outcome lEx_82 iRn_outcome (ce_hR (by omega) (by decide)) ⟨rfl, rfl⟩ hK1 hN ((wX_P.mp hP).2 pn hp6) 0 rfl rfl rfl hl.1 rfl (Nat.le_of_ble_eq_true rfl) dEx_perform_49 ⟨Nat.le_of_ble_eq_true rfl, Nat.le_of_ble_eq_true rfl⟩ (fun r_5 er_5 => ?_)
      obtain rfl : r_5 = xOutcome (xU th pn E) := er_5.trans (by rw [eU_tR, eU_tU, va_up_self])
      refine lv_if_eq (tgt := 65) hx hb dEx_perform_52 (by decide) (fun c_6 => ?_) (fun c_6 => ?_)
      · -- 52 taken
        refine lv_aload_n hx hb dEx_perform_65 rfl (lv_at hl 1 rfl) ?_
        refine lv_dup hx hb dEx_perform_66 rfl ?_
        refine cx_g hx hb hts hown hK hP 2 (by decide) rfl lEx_61 rfl dEx_perform_67 ?_
        refine lv_topl (fun y_7 ey_7 => ?_)
        obtain rfl : y_7 = eC E := ey_7.trans (by rw [eC_tR, eC_tU])
        refine lv_aload_n hx hb dEx_perform_70 rfl (lv_at hl 0 rfl) ?_
        refine ce_rl (As := []) (rest := [.long (eC E), .ref (b 0)]) ⟨hx, hb, hml, hown, hts⟩ (c_Rn_counted l D cI (adr b pn) (dX_R hd hp6) (eP (tR (tU E (va_up (eU E) pn (xU th pn E))) ((eR E) + 1)) pn) (eU (tR (tU E (va_up (eU E) pn (xU th pn E))) ((eR E) + 1)) pn)) mRn_counted lEx_85 iRn_counted (ce_hR (by omega) (by decide)) ⟨rfl, rfl⟩ hK1 hN ((wX_P.mp hP).2 pn hp6) 0 rfl rfl rfl hl.1 rfl (Nat.le_of_ble_eq_true rfl) dEx_perform_71 ⟨Nat.le_of_ble_eq_true rfl, Nat.le_of_ble_eq_true rfl⟩ (fun r_8 er_8 => ?_)
        obtain rfl : r_8 = gCnt (xU th pn E) := er_8.trans (by rw [eU_tR, eU_tU, va_up_self])
        refine lv_ladd hx hb dEx_perform_74 ?_
        refine cx_pC (x := (eC E) + (gCnt (xU th pn E))) hx hb hts hown hK hd hP hS lEx_61 dEx_perform_75 (fun H locs hP hS => ?_)
        refine lv_aload_n hx hb dEx_perform_78 rfl (lv_at hl 0 rfl) ?_
        refine ce_ri (As := []) (rest := []) ⟨hx, hb, hml, hown, hts⟩ (c_Rn_outcome l D cI (adr b pn) (dX_R hd hp6) (eP (tC (tR (tU E (va_up (eU E) pn (xU th pn E))) ((eR E) + 1)) ((eC E) + (gCnt (xU th pn E)))) pn) (eU (tC (tR (tU E (va_up (eU E) pn (xU th pn E))) ((eR E) + 1)) ((eC E) + (gCnt (xU th pn E)))) pn)) mRn_outcome lEx_82 iRn_outcome (ce_hR (by omega) (by decide)) ⟨rfl, rfl⟩ hK1 hN ((wX_P.mp hP).2 pn hp6) 0 rfl rfl rfl hl.1 rfl (Nat.le_of_ble_eq_true rfl) dEx_perform_79 ⟨Nat.le_of_ble_eq_true rfl, Nat.le_of_ble_eq_true rfl⟩ (fun r_9 er_9 => ?_)
        obtain rfl : r_9 = xOutcome (xU th pn E) := er_9.trans (by rw [eU_tC, eU_tR, eU_tU, va_up_self])
        exact W.iret (v := xOutcome (xU th pn E)) hx hb hr (fun t9 ht hW => ⟨⟨xOutcome (xU th pn E), tC (tR (tU E (va_up (eU E) pn (xU th pn E))) ((eR E) + 1)) ((eC E) + (gCnt (xU th pn E))), rfl, xP_fz (bI0 c_1) c_6, ce_hp ht hP⟩, hS.F ht⟩) hS.2.2 dEx_perform_82
      · -- 52 not taken
        refine lv_aload_n hx hb dEx_perform_55 rfl (lv_at hl 1 rfl) ?_
        refine lv_dup hx hb dEx_perform_56 rfl ?_
        refine cx_g hx hb hts hown hK hP 5 (by decide) rfl lEx_72 rfl dEx_perform_57 ?_
        refine lv_topi (fun y_10 ey_10 => ?_)
        obtain rfl : y_10 = eB E := ey_10.trans (by rw [eB_tR, eB_tU])
        refine lv_iconst (v := 1) hx hb dEx_perform_60 (by decide) ?_
        refine lv_iadd hx hb dEx_perform_61 ?_
        refine cx_pB (x := (eB E) + 1) hx hb hts hown hK hd hP hS lEx_72 dEx_perform_62 (fun H locs hP hS => ?_)
        refine lv_aload_n hx hb dEx_perform_65 rfl (lv_at hl 1 rfl) ?_
        refine lv_dup hx hb dEx_perform_66 rfl ?_
        refine cx_g hx hb hts hown hK hP 2 (by decide) rfl lEx_61 rfl dEx_perform_67 ?_
        refine lv_topl (fun y_11 ey_11 => ?_)
        obtain rfl : y_11 = eC E := ey_11.trans (by rw [eC_tB, eC_tR, eC_tU])
        refine lv_aload_n hx hb dEx_perform_70 rfl (lv_at hl 0 rfl) ?_
        refine ce_rl (As := []) (rest := [.long (eC E), .ref (b 0)]) ⟨hx, hb, hml, hown, hts⟩ (c_Rn_counted l D cI (adr b pn) (dX_R hd hp6) (eP (tB (tR (tU E (va_up (eU E) pn (xU th pn E))) ((eR E) + 1)) ((eB E) + 1)) pn) (eU (tB (tR (tU E (va_up (eU E) pn (xU th pn E))) ((eR E) + 1)) ((eB E) + 1)) pn)) mRn_counted lEx_85 iRn_counted (ce_hR (by omega) (by decide)) ⟨rfl, rfl⟩ hK1 hN ((wX_P.mp hP).2 pn hp6) 0 rfl rfl rfl hl.1 rfl (Nat.le_of_ble_eq_true rfl) dEx_perform_71 ⟨Nat.le_of_ble_eq_true rfl, Nat.le_of_ble_eq_true rfl⟩ (fun r_12 er_12 => ?_)
        obtain rfl : r_12 = gCnt (xU th pn E) := er_12.trans (by rw [eU_tB, eU_tR, eU_tU, va_up_self])
        refine lv_ladd hx hb dEx_perform_74 ?_
        refine cx_pC (x := (eC E) + (gCnt (xU th pn E))) hx hb hts hown hK hd hP hS lEx_61 dEx_perform_75 (fun H locs hP hS => ?_)
        refine lv_aload_n hx hb dEx_perform_78 rfl (lv_at hl 0 rfl) ?_
        refine ce_ri (As := []) (rest := []) ⟨hx, hb, hml, hown, hts⟩ (c_Rn_outcome l D cI (adr b pn) (dX_R hd hp6) (eP (tC (tB (tR (tU E (va_up (eU E) pn (xU th pn E))) ((eR E) + 1)) ((eB E) + 1)) ((eC E) + (gCnt (xU th pn E)))) pn) (eU (tC (tB (tR (tU E (va_up (eU E) pn (xU th pn E))) ((eR E) + 1)) ((eB E) + 1)) ((eC E) + (gCnt (xU th pn E)))) pn)) mRn_outcome lEx_82 iRn_outcome (ce_hR (by omega) (by decide)) ⟨rfl, rfl⟩ hK1 hN ((wX_P.mp hP).2 pn hp6) 0 rfl rfl rfl hl.1 rfl (Nat.le_of_ble_eq_true rfl) dEx_perform_79 ⟨Nat.le_of_ble_eq_true rfl, Nat.le_of_ble_eq_true rfl⟩ (fun r_13 er_13 => ?_)
        obtain rfl : r_13 = xOutcome (xU th pn E) := er_13.trans (by rw [eU_tC, eU_tB, eU_tR, eU_tU, va_up_self])
        exact W.iret (v := xOutcome (xU th pn E)) hx hb hr (fun t9 ht hW => ⟨⟨xOutcome (xU th pn E), tC (tB (tR (tU E (va_up (eU E) pn (xU th pn E))) ((eR E) + 1)) ((eB E) + 1)) ((eC E) + (gCnt (xU th pn E))), rfl, xP_fn (bI0 c_1) c_6, ce_hp ht hP⟩, hS.F ht⟩) hS.2.2 dEx_perform_82
    · -- 35 not taken
      exact absurd c_1 c_4
  · -- 9 not taken
    refine lv_bipush (v := 20) hx hb dEx_perform_12 (by decide) ?_
    refine lv_iload_n hx hb dEx_perform_14 rfl (lv_at hl 2 rfl) ?_
    refine lv_iadd hx hb dEx_perform_15 ?_
    refine lv_goto (tgt := 21) hx hb dEx_perform_16 (by decide) ?_
    refine cx_vv (j := pn) (As := [.int (20 + (nI pn))]) (rest := []) hp6 ⟨hx, hb, hml, hown, hts⟩ (c_Rn_perform l D cI (adr b pn) (dX_R hd hp6) (eP E pn) hok (eU E pn) (20 + (nI pn))) mRn_perform lEx_79 iRn_perform (ce_hR (by omega) (by decide)) ⟨rfl, rfl⟩ hK hN hd hP hS rfl hl.1 rfl (Nat.le_of_ble_eq_true rfl) dEx_perform_21 ⟨Nat.le_of_ble_eq_true rfl, Nat.le_of_ble_eq_true rfl⟩ (fun u_14 H locs eu_14 hP hS => ?_)
    obtain rfl : u_14 = xU th pn E := eu_14.trans (xU_t (bI1 c_1))
    have hP : va_P D vwCl (wX b cI cP cR (tU E (va_up (eU E) pn (xU th pn E)))) H := hP
    refine lv_aload_n hx hb dEx_perform_24 rfl (lv_at hl 1 rfl) ?_
    refine lv_dup hx hb dEx_perform_25 rfl ?_
    refine cx_g hx hb hts hown hK hP 3 (by decide) rfl lEx_65 rfl dEx_perform_26 ?_
    refine lv_topi (fun y_15 ey_15 => ?_)
    obtain rfl : y_15 = eR E := ey_15.trans (by rw [eR_tU])
    refine lv_iconst (v := 1) hx hb dEx_perform_29 (by decide) ?_
    refine lv_iadd hx hb dEx_perform_30 ?_
    refine cx_pR (x := (eR E) + 1) hx hb hts hown hK hd hP hS lEx_65 dEx_perform_31 (fun H locs hP hS => ?_)
    refine lv_iload_n hx hb dEx_perform_34 rfl (lv_at hl 3 rfl) ?_
    refine lv_if_eq (tgt := 48) hx hb dEx_perform_35 (by decide) (fun c_16 => ?_) (fun c_16 => ?_)
    · -- 35 taken
      exact absurd c_16 c_1
    · -- 35 not taken
      refine lv_aload_n hx hb dEx_perform_38 rfl (lv_at hl 1 rfl) ?_
      refine lv_dup hx hb dEx_perform_39 rfl ?_
      refine cx_g hx hb hts hown hK hP 4 (by decide) rfl lEx_69 rfl dEx_perform_40 ?_
      refine lv_topi (fun y_17 ey_17 => ?_)
      obtain rfl : y_17 = eT E := ey_17.trans (by rw [eT_tR, eT_tU])
      refine lv_iconst (v := 1) hx hb dEx_perform_43 (by decide) ?_
      refine lv_iadd hx hb dEx_perform_44 ?_
      refine cx_pT (x := (eT E) + 1) hx hb hts hown hK hd hP hS lEx_69 dEx_perform_45 (fun H locs hP hS => ?_)
      refine lv_aload_n hx hb dEx_perform_48 rfl (lv_at hl 0 rfl) ?_
      refine ce_ri (As := []) (rest := []) ⟨hx, hb, hml, hown, hts⟩ (c_Rn_outcome l D cI (adr b pn) (dX_R hd hp6) (eP (tT (tR (tU E (va_up (eU E) pn (xU th pn E))) ((eR E) + 1)) ((eT E) + 1)) pn) (eU (tT (tR (tU E (va_up (eU E) pn (xU th pn E))) ((eR E) + 1)) ((eT E) + 1)) pn)) mRn_outcome lEx_82 iRn_outcome (ce_hR (by omega) (by decide)) ⟨rfl, rfl⟩ hK1 hN ((wX_P.mp hP).2 pn hp6) 0 rfl rfl rfl hl.1 rfl (Nat.le_of_ble_eq_true rfl) dEx_perform_49 ⟨Nat.le_of_ble_eq_true rfl, Nat.le_of_ble_eq_true rfl⟩ (fun r_18 er_18 => ?_)
      obtain rfl : r_18 = xOutcome (xU th pn E) := er_18.trans (by rw [eU_tT, eU_tR, eU_tU, va_up_self])
      refine lv_if_eq (tgt := 65) hx hb dEx_perform_52 (by decide) (fun c_19 => ?_) (fun c_19 => ?_)
      · -- 52 taken
        refine lv_aload_n hx hb dEx_perform_65 rfl (lv_at hl 1 rfl) ?_
        refine lv_dup hx hb dEx_perform_66 rfl ?_
        refine cx_g hx hb hts hown hK hP 2 (by decide) rfl lEx_61 rfl dEx_perform_67 ?_
        refine lv_topl (fun y_20 ey_20 => ?_)
        obtain rfl : y_20 = eC E := ey_20.trans (by rw [eC_tT, eC_tR, eC_tU])
        refine lv_aload_n hx hb dEx_perform_70 rfl (lv_at hl 0 rfl) ?_
        refine ce_rl (As := []) (rest := [.long (eC E), .ref (b 0)]) ⟨hx, hb, hml, hown, hts⟩ (c_Rn_counted l D cI (adr b pn) (dX_R hd hp6) (eP (tT (tR (tU E (va_up (eU E) pn (xU th pn E))) ((eR E) + 1)) ((eT E) + 1)) pn) (eU (tT (tR (tU E (va_up (eU E) pn (xU th pn E))) ((eR E) + 1)) ((eT E) + 1)) pn)) mRn_counted lEx_85 iRn_counted (ce_hR (by omega) (by decide)) ⟨rfl, rfl⟩ hK1 hN ((wX_P.mp hP).2 pn hp6) 0 rfl rfl rfl hl.1 rfl (Nat.le_of_ble_eq_true rfl) dEx_perform_71 ⟨Nat.le_of_ble_eq_true rfl, Nat.le_of_ble_eq_true rfl⟩ (fun r_21 er_21 => ?_)
        obtain rfl : r_21 = gCnt (xU th pn E) := er_21.trans (by rw [eU_tT, eU_tR, eU_tU, va_up_self])
        refine lv_ladd hx hb dEx_perform_74 ?_
        refine cx_pC (x := (eC E) + (gCnt (xU th pn E))) hx hb hts hown hK hd hP hS lEx_61 dEx_perform_75 (fun H locs hP hS => ?_)
        refine lv_aload_n hx hb dEx_perform_78 rfl (lv_at hl 0 rfl) ?_
        refine ce_ri (As := []) (rest := []) ⟨hx, hb, hml, hown, hts⟩ (c_Rn_outcome l D cI (adr b pn) (dX_R hd hp6) (eP (tC (tT (tR (tU E (va_up (eU E) pn (xU th pn E))) ((eR E) + 1)) ((eT E) + 1)) ((eC E) + (gCnt (xU th pn E)))) pn) (eU (tC (tT (tR (tU E (va_up (eU E) pn (xU th pn E))) ((eR E) + 1)) ((eT E) + 1)) ((eC E) + (gCnt (xU th pn E)))) pn)) mRn_outcome lEx_82 iRn_outcome (ce_hR (by omega) (by decide)) ⟨rfl, rfl⟩ hK1 hN ((wX_P.mp hP).2 pn hp6) 0 rfl rfl rfl hl.1 rfl (Nat.le_of_ble_eq_true rfl) dEx_perform_79 ⟨Nat.le_of_ble_eq_true rfl, Nat.le_of_ble_eq_true rfl⟩ (fun r_22 er_22 => ?_)
        obtain rfl : r_22 = xOutcome (xU th pn E) := er_22.trans (by rw [eU_tC, eU_tT, eU_tR, eU_tU, va_up_self])
        exact W.iret (v := xOutcome (xU th pn E)) hx hb hr (fun t9 ht hW => ⟨⟨xOutcome (xU th pn E), tC (tT (tR (tU E (va_up (eU E) pn (xU th pn E))) ((eR E) + 1)) ((eT E) + 1)) ((eC E) + (gCnt (xU th pn E))), rfl, xP_tz (bI1 c_1) c_19, ce_hp ht hP⟩, hS.F ht⟩) hS.2.2 dEx_perform_82
      · -- 52 not taken
        refine lv_aload_n hx hb dEx_perform_55 rfl (lv_at hl 1 rfl) ?_
        refine lv_dup hx hb dEx_perform_56 rfl ?_
        refine cx_g hx hb hts hown hK hP 5 (by decide) rfl lEx_72 rfl dEx_perform_57 ?_
        refine lv_topi (fun y_23 ey_23 => ?_)
        obtain rfl : y_23 = eB E := ey_23.trans (by rw [eB_tT, eB_tR, eB_tU])
        refine lv_iconst (v := 1) hx hb dEx_perform_60 (by decide) ?_
        refine lv_iadd hx hb dEx_perform_61 ?_
        refine cx_pB (x := (eB E) + 1) hx hb hts hown hK hd hP hS lEx_72 dEx_perform_62 (fun H locs hP hS => ?_)
        refine lv_aload_n hx hb dEx_perform_65 rfl (lv_at hl 1 rfl) ?_
        refine lv_dup hx hb dEx_perform_66 rfl ?_
        refine cx_g hx hb hts hown hK hP 2 (by decide) rfl lEx_61 rfl dEx_perform_67 ?_
        refine lv_topl (fun y_24 ey_24 => ?_)
        obtain rfl : y_24 = eC E := ey_24.trans (by rw [eC_tB, eC_tT, eC_tR, eC_tU])
        refine lv_aload_n hx hb dEx_perform_70 rfl (lv_at hl 0 rfl) ?_
        refine ce_rl (As := []) (rest := [.long (eC E), .ref (b 0)]) ⟨hx, hb, hml, hown, hts⟩ (c_Rn_counted l D cI (adr b pn) (dX_R hd hp6) (eP (tB (tT (tR (tU E (va_up (eU E) pn (xU th pn E))) ((eR E) + 1)) ((eT E) + 1)) ((eB E) + 1)) pn) (eU (tB (tT (tR (tU E (va_up (eU E) pn (xU th pn E))) ((eR E) + 1)) ((eT E) + 1)) ((eB E) + 1)) pn)) mRn_counted lEx_85 iRn_counted (ce_hR (by omega) (by decide)) ⟨rfl, rfl⟩ hK1 hN ((wX_P.mp hP).2 pn hp6) 0 rfl rfl rfl hl.1 rfl (Nat.le_of_ble_eq_true rfl) dEx_perform_71 ⟨Nat.le_of_ble_eq_true rfl, Nat.le_of_ble_eq_true rfl⟩ (fun r_25 er_25 => ?_)
        obtain rfl : r_25 = gCnt (xU th pn E) := er_25.trans (by rw [eU_tB, eU_tT, eU_tR, eU_tU, va_up_self])
        refine lv_ladd hx hb dEx_perform_74 ?_
        refine cx_pC (x := (eC E) + (gCnt (xU th pn E))) hx hb hts hown hK hd hP hS lEx_61 dEx_perform_75 (fun H locs hP hS => ?_)
        refine lv_aload_n hx hb dEx_perform_78 rfl (lv_at hl 0 rfl) ?_
        refine ce_ri (As := []) (rest := []) ⟨hx, hb, hml, hown, hts⟩ (c_Rn_outcome l D cI (adr b pn) (dX_R hd hp6) (eP (tC (tB (tT (tR (tU E (va_up (eU E) pn (xU th pn E))) ((eR E) + 1)) ((eT E) + 1)) ((eB E) + 1)) ((eC E) + (gCnt (xU th pn E)))) pn) (eU (tC (tB (tT (tR (tU E (va_up (eU E) pn (xU th pn E))) ((eR E) + 1)) ((eT E) + 1)) ((eB E) + 1)) ((eC E) + (gCnt (xU th pn E)))) pn)) mRn_outcome lEx_82 iRn_outcome (ce_hR (by omega) (by decide)) ⟨rfl, rfl⟩ hK1 hN ((wX_P.mp hP).2 pn hp6) 0 rfl rfl rfl hl.1 rfl (Nat.le_of_ble_eq_true rfl) dEx_perform_79 ⟨Nat.le_of_ble_eq_true rfl, Nat.le_of_ble_eq_true rfl⟩ (fun r_26 er_26 => ?_)
        obtain rfl : r_26 = xOutcome (xU th pn E) := er_26.trans (by rw [eU_tC, eU_tB, eU_tT, eU_tR, eU_tU, va_up_self])
        exact W.iret (v := xOutcome (xU th pn E)) hx hb hr (fun t9 ht hW => ⟨⟨xOutcome (xU th pn E), tC (tB (tT (tR (tU E (va_up (eU E) pn (xU th pn E))) ((eR E) + 1)) ((eT E) + 1)) ((eB E) + 1)) ((eC E) + (gCnt (xU th pn E))), rfl, xP_tn (bI1 c_1) c_19, ce_hp ht hP⟩, hS.F ht⟩) hS.2.2 dEx_perform_82
set_option maxHeartbeats 8000000 in
set_option maxRecDepth 100000 in
theorem c_Ex_run_no (l : Launch) (D : va_G) (cI cP cR : ClassId) (b : Nat → Nat) (hd : dX b) (E : XS) (x : Int32) (th : Bool) (hno : isI x 6 = false) : Met l yEx_run (ce_ws yEx_run cEx_run 3 (some .int)) (ce_rm 2) (cx_Pc D cI cP cR [.ref (b 0), .int x, .int (bI th)] (wX b cI cP cR E)) (vp_Si (fun r => r = -1)) 0 0 (fun _ => False) := by
  refine Met.ofW (cc := cEx_run) (maxL := 3) (ret := (some .int)) (by decide) rfl ?_
  intro p e s m args below meth c s₁ B hml hv
  obtain ⟨rfl, hP, hK, hN⟩ := hv
  have hx := B.exec
  have hb := B.bytes
  have hr := B.returns
  have hts := atoms_spec (ws := ce_ws yEx_run cEx_run 3 (some .int)) B.pre
  have hown : s.vm.findClass REx = some m.cls := findClass_of_methodNamed B.named
  have hlocks := B.notSynchronized
  have hK1 := hK.sub (tys' := [(cI, .int)]) [0] rfl
  have hl := lv_entry ([.ref (b 0), .int x, .int (bI th)]) (n := 3) (Nat.le_of_ble_eq_true rfl)
  rw [lg_entry_eq]
  generalize (lg_sl ([.ref (b 0), .int x, .int (bI th)]) ++ List.replicate (3 - (lg_sl ([.ref (b 0), .int x, .int (bI th)])).length) Slot.unset).toArray = ls at hl ⊢
  have hl : lv_has ls 3 [(0, .ref (b 0)), (1, .int x), (2, .int (bI th))] := hl
  refine lv_iload_n hx hb dEx_run_0 rfl (lv_at hl 1 rfl) ?_
  refine ce_si (As := [.int x]) (rest := []) ⟨hx, hb, hml, hown, hts⟩ (c_Ex_isProgram l D cI b (wX b cI cP cR E) x) mEx_isProgram lEx_25 sEx_isProgram (ce_hR (by omega) (by decide)) ⟨rfl, rfl⟩ hK1 hN hP rfl hl.1 rfl (Nat.le_of_ble_eq_true rfl) dEx_run_1 ⟨Nat.le_of_ble_eq_true rfl, Nat.le_of_ble_eq_true rfl⟩ (fun r_1 er_1 => ?_)
  obtain rfl : r_1 = bI (isW x 5) := er_1
  refine lv_if_ne (tgt := 9) hx hb dEx_run_4 (by decide) (fun c_2 => ?_) (fun c_2 => ?_)
  · -- 4 taken
    exact absurd hno (by rw [(isW_6 _).symm.trans (bI1 c_2)]; decide)
  · -- 4 not taken
    refine lv_iconst (v := (-1)) hx hb dEx_run_7 (by decide) ?_
    exact W.iret (v := (-1)) hx hb hr (fun t9 ht hW => ⟨(-1), rfl, rfl, ht⟩) (fun _ h => by cases h) dEx_run_8
set_option maxHeartbeats 8000000 in
set_option maxRecDepth 100000 in
theorem c_Ex_run (l : Launch) (D : va_G) (cI cP cR : ClassId) (b : Nat → Nat) (hd : dX b) (E : XS) (pn : Nat) (th : Bool) (hp6 : pn < 6) (hok : pOk (eP E pn)) : Met l yEx_run (ce_ws yEx_run cEx_run 3 (some .int)) (ce_rm 50) (cx_Pc D cI cP cR [.ref (b 0), .int (nI pn), .int (bI th)] (wX b cI cP cR E)) (va_Qi (fun r E2 => (r, E2) = xePerf th pn E) (fun E2 t => va_P D vwCl (wX b cI cP cR E2) t.heap) (aX b)) 0 0 (aX b) := by
  refine Met.ofW (cc := cEx_run) (maxL := 3) (ret := (some .int)) (by decide) rfl ?_
  intro p e s m args below meth c s₁ B hml hv
  obtain ⟨rfl, hP, hK, hN⟩ := hv
  have hx := B.exec
  have hb := B.bytes
  have hr := B.returns
  have hts := atoms_spec (ws := ce_ws yEx_run cEx_run 3 (some .int)) B.pre
  have hown : s.vm.findClass REx = some m.cls := findClass_of_methodNamed B.named
  have hlocks := B.notSynchronized
  have hK1 := hK.sub (tys' := [(cI, .int)]) [0] rfl
  have hS : va_S (aX b) s.heap s.heap [] := va_S.rf
  have hl := lv_entry ([.ref (b 0), .int (nI pn), .int (bI th)]) (n := 3) (Nat.le_of_ble_eq_true rfl)
  rw [lg_entry_eq]
  generalize (lg_sl ([.ref (b 0), .int (nI pn), .int (bI th)]) ++ List.replicate (3 - (lg_sl ([.ref (b 0), .int (nI pn), .int (bI th)])).length) Slot.unset).toArray = ls at hl ⊢
  have hl : lv_has ls 3 [(0, .ref (b 0)), (1, .int (nI pn)), (2, .int (bI th))] := hl
  refine lv_iload_n hx hb dEx_run_0 rfl (lv_at hl 1 rfl) ?_
  refine ce_si (As := [.int (nI pn)]) (rest := []) ⟨hx, hb, hml, hown, hts⟩ (c_Ex_isProgram l D cI b (wX b cI cP cR E) (nI pn)) mEx_isProgram lEx_25 sEx_isProgram (ce_hR (by omega) (by decide)) ⟨rfl, rfl⟩ hK1 hN hP rfl hl.1 rfl (Nat.le_of_ble_eq_true rfl) dEx_run_1 ⟨Nat.le_of_ble_eq_true rfl, Nat.le_of_ble_eq_true rfl⟩ (fun r_1 er_1 => ?_)
  obtain rfl : r_1 = bI (isW (nI pn) 5) := er_1
  refine lv_if_ne (tgt := 9) hx hb dEx_run_4 (by decide) (fun c_2 => ?_) (fun c_2 => ?_)
  · -- 4 taken
    refine lv_aload_n hx hb dEx_run_9 rfl (lv_at hl 0 rfl) ?_
    refine lv_iload_n hx hb dEx_run_10 rfl (lv_at hl 1 rfl) ?_
    refine lv_iload_n hx hb dEx_run_11 rfl (lv_at hl 2 rfl) ?_
    refine cx_vi (As := [.int (nI pn), .int (bI th)]) (rest := []) ⟨hx, hb, hml, hown, hts⟩ (c_Ex_perform l D cI cP cR b hd E pn th hp6 hok) mEx_perform lEx_43 iEx_perform (ce_hR (by omega) (by decide)) ⟨rfl, rfl⟩ hK hN hP hS rfl hl.1 rfl (Nat.le_of_ble_eq_true rfl) dEx_run_12 ⟨Nat.le_of_ble_eq_true rfl, Nat.le_of_ble_eq_true rfl⟩ (fun r_3 E_4 H locs er_3 hP hS => ?_)
    exact W.iret (v := r_3) hx hb hr (fun t9 ht hW => ⟨⟨r_3, E_4, rfl, er_3, ce_hp ht hP⟩, hS.F ht⟩) hS.2.2 dEx_run_15
  · -- 4 not taken
    exact absurd (((isW_6 _).trans (isI_t hp6 (by decide))).symm.trans (bI0 c_2)) (by decide)
set_option maxHeartbeats 8000000 in
set_option maxRecDepth 100000 in
theorem c_Ex_runAll_no (l : Launch) (D : va_G) (cI cP cR : ClassId) (b : Nat → Nat) (hd : dX b) (E : XS) (x : Int32) (hno : isI x 64 = false) : Met l yEx_runAll (ce_ws yEx_runAll cEx_runAll 4 (some .int)) (ce_rm 2) (cx_Pc D cI cP cR [.ref (b 0), .int x] (wX b cI cP cR E)) (vp_Si (fun r => r = -1)) 0 0 (fun _ => False) := by
  refine Met.ofW (cc := cEx_runAll) (maxL := 4) (ret := (some .int)) (by decide) rfl ?_
  intro p e s m args below meth c s₁ B hml hv
  obtain ⟨rfl, hP, hK, hN⟩ := hv
  have hx := B.exec
  have hb := B.bytes
  have hr := B.returns
  have hts := atoms_spec (ws := ce_ws yEx_runAll cEx_runAll 4 (some .int)) B.pre
  have hown : s.vm.findClass REx = some m.cls := findClass_of_methodNamed B.named
  have hlocks := B.notSynchronized
  have hK1 := hK.sub (tys' := [(cI, .int)]) [0] rfl
  have hl := lv_entry ([.ref (b 0), .int x]) (n := 4) (Nat.le_of_ble_eq_true rfl)
  rw [lg_entry_eq]
  generalize (lg_sl ([.ref (b 0), .int x]) ++ List.replicate (4 - (lg_sl ([.ref (b 0), .int x])).length) Slot.unset).toArray = ls at hl ⊢
  have hl : lv_has ls 4 [(0, .ref (b 0)), (1, .int x)] := hl
  refine lv_iload_n hx hb dEx_runAll_0 rfl (lv_at hl 1 rfl) ?_
  refine lv_bipush (v := 63) hx hb dEx_runAll_1 (by decide) ?_
  refine ce_si (As := [.int x, .int 63]) (rest := []) ⟨hx, hb, hml, hown, hts⟩ (c_Ex_isWithin l D cI b (wX b cI cP cR E) x 63) mEx_isWithin lEx_29 sEx_isWithin (ce_hR (by omega) (by decide)) ⟨rfl, rfl⟩ hK1 hN hP rfl hl.1 rfl (Nat.le_of_ble_eq_true rfl) dEx_runAll_3 ⟨Nat.le_of_ble_eq_true rfl, Nat.le_of_ble_eq_true rfl⟩ (fun r_1 er_1 => ?_)
  obtain rfl : r_1 = bI (isW x 63) := er_1
  refine lv_if_ne (tgt := 11) hx hb dEx_runAll_6 (by decide) (fun c_2 => ?_) (fun c_2 => ?_)
  · -- 6 taken
    exact absurd hno (by rw [(isW_64 _).symm.trans (bI1 c_2)]; decide)
  · -- 6 not taken
    refine lv_iconst (v := (-1)) hx hb dEx_runAll_9 (by decide) ?_
    exact W.iret (v := (-1)) hx hb hr (fun t9 ht hW => ⟨(-1), rfl, rfl, ht⟩) (fun _ h => by cases h) dEx_runAll_10
set_option maxHeartbeats 8000000 in
set_option maxRecDepth 100000 in
theorem c_Ex_runAll (l : Launch) (D : va_G) (cI cP cR : ClassId) (b : Nat → Nat) (hd : dX b) (E : XS) (k : Nat) (hk : k < 64) (hinv : eInv E) : Met l yEx_runAll (ce_ws yEx_runAll cEx_runAll 4 (some .int)) (ce_rm 50) (cx_Pc D cI cP cR [.ref (b 0), .int (nI k)] (wX b cI cP cR E)) (va_Qi (fun r E2 => (r, E2) = xeAll k 6 0 0 E) (fun E2 t => va_P D vwCl (wX b cI cP cR E2) t.heap) (aX b)) 0 0 (aX b) := by
  refine Met.ofW (cc := cEx_runAll) (maxL := 4) (ret := (some .int)) (by decide) rfl ?_
  intro p e s m args below meth c s₁ B hml hv
  obtain ⟨rfl, hP, hK, hN⟩ := hv
  have hx := B.exec
  have hb := B.bytes
  have hr := B.returns
  have hts := atoms_spec (ws := ce_ws yEx_runAll cEx_runAll 4 (some .int)) B.pre
  have hown : s.vm.findClass REx = some m.cls := findClass_of_methodNamed B.named
  have hlocks := B.notSynchronized
  have hK1 := hK.sub (tys' := [(cI, .int)]) [0] rfl
  have hS : va_S (aX b) s.heap s.heap [] := va_S.rf
  have hl := lv_entry ([.ref (b 0), .int (nI k)]) (n := 4) (Nat.le_of_ble_eq_true rfl)
  rw [lg_entry_eq]
  generalize (lg_sl ([.ref (b 0), .int (nI k)]) ++ List.replicate (4 - (lg_sl ([.ref (b 0), .int (nI k)])).length) Slot.unset).toArray = ls at hl ⊢
  have hl : lv_has ls 4 [(0, .ref (b 0)), (1, .int (nI k))] := hl
  have loop : ∀ (n j : Nat) (n0 : Int32) (v : XS) (H : Heap) (locs : List Loc) (ls : Array Slot), j + n = 6 → eInv v → xeAll k n j n0 v = xeAll k 6 0 0 E → va_P D vwCl (wX b cI cP cR v) H → va_S (aX b) s.heap H locs → lv_has ls 4 [(0, .ref (b 0)), (1, .int (nI k)), (2, .int n0), (3, .int (nI j))] → W p l e (headSpec (ce_ws yEx_runAll cEx_runAll 4 (some .int)) (ce_rm 50)).room s m (([.ref (b 0), .int (nI k)] : List Value).toArray) below meth c H locs 0 0 (MQ below (va_Qi (fun r E2 => (r, E2) = xeAll k 6 0 0 E) (fun E2 t => va_P D vwCl (wX b cI cP cR E2) t.heap) (aX b)) (([.ref (b 0), .int (nI k)] : List Value).toArray) s 0 0 (aX b)) (F0 m 15 ls []) := by
    intro n
    induction n with
    | zero =>
      intro j n0 v H locs ls hj hinv hq hP hS hl
      refine lv_iload_n hx hb dEx_runAll_15 rfl (lv_at hl 3 rfl) ?_
      refine lv_bipush (v := 6) hx hb dEx_runAll_16 (by decide) ?_
      refine lv_icmp_ge (tgt := 48) hx hb dEx_runAll_18 (by decide) (fun c_1 => ?_) (fun c_1 => ?_)
      · -- 18 taken
        refine lv_iload_n hx hb dEx_runAll_48 rfl (lv_at hl 2 rfl) ?_
        exact W.iret (v := n0) hx hb hr (fun t9 ht hW => ⟨⟨n0, v, rfl, hq, ce_hp ht hP⟩, hS.F ht⟩) hS.2.2 dEx_runAll_49
      · -- 18 not taken
        exact absurd (nI_le (a := 6) (b := j) (by omega) (by omega)) c_1
    | succ n ihn =>
      intro j n0 v H locs ls hj hinv hq hP hS hl
      have hj6 : j < 6 := by omega
      refine lv_iload_n hx hb dEx_runAll_15 rfl (lv_at hl 3 rfl) ?_
      refine lv_bipush (v := 6) hx hb dEx_runAll_16 (by decide) ?_
      refine lv_icmp_ge (tgt := 48) hx hb dEx_runAll_18 (by decide) (fun c_2 => ?_) (fun c_2 => ?_)
      · -- 18 taken
        exact absurd c_2 (nI_ge (a := j) (b := 6) (by omega) (by omega))
      · -- 18 not taken
        refine lv_iload_n hx hb dEx_runAll_21 rfl (lv_at hl 1 rfl) ?_
        refine lv_iload_n hx hb dEx_runAll_22 rfl (lv_at hl 3 rfl) ?_
        refine lv_ishr hx hb dEx_runAll_23 ?_
        refine lv_iconst (v := 1) hx hb dEx_runAll_24 (by decide) ?_
        refine lv_iand hx hb dEx_runAll_25 ?_
        refine lv_topi (fun y_3 ey_3 => ?_)
        obtain rfl : y_3 = nI (k / 2 ^ j % 2) := ey_3.trans (bit64 k hk j hj6)
        refine lv_iconst (v := 1) hx hb dEx_runAll_26 (by decide) ?_
        refine lv_icmp_ne (tgt := 42) hx hb dEx_runAll_27 (by decide) (fun c_4 => ?_) (fun c_4 => ?_)
        · -- 27 taken
          refine lv_iinc (v := nI (j + 1)) (lv' := [(3, .int (nI (j + 1))), (0, .ref (b 0)), (1, .int (nI k)), (2, .int n0)]) hx hb dEx_runAll_42 hl (k := 3) rfl (nI_1 j) (by decide) rfl (fun ls hl => ?_)
          refine lv_goto (tgt := 15) hx hb dEx_runAll_45 (by decide) ?_
          exact ihn (j + 1) _ _ _ _ _ (by omega) hinv ((xeAll_skip (bitn1 c_4)).symm.trans hq) hP hS (lv_sub hl [1, 2, 3, 0] rfl)
        · -- 27 not taken
          refine lv_aload_n hx hb dEx_runAll_30 rfl (lv_at hl 0 rfl) ?_
          refine lv_iload_n hx hb dEx_runAll_31 rfl (lv_at hl 3 rfl) ?_
          refine lv_iconst (v := 1) hx hb dEx_runAll_32 (by decide) ?_
          refine cx_vi (As := [.int (nI j), .int 1]) (rest := []) ⟨hx, hb, hml, hown, hts⟩ (c_Ex_perform l D cI cP cR b hd v j true hj6 (hinv j hj6)) mEx_perform lEx_43 iEx_perform (ce_hR (by omega) (by decide)) ⟨rfl, rfl⟩ hK hN hP hS rfl hl.1 rfl (Nat.le_of_ble_eq_true rfl) dEx_runAll_33 ⟨Nat.le_of_ble_eq_true rfl, Nat.le_of_ble_eq_true rfl⟩ (fun r_5 E_6 H locs er_5 hP hS => ?_)
          refine lv_if_eq (tgt := 42) hx hb dEx_runAll_36 (by decide) (fun c_7 => ?_) (fun c_7 => ?_)
          · -- 36 taken
            refine lv_iinc (v := nI (j + 1)) (lv' := [(3, .int (nI (j + 1))), (0, .ref (b 0)), (1, .int (nI k)), (2, .int n0)]) hx hb dEx_runAll_42 hl (k := 3) rfl (nI_1 j) (by decide) rfl (fun ls hl => ?_)
            refine lv_goto (tgt := 15) hx hb dEx_runAll_45 (by decide) ?_
            exact ihn (j + 1) _ _ _ _ _ (by omega) (eInv_perf er_5 hinv) ((xeAll_not (bit_1 c_4) er_5 c_7).symm.trans hq) hP hS (lv_sub hl [1, 2, 3, 0] rfl)
          · -- 36 not taken
            refine lv_iinc (v := n0 + 1) (lv' := [(2, .int (n0 + 1)), (0, .ref (b 0)), (1, .int (nI k)), (3, .int (nI j))]) hx hb dEx_runAll_39 hl (k := 2) rfl (rfl) (by decide) rfl (fun ls hl => ?_)
            refine lv_iinc (v := nI (j + 1)) (lv' := [(3, .int (nI (j + 1))), (2, .int (n0 + 1)), (0, .ref (b 0)), (1, .int (nI k))]) hx hb dEx_runAll_42 hl (k := 3) rfl (nI_1 j) (by decide) rfl (fun ls hl => ?_)
            refine lv_goto (tgt := 15) hx hb dEx_runAll_45 (by decide) ?_
            exact ihn (j + 1) _ _ _ _ _ (by omega) (eInv_perf er_5 hinv) ((xeAll_one (bit_1 c_4) er_5 c_7).symm.trans hq) hP hS (lv_sub hl [2, 3, 1, 0] rfl)
  refine lv_iload_n hx hb dEx_runAll_0 rfl (lv_at hl 1 rfl) ?_
  refine lv_bipush (v := 63) hx hb dEx_runAll_1 (by decide) ?_
  refine ce_si (As := [.int (nI k), .int 63]) (rest := []) ⟨hx, hb, hml, hown, hts⟩ (c_Ex_isWithin l D cI b (wX b cI cP cR E) (nI k) 63) mEx_isWithin lEx_29 sEx_isWithin (ce_hR (by omega) (by decide)) ⟨rfl, rfl⟩ hK1 hN hP rfl hl.1 rfl (Nat.le_of_ble_eq_true rfl) dEx_runAll_3 ⟨Nat.le_of_ble_eq_true rfl, Nat.le_of_ble_eq_true rfl⟩ (fun r_8 er_8 => ?_)
  obtain rfl : r_8 = bI (isW (nI k) 63) := er_8
  refine lv_if_ne (tgt := 11) hx hb dEx_runAll_6 (by decide) (fun c_9 => ?_) (fun c_9 => ?_)
  · -- 6 taken
    refine lv_iconst (v := 0) hx hb dEx_runAll_11 (by decide) ?_
    refine lv_istore_n (lv' := [(2, .int 0), (0, .ref (b 0)), (1, .int (nI k))]) hx hb dEx_runAll_12 rfl hl (by decide) rfl (fun ls hl => ?_)
    refine lv_iconst (v := 0) hx hb dEx_runAll_13 (by decide) ?_
    refine lv_istore_n (lv' := [(3, .int 0), (2, .int 0), (0, .ref (b 0)), (1, .int (nI k))]) hx hb dEx_runAll_14 rfl hl (by decide) rfl (fun ls hl => ?_)
    exact loop 6 0 0 E _ _ _ rfl hinv rfl hP hS (lv_sub hl [2, 3, 1, 0] rfl)
  · -- 6 not taken
    exact absurd (((isW_64 _).trans (isI_t hk (by decide))).symm.trans (bI0 c_9)) (by decide)
