theorem isI_t {p N : Nat} (h : p < N) (hN : N < 2 ^ 31) : isI (nI p) (nI N) = true := by
  unfold isI
  exact decide_eq_true ⟨nI_pos (by omega), nI_ge h hN⟩
def mAdd (m : MS) (p o g : Nat) : Int32 × MS := if qSize m p = 14 then (-2, m) else (nI (qSize m p), zCls (zRan (zSize (zArg (zOp m (va_up (qOp m) (p * 14 + qSize m p) o)) (va_up (qArg m) (p * 14 + qSize m p) g)) (va_up (qSize m) p (qSize m p + 1))) (va_up (qRan m) p false)) (blk8 (qCls m) p (fun _ => 0)))
def mCount (m : MS) (k : Nat) : Int32 := match k with
  | 0 => qRuns m
  | 1 => qThr m
  | 2 => qTrd m
  | k + 3 => nI (qSize m k)
set_option maxHeartbeats 8000000 in
set_option maxRecDepth 100000 in
theorem c_Md_add_no (l : Launch) (D : va_G) (cI cZ : ClassId) (a : Nat → Nat) (m : MS) (x y z : Int32) (hno : isI x 6 = false ∨ isI y 22 = false ∨ isI z 256 = false) : Met l yMd_add (ce_ws yMd_add cMd_add 4 (some .int)) (ce_rm 1) (cm_Pc D cI cZ [.ref (a 0), .int x, .int y, .int z] (wM a cI cZ m)) (vp_Si (fun r => r = -1)) 0 0 (fun _ => False) := by
  refine Met.ofW (cc := cMd_add) (maxL := 4) (ret := (some .int)) (by decide) rfl ?_
  intro p e s mi args below meth c s₁ B hml hv
  obtain ⟨rfl, hP, hK⟩ := hv
  have hx := B.exec
  have hb := B.bytes
  have hr := B.returns
  have hts := atoms_spec (ws := ce_ws yMd_add cMd_add 4 (some .int)) B.pre
  have hown : s.vm.findClass RMd = some mi.cls := findClass_of_methodNamed B.named
  have hlocks := B.notSynchronized
  have hl := lv_entry ([.ref (a 0), .int x, .int y, .int z]) (n := 4) (Nat.le_of_ble_eq_true rfl)
  rw [lg_entry_eq]
  generalize (lg_sl ([.ref (a 0), .int x, .int y, .int z]) ++ List.replicate (4 - (lg_sl ([.ref (a 0), .int x, .int y, .int z])).length) Slot.unset).toArray = ls at hl ⊢
  have hl : lv_has ls 4 [(0, .ref (a 0)), (1, .int x), (2, .int y), (3, .int z)] := hl
  refine lv_iload_n hx hb dMd_add_0 rfl (lv_at hl 1 rfl) ?_
  refine lv_bipush (v := 6) hx hb dMd_add_1 (by decide) ?_
  refine cm_si (As := [.int x, .int 6]) (rest := []) ⟨hx, hb, hml, hown, hts⟩ (c_Md_in l D cI cZ a _ x 6) mMd_in lMd_44 sMd_in (ce_hR (by omega) (by decide)) ⟨rfl, rfl⟩ hK hP rfl hl.1 rfl (Nat.le_of_ble_eq_true rfl) dMd_add_3 ⟨Nat.le_of_ble_eq_true rfl, Nat.le_of_ble_eq_true rfl⟩ (fun r_1 er_1 => ?_)
  obtain rfl : r_1 = bI (isI x 6) := er_1
  refine lv_if_eq (tgt := 28) hx hb dMd_add_6 (by decide) (fun c_2 => ?_) (fun c_2 => ?_)
  · -- 6 taken
    refine lv_iconst (v := (-1)) hx hb dMd_add_28 (by decide) ?_
    exact W.iret (v := (-1)) hx hb hr (fun t9 ht hW => ⟨(-1), rfl, rfl, ht⟩) (fun _ h => by cases h) dMd_add_29
  · -- 6 not taken
    refine lv_iload_n hx hb dMd_add_9 rfl (lv_at hl 2 rfl) ?_
    refine lv_bipush (v := 22) hx hb dMd_add_10 (by decide) ?_
    refine cm_si (As := [.int y, .int 22]) (rest := []) ⟨hx, hb, hml, hown, hts⟩ (c_Md_in l D cI cZ a _ y 22) mMd_in lMd_44 sMd_in (ce_hR (by omega) (by decide)) ⟨rfl, rfl⟩ hK hP rfl hl.1 rfl (Nat.le_of_ble_eq_true rfl) dMd_add_12 ⟨Nat.le_of_ble_eq_true rfl, Nat.le_of_ble_eq_true rfl⟩ (fun r_3 er_3 => ?_)
    obtain rfl : r_3 = bI (isI y 22) := er_3
    refine lv_if_eq (tgt := 28) hx hb dMd_add_15 (by decide) (fun c_4 => ?_) (fun c_4 => ?_)
    · -- 15 taken
      refine lv_iconst (v := (-1)) hx hb dMd_add_28 (by decide) ?_
      exact W.iret (v := (-1)) hx hb hr (fun t9 ht hW => ⟨(-1), rfl, rfl, ht⟩) (fun _ h => by cases h) dMd_add_29
    · -- 15 not taken
      refine lv_iload_n hx hb dMd_add_18 rfl (lv_at hl 3 rfl) ?_
      refine lv_sipush (v := 256) hx hb dMd_add_19 (by decide) ?_
      refine cm_si (As := [.int z, .int 256]) (rest := []) ⟨hx, hb, hml, hown, hts⟩ (c_Md_in l D cI cZ a _ z 256) mMd_in lMd_44 sMd_in (ce_hR (by omega) (by decide)) ⟨rfl, rfl⟩ hK hP rfl hl.1 rfl (Nat.le_of_ble_eq_true rfl) dMd_add_22 ⟨Nat.le_of_ble_eq_true rfl, Nat.le_of_ble_eq_true rfl⟩ (fun r_5 er_5 => ?_)
      obtain rfl : r_5 = bI (isI z 256) := er_5
      refine lv_if_ne (tgt := 30) hx hb dMd_add_25 (by decide) (fun c_6 => ?_) (fun c_6 => ?_)
      · -- 25 taken
        exact absurd hno (by rw [bI1 c_2, bI1 c_4, bI1 c_6]; decide)
      · -- 25 not taken
        refine lv_iconst (v := (-1)) hx hb dMd_add_28 (by decide) ?_
        exact W.iret (v := (-1)) hx hb hr (fun t9 ht hW => ⟨(-1), rfl, rfl, ht⟩) (fun _ h => by cases h) dMd_add_29
set_option maxHeartbeats 8000000 in
set_option maxRecDepth 100000 in
theorem c_Md_add (l : Launch) (D : va_G) (cI cZ : ClassId) (a : Nat → Nat) (hd : dM a) (m : MS) (pn o g : Nat) (hp6 : pn < 6) (ho : o < 22) (hg : g < 256) (hs14 : qSize m pn ≤ 14) : Met l yMd_add (ce_ws yMd_add cMd_add 4 (some .int)) (ce_rm 2) (cm_Pc D cI cZ [.ref (a 0), .int (nI pn), .int (nI o), .int (nI g)] (wM a cI cZ m)) (va_Qi (fun r m2 => (r, m2) = mAdd m pn o g) (fun m2 t => va_P D vwCl (wM a cI cZ m2) t.heap) (aM a)) 0 0 (aM a) := by
  refine Met.ofW (cc := cMd_add) (maxL := 4) (ret := (some .int)) (by decide) rfl ?_
  intro p e s mi args below meth c s₁ B hml hv
  obtain ⟨rfl, hP, hK⟩ := hv
  have hx := B.exec
  have hb := B.bytes
  have hr := B.returns
  have hts := atoms_spec (ws := ce_ws yMd_add cMd_add 4 (some .int)) B.pre
  have hown : s.vm.findClass RMd = some mi.cls := findClass_of_methodNamed B.named
  have hlocks := B.notSynchronized
  have hS : va_S (aM a) s.heap s.heap [] := va_S.rf
  have hl := lv_entry ([.ref (a 0), .int (nI pn), .int (nI o), .int (nI g)]) (n := 4) (Nat.le_of_ble_eq_true rfl)
  rw [lg_entry_eq]
  generalize (lg_sl ([.ref (a 0), .int (nI pn), .int (nI o), .int (nI g)]) ++ List.replicate (4 - (lg_sl ([.ref (a 0), .int (nI pn), .int (nI o), .int (nI g)])).length) Slot.unset).toArray = ls at hl ⊢
  have hl : lv_has ls 4 [(0, .ref (a 0)), (1, .int (nI pn)), (2, .int (nI o)), (3, .int (nI g))] := hl
  refine lv_iload_n hx hb dMd_add_0 rfl (lv_at hl 1 rfl) ?_
  refine lv_bipush (v := 6) hx hb dMd_add_1 (by decide) ?_
  refine cm_si (As := [.int (nI pn), .int 6]) (rest := []) ⟨hx, hb, hml, hown, hts⟩ (c_Md_in l D cI cZ a _ (nI pn) 6) mMd_in lMd_44 sMd_in (ce_hR (by omega) (by decide)) ⟨rfl, rfl⟩ hK hP rfl hl.1 rfl (Nat.le_of_ble_eq_true rfl) dMd_add_3 ⟨Nat.le_of_ble_eq_true rfl, Nat.le_of_ble_eq_true rfl⟩ (fun r_1 er_1 => ?_)
  obtain rfl : r_1 = bI (isI (nI pn) 6) := er_1
  refine lv_if_eq (tgt := 28) hx hb dMd_add_6 (by decide) (fun c_2 => ?_) (fun c_2 => ?_)
  · -- 6 taken
    exact absurd ((isI_t hp6 (by decide)).symm.trans (bI0 c_2)) (by decide)
  · -- 6 not taken
    refine lv_iload_n hx hb dMd_add_9 rfl (lv_at hl 2 rfl) ?_
    refine lv_bipush (v := 22) hx hb dMd_add_10 (by decide) ?_
    refine cm_si (As := [.int (nI o), .int 22]) (rest := []) ⟨hx, hb, hml, hown, hts⟩ (c_Md_in l D cI cZ a _ (nI o) 22) mMd_in lMd_44 sMd_in (ce_hR (by omega) (by decide)) ⟨rfl, rfl⟩ hK hP rfl hl.1 rfl (Nat.le_of_ble_eq_true rfl) dMd_add_12 ⟨Nat.le_of_ble_eq_true rfl, Nat.le_of_ble_eq_true rfl⟩ (fun r_3 er_3 => ?_)
    obtain rfl : r_3 = bI (isI (nI o) 22) := er_3
    refine lv_if_eq (tgt := 28) hx hb dMd_add_15 (by decide) (fun c_4 => ?_) (fun c_4 => ?_)
    · -- 15 taken
      exact absurd ((isI_t ho (by decide)).symm.trans (bI0 c_4)) (by decide)
    · -- 15 not taken
      refine lv_iload_n hx hb dMd_add_18 rfl (lv_at hl 3 rfl) ?_
      refine lv_sipush (v := 256) hx hb dMd_add_19 (by decide) ?_
      refine cm_si (As := [.int (nI g), .int 256]) (rest := []) ⟨hx, hb, hml, hown, hts⟩ (c_Md_in l D cI cZ a _ (nI g) 256) mMd_in lMd_44 sMd_in (ce_hR (by omega) (by decide)) ⟨rfl, rfl⟩ hK hP rfl hl.1 rfl (Nat.le_of_ble_eq_true rfl) dMd_add_22 ⟨Nat.le_of_ble_eq_true rfl, Nat.le_of_ble_eq_true rfl⟩ (fun r_5 er_5 => ?_)
      obtain rfl : r_5 = bI (isI (nI g) 256) := er_5
      refine lv_if_ne (tgt := 30) hx hb dMd_add_25 (by decide) (fun c_6 => ?_) (fun c_6 => ?_)
      · -- 25 taken
        refine lv_aload_n hx hb dMd_add_30 rfl (lv_at hl 0 rfl) ?_
        refine cm_g hx hb hts hown hK hP 2 (by decide) rfl lMd_16 rfl dMd_add_31 ?_
        refine lv_iload_n hx hb dMd_add_34 rfl (lv_at hl 1 rfl) ?_
        refine cm_lSize (i := pn) (by omega) hx hb hK hP dMd_add_35 ?_
        refine lv_bipush (v := 14) hx hb dMd_add_36 (by decide) ?_
        refine lv_icmp_ne (tgt := 44) hx hb dMd_add_38 (by decide) (fun c_7 => ?_) (fun c_7 => ?_)
        · -- 38 taken
          have hs : qSize m pn < 14 := Nat.lt_of_le_of_ne hs14 (fun h => c_7 (congrArg nI h))
          refine lv_aload_n hx hb dMd_add_44 rfl (lv_at hl 0 rfl) ?_
          refine cm_g hx hb hts hown hK hP 0 (by decide) rfl lMd_7 rfl dMd_add_45 ?_
          refine lv_iload_n hx hb dMd_add_48 rfl (lv_at hl 1 rfl) ?_
          refine lv_bipush (v := 14) hx hb dMd_add_49 (by decide) ?_
          refine lv_imul hx hb dMd_add_51 ?_
          refine lv_topi (fun y_8 ey_8 => ?_)
          obtain rfl : y_8 = nI (pn * 14) := ey_8.trans (pk_mul _ 14)
          refine lv_aload_n hx hb dMd_add_52 rfl (lv_at hl 0 rfl) ?_
          refine cm_g hx hb hts hown hK hP 2 (by decide) rfl lMd_16 rfl dMd_add_53 ?_
          refine lv_iload_n hx hb dMd_add_56 rfl (lv_at hl 1 rfl) ?_
          refine cm_lSize (i := pn) (by omega) hx hb hK hP dMd_add_57 ?_
          refine lv_iadd hx hb dMd_add_58 ?_
          refine lv_topi (fun y_9 ey_9 => ?_)
          obtain rfl : y_9 = nI (pn * 14 + qSize m pn) := ey_9.trans (nI_add _ _)
          refine lv_iload_n hx hb dMd_add_59 rfl (lv_at hl 2 rfl) ?_
          refine cm_sOp (i := (pn * 14 + qSize m pn)) (x := o) (by omega) hx hb hK hd hP hS dMd_add_60 (fun H locs hP hS => ?_)
          refine lv_aload_n hx hb dMd_add_61 rfl (lv_at hl 0 rfl) ?_
          refine cm_g hx hb hts hown hK hP 1 (by decide) rfl lMd_13 rfl dMd_add_62 ?_
          refine lv_iload_n hx hb dMd_add_65 rfl (lv_at hl 1 rfl) ?_
          refine lv_bipush (v := 14) hx hb dMd_add_66 (by decide) ?_
          refine lv_imul hx hb dMd_add_68 ?_
          refine lv_topi (fun y_10 ey_10 => ?_)
          obtain rfl : y_10 = nI (pn * 14) := ey_10.trans (pk_mul _ 14)
          refine lv_aload_n hx hb dMd_add_69 rfl (lv_at hl 0 rfl) ?_
          refine cm_g hx hb hts hown hK hP 2 (by decide) rfl lMd_16 rfl dMd_add_70 ?_
          refine lv_iload_n hx hb dMd_add_73 rfl (lv_at hl 1 rfl) ?_
          refine cm_lSize (i := pn) (by omega) hx hb hK hP dMd_add_74 ?_
          refine lv_topi (fun y_11 ey_11 => ?_)
          obtain rfl : y_11 = nI (qSize m pn) := ey_11.trans (by rw [qSize_zOp])
          refine lv_iadd hx hb dMd_add_75 ?_
          refine lv_topi (fun y_12 ey_12 => ?_)
          obtain rfl : y_12 = nI (pn * 14 + qSize m pn) := ey_12.trans (nI_add _ _)
          refine lv_iload_n hx hb dMd_add_76 rfl (lv_at hl 3 rfl) ?_
          refine cm_sArg (i := (pn * 14 + qSize m pn)) (x := g) (by omega) hx hb hK hd hP hS dMd_add_77 (fun H locs hP hS => ?_)
          rw [qArg_zOp] at hP
          refine lv_aload_n hx hb dMd_add_78 rfl (lv_at hl 0 rfl) ?_
          refine cm_g hx hb hts hown hK hP 2 (by decide) rfl lMd_16 rfl dMd_add_79 ?_
          refine lv_iload_n hx hb dMd_add_82 rfl (lv_at hl 1 rfl) ?_
          refine lv_dup2_11 hx hb dMd_add_83 rfl rfl ?_
          refine cm_lSize (i := pn) (by omega) hx hb hK hP dMd_add_84 ?_
          refine lv_topi (fun y_13 ey_13 => ?_)
          obtain rfl : y_13 = nI (qSize m pn) := ey_13.trans (by rw [qSize_zArg, qSize_zOp])
          refine lv_iconst (v := 1) hx hb dMd_add_85 (by decide) ?_
          refine lv_iadd hx hb dMd_add_86 ?_
          refine lv_topi (fun y_14 ey_14 => ?_)
          obtain rfl : y_14 = nI (qSize m pn + 1) := ey_14.trans (nI_1 _)
          refine cm_sSize (i := pn) (x := (qSize m pn + 1)) (by omega) hx hb hK hd hP hS dMd_add_87 (fun H locs hP hS => ?_)
          rw [qSize_zArg, qSize_zOp] at hP
          refine lv_aload_n hx hb dMd_add_88 rfl (lv_at hl 0 rfl) ?_
          refine lv_iload_n hx hb dMd_add_89 rfl (lv_at hl 1 rfl) ?_
          refine cm_vv (As := [.int (nI pn)]) (rest := []) ⟨hx, hb, hml, hown, hts⟩ (c_Md_forget l D cI cZ a hd (zSize (zArg (zOp m (va_up (qOp m) (pn * 14 + qSize m pn) o)) (va_up (qArg m) (pn * 14 + qSize m pn) g)) (va_up (qSize m) pn (qSize m pn + 1))) pn hp6) mMd_forget lMd_48 iMd_forget (ce_hR (by omega) (by decide)) ⟨rfl, rfl⟩ hK hP hS rfl hl.1 rfl (Nat.le_of_ble_eq_true rfl) dMd_add_90 ⟨Nat.le_of_ble_eq_true rfl, Nat.le_of_ble_eq_true rfl⟩ (fun m_15 H locs em_15 hP hS => ?_)
          obtain rfl := em_15
          have hP : va_P D vwCl (wM a cI cZ (zCls (zRan (zSize (zArg (zOp m (va_up (qOp m) (pn * 14 + qSize m pn) o)) (va_up (qArg m) (pn * 14 + qSize m pn) g)) (va_up (qSize m) pn (qSize m pn + 1))) (va_up (qRan m) pn false)) (blk8 (qCls m) pn (fun _ => 0)))) H := hP
          refine lv_aload_n hx hb dMd_add_93 rfl (lv_at hl 0 rfl) ?_
          refine cm_g hx hb hts hown hK hP 2 (by decide) rfl lMd_16 rfl dMd_add_94 ?_
          refine lv_iload_n hx hb dMd_add_97 rfl (lv_at hl 1 rfl) ?_
          refine cm_lSize (i := pn) (by omega) hx hb hK hP dMd_add_98 ?_
          refine lv_topi (fun y_16 ey_16 => ?_)
          obtain rfl : y_16 = nI ((va_up (qSize m) pn (qSize m pn + 1)) pn) := ey_16.trans (by rw [qSize_zCls, qSize_zRan, qSize_zSize])
          refine lv_topi (fun y_17 ey_17 => ?_)
          obtain rfl : y_17 = nI (qSize m pn + 1) := ey_17.trans (congrArg nI (va_up_self _ _ _))
          refine lv_iconst (v := 1) hx hb dMd_add_99 (by decide) ?_
          refine lv_isub hx hb dMd_add_100 ?_
          refine lv_topi (fun y_18 ey_18 => ?_)
          obtain rfl : y_18 = nI (qSize m pn) := ey_18.trans (nI_pred _)
          exact W.iret (v := nI (qSize m pn)) hx hb hr (fun t9 ht hW => ⟨⟨nI (qSize m pn), zCls (zRan (zSize (zArg (zOp m (va_up (qOp m) (pn * 14 + qSize m pn) o)) (va_up (qArg m) (pn * 14 + qSize m pn) g)) (va_up (qSize m) pn (qSize m pn + 1))) (va_up (qRan m) pn false)) (blk8 (qCls m) pn (fun _ => 0)), rfl, (if_neg (fun h => c_7 (congrArg nI h))).symm, ce_hp ht hP⟩, hS.F ht⟩) hS.2.2 dMd_add_101
        · -- 38 not taken
          refine lv_bipush (v := (-2)) hx hb dMd_add_41 (by decide) ?_
          exact W.iret (v := (-2)) hx hb hr (fun t9 ht hW => ⟨⟨(-2), m, rfl, (if_pos ((nI_eq (b := 14) (by omega) (by decide)).mp c_7)).symm, ce_hp ht hP⟩, hS.F ht⟩) hS.2.2 dMd_add_43
      · -- 25 not taken
        exact absurd ((isI_t hg (by decide)).symm.trans (bI0 c_6)) (by decide)
set_option maxHeartbeats 8000000 in
set_option maxRecDepth 100000 in
theorem c_Md_clear_no (l : Launch) (D : va_G) (cI cZ : ClassId) (a : Nat → Nat) (m : MS) (x : Int32) (hno : isI x 6 = false) : Met l yMd_clear (ce_ws yMd_clear cMd_clear 2 (some .int)) (ce_rm 1) (cm_Pc D cI cZ [.ref (a 0), .int x] (wM a cI cZ m)) (vp_Si (fun r => r = -1)) 0 0 (fun _ => False) := by
  refine Met.ofW (cc := cMd_clear) (maxL := 2) (ret := (some .int)) (by decide) rfl ?_
  intro p e s mi args below meth c s₁ B hml hv
  obtain ⟨rfl, hP, hK⟩ := hv
  have hx := B.exec
  have hb := B.bytes
  have hr := B.returns
  have hts := atoms_spec (ws := ce_ws yMd_clear cMd_clear 2 (some .int)) B.pre
  have hown : s.vm.findClass RMd = some mi.cls := findClass_of_methodNamed B.named
  have hlocks := B.notSynchronized
  have hl := lv_entry ([.ref (a 0), .int x]) (n := 2) (Nat.le_of_ble_eq_true rfl)
  rw [lg_entry_eq]
  generalize (lg_sl ([.ref (a 0), .int x]) ++ List.replicate (2 - (lg_sl ([.ref (a 0), .int x])).length) Slot.unset).toArray = ls at hl ⊢
  have hl : lv_has ls 2 [(0, .ref (a 0)), (1, .int x)] := hl
  refine lv_iload_n hx hb dMd_clear_0 rfl (lv_at hl 1 rfl) ?_
  refine lv_bipush (v := 6) hx hb dMd_clear_1 (by decide) ?_
  refine cm_si (As := [.int x, .int 6]) (rest := []) ⟨hx, hb, hml, hown, hts⟩ (c_Md_in l D cI cZ a _ x 6) mMd_in lMd_44 sMd_in (ce_hR (by omega) (by decide)) ⟨rfl, rfl⟩ hK hP rfl hl.1 rfl (Nat.le_of_ble_eq_true rfl) dMd_clear_3 ⟨Nat.le_of_ble_eq_true rfl, Nat.le_of_ble_eq_true rfl⟩ (fun r_1 er_1 => ?_)
  obtain rfl : r_1 = bI (isI x 6) := er_1
  refine lv_if_ne (tgt := 11) hx hb dMd_clear_6 (by decide) (fun c_2 => ?_) (fun c_2 => ?_)
  · -- 6 taken
    exact absurd hno (by rw [bI1 c_2]; decide)
  · -- 6 not taken
    refine lv_iconst (v := (-1)) hx hb dMd_clear_9 (by decide) ?_
    exact W.iret (v := (-1)) hx hb hr (fun t9 ht hW => ⟨(-1), rfl, rfl, ht⟩) (fun _ h => by cases h) dMd_clear_10
set_option maxHeartbeats 8000000 in
set_option maxRecDepth 100000 in
theorem c_Md_clear (l : Launch) (D : va_G) (cI cZ : ClassId) (a : Nat → Nat) (hd : dM a) (m : MS) (pn : Nat) (hp6 : pn < 6) : Met l yMd_clear (ce_ws yMd_clear cMd_clear 2 (some .int)) (ce_rm 2) (cm_Pc D cI cZ [.ref (a 0), .int (nI pn)] (wM a cI cZ m)) (va_Qi (fun r m2 => (r, m2) = (0, mForget (zSize m (va_up (qSize m) pn 0)) pn)) (fun m2 t => va_P D vwCl (wM a cI cZ m2) t.heap) (aM a)) 0 0 (aM a) := by
  refine Met.ofW (cc := cMd_clear) (maxL := 2) (ret := (some .int)) (by decide) rfl ?_
  intro p e s mi args below meth c s₁ B hml hv
  obtain ⟨rfl, hP, hK⟩ := hv
  have hx := B.exec
  have hb := B.bytes
  have hr := B.returns
  have hts := atoms_spec (ws := ce_ws yMd_clear cMd_clear 2 (some .int)) B.pre
  have hown : s.vm.findClass RMd = some mi.cls := findClass_of_methodNamed B.named
  have hlocks := B.notSynchronized
  have hS : va_S (aM a) s.heap s.heap [] := va_S.rf
  have hl := lv_entry ([.ref (a 0), .int (nI pn)]) (n := 2) (Nat.le_of_ble_eq_true rfl)
  rw [lg_entry_eq]
  generalize (lg_sl ([.ref (a 0), .int (nI pn)]) ++ List.replicate (2 - (lg_sl ([.ref (a 0), .int (nI pn)])).length) Slot.unset).toArray = ls at hl ⊢
  have hl : lv_has ls 2 [(0, .ref (a 0)), (1, .int (nI pn))] := hl
  refine lv_iload_n hx hb dMd_clear_0 rfl (lv_at hl 1 rfl) ?_
  refine lv_bipush (v := 6) hx hb dMd_clear_1 (by decide) ?_
  refine cm_si (As := [.int (nI pn), .int 6]) (rest := []) ⟨hx, hb, hml, hown, hts⟩ (c_Md_in l D cI cZ a _ (nI pn) 6) mMd_in lMd_44 sMd_in (ce_hR (by omega) (by decide)) ⟨rfl, rfl⟩ hK hP rfl hl.1 rfl (Nat.le_of_ble_eq_true rfl) dMd_clear_3 ⟨Nat.le_of_ble_eq_true rfl, Nat.le_of_ble_eq_true rfl⟩ (fun r_1 er_1 => ?_)
  obtain rfl : r_1 = bI (isI (nI pn) 6) := er_1
  refine lv_if_ne (tgt := 11) hx hb dMd_clear_6 (by decide) (fun c_2 => ?_) (fun c_2 => ?_)
  · -- 6 taken
    refine lv_aload_n hx hb dMd_clear_11 rfl (lv_at hl 0 rfl) ?_
    refine cm_g hx hb hts hown hK hP 2 (by decide) rfl lMd_16 rfl dMd_clear_12 ?_
    refine lv_iload_n hx hb dMd_clear_15 rfl (lv_at hl 1 rfl) ?_
    refine lv_iconst (v := 0) hx hb dMd_clear_16 (by decide) ?_
    refine cm_sSize (i := pn) (x := 0) (by omega) hx hb hK hd hP hS dMd_clear_17 (fun H locs hP hS => ?_)
    refine lv_aload_n hx hb dMd_clear_18 rfl (lv_at hl 0 rfl) ?_
    refine lv_iload_n hx hb dMd_clear_19 rfl (lv_at hl 1 rfl) ?_
    refine cm_vv (As := [.int (nI pn)]) (rest := []) ⟨hx, hb, hml, hown, hts⟩ (c_Md_forget l D cI cZ a hd (zSize m (va_up (qSize m) pn 0)) pn hp6) mMd_forget lMd_48 iMd_forget (ce_hR (by omega) (by decide)) ⟨rfl, rfl⟩ hK hP hS rfl hl.1 rfl (Nat.le_of_ble_eq_true rfl) dMd_clear_20 ⟨Nat.le_of_ble_eq_true rfl, Nat.le_of_ble_eq_true rfl⟩ (fun m_3 H locs em_3 hP hS => ?_)
    obtain rfl := em_3
    refine lv_iconst (v := 0) hx hb dMd_clear_23 (by decide) ?_
    exact W.iret (v := 0) hx hb hr (fun t9 ht hW => ⟨⟨0, (mForget (zSize m (va_up (qSize m) pn 0)) pn), rfl, rfl, ce_hp ht hP⟩, hS.F ht⟩) hS.2.2 dMd_clear_24
  · -- 6 not taken
    exact absurd ((isI_t hp6 (by decide)).symm.trans (bI0 c_2)) (by decide)
set_option maxHeartbeats 8000000 in
set_option maxRecDepth 100000 in
theorem c_Md_told_no (l : Launch) (D : va_G) (cI cZ : ClassId) (a : Nat → Nat) (m : MS) (x y : Int32) (hno : isI x 6 = false ∨ isI y 8 = false) : Met l yMd_told (ce_ws yMd_told cMd_told 3 (some .int)) (ce_rm 1) (cm_Pc D cI cZ [.ref (a 0), .int x, .int y] (wM a cI cZ m)) (vp_Si (fun r => r = -1)) 0 0 (fun _ => False) := by
  refine Met.ofW (cc := cMd_told) (maxL := 3) (ret := (some .int)) (by decide) rfl ?_
  intro p e s mi args below meth c s₁ B hml hv
  obtain ⟨rfl, hP, hK⟩ := hv
  have hx := B.exec
  have hb := B.bytes
  have hr := B.returns
  have hts := atoms_spec (ws := ce_ws yMd_told cMd_told 3 (some .int)) B.pre
  have hown : s.vm.findClass RMd = some mi.cls := findClass_of_methodNamed B.named
  have hlocks := B.notSynchronized
  have hl := lv_entry ([.ref (a 0), .int x, .int y]) (n := 3) (Nat.le_of_ble_eq_true rfl)
  rw [lg_entry_eq]
  generalize (lg_sl ([.ref (a 0), .int x, .int y]) ++ List.replicate (3 - (lg_sl ([.ref (a 0), .int x, .int y])).length) Slot.unset).toArray = ls at hl ⊢
  have hl : lv_has ls 3 [(0, .ref (a 0)), (1, .int x), (2, .int y)] := hl
  refine lv_iload_n hx hb dMd_told_0 rfl (lv_at hl 1 rfl) ?_
  refine lv_bipush (v := 6) hx hb dMd_told_1 (by decide) ?_
  refine cm_si (As := [.int x, .int 6]) (rest := []) ⟨hx, hb, hml, hown, hts⟩ (c_Md_in l D cI cZ a _ x 6) mMd_in lMd_44 sMd_in (ce_hR (by omega) (by decide)) ⟨rfl, rfl⟩ hK hP rfl hl.1 rfl (Nat.le_of_ble_eq_true rfl) dMd_told_3 ⟨Nat.le_of_ble_eq_true rfl, Nat.le_of_ble_eq_true rfl⟩ (fun r_1 er_1 => ?_)
  obtain rfl : r_1 = bI (isI x 6) := er_1
  refine lv_if_eq (tgt := 18) hx hb dMd_told_6 (by decide) (fun c_2 => ?_) (fun c_2 => ?_)
  · -- 6 taken
    refine lv_iconst (v := (-1)) hx hb dMd_told_18 (by decide) ?_
    exact W.iret (v := (-1)) hx hb hr (fun t9 ht hW => ⟨(-1), rfl, rfl, ht⟩) (fun _ h => by cases h) dMd_told_19
  · -- 6 not taken
    refine lv_iload_n hx hb dMd_told_9 rfl (lv_at hl 2 rfl) ?_
    refine lv_bipush (v := 8) hx hb dMd_told_10 (by decide) ?_
    refine cm_si (As := [.int y, .int 8]) (rest := []) ⟨hx, hb, hml, hown, hts⟩ (c_Md_in l D cI cZ a _ y 8) mMd_in lMd_44 sMd_in (ce_hR (by omega) (by decide)) ⟨rfl, rfl⟩ hK hP rfl hl.1 rfl (Nat.le_of_ble_eq_true rfl) dMd_told_12 ⟨Nat.le_of_ble_eq_true rfl, Nat.le_of_ble_eq_true rfl⟩ (fun r_3 er_3 => ?_)
    obtain rfl : r_3 = bI (isI y 8) := er_3
    refine lv_if_ne (tgt := 20) hx hb dMd_told_15 (by decide) (fun c_4 => ?_) (fun c_4 => ?_)
    · -- 15 taken
      exact absurd hno (by rw [bI1 c_2, bI1 c_4]; decide)
    · -- 15 not taken
      refine lv_iconst (v := (-1)) hx hb dMd_told_18 (by decide) ?_
      exact W.iret (v := (-1)) hx hb hr (fun t9 ht hW => ⟨(-1), rfl, rfl, ht⟩) (fun _ h => by cases h) dMd_told_19
set_option maxHeartbeats 8000000 in
set_option maxRecDepth 100000 in
theorem c_Md_told (l : Launch) (D : va_G) (cI cZ : ClassId) (a : Nat → Nat) (m : MS) (pn k : Nat) (hp6 : pn < 6) (hk : k < 8) : Met l yMd_told (ce_ws yMd_told cMd_told 3 (some .int)) (ce_rm 1) (cm_Pc D cI cZ [.ref (a 0), .int (nI pn), .int (nI k)] (wM a cI cZ m)) (vp_Si (fun r => r = if qRan m pn = true then qTold m (pn * 8 + k) else -3)) 0 0 (fun _ => False) := by
  refine Met.ofW (cc := cMd_told) (maxL := 3) (ret := (some .int)) (by decide) rfl ?_
  intro p e s mi args below meth c s₁ B hml hv
  obtain ⟨rfl, hP, hK⟩ := hv
  have hx := B.exec
  have hb := B.bytes
  have hr := B.returns
  have hts := atoms_spec (ws := ce_ws yMd_told cMd_told 3 (some .int)) B.pre
  have hown : s.vm.findClass RMd = some mi.cls := findClass_of_methodNamed B.named
  have hlocks := B.notSynchronized
  have hl := lv_entry ([.ref (a 0), .int (nI pn), .int (nI k)]) (n := 3) (Nat.le_of_ble_eq_true rfl)
  rw [lg_entry_eq]
  generalize (lg_sl ([.ref (a 0), .int (nI pn), .int (nI k)]) ++ List.replicate (3 - (lg_sl ([.ref (a 0), .int (nI pn), .int (nI k)])).length) Slot.unset).toArray = ls at hl ⊢
  have hl : lv_has ls 3 [(0, .ref (a 0)), (1, .int (nI pn)), (2, .int (nI k))] := hl
  refine lv_iload_n hx hb dMd_told_0 rfl (lv_at hl 1 rfl) ?_
  refine lv_bipush (v := 6) hx hb dMd_told_1 (by decide) ?_
  refine cm_si (As := [.int (nI pn), .int 6]) (rest := []) ⟨hx, hb, hml, hown, hts⟩ (c_Md_in l D cI cZ a _ (nI pn) 6) mMd_in lMd_44 sMd_in (ce_hR (by omega) (by decide)) ⟨rfl, rfl⟩ hK hP rfl hl.1 rfl (Nat.le_of_ble_eq_true rfl) dMd_told_3 ⟨Nat.le_of_ble_eq_true rfl, Nat.le_of_ble_eq_true rfl⟩ (fun r_1 er_1 => ?_)
  obtain rfl : r_1 = bI (isI (nI pn) 6) := er_1
  refine lv_if_eq (tgt := 18) hx hb dMd_told_6 (by decide) (fun c_2 => ?_) (fun c_2 => ?_)
  · -- 6 taken
    exact absurd ((isI_t hp6 (by decide)).symm.trans (bI0 c_2)) (by decide)
  · -- 6 not taken
    refine lv_iload_n hx hb dMd_told_9 rfl (lv_at hl 2 rfl) ?_
    refine lv_bipush (v := 8) hx hb dMd_told_10 (by decide) ?_
    refine cm_si (As := [.int (nI k), .int 8]) (rest := []) ⟨hx, hb, hml, hown, hts⟩ (c_Md_in l D cI cZ a _ (nI k) 8) mMd_in lMd_44 sMd_in (ce_hR (by omega) (by decide)) ⟨rfl, rfl⟩ hK hP rfl hl.1 rfl (Nat.le_of_ble_eq_true rfl) dMd_told_12 ⟨Nat.le_of_ble_eq_true rfl, Nat.le_of_ble_eq_true rfl⟩ (fun r_3 er_3 => ?_)
    obtain rfl : r_3 = bI (isI (nI k) 8) := er_3
    refine lv_if_ne (tgt := 20) hx hb dMd_told_15 (by decide) (fun c_4 => ?_) (fun c_4 => ?_)
    · -- 15 taken
      refine lv_aload_n hx hb dMd_told_20 rfl (lv_at hl 0 rfl) ?_
      refine cm_g hx hb hts hown hK hP 5 (by decide) rfl lMd_25 rfl dMd_told_21 ?_
      refine lv_iload_n hx hb dMd_told_24 rfl (lv_at hl 1 rfl) ?_
      refine cm_lRan (i := pn) (by omega) hx hb hK hP dMd_told_25 ?_
      refine lv_if_eq (tgt := 43) hx hb dMd_told_26 (by decide) (fun c_5 => ?_) (fun c_5 => ?_)
      · -- 26 taken
        refine lv_bipush (v := (-3)) hx hb dMd_told_43 (by decide) ?_
        exact W.iret (v := (-3)) hx hb hr (fun t9 ht hW => ⟨(-3), rfl, (if_neg (by rw [bI0 c_5]; decide)).symm, ht⟩) (fun _ h => by cases h) dMd_told_45
      · -- 26 not taken
        refine lv_aload_n hx hb dMd_told_29 rfl (lv_at hl 0 rfl) ?_
        refine cm_g hx hb hts hown hK hP 3 (by decide) rfl lMd_19 rfl dMd_told_30 ?_
        refine lv_iload_n hx hb dMd_told_33 rfl (lv_at hl 1 rfl) ?_
        refine lv_bipush (v := 8) hx hb dMd_told_34 (by decide) ?_
        refine lv_imul hx hb dMd_told_36 ?_
        refine lv_topi (fun y_6 ey_6 => ?_)
        obtain rfl : y_6 = nI (pn * 8) := ey_6.trans (pk_mul _ 8)
        refine lv_iload_n hx hb dMd_told_37 rfl (lv_at hl 2 rfl) ?_
        refine lv_iadd hx hb dMd_told_38 ?_
        refine lv_topi (fun y_7 ey_7 => ?_)
        obtain rfl : y_7 = nI (pn * 8 + k) := ey_7.trans (nI_add _ _)
        refine cm_lTold (i := (pn * 8 + k)) (by omega) hx hb hK hP dMd_told_39 ?_
        refine lv_goto (tgt := 45) hx hb dMd_told_40 (by decide) ?_
        exact W.iret (v := qTold m (pn * 8 + k)) hx hb hr (fun t9 ht hW => ⟨qTold m (pn * 8 + k), rfl, (if_pos (bI1 c_5)).symm, ht⟩) (fun _ h => by cases h) dMd_told_45
    · -- 15 not taken
      exact absurd ((isI_t hk (by decide)).symm.trans (bI0 c_4)) (by decide)
set_option maxHeartbeats 8000000 in
set_option maxRecDepth 100000 in
theorem c_Md_cell_no (l : Launch) (D : va_G) (cI cZ : ClassId) (a : Nat → Nat) (m : MS) (x y : Int32) (hno : isI x 6 = false ∨ isI y 8 = false) : Met l yMd_cell (ce_ws yMd_cell cMd_cell 3 (some .int)) (ce_rm 1) (cm_Pc D cI cZ [.ref (a 0), .int x, .int y] (wM a cI cZ m)) (vp_Si (fun r => r = -1)) 0 0 (fun _ => False) := by
  refine Met.ofW (cc := cMd_cell) (maxL := 3) (ret := (some .int)) (by decide) rfl ?_
  intro p e s mi args below meth c s₁ B hml hv
  obtain ⟨rfl, hP, hK⟩ := hv
  have hx := B.exec
  have hb := B.bytes
  have hr := B.returns
  have hts := atoms_spec (ws := ce_ws yMd_cell cMd_cell 3 (some .int)) B.pre
  have hown : s.vm.findClass RMd = some mi.cls := findClass_of_methodNamed B.named
  have hlocks := B.notSynchronized
  have hl := lv_entry ([.ref (a 0), .int x, .int y]) (n := 3) (Nat.le_of_ble_eq_true rfl)
  rw [lg_entry_eq]
  generalize (lg_sl ([.ref (a 0), .int x, .int y]) ++ List.replicate (3 - (lg_sl ([.ref (a 0), .int x, .int y])).length) Slot.unset).toArray = ls at hl ⊢
  have hl : lv_has ls 3 [(0, .ref (a 0)), (1, .int x), (2, .int y)] := hl
  refine lv_iload_n hx hb dMd_cell_0 rfl (lv_at hl 1 rfl) ?_
  refine lv_bipush (v := 6) hx hb dMd_cell_1 (by decide) ?_
  refine cm_si (As := [.int x, .int 6]) (rest := []) ⟨hx, hb, hml, hown, hts⟩ (c_Md_in l D cI cZ a _ x 6) mMd_in lMd_44 sMd_in (ce_hR (by omega) (by decide)) ⟨rfl, rfl⟩ hK hP rfl hl.1 rfl (Nat.le_of_ble_eq_true rfl) dMd_cell_3 ⟨Nat.le_of_ble_eq_true rfl, Nat.le_of_ble_eq_true rfl⟩ (fun r_1 er_1 => ?_)
  obtain rfl : r_1 = bI (isI x 6) := er_1
  refine lv_if_eq (tgt := 32) hx hb dMd_cell_6 (by decide) (fun c_2 => ?_) (fun c_2 => ?_)
  · -- 6 taken
    refine lv_iconst (v := (-1)) hx hb dMd_cell_32 (by decide) ?_
    exact W.iret (v := (-1)) hx hb hr (fun t9 ht hW => ⟨(-1), rfl, rfl, ht⟩) (fun _ h => by cases h) dMd_cell_33
  · -- 6 not taken
    refine lv_iload_n hx hb dMd_cell_9 rfl (lv_at hl 2 rfl) ?_
    refine lv_bipush (v := 8) hx hb dMd_cell_10 (by decide) ?_
    refine cm_si (As := [.int y, .int 8]) (rest := []) ⟨hx, hb, hml, hown, hts⟩ (c_Md_in l D cI cZ a _ y 8) mMd_in lMd_44 sMd_in (ce_hR (by omega) (by decide)) ⟨rfl, rfl⟩ hK hP rfl hl.1 rfl (Nat.le_of_ble_eq_true rfl) dMd_cell_12 ⟨Nat.le_of_ble_eq_true rfl, Nat.le_of_ble_eq_true rfl⟩ (fun r_3 er_3 => ?_)
    obtain rfl : r_3 = bI (isI y 8) := er_3
    refine lv_if_eq (tgt := 32) hx hb dMd_cell_15 (by decide) (fun c_4 => ?_) (fun c_4 => ?_)
    · -- 15 taken
      refine lv_iconst (v := (-1)) hx hb dMd_cell_32 (by decide) ?_
      exact W.iret (v := (-1)) hx hb hr (fun t9 ht hW => ⟨(-1), rfl, rfl, ht⟩) (fun _ h => by cases h) dMd_cell_33
    · -- 15 not taken
      exact absurd hno (by rw [bI1 c_2, bI1 c_4]; decide)
set_option maxHeartbeats 8000000 in
set_option maxRecDepth 100000 in
theorem c_Md_cell (l : Launch) (D : va_G) (cI cZ : ClassId) (a : Nat → Nat) (m : MS) (pn k : Nat) (hp6 : pn < 6) (hk : k < 8) : Met l yMd_cell (ce_ws yMd_cell cMd_cell 3 (some .int)) (ce_rm 1) (cm_Pc D cI cZ [.ref (a 0), .int (nI pn), .int (nI k)] (wM a cI cZ m)) (vp_Si (fun r => r = qCls m (pn * 8 + k))) 0 0 (fun _ => False) := by
  refine Met.ofW (cc := cMd_cell) (maxL := 3) (ret := (some .int)) (by decide) rfl ?_
  intro p e s mi args below meth c s₁ B hml hv
  obtain ⟨rfl, hP, hK⟩ := hv
  have hx := B.exec
  have hb := B.bytes
  have hr := B.returns
  have hts := atoms_spec (ws := ce_ws yMd_cell cMd_cell 3 (some .int)) B.pre
  have hown : s.vm.findClass RMd = some mi.cls := findClass_of_methodNamed B.named
  have hlocks := B.notSynchronized
  have hl := lv_entry ([.ref (a 0), .int (nI pn), .int (nI k)]) (n := 3) (Nat.le_of_ble_eq_true rfl)
  rw [lg_entry_eq]
  generalize (lg_sl ([.ref (a 0), .int (nI pn), .int (nI k)]) ++ List.replicate (3 - (lg_sl ([.ref (a 0), .int (nI pn), .int (nI k)])).length) Slot.unset).toArray = ls at hl ⊢
  have hl : lv_has ls 3 [(0, .ref (a 0)), (1, .int (nI pn)), (2, .int (nI k))] := hl
  refine lv_iload_n hx hb dMd_cell_0 rfl (lv_at hl 1 rfl) ?_
  refine lv_bipush (v := 6) hx hb dMd_cell_1 (by decide) ?_
  refine cm_si (As := [.int (nI pn), .int 6]) (rest := []) ⟨hx, hb, hml, hown, hts⟩ (c_Md_in l D cI cZ a _ (nI pn) 6) mMd_in lMd_44 sMd_in (ce_hR (by omega) (by decide)) ⟨rfl, rfl⟩ hK hP rfl hl.1 rfl (Nat.le_of_ble_eq_true rfl) dMd_cell_3 ⟨Nat.le_of_ble_eq_true rfl, Nat.le_of_ble_eq_true rfl⟩ (fun r_1 er_1 => ?_)
  obtain rfl : r_1 = bI (isI (nI pn) 6) := er_1
  refine lv_if_eq (tgt := 32) hx hb dMd_cell_6 (by decide) (fun c_2 => ?_) (fun c_2 => ?_)
  · -- 6 taken
    exact absurd ((isI_t hp6 (by decide)).symm.trans (bI0 c_2)) (by decide)
  · -- 6 not taken
    refine lv_iload_n hx hb dMd_cell_9 rfl (lv_at hl 2 rfl) ?_
    refine lv_bipush (v := 8) hx hb dMd_cell_10 (by decide) ?_
    refine cm_si (As := [.int (nI k), .int 8]) (rest := []) ⟨hx, hb, hml, hown, hts⟩ (c_Md_in l D cI cZ a _ (nI k) 8) mMd_in lMd_44 sMd_in (ce_hR (by omega) (by decide)) ⟨rfl, rfl⟩ hK hP rfl hl.1 rfl (Nat.le_of_ble_eq_true rfl) dMd_cell_12 ⟨Nat.le_of_ble_eq_true rfl, Nat.le_of_ble_eq_true rfl⟩ (fun r_3 er_3 => ?_)
    obtain rfl : r_3 = bI (isI (nI k) 8) := er_3
    refine lv_if_eq (tgt := 32) hx hb dMd_cell_15 (by decide) (fun c_4 => ?_) (fun c_4 => ?_)
    · -- 15 taken
      exact absurd ((isI_t hk (by decide)).symm.trans (bI0 c_4)) (by decide)
    · -- 15 not taken
      refine lv_aload_n hx hb dMd_cell_18 rfl (lv_at hl 0 rfl) ?_
      refine cm_g hx hb hts hown hK hP 4 (by decide) rfl lMd_22 rfl dMd_cell_19 ?_
      refine lv_iload_n hx hb dMd_cell_22 rfl (lv_at hl 1 rfl) ?_
      refine lv_bipush (v := 8) hx hb dMd_cell_23 (by decide) ?_
      refine lv_imul hx hb dMd_cell_25 ?_
      refine lv_topi (fun y_5 ey_5 => ?_)
      obtain rfl : y_5 = nI (pn * 8) := ey_5.trans (pk_mul _ 8)
      refine lv_iload_n hx hb dMd_cell_26 rfl (lv_at hl 2 rfl) ?_
      refine lv_iadd hx hb dMd_cell_27 ?_
      refine lv_topi (fun y_6 ey_6 => ?_)
      obtain rfl : y_6 = nI (pn * 8 + k) := ey_6.trans (nI_add _ _)
      refine cm_lCls (i := (pn * 8 + k)) (by omega) hx hb hK hP dMd_cell_28 ?_
      refine lv_goto (tgt := 33) hx hb dMd_cell_29 (by decide) ?_
      exact W.iret (v := qCls m (pn * 8 + k)) hx hb hr (fun t9 ht hW => ⟨qCls m (pn * 8 + k), rfl, rfl, ht⟩) (fun _ h => by cases h) dMd_cell_33
set_option maxHeartbeats 8000000 in
set_option maxRecDepth 100000 in
theorem c_Md_counter (l : Launch) (D : va_G) (cI cZ : ClassId) (a : Nat → Nat) (m : MS) : Met l yMd_counter (ce_ws yMd_counter cMd_counter 1 (some .long)) (ce_rm 0) (cm_Pc D cI cZ [.ref (a 0)] (wM a cI cZ m)) (vp_Sl (fun r => r = qCtr m)) 0 0 (fun _ => False) := by
  refine Met.ofW (cc := cMd_counter) (maxL := 1) (ret := (some .long)) (by decide) rfl ?_
  intro p e s mi args below meth c s₁ B hml hv
  obtain ⟨rfl, hP, hK⟩ := hv
  have hx := B.exec
  have hb := B.bytes
  have hr := B.returns
  have hts := atoms_spec (ws := ce_ws yMd_counter cMd_counter 1 (some .long)) B.pre
  have hown : s.vm.findClass RMd = some mi.cls := findClass_of_methodNamed B.named
  have hlocks := B.notSynchronized
  have hl := lv_entry ([.ref (a 0)]) (n := 1) (Nat.le_of_ble_eq_true rfl)
  rw [lg_entry_eq]
  generalize (lg_sl ([.ref (a 0)]) ++ List.replicate (1 - (lg_sl ([.ref (a 0)])).length) Slot.unset).toArray = ls at hl ⊢
  have hl : lv_has ls 1 [(0, .ref (a 0))] := hl
  refine lv_aload_n hx hb dMd_counter_0 rfl (lv_at hl 0 rfl) ?_
  refine cm_g hx hb hts hown hK hP 6 (by decide) rfl lMd_108 rfl dMd_counter_1 ?_
  exact W.lret (v := qCtr m) hx hb hr (fun t9 ht hW => ⟨qCtr m, rfl, rfl, ht⟩) (fun _ h => by cases h) dMd_counter_4
set_option maxHeartbeats 8000000 in
set_option maxRecDepth 100000 in
theorem c_Md_count_no (l : Launch) (D : va_G) (cI cZ : ClassId) (a : Nat → Nat) (m : MS) (x : Int32) (hno : isI x 9 = false) : Met l yMd_count (ce_ws yMd_count cMd_count 2 (some .int)) (ce_rm 1) (cm_Pc D cI cZ [.ref (a 0), .int x] (wM a cI cZ m)) (vp_Si (fun r => r = -1)) 0 0 (fun _ => False) := by
  refine Met.ofW (cc := cMd_count) (maxL := 2) (ret := (some .int)) (by decide) rfl ?_
  intro p e s mi args below meth c s₁ B hml hv
  obtain ⟨rfl, hP, hK⟩ := hv
  have hx := B.exec
  have hb := B.bytes
  have hr := B.returns
  have hts := atoms_spec (ws := ce_ws yMd_count cMd_count 2 (some .int)) B.pre
  have hown : s.vm.findClass RMd = some mi.cls := findClass_of_methodNamed B.named
  have hlocks := B.notSynchronized
  have hl := lv_entry ([.ref (a 0), .int x]) (n := 2) (Nat.le_of_ble_eq_true rfl)
  rw [lg_entry_eq]
  generalize (lg_sl ([.ref (a 0), .int x]) ++ List.replicate (2 - (lg_sl ([.ref (a 0), .int x])).length) Slot.unset).toArray = ls at hl ⊢
  have hl : lv_has ls 2 [(0, .ref (a 0)), (1, .int x)] := hl
  refine lv_iload_n hx hb dMd_count_0 rfl (lv_at hl 1 rfl) ?_
  refine lv_bipush (v := 9) hx hb dMd_count_1 (by decide) ?_
  refine cm_si (As := [.int x, .int 9]) (rest := []) ⟨hx, hb, hml, hown, hts⟩ (c_Md_in l D cI cZ a _ x 9) mMd_in lMd_44 sMd_in (ce_hR (by omega) (by decide)) ⟨rfl, rfl⟩ hK hP rfl hl.1 rfl (Nat.le_of_ble_eq_true rfl) dMd_count_3 ⟨Nat.le_of_ble_eq_true rfl, Nat.le_of_ble_eq_true rfl⟩ (fun r_1 er_1 => ?_)
  obtain rfl : r_1 = bI (isI x 9) := er_1
  refine lv_if_ne (tgt := 11) hx hb dMd_count_6 (by decide) (fun c_2 => ?_) (fun c_2 => ?_)
  · -- 6 taken
    exact absurd hno (by rw [bI1 c_2]; decide)
  · -- 6 not taken
    refine lv_iconst (v := (-1)) hx hb dMd_count_9 (by decide) ?_
    exact W.iret (v := (-1)) hx hb hr (fun t9 ht hW => ⟨(-1), rfl, rfl, ht⟩) (fun _ h => by cases h) dMd_count_10
set_option maxHeartbeats 8000000 in
set_option maxRecDepth 100000 in
theorem c_Md_count (l : Launch) (D : va_G) (cI cZ : ClassId) (a : Nat → Nat) (m : MS) (k : Nat) (hk : k < 9) : Met l yMd_count (ce_ws yMd_count cMd_count 2 (some .int)) (ce_rm 1) (cm_Pc D cI cZ [.ref (a 0), .int (nI k)] (wM a cI cZ m)) (vp_Si (fun r => r = mCount m k)) 0 0 (fun _ => False) := by
  refine Met.ofW (cc := cMd_count) (maxL := 2) (ret := (some .int)) (by decide) rfl ?_
  intro p e s mi args below meth c s₁ B hml hv
  obtain ⟨rfl, hP, hK⟩ := hv
  have hx := B.exec
  have hb := B.bytes
  have hr := B.returns
  have hts := atoms_spec (ws := ce_ws yMd_count cMd_count 2 (some .int)) B.pre
  have hown : s.vm.findClass RMd = some mi.cls := findClass_of_methodNamed B.named
  have hlocks := B.notSynchronized
  have hl := lv_entry ([.ref (a 0), .int (nI k)]) (n := 2) (Nat.le_of_ble_eq_true rfl)
  rw [lg_entry_eq]
  generalize (lg_sl ([.ref (a 0), .int (nI k)]) ++ List.replicate (2 - (lg_sl ([.ref (a 0), .int (nI k)])).length) Slot.unset).toArray = ls at hl ⊢
  have hl : lv_has ls 2 [(0, .ref (a 0)), (1, .int (nI k))] := hl
  rcases (show k = 0 ∨ k = 1 ∨ k = 2 ∨ k = 3 ∨ k = 4 ∨ k = 5 ∨ k = 6 ∨ k = 7 ∨ k = 8 by omega) with rfl | rfl | rfl | rfl | rfl | rfl | rfl | rfl | rfl
  ·
    refine lv_iload_n hx hb dMd_count_0 rfl (lv_at hl 1 rfl) ?_
    refine lv_bipush (v := 9) hx hb dMd_count_1 (by decide) ?_
    refine cm_si (As := [.int (nI 0), .int 9]) (rest := []) ⟨hx, hb, hml, hown, hts⟩ (c_Md_in l D cI cZ a _ (nI 0) 9) mMd_in lMd_44 sMd_in (ce_hR (by omega) (by decide)) ⟨rfl, rfl⟩ hK hP rfl hl.1 rfl (Nat.le_of_ble_eq_true rfl) dMd_count_3 ⟨Nat.le_of_ble_eq_true rfl, Nat.le_of_ble_eq_true rfl⟩ (fun r_1 er_1 => ?_)
    obtain rfl : r_1 = bI (isI (nI 0) 9) := er_1
    refine lv_if_ne (tgt := 11) hx hb dMd_count_6 (by decide) (fun c_2 => ?_) (fun c_2 => ?_)
    · -- 6 taken
      refine lv_iload_n hx hb dMd_count_11 rfl (lv_at hl 1 rfl) ?_
      refine lv_iconst (v := 2) hx hb dMd_count_12 (by decide) ?_
      refine lv_icmp_le (tgt := 27) hx hb dMd_count_13 (by decide) (fun c_3 => ?_) (fun c_3 => ?_)
      · -- 13 taken
        refine lv_iload_n hx hb dMd_count_27 rfl (lv_at hl 1 rfl) ?_
        refine lv_if_ne (tgt := 38) hx hb dMd_count_28 (by decide) (fun c_4 => ?_) (fun c_4 => ?_)
        · -- 28 taken
          exact absurd c_4 (by decide)
        · -- 28 not taken
          refine lv_aload_n hx hb dMd_count_31 rfl (lv_at hl 0 rfl) ?_
          refine cm_g hx hb hts hown hK hP 7 (by decide) rfl lMd_130 rfl dMd_count_32 ?_
          refine lv_goto (tgt := 54) hx hb dMd_count_35 (by decide) ?_
          exact W.iret (v := qRuns m) hx hb hr (fun t9 ht hW => ⟨qRuns m, rfl, rfl, ht⟩) (fun _ h => by cases h) dMd_count_54
      · -- 13 not taken
        exact absurd c_3 (by decide)
    · -- 6 not taken
      exact absurd ((isI_t (N := 9) (p := 0) (by decide) (by decide)).symm.trans (bI0 c_2)) (by decide)
  ·
    refine lv_iload_n hx hb dMd_count_0 rfl (lv_at hl 1 rfl) ?_
    refine lv_bipush (v := 9) hx hb dMd_count_1 (by decide) ?_
    refine cm_si (As := [.int (nI 1), .int 9]) (rest := []) ⟨hx, hb, hml, hown, hts⟩ (c_Md_in l D cI cZ a _ (nI 1) 9) mMd_in lMd_44 sMd_in (ce_hR (by omega) (by decide)) ⟨rfl, rfl⟩ hK hP rfl hl.1 rfl (Nat.le_of_ble_eq_true rfl) dMd_count_3 ⟨Nat.le_of_ble_eq_true rfl, Nat.le_of_ble_eq_true rfl⟩ (fun r_5 er_5 => ?_)
    obtain rfl : r_5 = bI (isI (nI 1) 9) := er_5
    refine lv_if_ne (tgt := 11) hx hb dMd_count_6 (by decide) (fun c_6 => ?_) (fun c_6 => ?_)
    · -- 6 taken
      refine lv_iload_n hx hb dMd_count_11 rfl (lv_at hl 1 rfl) ?_
      refine lv_iconst (v := 2) hx hb dMd_count_12 (by decide) ?_
      refine lv_icmp_le (tgt := 27) hx hb dMd_count_13 (by decide) (fun c_7 => ?_) (fun c_7 => ?_)
      · -- 13 taken
        refine lv_iload_n hx hb dMd_count_27 rfl (lv_at hl 1 rfl) ?_
        refine lv_if_ne (tgt := 38) hx hb dMd_count_28 (by decide) (fun c_8 => ?_) (fun c_8 => ?_)
        · -- 28 taken
          refine lv_iload_n hx hb dMd_count_38 rfl (lv_at hl 1 rfl) ?_
          refine lv_iconst (v := 1) hx hb dMd_count_39 (by decide) ?_
          refine lv_icmp_ne (tgt := 50) hx hb dMd_count_40 (by decide) (fun c_9 => ?_) (fun c_9 => ?_)
          · -- 40 taken
            exact absurd c_9 (by decide)
          · -- 40 not taken
            refine lv_aload_n hx hb dMd_count_43 rfl (lv_at hl 0 rfl) ?_
            refine cm_g hx hb hts hown hK hP 8 (by decide) rfl lMd_133 rfl dMd_count_44 ?_
            refine lv_goto (tgt := 54) hx hb dMd_count_47 (by decide) ?_
            exact W.iret (v := qThr m) hx hb hr (fun t9 ht hW => ⟨qThr m, rfl, rfl, ht⟩) (fun _ h => by cases h) dMd_count_54
        · -- 28 not taken
          exact absurd c_8 (by decide)
      · -- 13 not taken
        exact absurd c_7 (by decide)
    · -- 6 not taken
      exact absurd ((isI_t (N := 9) (p := 1) (by decide) (by decide)).symm.trans (bI0 c_6)) (by decide)
  ·
    refine lv_iload_n hx hb dMd_count_0 rfl (lv_at hl 1 rfl) ?_
    refine lv_bipush (v := 9) hx hb dMd_count_1 (by decide) ?_
    refine cm_si (As := [.int (nI 2), .int 9]) (rest := []) ⟨hx, hb, hml, hown, hts⟩ (c_Md_in l D cI cZ a _ (nI 2) 9) mMd_in lMd_44 sMd_in (ce_hR (by omega) (by decide)) ⟨rfl, rfl⟩ hK hP rfl hl.1 rfl (Nat.le_of_ble_eq_true rfl) dMd_count_3 ⟨Nat.le_of_ble_eq_true rfl, Nat.le_of_ble_eq_true rfl⟩ (fun r_10 er_10 => ?_)
    obtain rfl : r_10 = bI (isI (nI 2) 9) := er_10
    refine lv_if_ne (tgt := 11) hx hb dMd_count_6 (by decide) (fun c_11 => ?_) (fun c_11 => ?_)
    · -- 6 taken
      refine lv_iload_n hx hb dMd_count_11 rfl (lv_at hl 1 rfl) ?_
      refine lv_iconst (v := 2) hx hb dMd_count_12 (by decide) ?_
      refine lv_icmp_le (tgt := 27) hx hb dMd_count_13 (by decide) (fun c_12 => ?_) (fun c_12 => ?_)
      · -- 13 taken
        refine lv_iload_n hx hb dMd_count_27 rfl (lv_at hl 1 rfl) ?_
        refine lv_if_ne (tgt := 38) hx hb dMd_count_28 (by decide) (fun c_13 => ?_) (fun c_13 => ?_)
        · -- 28 taken
          refine lv_iload_n hx hb dMd_count_38 rfl (lv_at hl 1 rfl) ?_
          refine lv_iconst (v := 1) hx hb dMd_count_39 (by decide) ?_
          refine lv_icmp_ne (tgt := 50) hx hb dMd_count_40 (by decide) (fun c_14 => ?_) (fun c_14 => ?_)
          · -- 40 taken
            refine lv_aload_n hx hb dMd_count_50 rfl (lv_at hl 0 rfl) ?_
            refine cm_g hx hb hts hown hK hP 9 (by decide) rfl lMd_136 rfl dMd_count_51 ?_
            exact W.iret (v := qTrd m) hx hb hr (fun t9 ht hW => ⟨qTrd m, rfl, rfl, ht⟩) (fun _ h => by cases h) dMd_count_54
          · -- 40 not taken
            exact absurd c_14 (by decide)
        · -- 28 not taken
          exact absurd c_13 (by decide)
      · -- 13 not taken
        exact absurd c_12 (by decide)
    · -- 6 not taken
      exact absurd ((isI_t (N := 9) (p := 2) (by decide) (by decide)).symm.trans (bI0 c_11)) (by decide)
  ·
    refine lv_iload_n hx hb dMd_count_0 rfl (lv_at hl 1 rfl) ?_
    refine lv_bipush (v := 9) hx hb dMd_count_1 (by decide) ?_
    refine cm_si (As := [.int (nI 3), .int 9]) (rest := []) ⟨hx, hb, hml, hown, hts⟩ (c_Md_in l D cI cZ a _ (nI 3) 9) mMd_in lMd_44 sMd_in (ce_hR (by omega) (by decide)) ⟨rfl, rfl⟩ hK hP rfl hl.1 rfl (Nat.le_of_ble_eq_true rfl) dMd_count_3 ⟨Nat.le_of_ble_eq_true rfl, Nat.le_of_ble_eq_true rfl⟩ (fun r_15 er_15 => ?_)
    obtain rfl : r_15 = bI (isI (nI 3) 9) := er_15
    refine lv_if_ne (tgt := 11) hx hb dMd_count_6 (by decide) (fun c_16 => ?_) (fun c_16 => ?_)
    · -- 6 taken
      refine lv_iload_n hx hb dMd_count_11 rfl (lv_at hl 1 rfl) ?_
      refine lv_iconst (v := 2) hx hb dMd_count_12 (by decide) ?_
      refine lv_icmp_le (tgt := 27) hx hb dMd_count_13 (by decide) (fun c_17 => ?_) (fun c_17 => ?_)
      · -- 13 taken
        exact absurd c_17 (by decide)
      · -- 13 not taken
        refine lv_aload_n hx hb dMd_count_16 rfl (lv_at hl 0 rfl) ?_
        refine cm_g hx hb hts hown hK hP 2 (by decide) rfl lMd_16 rfl dMd_count_17 ?_
        refine lv_iload_n hx hb dMd_count_20 rfl (lv_at hl 1 rfl) ?_
        refine lv_iconst (v := 3) hx hb dMd_count_21 (by decide) ?_
        refine lv_isub hx hb dMd_count_22 ?_
        refine lv_topi (fun y_18 ey_18 => ?_)
        obtain rfl : y_18 = nI 0 := ey_18.trans (pk_sub (b := 3) (by decide))
        refine cm_lSize (i := 0) (by omega) hx hb hK hP dMd_count_23 ?_
        refine lv_goto (tgt := 54) hx hb dMd_count_24 (by decide) ?_
        exact W.iret (v := nI (qSize m 0)) hx hb hr (fun t9 ht hW => ⟨nI (qSize m 0), rfl, rfl, ht⟩) (fun _ h => by cases h) dMd_count_54
    · -- 6 not taken
      exact absurd ((isI_t (N := 9) (p := 3) (by decide) (by decide)).symm.trans (bI0 c_16)) (by decide)
  ·
    refine lv_iload_n hx hb dMd_count_0 rfl (lv_at hl 1 rfl) ?_
    refine lv_bipush (v := 9) hx hb dMd_count_1 (by decide) ?_
    refine cm_si (As := [.int (nI 4), .int 9]) (rest := []) ⟨hx, hb, hml, hown, hts⟩ (c_Md_in l D cI cZ a _ (nI 4) 9) mMd_in lMd_44 sMd_in (ce_hR (by omega) (by decide)) ⟨rfl, rfl⟩ hK hP rfl hl.1 rfl (Nat.le_of_ble_eq_true rfl) dMd_count_3 ⟨Nat.le_of_ble_eq_true rfl, Nat.le_of_ble_eq_true rfl⟩ (fun r_19 er_19 => ?_)
    obtain rfl : r_19 = bI (isI (nI 4) 9) := er_19
    refine lv_if_ne (tgt := 11) hx hb dMd_count_6 (by decide) (fun c_20 => ?_) (fun c_20 => ?_)
    · -- 6 taken
      refine lv_iload_n hx hb dMd_count_11 rfl (lv_at hl 1 rfl) ?_
      refine lv_iconst (v := 2) hx hb dMd_count_12 (by decide) ?_
      refine lv_icmp_le (tgt := 27) hx hb dMd_count_13 (by decide) (fun c_21 => ?_) (fun c_21 => ?_)
      · -- 13 taken
        exact absurd c_21 (by decide)
      · -- 13 not taken
        refine lv_aload_n hx hb dMd_count_16 rfl (lv_at hl 0 rfl) ?_
        refine cm_g hx hb hts hown hK hP 2 (by decide) rfl lMd_16 rfl dMd_count_17 ?_
        refine lv_iload_n hx hb dMd_count_20 rfl (lv_at hl 1 rfl) ?_
        refine lv_iconst (v := 3) hx hb dMd_count_21 (by decide) ?_
        refine lv_isub hx hb dMd_count_22 ?_
        refine lv_topi (fun y_22 ey_22 => ?_)
        obtain rfl : y_22 = nI 1 := ey_22.trans (pk_sub (b := 3) (by decide))
        refine cm_lSize (i := 1) (by omega) hx hb hK hP dMd_count_23 ?_
        refine lv_goto (tgt := 54) hx hb dMd_count_24 (by decide) ?_
        exact W.iret (v := nI (qSize m 1)) hx hb hr (fun t9 ht hW => ⟨nI (qSize m 1), rfl, rfl, ht⟩) (fun _ h => by cases h) dMd_count_54
    · -- 6 not taken
      exact absurd ((isI_t (N := 9) (p := 4) (by decide) (by decide)).symm.trans (bI0 c_20)) (by decide)
  ·
    refine lv_iload_n hx hb dMd_count_0 rfl (lv_at hl 1 rfl) ?_
    refine lv_bipush (v := 9) hx hb dMd_count_1 (by decide) ?_
    refine cm_si (As := [.int (nI 5), .int 9]) (rest := []) ⟨hx, hb, hml, hown, hts⟩ (c_Md_in l D cI cZ a _ (nI 5) 9) mMd_in lMd_44 sMd_in (ce_hR (by omega) (by decide)) ⟨rfl, rfl⟩ hK hP rfl hl.1 rfl (Nat.le_of_ble_eq_true rfl) dMd_count_3 ⟨Nat.le_of_ble_eq_true rfl, Nat.le_of_ble_eq_true rfl⟩ (fun r_23 er_23 => ?_)
    obtain rfl : r_23 = bI (isI (nI 5) 9) := er_23
    refine lv_if_ne (tgt := 11) hx hb dMd_count_6 (by decide) (fun c_24 => ?_) (fun c_24 => ?_)
    · -- 6 taken
      refine lv_iload_n hx hb dMd_count_11 rfl (lv_at hl 1 rfl) ?_
      refine lv_iconst (v := 2) hx hb dMd_count_12 (by decide) ?_
      refine lv_icmp_le (tgt := 27) hx hb dMd_count_13 (by decide) (fun c_25 => ?_) (fun c_25 => ?_)
      · -- 13 taken
        exact absurd c_25 (by decide)
      · -- 13 not taken
        refine lv_aload_n hx hb dMd_count_16 rfl (lv_at hl 0 rfl) ?_
        refine cm_g hx hb hts hown hK hP 2 (by decide) rfl lMd_16 rfl dMd_count_17 ?_
        refine lv_iload_n hx hb dMd_count_20 rfl (lv_at hl 1 rfl) ?_
        refine lv_iconst (v := 3) hx hb dMd_count_21 (by decide) ?_
        refine lv_isub hx hb dMd_count_22 ?_
        refine lv_topi (fun y_26 ey_26 => ?_)
        obtain rfl : y_26 = nI 2 := ey_26.trans (pk_sub (b := 3) (by decide))
        refine cm_lSize (i := 2) (by omega) hx hb hK hP dMd_count_23 ?_
        refine lv_goto (tgt := 54) hx hb dMd_count_24 (by decide) ?_
        exact W.iret (v := nI (qSize m 2)) hx hb hr (fun t9 ht hW => ⟨nI (qSize m 2), rfl, rfl, ht⟩) (fun _ h => by cases h) dMd_count_54
    · -- 6 not taken
      exact absurd ((isI_t (N := 9) (p := 5) (by decide) (by decide)).symm.trans (bI0 c_24)) (by decide)
  ·
    refine lv_iload_n hx hb dMd_count_0 rfl (lv_at hl 1 rfl) ?_
    refine lv_bipush (v := 9) hx hb dMd_count_1 (by decide) ?_
    refine cm_si (As := [.int (nI 6), .int 9]) (rest := []) ⟨hx, hb, hml, hown, hts⟩ (c_Md_in l D cI cZ a _ (nI 6) 9) mMd_in lMd_44 sMd_in (ce_hR (by omega) (by decide)) ⟨rfl, rfl⟩ hK hP rfl hl.1 rfl (Nat.le_of_ble_eq_true rfl) dMd_count_3 ⟨Nat.le_of_ble_eq_true rfl, Nat.le_of_ble_eq_true rfl⟩ (fun r_27 er_27 => ?_)
    obtain rfl : r_27 = bI (isI (nI 6) 9) := er_27
    refine lv_if_ne (tgt := 11) hx hb dMd_count_6 (by decide) (fun c_28 => ?_) (fun c_28 => ?_)
    · -- 6 taken
      refine lv_iload_n hx hb dMd_count_11 rfl (lv_at hl 1 rfl) ?_
      refine lv_iconst (v := 2) hx hb dMd_count_12 (by decide) ?_
      refine lv_icmp_le (tgt := 27) hx hb dMd_count_13 (by decide) (fun c_29 => ?_) (fun c_29 => ?_)
      · -- 13 taken
        exact absurd c_29 (by decide)
      · -- 13 not taken
        refine lv_aload_n hx hb dMd_count_16 rfl (lv_at hl 0 rfl) ?_
        refine cm_g hx hb hts hown hK hP 2 (by decide) rfl lMd_16 rfl dMd_count_17 ?_
        refine lv_iload_n hx hb dMd_count_20 rfl (lv_at hl 1 rfl) ?_
        refine lv_iconst (v := 3) hx hb dMd_count_21 (by decide) ?_
        refine lv_isub hx hb dMd_count_22 ?_
        refine lv_topi (fun y_30 ey_30 => ?_)
        obtain rfl : y_30 = nI 3 := ey_30.trans (pk_sub (b := 3) (by decide))
        refine cm_lSize (i := 3) (by omega) hx hb hK hP dMd_count_23 ?_
        refine lv_goto (tgt := 54) hx hb dMd_count_24 (by decide) ?_
        exact W.iret (v := nI (qSize m 3)) hx hb hr (fun t9 ht hW => ⟨nI (qSize m 3), rfl, rfl, ht⟩) (fun _ h => by cases h) dMd_count_54
    · -- 6 not taken
      exact absurd ((isI_t (N := 9) (p := 6) (by decide) (by decide)).symm.trans (bI0 c_28)) (by decide)
  ·
    refine lv_iload_n hx hb dMd_count_0 rfl (lv_at hl 1 rfl) ?_
    refine lv_bipush (v := 9) hx hb dMd_count_1 (by decide) ?_
    refine cm_si (As := [.int (nI 7), .int 9]) (rest := []) ⟨hx, hb, hml, hown, hts⟩ (c_Md_in l D cI cZ a _ (nI 7) 9) mMd_in lMd_44 sMd_in (ce_hR (by omega) (by decide)) ⟨rfl, rfl⟩ hK hP rfl hl.1 rfl (Nat.le_of_ble_eq_true rfl) dMd_count_3 ⟨Nat.le_of_ble_eq_true rfl, Nat.le_of_ble_eq_true rfl⟩ (fun r_31 er_31 => ?_)
    obtain rfl : r_31 = bI (isI (nI 7) 9) := er_31
    refine lv_if_ne (tgt := 11) hx hb dMd_count_6 (by decide) (fun c_32 => ?_) (fun c_32 => ?_)
    · -- 6 taken
      refine lv_iload_n hx hb dMd_count_11 rfl (lv_at hl 1 rfl) ?_
      refine lv_iconst (v := 2) hx hb dMd_count_12 (by decide) ?_
      refine lv_icmp_le (tgt := 27) hx hb dMd_count_13 (by decide) (fun c_33 => ?_) (fun c_33 => ?_)
      · -- 13 taken
        exact absurd c_33 (by decide)
      · -- 13 not taken
        refine lv_aload_n hx hb dMd_count_16 rfl (lv_at hl 0 rfl) ?_
        refine cm_g hx hb hts hown hK hP 2 (by decide) rfl lMd_16 rfl dMd_count_17 ?_
        refine lv_iload_n hx hb dMd_count_20 rfl (lv_at hl 1 rfl) ?_
        refine lv_iconst (v := 3) hx hb dMd_count_21 (by decide) ?_
        refine lv_isub hx hb dMd_count_22 ?_
        refine lv_topi (fun y_34 ey_34 => ?_)
        obtain rfl : y_34 = nI 4 := ey_34.trans (pk_sub (b := 3) (by decide))
        refine cm_lSize (i := 4) (by omega) hx hb hK hP dMd_count_23 ?_
        refine lv_goto (tgt := 54) hx hb dMd_count_24 (by decide) ?_
        exact W.iret (v := nI (qSize m 4)) hx hb hr (fun t9 ht hW => ⟨nI (qSize m 4), rfl, rfl, ht⟩) (fun _ h => by cases h) dMd_count_54
    · -- 6 not taken
      exact absurd ((isI_t (N := 9) (p := 7) (by decide) (by decide)).symm.trans (bI0 c_32)) (by decide)
  ·
    refine lv_iload_n hx hb dMd_count_0 rfl (lv_at hl 1 rfl) ?_
    refine lv_bipush (v := 9) hx hb dMd_count_1 (by decide) ?_
    refine cm_si (As := [.int (nI 8), .int 9]) (rest := []) ⟨hx, hb, hml, hown, hts⟩ (c_Md_in l D cI cZ a _ (nI 8) 9) mMd_in lMd_44 sMd_in (ce_hR (by omega) (by decide)) ⟨rfl, rfl⟩ hK hP rfl hl.1 rfl (Nat.le_of_ble_eq_true rfl) dMd_count_3 ⟨Nat.le_of_ble_eq_true rfl, Nat.le_of_ble_eq_true rfl⟩ (fun r_35 er_35 => ?_)
    obtain rfl : r_35 = bI (isI (nI 8) 9) := er_35
    refine lv_if_ne (tgt := 11) hx hb dMd_count_6 (by decide) (fun c_36 => ?_) (fun c_36 => ?_)
    · -- 6 taken
      refine lv_iload_n hx hb dMd_count_11 rfl (lv_at hl 1 rfl) ?_
      refine lv_iconst (v := 2) hx hb dMd_count_12 (by decide) ?_
      refine lv_icmp_le (tgt := 27) hx hb dMd_count_13 (by decide) (fun c_37 => ?_) (fun c_37 => ?_)
      · -- 13 taken
        exact absurd c_37 (by decide)
      · -- 13 not taken
        refine lv_aload_n hx hb dMd_count_16 rfl (lv_at hl 0 rfl) ?_
        refine cm_g hx hb hts hown hK hP 2 (by decide) rfl lMd_16 rfl dMd_count_17 ?_
        refine lv_iload_n hx hb dMd_count_20 rfl (lv_at hl 1 rfl) ?_
        refine lv_iconst (v := 3) hx hb dMd_count_21 (by decide) ?_
        refine lv_isub hx hb dMd_count_22 ?_
        refine lv_topi (fun y_38 ey_38 => ?_)
        obtain rfl : y_38 = nI 5 := ey_38.trans (pk_sub (b := 3) (by decide))
        refine cm_lSize (i := 5) (by omega) hx hb hK hP dMd_count_23 ?_
        refine lv_goto (tgt := 54) hx hb dMd_count_24 (by decide) ?_
        exact W.iret (v := nI (qSize m 5)) hx hb hr (fun t9 ht hW => ⟨nI (qSize m 5), rfl, rfl, ht⟩) (fun _ h => by cases h) dMd_count_54
    · -- 6 not taken
      exact absurd ((isI_t (N := 9) (p := 8) (by decide) (by decide)).symm.trans (bI0 c_36)) (by decide)
set_option maxHeartbeats 8000000 in
set_option maxRecDepth 100000 in
theorem c_Md_run_no (l : Launch) (D : va_G) (cI cZ : ClassId) (a : Nat → Nat) (m : MS) (x : Int32) (th : Bool) (hno : isI x 6 = false) : Met l yMd_run (ce_ws yMd_run cMd_run 3 (some .int)) (ce_rm 1) (cm_Pc D cI cZ [.ref (a 0), .int x, .int (bI th)] (wM a cI cZ m)) (vp_Si (fun r => r = -1)) 0 0 (fun _ => False) := by
  refine Met.ofW (cc := cMd_run) (maxL := 3) (ret := (some .int)) (by decide) rfl ?_
  intro p e s mi args below meth c s₁ B hml hv
  obtain ⟨rfl, hP, hK⟩ := hv
  have hx := B.exec
  have hb := B.bytes
  have hr := B.returns
  have hts := atoms_spec (ws := ce_ws yMd_run cMd_run 3 (some .int)) B.pre
  have hown : s.vm.findClass RMd = some mi.cls := findClass_of_methodNamed B.named
  have hlocks := B.notSynchronized
  have hl := lv_entry ([.ref (a 0), .int x, .int (bI th)]) (n := 3) (Nat.le_of_ble_eq_true rfl)
  rw [lg_entry_eq]
  generalize (lg_sl ([.ref (a 0), .int x, .int (bI th)]) ++ List.replicate (3 - (lg_sl ([.ref (a 0), .int x, .int (bI th)])).length) Slot.unset).toArray = ls at hl ⊢
  have hl : lv_has ls 3 [(0, .ref (a 0)), (1, .int x), (2, .int (bI th))] := hl
  refine lv_iload_n hx hb dMd_run_0 rfl (lv_at hl 1 rfl) ?_
  refine lv_bipush (v := 6) hx hb dMd_run_1 (by decide) ?_
  refine cm_si (As := [.int x, .int 6]) (rest := []) ⟨hx, hb, hml, hown, hts⟩ (c_Md_in l D cI cZ a _ x 6) mMd_in lMd_44 sMd_in (ce_hR (by omega) (by decide)) ⟨rfl, rfl⟩ hK hP rfl hl.1 rfl (Nat.le_of_ble_eq_true rfl) dMd_run_3 ⟨Nat.le_of_ble_eq_true rfl, Nat.le_of_ble_eq_true rfl⟩ (fun r_1 er_1 => ?_)
  obtain rfl : r_1 = bI (isI x 6) := er_1
  refine lv_if_eq (tgt := 18) hx hb dMd_run_6 (by decide) (fun c_2 => ?_) (fun c_2 => ?_)
  · -- 6 taken
    refine lv_iconst (v := (-1)) hx hb dMd_run_18 (by decide) ?_
    exact W.iret (v := (-1)) hx hb hr (fun t9 ht hW => ⟨(-1), rfl, rfl, ht⟩) (fun _ h => by cases h) dMd_run_19
  · -- 6 not taken
    exact absurd hno (by rw [bI1 c_2]; decide)
set_option maxHeartbeats 8000000 in
set_option maxRecDepth 100000 in
theorem c_Md_run (l : Launch) (D : va_G) (cI cZ : ClassId) (a : Nat → Nat) (hd : dM a) (m : MS) (pn : Nat) (th : Bool) (hp6 : pn < 6) (hs14 : qSize m pn ≤ 14) (hrng : ∀ i, i < qSize m pn → qOp m (pn * 14 + i) ≤ 21 ∧ qArg m (pn * 14 + i) ≤ 255) : Met l yMd_run (ce_ws yMd_run cMd_run 3 (some .int)) (ce_rm 5) (cm_Pc D cI cZ [.ref (a 0), .int (nI pn), .int (bI th)] (wM a cI cZ m)) (va_Qi (fun r m2 => (r, m2) = mPerf th pn m) (fun m2 t => va_P D vwCl (wM a cI cZ m2) t.heap) (aM a)) 0 0 (aM a) := by
  refine Met.ofW (cc := cMd_run) (maxL := 3) (ret := (some .int)) (by decide) rfl ?_
  intro p e s mi args below meth c s₁ B hml hv
  obtain ⟨rfl, hP, hK⟩ := hv
  have hx := B.exec
  have hb := B.bytes
  have hr := B.returns
  have hts := atoms_spec (ws := ce_ws yMd_run cMd_run 3 (some .int)) B.pre
  have hown : s.vm.findClass RMd = some mi.cls := findClass_of_methodNamed B.named
  have hlocks := B.notSynchronized
  have hS : va_S (aM a) s.heap s.heap [] := va_S.rf
  have hl := lv_entry ([.ref (a 0), .int (nI pn), .int (bI th)]) (n := 3) (Nat.le_of_ble_eq_true rfl)
  rw [lg_entry_eq]
  generalize (lg_sl ([.ref (a 0), .int (nI pn), .int (bI th)]) ++ List.replicate (3 - (lg_sl ([.ref (a 0), .int (nI pn), .int (bI th)])).length) Slot.unset).toArray = ls at hl ⊢
  have hl : lv_has ls 3 [(0, .ref (a 0)), (1, .int (nI pn)), (2, .int (bI th))] := hl
  refine lv_iload_n hx hb dMd_run_0 rfl (lv_at hl 1 rfl) ?_
  refine lv_bipush (v := 6) hx hb dMd_run_1 (by decide) ?_
  refine cm_si (As := [.int (nI pn), .int 6]) (rest := []) ⟨hx, hb, hml, hown, hts⟩ (c_Md_in l D cI cZ a _ (nI pn) 6) mMd_in lMd_44 sMd_in (ce_hR (by omega) (by decide)) ⟨rfl, rfl⟩ hK hP rfl hl.1 rfl (Nat.le_of_ble_eq_true rfl) dMd_run_3 ⟨Nat.le_of_ble_eq_true rfl, Nat.le_of_ble_eq_true rfl⟩ (fun r_1 er_1 => ?_)
  obtain rfl : r_1 = bI (isI (nI pn) 6) := er_1
  refine lv_if_eq (tgt := 18) hx hb dMd_run_6 (by decide) (fun c_2 => ?_) (fun c_2 => ?_)
  · -- 6 taken
    exact absurd ((isI_t hp6 (by decide)).symm.trans (bI0 c_2)) (by decide)
  · -- 6 not taken
    refine lv_aload_n hx hb dMd_run_9 rfl (lv_at hl 0 rfl) ?_
    refine lv_iload_n hx hb dMd_run_10 rfl (lv_at hl 1 rfl) ?_
    refine lv_iload_n hx hb dMd_run_11 rfl (lv_at hl 2 rfl) ?_
    refine cm_vi (As := [.int (nI pn), .int (bI th)]) (rest := []) ⟨hx, hb, hml, hown, hts⟩ (c_Md_perform l D cI cZ a hd m pn th hp6 hs14 hrng) mMd_perform lMd_139 iMd_perform (ce_hR (by omega) (by decide)) ⟨rfl, rfl⟩ hK hP hS rfl hl.1 rfl (Nat.le_of_ble_eq_true rfl) dMd_run_12 ⟨Nat.le_of_ble_eq_true rfl, Nat.le_of_ble_eq_true rfl⟩ (fun r_3 m_4 H locs er_3 hP hS => ?_)
    refine lv_goto (tgt := 19) hx hb dMd_run_15 (by decide) ?_
    exact W.iret (v := r_3) hx hb hr (fun t9 ht hW => ⟨⟨r_3, m_4, rfl, er_3, ce_hp ht hP⟩, hS.F ht⟩) hS.2.2 dMd_run_19
set_option maxHeartbeats 8000000 in
set_option maxRecDepth 100000 in
theorem c_Md_runAll_no (l : Launch) (D : va_G) (cI cZ : ClassId) (a : Nat → Nat) (m : MS) (x : Int32) (hno : isI x 64 = false) : Met l yMd_runAll (ce_ws yMd_runAll cMd_runAll 4 (some .int)) (ce_rm 1) (cm_Pc D cI cZ [.ref (a 0), .int x] (wM a cI cZ m)) (vp_Si (fun r => r = -1)) 0 0 (fun _ => False) := by
  refine Met.ofW (cc := cMd_runAll) (maxL := 4) (ret := (some .int)) (by decide) rfl ?_
  intro p e s mi args below meth c s₁ B hml hv
  obtain ⟨rfl, hP, hK⟩ := hv
  have hx := B.exec
  have hb := B.bytes
  have hr := B.returns
  have hts := atoms_spec (ws := ce_ws yMd_runAll cMd_runAll 4 (some .int)) B.pre
  have hown : s.vm.findClass RMd = some mi.cls := findClass_of_methodNamed B.named
  have hlocks := B.notSynchronized
  have hl := lv_entry ([.ref (a 0), .int x]) (n := 4) (Nat.le_of_ble_eq_true rfl)
  rw [lg_entry_eq]
  generalize (lg_sl ([.ref (a 0), .int x]) ++ List.replicate (4 - (lg_sl ([.ref (a 0), .int x])).length) Slot.unset).toArray = ls at hl ⊢
  have hl : lv_has ls 4 [(0, .ref (a 0)), (1, .int x)] := hl
  refine lv_iload_n hx hb dMd_runAll_0 rfl (lv_at hl 1 rfl) ?_
  refine lv_bipush (v := 64) hx hb dMd_runAll_1 (by decide) ?_
  refine cm_si (As := [.int x, .int 64]) (rest := []) ⟨hx, hb, hml, hown, hts⟩ (c_Md_in l D cI cZ a _ x 64) mMd_in lMd_44 sMd_in (ce_hR (by omega) (by decide)) ⟨rfl, rfl⟩ hK hP rfl hl.1 rfl (Nat.le_of_ble_eq_true rfl) dMd_runAll_3 ⟨Nat.le_of_ble_eq_true rfl, Nat.le_of_ble_eq_true rfl⟩ (fun r_1 er_1 => ?_)
  obtain rfl : r_1 = bI (isI x 64) := er_1
  refine lv_if_ne (tgt := 11) hx hb dMd_runAll_6 (by decide) (fun c_2 => ?_) (fun c_2 => ?_)
  · -- 6 taken
    exact absurd hno (by rw [bI1 c_2]; decide)
  · -- 6 not taken
    refine lv_iconst (v := (-1)) hx hb dMd_runAll_9 (by decide) ?_
    exact W.iret (v := (-1)) hx hb hr (fun t9 ht hW => ⟨(-1), rfl, rfl, ht⟩) (fun _ h => by cases h) dMd_runAll_10
