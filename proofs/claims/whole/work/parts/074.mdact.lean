set_option maxHeartbeats 8000000 in
set_option maxRecDepth 100000 in
theorem c_Md_act (l : Launch) (D : va_G) (cI cZ : ClassId) (a : Nat → Nat) (hd : dM a) (m : MS) (o : Nat) (x : Int32) (n k : Nat) (ho : o ≤ 9 ∨ (15 ≤ o ∧ o ≤ 20)) (hn : n < 16) (hk : k < 16) : Met l yMd_act (ce_ws yMd_act cMd_act 5 none) (ce_rm 2) (cm_Pc D cI cZ [.ref (a 0), .int (nI o), .int x, .int (nI n), .int (nI k)] (wM a cI cZ m)) (va_Qv (fun m2 => m2 = mAct m o x n k) (fun m2 t => va_P D vwCl (wM a cI cZ m2) t.heap) (aM a)) 0 0 (aM a) := by
  refine Met.ofW (cc := cMd_act) (maxL := 5) (ret := none) (by decide) rfl ?_
  intro p e s mi args below meth c s₁ B hml hv
  obtain ⟨rfl, hP, hK⟩ := hv
  have hx := B.exec
  have hb := B.bytes
  have hr := B.returns
  have hts := atoms_spec (ws := ce_ws yMd_act cMd_act 5 none) B.pre
  have hown : s.vm.findClass RMd = some mi.cls := findClass_of_methodNamed B.named
  have hlocks := B.notSynchronized
  have hS : va_S (aM a) s.heap s.heap [] := va_S.rf
  have hl := lv_entry ([.ref (a 0), .int (nI o), .int x, .int (nI n), .int (nI k)]) (n := 5) (Nat.le_of_ble_eq_true rfl)
  rw [lg_entry_eq]
  generalize (lg_sl ([.ref (a 0), .int (nI o), .int x, .int (nI n), .int (nI k)]) ++ List.replicate (5 - (lg_sl ([.ref (a 0), .int (nI o), .int x, .int (nI n), .int (nI k)])).length) Slot.unset).toArray = ls at hl ⊢
  have hl : lv_has ls 5 [(0, .ref (a 0)), (1, .int (nI o)), (2, .int x), (3, .int (nI n)), (4, .int (nI k))] := hl
  have hk2 : k % 2 < 2 := Nat.mod_lt _ (by decide)
  refine lv_iload_n hx hb dMd_act_0 rfl (lv_at hl 1 rfl) ?_
  rcases (show o = 0 ∨ o = 1 ∨ o = 2 ∨ o = 3 ∨ o = 4 ∨ o = 5 ∨ o = 6 ∨ o = 7 ∨ o = 8 ∨ o = 9 ∨ o = 15 ∨ o = 16 ∨ o = 17 ∨ o = 18 ∨ o = 19 ∨ o = 20 by omega) with rfl | rfl | rfl | rfl | rfl | rfl | rfl | rfl | rfl | rfl | rfl | rfl | rfl | rfl | rfl | rfl
  · -- op 0
    refine lv_tableIn (tgt := 96) hx hb dMd_act_1 (by decide) (by decide) rfl (by decide) ?_
    refine lv_aload_n hx hb dMd_act_96 rfl (lv_at hl 0 rfl) ?_
    refine lv_dup hx hb dMd_act_97 rfl ?_
    refine cm_g hx hb hts hown hK hP 18 (by decide) rfl lMd_78 rfl dMd_act_98 ?_
    refine lv_iload_n hx hb dMd_act_101 rfl (lv_at hl 2 rfl) ?_
    refine lv_iadd hx hb dMd_act_102 ?_
    refine cm_pAcc (x := (qAcc m) + x) hx hb hts hown hK hd hP hS lMd_78 dMd_act_103 (fun H locs hP hS => ?_)
    refine lv_goto (tgt := 351) hx hb dMd_act_106 (by decide) ?_
    exact W.vret hx hb hr (fun t9 ht hW => ⟨⟨zAcc m ((qAcc m) + x), rfl, rfl, ce_hp ht hP⟩, hS.F ht⟩) hS.2.2 dMd_act_351
  · -- op 1
    refine lv_tableIn (tgt := 109) hx hb dMd_act_1 (by decide) (by decide) rfl (by decide) ?_
    refine lv_aload_n hx hb dMd_act_109 rfl (lv_at hl 0 rfl) ?_
    refine lv_dup hx hb dMd_act_110 rfl ?_
    refine cm_g hx hb hts hown hK hP 18 (by decide) rfl lMd_78 rfl dMd_act_111 ?_
    refine lv_iload_n hx hb dMd_act_114 rfl (lv_at hl 2 rfl) ?_
    refine lv_imul hx hb dMd_act_115 ?_
    refine cm_pAcc (x := (qAcc m) * x) hx hb hts hown hK hd hP hS lMd_78 dMd_act_116 (fun H locs hP hS => ?_)
    refine lv_goto (tgt := 351) hx hb dMd_act_119 (by decide) ?_
    exact W.vret hx hb hr (fun t9 ht hW => ⟨⟨zAcc m ((qAcc m) * x), rfl, rfl, ce_hp ht hP⟩, hS.F ht⟩) hS.2.2 dMd_act_351
  · -- op 2
    refine lv_tableIn (tgt := 122) hx hb dMd_act_1 (by decide) (by decide) rfl (by decide) ?_
    refine lv_aload_n hx hb dMd_act_122 rfl (lv_at hl 0 rfl) ?_
    refine lv_iload_n hx hb dMd_act_123 rfl (lv_at hl 2 rfl) ?_
    refine lv_iload_n hx hb dMd_act_124 rfl (lv_at hl 1 rfl) ?_
    refine lv_iconst (v := 3) hx hb dMd_act_125 (by decide) ?_
    refine lv_icmp_ne (tgt := 133) hx hb dMd_act_126 (by decide) (fun c_1 => ?_) (fun c_1 => ?_)
    · -- 126 taken
      refine lv_iconst (v := 0) hx hb dMd_act_133 (by decide) ?_
      refine cm_vv (As := [.int x, .int 0]) (rest := []) ⟨hx, hb, hml, hown, hts⟩ (c_Md_divide l D cI cZ a hd m x false) mMd_divide lMd_98 iMd_divide (ce_hR (by omega) (by decide)) ⟨rfl, rfl⟩ hK hP hS rfl hl.1 rfl (Nat.le_of_ble_eq_true rfl) dMd_act_134 ⟨Nat.le_of_ble_eq_true rfl, Nat.le_of_ble_eq_true rfl⟩ (fun m_2 H locs em_2 hP hS => ?_)
      obtain rfl := em_2
      refine lv_goto (tgt := 351) hx hb dMd_act_137 (by decide) ?_
      exact W.vret hx hb hr (fun t9 ht hW => ⟨⟨(mDivide m x false), rfl, rfl, ce_hp ht hP⟩, hS.F ht⟩) hS.2.2 dMd_act_351
    · -- 126 not taken
      exact absurd c_1 (by decide)
  · -- op 3
    refine lv_tableIn (tgt := 122) hx hb dMd_act_1 (by decide) (by decide) rfl (by decide) ?_
    refine lv_aload_n hx hb dMd_act_122 rfl (lv_at hl 0 rfl) ?_
    refine lv_iload_n hx hb dMd_act_123 rfl (lv_at hl 2 rfl) ?_
    refine lv_iload_n hx hb dMd_act_124 rfl (lv_at hl 1 rfl) ?_
    refine lv_iconst (v := 3) hx hb dMd_act_125 (by decide) ?_
    refine lv_icmp_ne (tgt := 133) hx hb dMd_act_126 (by decide) (fun c_3 => ?_) (fun c_3 => ?_)
    · -- 126 taken
      exact absurd c_3 (by decide)
    · -- 126 not taken
      refine lv_iconst (v := 1) hx hb dMd_act_129 (by decide) ?_
      refine lv_goto (tgt := 134) hx hb dMd_act_130 (by decide) ?_
      refine cm_vv (As := [.int x, .int 1]) (rest := []) ⟨hx, hb, hml, hown, hts⟩ (c_Md_divide l D cI cZ a hd m x true) mMd_divide lMd_98 iMd_divide (ce_hR (by omega) (by decide)) ⟨rfl, rfl⟩ hK hP hS rfl hl.1 rfl (Nat.le_of_ble_eq_true rfl) dMd_act_134 ⟨Nat.le_of_ble_eq_true rfl, Nat.le_of_ble_eq_true rfl⟩ (fun m_4 H locs em_4 hP hS => ?_)
      obtain rfl := em_4
      refine lv_goto (tgt := 351) hx hb dMd_act_137 (by decide) ?_
      exact W.vret hx hb hr (fun t9 ht hW => ⟨⟨(mDivide m x true), rfl, rfl, ce_hp ht hP⟩, hS.F ht⟩) hS.2.2 dMd_act_351
  · -- op 4
    refine lv_tableIn (tgt := 140) hx hb dMd_act_1 (by decide) (by decide) rfl (by decide) ?_
    refine lv_aload_n hx hb dMd_act_140 rfl (lv_at hl 0 rfl) ?_
    refine lv_iload_n hx hb dMd_act_141 rfl (lv_at hl 2 rfl) ?_
    refine lv_iload_n hx hb dMd_act_142 rfl (lv_at hl 1 rfl) ?_
    refine lv_iconst (v := 4) hx hb dMd_act_143 (by decide) ?_
    refine lv_icmp_ne (tgt := 151) hx hb dMd_act_144 (by decide) (fun c_5 => ?_) (fun c_5 => ?_)
    · -- 144 taken
      exact absurd c_5 (by decide)
    · -- 144 not taken
      refine lv_iconst (v := 1) hx hb dMd_act_147 (by decide) ?_
      refine lv_goto (tgt := 152) hx hb dMd_act_148 (by decide) ?_
      refine cm_vv (As := [.int x, .int 1]) (rest := []) ⟨hx, hb, hml, hown, hts⟩ (c_Md_touch l D cI cZ a hd m x true) mMd_touch lMd_102 iMd_touch (ce_hR (by omega) (by decide)) ⟨rfl, rfl⟩ hK hP hS rfl hl.1 rfl (Nat.le_of_ble_eq_true rfl) dMd_act_152 ⟨Nat.le_of_ble_eq_true rfl, Nat.le_of_ble_eq_true rfl⟩ (fun m_6 H locs em_6 hP hS => ?_)
      obtain rfl := em_6
      refine lv_goto (tgt := 351) hx hb dMd_act_155 (by decide) ?_
      exact W.vret hx hb hr (fun t9 ht hW => ⟨⟨(mTouch m x true), rfl, rfl, ce_hp ht hP⟩, hS.F ht⟩) hS.2.2 dMd_act_351
  · -- op 5
    refine lv_tableIn (tgt := 140) hx hb dMd_act_1 (by decide) (by decide) rfl (by decide) ?_
    refine lv_aload_n hx hb dMd_act_140 rfl (lv_at hl 0 rfl) ?_
    refine lv_iload_n hx hb dMd_act_141 rfl (lv_at hl 2 rfl) ?_
    refine lv_iload_n hx hb dMd_act_142 rfl (lv_at hl 1 rfl) ?_
    refine lv_iconst (v := 4) hx hb dMd_act_143 (by decide) ?_
    refine lv_icmp_ne (tgt := 151) hx hb dMd_act_144 (by decide) (fun c_7 => ?_) (fun c_7 => ?_)
    · -- 144 taken
      refine lv_iconst (v := 0) hx hb dMd_act_151 (by decide) ?_
      refine cm_vv (As := [.int x, .int 0]) (rest := []) ⟨hx, hb, hml, hown, hts⟩ (c_Md_touch l D cI cZ a hd m x false) mMd_touch lMd_102 iMd_touch (ce_hR (by omega) (by decide)) ⟨rfl, rfl⟩ hK hP hS rfl hl.1 rfl (Nat.le_of_ble_eq_true rfl) dMd_act_152 ⟨Nat.le_of_ble_eq_true rfl, Nat.le_of_ble_eq_true rfl⟩ (fun m_8 H locs em_8 hP hS => ?_)
      obtain rfl := em_8
      refine lv_goto (tgt := 351) hx hb dMd_act_155 (by decide) ?_
      exact W.vret hx hb hr (fun t9 ht hW => ⟨⟨(mTouch m x false), rfl, rfl, ce_hp ht hP⟩, hS.F ht⟩) hS.2.2 dMd_act_351
    · -- 144 not taken
      exact absurd c_7 (by decide)
  · -- op 6
    refine lv_tableIn (tgt := 158) hx hb dMd_act_1 (by decide) (by decide) rfl (by decide) ?_
    refine lv_iload hx hb dMd_act_158 (lv_at hl 4 rfl) ?_
    refine lv_bipush (v := 6) hx hb dMd_act_160 (by decide) ?_
    refine lv_icmp_ge (tgt := 175) hx hb dMd_act_162 (by decide) (fun c_9 => ?_) (fun c_9 => ?_)
    · -- 162 taken
      refine lv_aload_n hx hb dMd_act_175 rfl (lv_at hl 0 rfl) ?_
      refine lv_iload_n hx hb dMd_act_176 rfl (lv_at hl 3 rfl) ?_
      refine cm_pAcc (x := nI n) hx hb hts hown hK hd hP hS lMd_78 dMd_act_177 (fun H locs hP hS => ?_)
      refine lv_goto (tgt := 351) hx hb dMd_act_180 (by decide) ?_
      exact W.vret hx hb hr (fun t9 ht hW => ⟨⟨zAcc m (nI n), rfl, (if_neg (fun h => absurd (nI_lt (b := 6) h (by decide)) (Int32.not_lt.mpr c_9))).symm, ce_hp ht hP⟩, hS.F ht⟩) hS.2.2 dMd_act_351
    · -- 162 not taken
      refine lv_aload_n hx hb dMd_act_165 rfl (lv_at hl 0 rfl) ?_
      refine lv_iload hx hb dMd_act_166 (lv_at hl 4 rfl) ?_
      refine lv_iconst (v := (-1)) hx hb dMd_act_168 (by decide) ?_
      refine cm_vv (As := [.int (nI k), .int (-1)]) (rest := []) ⟨hx, hb, hml, hown, hts⟩ (c_Md_raise l D cI cZ a hd m (nI k) (-1)) mMd_raise lMd_91 iMd_raise (ce_hR (by omega) (by decide)) ⟨rfl, rfl⟩ hK hP hS rfl hl.1 rfl (Nat.le_of_ble_eq_true rfl) dMd_act_169 ⟨Nat.le_of_ble_eq_true rfl, Nat.le_of_ble_eq_true rfl⟩ (fun m_10 H locs em_10 hP hS => ?_)
      obtain rfl := em_10
      refine lv_goto (tgt := 351) hx hb dMd_act_172 (by decide) ?_
      exact W.vret hx hb hr (fun t9 ht hW => ⟨⟨(mRaise m (nI k) (-1)), rfl, (if_pos ((nI_ltI (b := 6) (by omega) (by decide)).mp (Int32.not_le.mp c_9))).symm, ce_hp ht hP⟩, hS.F ht⟩) hS.2.2 dMd_act_351
  · -- op 7
    refine lv_tableIn (tgt := 183) hx hb dMd_act_1 (by decide) (by decide) rfl (by decide) ?_
    refine lv_iload hx hb dMd_act_183 (lv_at hl 4 rfl) ?_
    refine lv_bipush (v := 6) hx hb dMd_act_185 (by decide) ?_
    refine lv_icmp_le (tgt := 351) hx hb dMd_act_187 (by decide) (fun c_11 => ?_) (fun c_11 => ?_)
    · -- 187 taken
      exact W.vret hx hb hr (fun t9 ht hW => ⟨⟨m, rfl, (if_neg (fun h => absurd (nI_lt (a := 6) h.1 (by omega)) (Int32.not_lt.mpr c_11))).symm, ce_hp ht hP⟩, hS.F ht⟩) hS.2.2 dMd_act_351
    · -- 187 not taken
      refine lv_iload hx hb dMd_act_190 (lv_at hl 4 rfl) ?_
      refine lv_bipush (v := 11) hx hb dMd_act_192 (by decide) ?_
      refine lv_icmp_ge (tgt := 351) hx hb dMd_act_194 (by decide) (fun c_12 => ?_) (fun c_12 => ?_)
      · -- 194 taken
        exact W.vret hx hb hr (fun t9 ht hW => ⟨⟨m, rfl, (if_neg (fun h => absurd (nI_lt (b := 11) h.2 (by decide)) (Int32.not_lt.mpr c_12))).symm, ce_hp ht hP⟩, hS.F ht⟩) hS.2.2 dMd_act_351
      · -- 194 not taken
        refine lv_aload_n hx hb dMd_act_197 rfl (lv_at hl 0 rfl) ?_
        refine lv_iload hx hb dMd_act_198 (lv_at hl 4 rfl) ?_
        refine lv_iload hx hb dMd_act_200 (lv_at hl 4 rfl) ?_
        refine lv_bipush (v := 10) hx hb dMd_act_202 (by decide) ?_
        refine lv_icmp_ne (tgt := 211) hx hb dMd_act_204 (by decide) (fun c_13 => ?_) (fun c_13 => ?_)
        · -- 204 taken
          refine lv_iconst (v := (-1)) hx hb dMd_act_211 (by decide) ?_
          refine cm_vv (As := [.int (nI k), .int (-1)]) (rest := []) ⟨hx, hb, hml, hown, hts⟩ (c_Md_raise l D cI cZ a hd m (nI k) (-1)) mMd_raise lMd_91 iMd_raise (ce_hR (by omega) (by decide)) ⟨rfl, rfl⟩ hK hP hS rfl hl.1 rfl (Nat.le_of_ble_eq_true rfl) dMd_act_212 ⟨Nat.le_of_ble_eq_true rfl, Nat.le_of_ble_eq_true rfl⟩ (fun m_14 H locs em_14 hP hS => ?_)
          obtain rfl := em_14
          refine lv_goto (tgt := 351) hx hb dMd_act_215 (by decide) ?_
          exact W.vret hx hb hr (fun t9 ht hW => ⟨⟨(mRaise m (nI k) (-1)), rfl, ((if_pos ⟨(nI_ltI (a := 6) (by decide) (by omega)).mp (Int32.not_le.mp c_11), (nI_ltI (b := 11) (by omega) (by decide)).mp (Int32.not_le.mp c_12)⟩).trans (congrArg (mRaise m (nI k)) (if_neg (fun h => c_13 (congrArg nI h))))).symm, ce_hp ht hP⟩, hS.F ht⟩) hS.2.2 dMd_act_351
        · -- 204 not taken
          refine lv_iload_n hx hb dMd_act_207 rfl (lv_at hl 3 rfl) ?_
          refine lv_goto (tgt := 212) hx hb dMd_act_208 (by decide) ?_
          refine cm_vv (As := [.int (nI k), .int (nI n)]) (rest := []) ⟨hx, hb, hml, hown, hts⟩ (c_Md_raise l D cI cZ a hd m (nI k) (nI n)) mMd_raise lMd_91 iMd_raise (ce_hR (by omega) (by decide)) ⟨rfl, rfl⟩ hK hP hS rfl hl.1 rfl (Nat.le_of_ble_eq_true rfl) dMd_act_212 ⟨Nat.le_of_ble_eq_true rfl, Nat.le_of_ble_eq_true rfl⟩ (fun m_15 H locs em_15 hP hS => ?_)
          obtain rfl := em_15
          refine lv_goto (tgt := 351) hx hb dMd_act_215 (by decide) ?_
          exact W.vret hx hb hr (fun t9 ht hW => ⟨⟨(mRaise m (nI k) (nI n)), rfl, ((if_pos ⟨(nI_ltI (a := 6) (by decide) (by omega)).mp (Int32.not_le.mp c_11), (nI_ltI (b := 11) (by omega) (by decide)).mp (Int32.not_le.mp c_12)⟩).trans (congrArg (mRaise m (nI k)) (if_pos ((nI_eq (b := 10) (by omega) (by decide)).mp c_13)))).symm, ce_hp ht hP⟩, hS.F ht⟩) hS.2.2 dMd_act_351
  · -- op 8
    refine lv_tableIn (tgt := 218) hx hb dMd_act_1 (by decide) (by decide) rfl (by decide) ?_
    refine lv_aload_n hx hb dMd_act_218 rfl (lv_at hl 0 rfl) ?_
    refine lv_iconst (v := 1) hx hb dMd_act_219 (by decide) ?_
    refine cm_pMark (x := true) hx hb hts hown hK hd hP hS lMd_95 dMd_act_220 (fun H locs hP hS => ?_)
    refine lv_goto (tgt := 351) hx hb dMd_act_223 (by decide) ?_
    exact W.vret hx hb hr (fun t9 ht hW => ⟨⟨zMark m true, rfl, rfl, ce_hp ht hP⟩, hS.F ht⟩) hS.2.2 dMd_act_351
  · -- op 9
    refine lv_tableIn (tgt := 226) hx hb dMd_act_1 (by decide) (by decide) rfl (by decide) ?_
    refine lv_aload_n hx hb dMd_act_226 rfl (lv_at hl 0 rfl) ?_
    refine lv_aload_n hx hb dMd_act_227 rfl (lv_at hl 0 rfl) ?_
    refine cm_g hx hb hts hown hK hP 25 (by decide) rfl lMd_95 rfl dMd_act_228 ?_
    refine lv_if_eq (tgt := 238) hx hb dMd_act_231 (by decide) (fun c_16 => ?_) (fun c_16 => ?_)
    · -- 231 taken
      refine lv_iconst (v := 0) hx hb dMd_act_238 (by decide) ?_
      refine cm_pAcc (x := 0) hx hb hts hown hK hd hP hS lMd_78 dMd_act_239 (fun H locs hP hS => ?_)
      refine lv_aload_n hx hb dMd_act_242 rfl (lv_at hl 0 rfl) ?_
      refine lv_iconst (v := 0) hx hb dMd_act_243 (by decide) ?_
      refine cm_pMark (x := false) hx hb hts hown hK hd hP hS lMd_95 dMd_act_244 (fun H locs hP hS => ?_)
      refine lv_goto (tgt := 351) hx hb dMd_act_247 (by decide) ?_
      exact W.vret hx hb hr (fun t9 ht hW => ⟨⟨zMark (zAcc m 0) false, rfl, by show _ = zMark (zAcc m (bI (qMark m))) false; rw [c_16], ce_hp ht hP⟩, hS.F ht⟩) hS.2.2 dMd_act_351
    · -- 231 not taken
      refine lv_iconst (v := 1) hx hb dMd_act_234 (by decide) ?_
      refine lv_goto (tgt := 239) hx hb dMd_act_235 (by decide) ?_
      refine cm_pAcc (x := 1) hx hb hts hown hK hd hP hS lMd_78 dMd_act_239 (fun H locs hP hS => ?_)
      refine lv_aload_n hx hb dMd_act_242 rfl (lv_at hl 0 rfl) ?_
      refine lv_iconst (v := 0) hx hb dMd_act_243 (by decide) ?_
      refine cm_pMark (x := false) hx hb hts hown hK hd hP hS lMd_95 dMd_act_244 (fun H locs hP hS => ?_)
      refine lv_goto (tgt := 351) hx hb dMd_act_247 (by decide) ?_
      exact W.vret hx hb hr (fun t9 ht hW => ⟨⟨zMark (zAcc m 1) false, rfl, by show _ = zMark (zAcc m (bI (qMark m))) false; rw [← bI_one c_16], ce_hp ht hP⟩, hS.F ht⟩) hS.2.2 dMd_act_351
  · -- op 15
    refine lv_tableIn (tgt := 250) hx hb dMd_act_1 (by decide) (by decide) rfl (by decide) ?_
    refine lv_aload_n hx hb dMd_act_250 rfl (lv_at hl 0 rfl) ?_
    refine cm_g hx hb hts hown hK hP 15 (by decide) rfl lMd_41 rfl dMd_act_251 ?_
    refine lv_iload hx hb dMd_act_254 (lv_at hl 4 rfl) ?_
    refine lv_iconst (v := 2) hx hb dMd_act_256 (by decide) ?_
    refine lv_irem hx hb dMd_act_257 (by decide) ?_
    refine lv_topi (fun y_17 ey_17 => ?_)
    obtain rfl : y_17 = nI (k % 2) := ey_17.trans (pk_rem (d := 2) (by omega) (by decide) (by decide))
    refine cm_lHeld (i := (k % 2)) (by omega) hx hb hK hP dMd_act_258 ?_
    refine lv_if_ne (tgt := 351) hx hb dMd_act_259 (by decide) (fun c_18 => ?_) (fun c_18 => ?_)
    · -- 259 taken
      exact W.vret hx hb hr (fun t9 ht hW => ⟨⟨m, rfl, (if_neg c_18).symm, ce_hp ht hP⟩, hS.F ht⟩) hS.2.2 dMd_act_351
    · -- 259 not taken
      refine lv_aload_n hx hb dMd_act_262 rfl (lv_at hl 0 rfl) ?_
      refine lv_bipush (v := 6) hx hb dMd_act_263 (by decide) ?_
      refine lv_iconst (v := (-1)) hx hb dMd_act_265 (by decide) ?_
      refine cm_vv (As := [.int 6, .int (-1)]) (rest := []) ⟨hx, hb, hml, hown, hts⟩ (c_Md_raise l D cI cZ a hd m 6 (-1)) mMd_raise lMd_91 iMd_raise (ce_hR (by omega) (by decide)) ⟨rfl, rfl⟩ hK hP hS rfl hl.1 rfl (Nat.le_of_ble_eq_true rfl) dMd_act_266 ⟨Nat.le_of_ble_eq_true rfl, Nat.le_of_ble_eq_true rfl⟩ (fun m_19 H locs em_19 hP hS => ?_)
      obtain rfl := em_19
      refine lv_goto (tgt := 351) hx hb dMd_act_269 (by decide) ?_
      exact W.vret hx hb hr (fun t9 ht hW => ⟨⟨(mRaise m 6 (-1)), rfl, (if_pos c_18).symm, ce_hp ht hP⟩, hS.F ht⟩) hS.2.2 dMd_act_351
  · -- op 16
    refine lv_tableIn (tgt := 272) hx hb dMd_act_1 (by decide) (by decide) rfl (by decide) ?_
    refine lv_aload_n hx hb dMd_act_272 rfl (lv_at hl 0 rfl) ?_
    refine cm_g hx hb hts hown hK hP 15 (by decide) rfl lMd_41 rfl dMd_act_273 ?_
    refine lv_iload hx hb dMd_act_276 (lv_at hl 4 rfl) ?_
    refine lv_iconst (v := 2) hx hb dMd_act_278 (by decide) ?_
    refine lv_irem hx hb dMd_act_279 (by decide) ?_
    refine lv_topi (fun y_20 ey_20 => ?_)
    obtain rfl : y_20 = nI (k % 2) := ey_20.trans (pk_rem (d := 2) (by omega) (by decide) (by decide))
    refine cm_lHeld (i := (k % 2)) (by omega) hx hb hK hP dMd_act_280 ?_
    refine lv_if_ne (tgt := 294) hx hb dMd_act_281 (by decide) (fun c_21 => ?_) (fun c_21 => ?_)
    · -- 281 taken
      refine lv_aload_n hx hb dMd_act_294 rfl (lv_at hl 0 rfl) ?_
      refine cm_vv (As := []) (rest := []) ⟨hx, hb, hml, hown, hts⟩ (c_Md_interrupted l D cI cZ a hd m) mMd_interrupted lMd_105 iMd_interrupted (ce_hR (by omega) (by decide)) ⟨rfl, rfl⟩ hK hP hS rfl hl.1 rfl (Nat.le_of_ble_eq_true rfl) dMd_act_295 ⟨Nat.le_of_ble_eq_true rfl, Nat.le_of_ble_eq_true rfl⟩ (fun m_22 H locs em_22 hP hS => ?_)
      obtain rfl := em_22
      refine lv_goto (tgt := 351) hx hb dMd_act_298 (by decide) ?_
      exact W.vret hx hb hr (fun t9 ht hW => ⟨⟨(mIntr m), rfl, (if_neg c_21).symm, ce_hp ht hP⟩, hS.F ht⟩) hS.2.2 dMd_act_351
    · -- 281 not taken
      refine lv_aload_n hx hb dMd_act_284 rfl (lv_at hl 0 rfl) ?_
      refine lv_bipush (v := 6) hx hb dMd_act_285 (by decide) ?_
      refine lv_iconst (v := (-1)) hx hb dMd_act_287 (by decide) ?_
      refine cm_vv (As := [.int 6, .int (-1)]) (rest := []) ⟨hx, hb, hml, hown, hts⟩ (c_Md_raise l D cI cZ a hd m 6 (-1)) mMd_raise lMd_91 iMd_raise (ce_hR (by omega) (by decide)) ⟨rfl, rfl⟩ hK hP hS rfl hl.1 rfl (Nat.le_of_ble_eq_true rfl) dMd_act_288 ⟨Nat.le_of_ble_eq_true rfl, Nat.le_of_ble_eq_true rfl⟩ (fun m_23 H locs em_23 hP hS => ?_)
      obtain rfl := em_23
      refine lv_goto (tgt := 351) hx hb dMd_act_291 (by decide) ?_
      exact W.vret hx hb hr (fun t9 ht hW => ⟨⟨(mRaise m 6 (-1)), rfl, (if_pos c_21).symm, ce_hp ht hP⟩, hS.F ht⟩) hS.2.2 dMd_act_351
  · -- op 17
    refine lv_tableIn (tgt := 301) hx hb dMd_act_1 (by decide) (by decide) rfl (by decide) ?_
    refine lv_aload_n hx hb dMd_act_301 rfl (lv_at hl 0 rfl) ?_
    refine cm_vv (As := []) (rest := []) ⟨hx, hb, hml, hown, hts⟩ (c_Md_interrupted l D cI cZ a hd m) mMd_interrupted lMd_105 iMd_interrupted (ce_hR (by omega) (by decide)) ⟨rfl, rfl⟩ hK hP hS rfl hl.1 rfl (Nat.le_of_ble_eq_true rfl) dMd_act_302 ⟨Nat.le_of_ble_eq_true rfl, Nat.le_of_ble_eq_true rfl⟩ (fun m_24 H locs em_24 hP hS => ?_)
    obtain rfl := em_24
    refine lv_goto (tgt := 351) hx hb dMd_act_305 (by decide) ?_
    exact W.vret hx hb hr (fun t9 ht hW => ⟨⟨(mIntr m), rfl, rfl, ce_hp ht hP⟩, hS.F ht⟩) hS.2.2 dMd_act_351
  · -- op 18
    refine lv_tableIn (tgt := 308) hx hb dMd_act_1 (by decide) (by decide) rfl (by decide) ?_
    refine lv_aload_n hx hb dMd_act_308 rfl (lv_at hl 0 rfl) ?_
    refine lv_aload_n hx hb dMd_act_309 rfl (lv_at hl 0 rfl) ?_
    refine cm_g hx hb hts hown hK hP 15 (by decide) rfl lMd_41 rfl dMd_act_310 ?_
    refine lv_iload hx hb dMd_act_313 (lv_at hl 4 rfl) ?_
    refine lv_iconst (v := 2) hx hb dMd_act_315 (by decide) ?_
    refine lv_irem hx hb dMd_act_316 (by decide) ?_
    refine lv_topi (fun y_25 ey_25 => ?_)
    obtain rfl : y_25 = nI (k % 2) := ey_25.trans (pk_rem (d := 2) (by omega) (by decide) (by decide))
    refine cm_lHeld (i := (k % 2)) (by omega) hx hb hK hP dMd_act_317 ?_
    refine lv_if_le (tgt := 325) hx hb dMd_act_318 (by decide) (fun c_26 => ?_) (fun c_26 => ?_)
    · -- 318 taken
      refine lv_iconst (v := 0) hx hb dMd_act_325 (by decide) ?_
      refine cm_pAcc (x := 0) hx hb hts hown hK hd hP hS lMd_78 dMd_act_326 (fun H locs hP hS => ?_)
      refine lv_goto (tgt := 351) hx hb dMd_act_329 (by decide) ?_
      exact W.vret hx hb hr (fun t9 ht hW => ⟨⟨zAcc m 0, rfl, congrArg (zAcc m) (bd_no (Int32.not_lt.mpr c_26)), ce_hp ht hP⟩, hS.F ht⟩) hS.2.2 dMd_act_351
    · -- 318 not taken
      refine lv_iconst (v := 1) hx hb dMd_act_321 (by decide) ?_
      refine lv_goto (tgt := 326) hx hb dMd_act_322 (by decide) ?_
      refine cm_pAcc (x := 1) hx hb hts hown hK hd hP hS lMd_78 dMd_act_326 (fun H locs hP hS => ?_)
      refine lv_goto (tgt := 351) hx hb dMd_act_329 (by decide) ?_
      exact W.vret hx hb hr (fun t9 ht hW => ⟨⟨zAcc m 1, rfl, congrArg (zAcc m) (bd_yes (Int32.not_le.mp c_26)), ce_hp ht hP⟩, hS.F ht⟩) hS.2.2 dMd_act_351
  · -- op 19
    refine lv_tableIn (tgt := 332) hx hb dMd_act_1 (by decide) (by decide) rfl (by decide) ?_
    refine lv_aload_n hx hb dMd_act_332 rfl (lv_at hl 0 rfl) ?_
    refine lv_dup hx hb dMd_act_333 rfl ?_
    refine cm_g hx hb hts hown hK hP 6 (by decide) rfl lMd_108 rfl dMd_act_334 ?_
    refine lv_iload_n hx hb dMd_act_337 rfl (lv_at hl 2 rfl) ?_
    refine lv_i2l hx hb dMd_act_338 rfl ?_
    refine lv_ladd hx hb dMd_act_339 ?_
    refine cm_pCtr (x := (qCtr m) + x.toInt64) hx hb hts hown hK hd hP hS lMd_108 dMd_act_340 (fun H locs hP hS => ?_)
    refine lv_goto (tgt := 351) hx hb dMd_act_343 (by decide) ?_
    exact W.vret hx hb hr (fun t9 ht hW => ⟨⟨zCtr m ((qCtr m) + x.toInt64), rfl, rfl, ce_hp ht hP⟩, hS.F ht⟩) hS.2.2 dMd_act_351
  · -- op 20
    refine lv_tableOut (tgt := 346) hx hb dMd_act_1 (Or.inr (by decide)) (by decide) ?_
    refine lv_aload_n hx hb dMd_act_346 rfl (lv_at hl 0 rfl) ?_
    refine lv_iconst (v := 1) hx hb dMd_act_347 (by decide) ?_
    refine cm_pStop (x := true) hx hb hts hown hK hd hP hS lMd_81 dMd_act_348 (fun H locs hP hS => ?_)
    exact W.vret hx hb hr (fun t9 ht hW => ⟨⟨zStop m true, rfl, rfl, ce_hp ht hP⟩, hS.F ht⟩) hS.2.2 dMd_act_351
