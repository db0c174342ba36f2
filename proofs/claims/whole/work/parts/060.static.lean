theorem isW_neg {x y : Int32} (h : x < 0) : (0 : Int32) = bI (isW x y) := by
  have : isW x y = false := by unfold isW; exact decide_eq_false (fun q => q.1 h)
  rw [this]; rfl
theorem isW_big {x y : Int32} (h : y < x) : (0 : Int32) = bI (isW x y) := by
  have : isW x y = false := by unfold isW; exact decide_eq_false (fun q => q.2 h)
  rw [this]; rfl
theorem isW_yes {x y : Int32} (h : ¬ x < 0) (h2 : ¬ y < x) : (1 : Int32) = bI (isW x y) := by
  have : isW x y = true := by unfold isW; exact decide_eq_true ⟨h, h2⟩
  rw [this]; rfl
theorem xTakes_low {K : Nat} (h : K ≤ 10) (t : Int32) : xTakes K t = decide (t = nI K) := by
  unfold xTakes
  rw [if_neg (by omega), if_neg (by omega), if_neg (by omega), if_neg (by omega)]
set_option maxHeartbeats 4000000 in
set_option maxRecDepth 100000 in
theorem c_Ex_isWithin (l : Launch) (D : va_G) (cI : ClassId) (a : Nat → Nat) (ws : va_W) (x y : Int32) : Met l yEx_isWithin (ce_ws yEx_isWithin cEx_isWithin 2 (some .boolean)) (ce_rm 0) (ce_Pc D cI [.int x, .int y] (ws)) (vp_Si (fun r => r = bI (isW x y))) 0 0 (fun _ => False) := by
  refine Met.ofW (cc := cEx_isWithin) (maxL := 2) (ret := (some .boolean)) (by decide) rfl ?_
  intro p e s m args below meth c s₁ B hml hv
  obtain ⟨rfl, hP, hK, hN⟩ := hv
  have hx := B.exec
  have hb := B.bytes
  have hr := B.returns
  have hts := atoms_spec (ws := ce_ws yEx_isWithin cEx_isWithin 2 (some .boolean)) B.pre
  have hown : s.vm.findClass REx = some m.cls := findClass_of_methodNamed B.named
  have hlocks := B.notSynchronized
  have hl := lv_entry ([.int x, .int y]) (n := 2) (Nat.le_of_ble_eq_true rfl)
  rw [lg_entry_eq]
  generalize (lg_sl ([.int x, .int y]) ++ List.replicate (2 - (lg_sl ([.int x, .int y])).length) Slot.unset).toArray = ls at hl ⊢
  have hl : lv_has ls 2 [(0, .int x), (1, .int y)] := hl
  refine lv_iload_n hx hb dEx_isWithin_0 rfl (lv_at hl 0 rfl) ?_
  refine lv_if_lt (tgt := 13) hx hb dEx_isWithin_1 (by decide) (fun c_1 => ?_) (fun c_1 => ?_)
  · -- 1 taken
    refine lv_iconst (v := 0) hx hb dEx_isWithin_13 (by decide) ?_
    exact W.zret (v := 0) hx hb hr rfl (fun t9 ht hW => ⟨0, rfl, isW_neg c_1, ht⟩) (fun _ h => by cases h) dEx_isWithin_14
  · -- 1 not taken
    refine lv_iload_n hx hb dEx_isWithin_4 rfl (lv_at hl 0 rfl) ?_
    refine lv_iload_n hx hb dEx_isWithin_5 rfl (lv_at hl 1 rfl) ?_
    refine lv_icmp_gt (tgt := 13) hx hb dEx_isWithin_6 (by decide) (fun c_2 => ?_) (fun c_2 => ?_)
    · -- 6 taken
      refine lv_iconst (v := 0) hx hb dEx_isWithin_13 (by decide) ?_
      exact W.zret (v := 0) hx hb hr rfl (fun t9 ht hW => ⟨0, rfl, isW_big c_2, ht⟩) (fun _ h => by cases h) dEx_isWithin_14
    · -- 6 not taken
      refine lv_iconst (v := 1) hx hb dEx_isWithin_9 (by decide) ?_
      refine lv_goto (tgt := 14) hx hb dEx_isWithin_10 (by decide) ?_
      exact W.zret (v := 1) hx hb hr rfl (fun t9 ht hW => ⟨1, rfl, isW_yes c_1 c_2, ht⟩) (fun _ h => by cases h) dEx_isWithin_14
set_option maxHeartbeats 4000000 in
set_option maxRecDepth 100000 in
theorem c_Ex_isProgram (l : Launch) (D : va_G) (cI : ClassId) (a : Nat → Nat) (ws : va_W) (x : Int32) : Met l yEx_isProgram (ce_ws yEx_isProgram cEx_isProgram 1 (some .boolean)) (ce_rm 1) (ce_Pc D cI [.int x] (ws)) (vp_Si (fun r => r = bI (isW x 5))) 0 0 (fun _ => False) := by
  refine Met.ofW (cc := cEx_isProgram) (maxL := 1) (ret := (some .boolean)) (by decide) rfl ?_
  intro p e s m args below meth c s₁ B hml hv
  obtain ⟨rfl, hP, hK, hN⟩ := hv
  have hx := B.exec
  have hb := B.bytes
  have hr := B.returns
  have hts := atoms_spec (ws := ce_ws yEx_isProgram cEx_isProgram 1 (some .boolean)) B.pre
  have hown : s.vm.findClass REx = some m.cls := findClass_of_methodNamed B.named
  have hlocks := B.notSynchronized
  have hl := lv_entry ([.int x]) (n := 1) (Nat.le_of_ble_eq_true rfl)
  rw [lg_entry_eq]
  generalize (lg_sl ([.int x]) ++ List.replicate (1 - (lg_sl ([.int x])).length) Slot.unset).toArray = ls at hl ⊢
  have hl : lv_has ls 1 [(0, .int x)] := hl
  refine lv_iload_n hx hb dEx_isProgram_0 rfl (lv_at hl 0 rfl) ?_
  refine lv_iconst (v := 5) hx hb dEx_isProgram_1 (by decide) ?_
  refine ce_si (As := [.int x, .int 5]) (rest := []) ⟨hx, hb, hml, hown, hts⟩ (c_Ex_isWithin l D cI a _ x 5) mEx_isWithin lEx_29 sEx_isWithin ⟨Nat.le_of_ble_eq_true rfl, Nat.le_of_ble_eq_true rfl⟩ ⟨rfl, rfl⟩ hK hN hP rfl hl.1 rfl (Nat.le_of_ble_eq_true rfl) dEx_isProgram_2 ⟨Nat.le_of_ble_eq_true rfl, Nat.le_of_ble_eq_true rfl⟩ (fun r_1 er_1 => ?_)
  obtain rfl : r_1 = bI (isW x 5) := er_1
  exact W.zret (v := bI (isW x 5)) hx hb hr (bI_nar _) (fun t9 ht hW => ⟨bI (isW x 5), rfl, rfl, ht⟩) (fun _ h => by cases h) dEx_isProgram_5
set_option maxHeartbeats 4000000 in
set_option maxRecDepth 100000 in
theorem c_Rn_isCell (l : Launch) (D : va_G) (cI : ClassId) (a : Nat → Nat) (ws : va_W) (x : Int32) : Met l yRn_isCell (ce_ws yRn_isCell cRn_isCell 1 (some .boolean)) (ce_rm 1) (ce_Pc D cI [.int x] (ws)) (vp_Si (fun r => r = bI (isW x 7))) 0 0 (fun _ => False) := by
  refine Met.ofW (cc := cRn_isCell) (maxL := 1) (ret := (some .boolean)) (by decide) rfl ?_
  intro p e s m args below meth c s₁ B hml hv
  obtain ⟨rfl, hP, hK, hN⟩ := hv
  have hx := B.exec
  have hb := B.bytes
  have hr := B.returns
  have hts := atoms_spec (ws := ce_ws yRn_isCell cRn_isCell 1 (some .boolean)) B.pre
  have hown : s.vm.findClass RRn = some m.cls := findClass_of_methodNamed B.named
  have hlocks := B.notSynchronized
  have hl := lv_entry ([.int x]) (n := 1) (Nat.le_of_ble_eq_true rfl)
  rw [lg_entry_eq]
  generalize (lg_sl ([.int x]) ++ List.replicate (1 - (lg_sl ([.int x])).length) Slot.unset).toArray = ls at hl ⊢
  have hl : lv_has ls 1 [(0, .int x)] := hl
  refine lv_iload_n hx hb dRn_isCell_0 rfl (lv_at hl 0 rfl) ?_
  refine lv_bipush (v := 7) hx hb dRn_isCell_1 (by decide) ?_
  refine vp_callSi (va_runSN (As := [.int x, .int 7]) (rest := []) ⟨hx, hb, hml, hown, hts⟩ (c_Ex_isWithin l D cI a ws x 7) ⟨va_cnB 2 hts (ce_good mEx_isWithin.1) rfl rfl rfl hN (hts _ (List.mem_cons_of_mem _ mEx_isWithin.2.1)) mEx_isWithin.2.2 ⟨Nat.le_of_ble_eq_true rfl, Nat.le_of_ble_eq_true rfl⟩, hts _ (List.mem_cons_of_mem _ sEx_isWithin), trivial⟩ ⟨ce_blind, ce_at hP hK hN⟩ rfl rfl hl.1 rfl (lv_room (Nat.le_of_ble_eq_true rfl)) dRn_isCell_3 ⟨Nat.le_of_ble_eq_true rfl, Nat.le_of_ble_eq_true rfl⟩).run (fun r_1 er_1 => ?_)
  obtain rfl : r_1 = bI (isW x 7) := er_1
  exact W.zret (v := bI (isW x 7)) hx hb hr (bI_nar _) (fun t9 ht hW => ⟨bI (isW x 7), rfl, rfl, ht⟩) (fun _ h => by cases h) dRn_isCell_6
set_option maxHeartbeats 4000000 in
set_option maxRecDepth 100000 in
theorem c_Rn_takes (l : Launch) (D : va_G) (cI : ClassId) (a : Nat → Nat) (ws : va_W) (K : Nat) (hK16 : K < 16) (t : Int32) : Met l yRn_takes (ce_ws yRn_takes cRn_takes 2 (some .boolean)) (ce_rm 0) (ce_Pc D cI [.int (nI K), .int t] (ws)) (vp_Si (fun r => r = bI (xTakes K t))) 0 0 (fun _ => False) := by
  refine Met.ofW (cc := cRn_takes) (maxL := 2) (ret := (some .boolean)) (by decide) rfl ?_
  intro p e s m args below meth c s₁ B hml hv
  obtain ⟨rfl, hP, hK, hN⟩ := hv
  have hx := B.exec
  have hb := B.bytes
  have hr := B.returns
  have hts := atoms_spec (ws := ce_ws yRn_takes cRn_takes 2 (some .boolean)) B.pre
  have hown : s.vm.findClass RRn = some m.cls := findClass_of_methodNamed B.named
  have hlocks := B.notSynchronized
  have hl := lv_entry ([.int (nI K), .int t]) (n := 2) (Nat.le_of_ble_eq_true rfl)
  rw [lg_entry_eq]
  generalize (lg_sl ([.int (nI K), .int t]) ++ List.replicate (2 - (lg_sl ([.int (nI K), .int t])).length) Slot.unset).toArray = ls at hl ⊢
  have hl : lv_has ls 2 [(0, .int (nI K)), (1, .int t)] := hl
  refine lv_iload_n hx hb dRn_takes_0 rfl (lv_at hl 0 rfl) ?_
  rcases (show K ≤ 10 ∨ K = 11 ∨ K = 12 ∨ K = 13 ∨ K = 14 ∨ K = 15 by omega) with hk | rfl | rfl | rfl | rfl | rfl
  ·
    refine lv_tableOut (tgt := 91) hx hb dRn_takes_1 (Or.inl (by rw [nI_toInt (by omega)]; omega)) (by decide) ?_
    refine lv_iload_n hx hb dRn_takes_91 rfl (lv_at hl 1 rfl) ?_
    refine lv_iload_n hx hb dRn_takes_92 rfl (lv_at hl 0 rfl) ?_
    refine lv_icmp_ne (tgt := 100) hx hb dRn_takes_93 (by decide) (fun c_1 => ?_) (fun c_1 => ?_)
    · -- 93 taken
      refine lv_iconst (v := 0) hx hb dRn_takes_100 (by decide) ?_
      exact W.zret (v := 0) hx hb hr rfl (fun t9 ht hW => ⟨0, rfl, by rw [xTakes_low hk]; simp [bI, *], ht⟩) (fun _ h => by cases h) dRn_takes_101
    · -- 93 not taken
      refine lv_iconst (v := 1) hx hb dRn_takes_96 (by decide) ?_
      refine lv_goto (tgt := 101) hx hb dRn_takes_97 (by decide) ?_
      exact W.zret (v := 1) hx hb hr rfl (fun t9 ht hW => ⟨1, rfl, by rw [xTakes_low hk]; simp [bI, *], ht⟩) (fun _ h => by cases h) dRn_takes_101
  ·
    refine lv_tableIn (tgt := 36) hx hb dRn_takes_1 (by decide) (by decide) rfl (by decide) ?_
    refine lv_iload_n hx hb dRn_takes_36 rfl (lv_at hl 1 rfl) ?_
    refine lv_bipush (v := 7) hx hb dRn_takes_37 (by decide) ?_
    refine lv_icmp_eq (tgt := 52) hx hb dRn_takes_39 (by decide) (fun c_2 => ?_) (fun c_2 => ?_)
    · -- 39 taken
      refine lv_iconst (v := 0) hx hb dRn_takes_52 (by decide) ?_
      exact W.zret (v := 0) hx hb hr rfl (fun t9 ht hW => ⟨0, rfl, by simp [xTakes, bI, *], ht⟩) (fun _ h => by cases h) dRn_takes_53
    · -- 39 not taken
      refine lv_iload_n hx hb dRn_takes_42 rfl (lv_at hl 1 rfl) ?_
      refine lv_bipush (v := 10) hx hb dRn_takes_43 (by decide) ?_
      refine lv_icmp_eq (tgt := 52) hx hb dRn_takes_45 (by decide) (fun c_3 => ?_) (fun c_3 => ?_)
      · -- 45 taken
        refine lv_iconst (v := 0) hx hb dRn_takes_52 (by decide) ?_
        exact W.zret (v := 0) hx hb hr rfl (fun t9 ht hW => ⟨0, rfl, by simp [xTakes, bI, *], ht⟩) (fun _ h => by cases h) dRn_takes_53
      · -- 45 not taken
        refine lv_iconst (v := 1) hx hb dRn_takes_48 (by decide) ?_
        refine lv_goto (tgt := 53) hx hb dRn_takes_49 (by decide) ?_
        exact W.zret (v := 1) hx hb hr rfl (fun t9 ht hW => ⟨1, rfl, by simp [xTakes, bI, *], ht⟩) (fun _ h => by cases h) dRn_takes_53
  ·
    refine lv_tableIn (tgt := 54) hx hb dRn_takes_1 (by decide) (by decide) rfl (by decide) ?_
    refine lv_iload_n hx hb dRn_takes_54 rfl (lv_at hl 1 rfl) ?_
    refine lv_iconst (v := 1) hx hb dRn_takes_55 (by decide) ?_
    refine lv_icmp_eq (tgt := 65) hx hb dRn_takes_56 (by decide) (fun c_4 => ?_) (fun c_4 => ?_)
    · -- 56 taken
      refine lv_iconst (v := 1) hx hb dRn_takes_65 (by decide) ?_
      refine lv_goto (tgt := 70) hx hb dRn_takes_66 (by decide) ?_
      exact W.zret (v := 1) hx hb hr rfl (fun t9 ht hW => ⟨1, rfl, by simp [xTakes, bI, *], ht⟩) (fun _ h => by cases h) dRn_takes_70
    · -- 56 not taken
      refine lv_iload_n hx hb dRn_takes_59 rfl (lv_at hl 1 rfl) ?_
      refine lv_bipush (v := 9) hx hb dRn_takes_60 (by decide) ?_
      refine lv_icmp_ne (tgt := 69) hx hb dRn_takes_62 (by decide) (fun c_5 => ?_) (fun c_5 => ?_)
      · -- 62 taken
        refine lv_iconst (v := 0) hx hb dRn_takes_69 (by decide) ?_
        exact W.zret (v := 0) hx hb hr rfl (fun t9 ht hW => ⟨0, rfl, by simp [xTakes, bI, *], ht⟩) (fun _ h => by cases h) dRn_takes_70
      · -- 62 not taken
        refine lv_iconst (v := 1) hx hb dRn_takes_65 (by decide) ?_
        refine lv_goto (tgt := 70) hx hb dRn_takes_66 (by decide) ?_
        exact W.zret (v := 1) hx hb hr rfl (fun t9 ht hW => ⟨1, rfl, by simp [xTakes, bI, *], ht⟩) (fun _ h => by cases h) dRn_takes_70
  ·
    refine lv_tableIn (tgt := 71) hx hb dRn_takes_1 (by decide) (by decide) rfl (by decide) ?_
    refine lv_iload_n hx hb dRn_takes_71 rfl (lv_at hl 1 rfl) ?_
    refine lv_bipush (v := 7) hx hb dRn_takes_72 (by decide) ?_
    refine lv_icmp_eq (tgt := 83) hx hb dRn_takes_74 (by decide) (fun c_6 => ?_) (fun c_6 => ?_)
    · -- 74 taken
      refine lv_iconst (v := 1) hx hb dRn_takes_83 (by decide) ?_
      refine lv_goto (tgt := 88) hx hb dRn_takes_84 (by decide) ?_
      exact W.zret (v := 1) hx hb hr rfl (fun t9 ht hW => ⟨1, rfl, by simp [xTakes, bI, *], ht⟩) (fun _ h => by cases h) dRn_takes_88
    · -- 74 not taken
      refine lv_iload_n hx hb dRn_takes_77 rfl (lv_at hl 1 rfl) ?_
      refine lv_bipush (v := 10) hx hb dRn_takes_78 (by decide) ?_
      refine lv_icmp_ne (tgt := 87) hx hb dRn_takes_80 (by decide) (fun c_7 => ?_) (fun c_7 => ?_)
      · -- 80 taken
        refine lv_iconst (v := 0) hx hb dRn_takes_87 (by decide) ?_
        exact W.zret (v := 0) hx hb hr rfl (fun t9 ht hW => ⟨0, rfl, by simp [xTakes, bI, *], ht⟩) (fun _ h => by cases h) dRn_takes_88
      · -- 80 not taken
        refine lv_iconst (v := 1) hx hb dRn_takes_83 (by decide) ?_
        refine lv_goto (tgt := 88) hx hb dRn_takes_84 (by decide) ?_
        exact W.zret (v := 1) hx hb hr rfl (fun t9 ht hW => ⟨1, rfl, by simp [xTakes, bI, *], ht⟩) (fun _ h => by cases h) dRn_takes_88
  ·
    refine lv_tableIn (tgt := 36) hx hb dRn_takes_1 (by decide) (by decide) rfl (by decide) ?_
    refine lv_iload_n hx hb dRn_takes_36 rfl (lv_at hl 1 rfl) ?_
    refine lv_bipush (v := 7) hx hb dRn_takes_37 (by decide) ?_
    refine lv_icmp_eq (tgt := 52) hx hb dRn_takes_39 (by decide) (fun c_8 => ?_) (fun c_8 => ?_)
    · -- 39 taken
      refine lv_iconst (v := 0) hx hb dRn_takes_52 (by decide) ?_
      exact W.zret (v := 0) hx hb hr rfl (fun t9 ht hW => ⟨0, rfl, by simp [xTakes, bI, *], ht⟩) (fun _ h => by cases h) dRn_takes_53
    · -- 39 not taken
      refine lv_iload_n hx hb dRn_takes_42 rfl (lv_at hl 1 rfl) ?_
      refine lv_bipush (v := 10) hx hb dRn_takes_43 (by decide) ?_
      refine lv_icmp_eq (tgt := 52) hx hb dRn_takes_45 (by decide) (fun c_9 => ?_) (fun c_9 => ?_)
      · -- 45 taken
        refine lv_iconst (v := 0) hx hb dRn_takes_52 (by decide) ?_
        exact W.zret (v := 0) hx hb hr rfl (fun t9 ht hW => ⟨0, rfl, by simp [xTakes, bI, *], ht⟩) (fun _ h => by cases h) dRn_takes_53
      · -- 45 not taken
        refine lv_iconst (v := 1) hx hb dRn_takes_48 (by decide) ?_
        refine lv_goto (tgt := 53) hx hb dRn_takes_49 (by decide) ?_
        exact W.zret (v := 1) hx hb hr rfl (fun t9 ht hW => ⟨1, rfl, by simp [xTakes, bI, *], ht⟩) (fun _ h => by cases h) dRn_takes_53
  ·
    refine lv_tableIn (tgt := 89) hx hb dRn_takes_1 (by decide) (by decide) rfl (by decide) ?_
    refine lv_iconst (v := 1) hx hb dRn_takes_89 (by decide) ?_
    exact W.zret (v := 1) hx hb hr rfl (fun t9 ht hW => ⟨1, rfl, by simp [xTakes, bI, *], ht⟩) (fun _ h => by cases h) dRn_takes_90
