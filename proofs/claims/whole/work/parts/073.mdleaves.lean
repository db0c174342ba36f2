theorem isI_neg {x y : Int32} (h : x < 0) : (0 : Int32) = bI (isI x y) := by
  have : isI x y = false := by unfold isI; exact decide_eq_false (fun q => q.1 h)
  rw [this]; rfl
theorem isI_big {x y : Int32} (h : y ≤ x) : (0 : Int32) = bI (isI x y) := by
  have : isI x y = false := by unfold isI; exact decide_eq_false (fun q => q.2 h)
  rw [this]; rfl
theorem isI_yes {x y : Int32} (h : ¬ x < 0) (h2 : ¬ y ≤ x) : (1 : Int32) = bI (isI x y) := by
  have : isI x y = true := by unfold isI; exact decide_eq_true ⟨h, h2⟩
  rw [this]; rfl
theorem isI_in {x : Int32} (h : isI x 8 = true) : vp_in x 8 := by
  unfold isI at h
  have h2 := of_decide_eq_true h
  rw [vp_in_iff]
  have a1 : ¬ x.toInt < 0 := fun q => h2.1 (Int32.lt_iff_toInt_lt.mpr q)
  have a2 : ¬ (8 : Int32).toInt ≤ x.toInt := fun q => h2.2 (Int32.le_iff_toInt_le.mpr q)
  have a3 : (8 : Int32).toInt = 8 := rfl
  rw [a3] at a2
  omega
theorem mTakes_low {K : Nat} (h : K < 11) (t : Int32) : mTakes K t = decide (nI K = t) := if_pos h
theorem bd_no {x : Int32} (h : ¬ 0 < x) : (0 : Int32) = bI (decide (0 < x)) := by rw [decide_eq_false h]; rfl
theorem bd_yes {x : Int32} (h : 0 < x) : (1 : Int32) = bI (decide (0 < x)) := by rw [decide_eq_true h]; rfl
set_option maxHeartbeats 8000000 in
set_option maxRecDepth 100000 in
theorem c_Md_in (l : Launch) (D : va_G) (cI cZ : ClassId) (a : Nat → Nat) (m : MS) (x y : Int32) : Met l yMd_in (ce_ws yMd_in cMd_in 2 (some .boolean)) (ce_rm 0) (cm_Pc D cI cZ [.int x, .int y] (wM a cI cZ m)) (vp_Si (fun r => r = bI (isI x y))) 0 0 (fun _ => False) := by
  refine Met.ofW (cc := cMd_in) (maxL := 2) (ret := (some .boolean)) (by decide) rfl ?_
  intro p e s mi args below meth c s₁ B hml hv
  obtain ⟨rfl, hP, hK⟩ := hv
  have hx := B.exec
  have hb := B.bytes
  have hr := B.returns
  have hts := atoms_spec (ws := ce_ws yMd_in cMd_in 2 (some .boolean)) B.pre
  have hown : s.vm.findClass RMd = some mi.cls := findClass_of_methodNamed B.named
  have hlocks := B.notSynchronized
  have hl := lv_entry ([.int x, .int y]) (n := 2) (Nat.le_of_ble_eq_true rfl)
  rw [lg_entry_eq]
  generalize (lg_sl ([.int x, .int y]) ++ List.replicate (2 - (lg_sl ([.int x, .int y])).length) Slot.unset).toArray = ls at hl ⊢
  have hl : lv_has ls 2 [(0, .int x), (1, .int y)] := hl
  refine lv_iload_n hx hb dMd_in_0 rfl (lv_at hl 0 rfl) ?_
  refine lv_if_lt (tgt := 13) hx hb dMd_in_1 (by decide) (fun c_1 => ?_) (fun c_1 => ?_)
  · -- 1 taken
    refine lv_iconst (v := 0) hx hb dMd_in_13 (by decide) ?_
    exact W.zret (v := 0) hx hb hr rfl (fun t9 ht hW => ⟨0, rfl, isI_neg c_1, ht⟩) (fun _ h => by cases h) dMd_in_14
  · -- 1 not taken
    refine lv_iload_n hx hb dMd_in_4 rfl (lv_at hl 0 rfl) ?_
    refine lv_iload_n hx hb dMd_in_5 rfl (lv_at hl 1 rfl) ?_
    refine lv_icmp_ge (tgt := 13) hx hb dMd_in_6 (by decide) (fun c_2 => ?_) (fun c_2 => ?_)
    · -- 6 taken
      refine lv_iconst (v := 0) hx hb dMd_in_13 (by decide) ?_
      exact W.zret (v := 0) hx hb hr rfl (fun t9 ht hW => ⟨0, rfl, isI_big c_2, ht⟩) (fun _ h => by cases h) dMd_in_14
    · -- 6 not taken
      refine lv_iconst (v := 1) hx hb dMd_in_9 (by decide) ?_
      refine lv_goto (tgt := 14) hx hb dMd_in_10 (by decide) ?_
      exact W.zret (v := 1) hx hb hr rfl (fun t9 ht hW => ⟨1, rfl, isI_yes c_1 c_2, ht⟩) (fun _ h => by cases h) dMd_in_14
set_option maxHeartbeats 8000000 in
set_option maxRecDepth 100000 in
theorem c_Md_takes (l : Launch) (D : va_G) (cI cZ : ClassId) (a : Nat → Nat) (m : MS) (K : Nat) (hK16 : K < 16) (t : Int32) : Met l yMd_takes (ce_ws yMd_takes cMd_takes 2 (some .boolean)) (ce_rm 0) (cm_Pc D cI cZ [.int (nI K), .int t] (wM a cI cZ m)) (vp_Si (fun r => r = bI (mTakes K t))) 0 0 (fun _ => False) := by
  refine Met.ofW (cc := cMd_takes) (maxL := 2) (ret := (some .boolean)) (by decide) rfl ?_
  intro p e s mi args below meth c s₁ B hml hv
  obtain ⟨rfl, hP, hK⟩ := hv
  have hx := B.exec
  have hb := B.bytes
  have hr := B.returns
  have hts := atoms_spec (ws := ce_ws yMd_takes cMd_takes 2 (some .boolean)) B.pre
  have hown : s.vm.findClass RMd = some mi.cls := findClass_of_methodNamed B.named
  have hlocks := B.notSynchronized
  have hl := lv_entry ([.int (nI K), .int t]) (n := 2) (Nat.le_of_ble_eq_true rfl)
  rw [lg_entry_eq]
  generalize (lg_sl ([.int (nI K), .int t]) ++ List.replicate (2 - (lg_sl ([.int (nI K), .int t])).length) Slot.unset).toArray = ls at hl ⊢
  have hl : lv_has ls 2 [(0, .int (nI K)), (1, .int t)] := hl
  rcases (show K < 11 ∨ K = 11 ∨ K = 12 ∨ K = 13 ∨ K = 14 ∨ K = 15 by omega) with hk | rfl | rfl | rfl | rfl | rfl
  ·
    refine lv_iload_n hx hb dMd_takes_0 rfl (lv_at hl 0 rfl) ?_
    refine lv_bipush (v := 11) hx hb dMd_takes_1 (by decide) ?_
    refine lv_icmp_ge (tgt := 17) hx hb dMd_takes_3 (by decide) (fun c_1 => ?_) (fun c_1 => ?_)
    · -- 3 taken
      exact absurd c_1 (nI_ge (a := K) (b := 11) hk (by decide))
    · -- 3 not taken
      refine lv_iload_n hx hb dMd_takes_6 rfl (lv_at hl 0 rfl) ?_
      refine lv_iload_n hx hb dMd_takes_7 rfl (lv_at hl 1 rfl) ?_
      refine lv_icmp_ne (tgt := 15) hx hb dMd_takes_8 (by decide) (fun c_2 => ?_) (fun c_2 => ?_)
      · -- 8 taken
        refine lv_iconst (v := 0) hx hb dMd_takes_15 (by decide) ?_
        exact W.zret (v := 0) hx hb hr rfl (fun t9 ht hW => ⟨0, rfl, by rw [mTakes_low hk]; simp [bI, *], ht⟩) (fun _ h => by cases h) dMd_takes_16
      · -- 8 not taken
        refine lv_iconst (v := 1) hx hb dMd_takes_11 (by decide) ?_
        refine lv_goto (tgt := 16) hx hb dMd_takes_12 (by decide) ?_
        exact W.zret (v := 1) hx hb hr rfl (fun t9 ht hW => ⟨1, rfl, by rw [mTakes_low hk]; simp [bI, *], ht⟩) (fun _ h => by cases h) dMd_takes_16
  ·
    refine lv_iload_n hx hb dMd_takes_0 rfl (lv_at hl 0 rfl) ?_
    refine lv_bipush (v := 11) hx hb dMd_takes_1 (by decide) ?_
    refine lv_icmp_ge (tgt := 17) hx hb dMd_takes_3 (by decide) (fun c_3 => ?_) (fun c_3 => ?_)
    · -- 3 taken
      refine lv_iload_n hx hb dMd_takes_17 rfl (lv_at hl 0 rfl) ?_
      refine lv_bipush (v := 11) hx hb dMd_takes_18 (by decide) ?_
      refine lv_icmp_eq (tgt := 29) hx hb dMd_takes_20 (by decide) (fun c_4 => ?_) (fun c_4 => ?_)
      · -- 20 taken
        refine lv_iload_n hx hb dMd_takes_29 rfl (lv_at hl 1 rfl) ?_
        refine lv_bipush (v := 7) hx hb dMd_takes_30 (by decide) ?_
        refine lv_icmp_lt (tgt := 47) hx hb dMd_takes_32 (by decide) (fun c_5 => ?_) (fun c_5 => ?_)
        · -- 32 taken
          refine lv_iconst (v := 1) hx hb dMd_takes_47 (by decide) ?_
          refine lv_goto (tgt := 52) hx hb dMd_takes_48 (by decide) ?_
          exact W.zret (v := 1) hx hb hr rfl (fun t9 ht hW => ⟨1, rfl, by simp [mTakes, bI, *], ht⟩) (fun _ h => by cases h) dMd_takes_52
        · -- 32 not taken
          refine lv_iload_n hx hb dMd_takes_35 rfl (lv_at hl 1 rfl) ?_
          refine lv_bipush (v := 8) hx hb dMd_takes_36 (by decide) ?_
          refine lv_icmp_eq (tgt := 47) hx hb dMd_takes_38 (by decide) (fun c_6 => ?_) (fun c_6 => ?_)
          · -- 38 taken
            refine lv_iconst (v := 1) hx hb dMd_takes_47 (by decide) ?_
            refine lv_goto (tgt := 52) hx hb dMd_takes_48 (by decide) ?_
            exact W.zret (v := 1) hx hb hr rfl (fun t9 ht hW => ⟨1, rfl, by simp [mTakes, bI, *], ht⟩) (fun _ h => by cases h) dMd_takes_52
          · -- 38 not taken
            refine lv_iload_n hx hb dMd_takes_41 rfl (lv_at hl 1 rfl) ?_
            refine lv_bipush (v := 9) hx hb dMd_takes_42 (by decide) ?_
            refine lv_icmp_ne (tgt := 51) hx hb dMd_takes_44 (by decide) (fun c_7 => ?_) (fun c_7 => ?_)
            · -- 44 taken
              refine lv_iconst (v := 0) hx hb dMd_takes_51 (by decide) ?_
              exact W.zret (v := 0) hx hb hr rfl (fun t9 ht hW => ⟨0, rfl, by simp [mTakes, bI, *], ht⟩) (fun _ h => by cases h) dMd_takes_52
            · -- 44 not taken
              refine lv_iconst (v := 1) hx hb dMd_takes_47 (by decide) ?_
              refine lv_goto (tgt := 52) hx hb dMd_takes_48 (by decide) ?_
              exact W.zret (v := 1) hx hb hr rfl (fun t9 ht hW => ⟨1, rfl, by simp [mTakes, bI, *], ht⟩) (fun _ h => by cases h) dMd_takes_52
      · -- 20 not taken
        exact absurd c_4 (by decide)
    · -- 3 not taken
      exact absurd c_3 (by decide)
  ·
    refine lv_iload_n hx hb dMd_takes_0 rfl (lv_at hl 0 rfl) ?_
    refine lv_bipush (v := 11) hx hb dMd_takes_1 (by decide) ?_
    refine lv_icmp_ge (tgt := 17) hx hb dMd_takes_3 (by decide) (fun c_8 => ?_) (fun c_8 => ?_)
    · -- 3 taken
      refine lv_iload_n hx hb dMd_takes_17 rfl (lv_at hl 0 rfl) ?_
      refine lv_bipush (v := 11) hx hb dMd_takes_18 (by decide) ?_
      refine lv_icmp_eq (tgt := 29) hx hb dMd_takes_20 (by decide) (fun c_9 => ?_) (fun c_9 => ?_)
      · -- 20 taken
        exact absurd c_9 (by decide)
      · -- 20 not taken
        refine lv_iload_n hx hb dMd_takes_23 rfl (lv_at hl 0 rfl) ?_
        refine lv_bipush (v := 14) hx hb dMd_takes_24 (by decide) ?_
        refine lv_icmp_ne (tgt := 53) hx hb dMd_takes_26 (by decide) (fun c_10 => ?_) (fun c_10 => ?_)
        · -- 26 taken
          refine lv_iload_n hx hb dMd_takes_53 rfl (lv_at hl 0 rfl) ?_
          refine lv_bipush (v := 12) hx hb dMd_takes_54 (by decide) ?_
          refine lv_icmp_ne (tgt := 76) hx hb dMd_takes_56 (by decide) (fun c_11 => ?_) (fun c_11 => ?_)
          · -- 56 taken
            exact absurd c_11 (by decide)
          · -- 56 not taken
            refine lv_iload_n hx hb dMd_takes_59 rfl (lv_at hl 1 rfl) ?_
            refine lv_iconst (v := 1) hx hb dMd_takes_60 (by decide) ?_
            refine lv_icmp_eq (tgt := 70) hx hb dMd_takes_61 (by decide) (fun c_12 => ?_) (fun c_12 => ?_)
            · -- 61 taken
              refine lv_iconst (v := 1) hx hb dMd_takes_70 (by decide) ?_
              refine lv_goto (tgt := 75) hx hb dMd_takes_71 (by decide) ?_
              exact W.zret (v := 1) hx hb hr rfl (fun t9 ht hW => ⟨1, rfl, by simp [mTakes, bI, *], ht⟩) (fun _ h => by cases h) dMd_takes_75
            · -- 61 not taken
              refine lv_iload_n hx hb dMd_takes_64 rfl (lv_at hl 1 rfl) ?_
              refine lv_bipush (v := 9) hx hb dMd_takes_65 (by decide) ?_
              refine lv_icmp_ne (tgt := 74) hx hb dMd_takes_67 (by decide) (fun c_13 => ?_) (fun c_13 => ?_)
              · -- 67 taken
                refine lv_iconst (v := 0) hx hb dMd_takes_74 (by decide) ?_
                exact W.zret (v := 0) hx hb hr rfl (fun t9 ht hW => ⟨0, rfl, by simp [mTakes, bI, *], ht⟩) (fun _ h => by cases h) dMd_takes_75
              · -- 67 not taken
                refine lv_iconst (v := 1) hx hb dMd_takes_70 (by decide) ?_
                refine lv_goto (tgt := 75) hx hb dMd_takes_71 (by decide) ?_
                exact W.zret (v := 1) hx hb hr rfl (fun t9 ht hW => ⟨1, rfl, by simp [mTakes, bI, *], ht⟩) (fun _ h => by cases h) dMd_takes_75
        · -- 26 not taken
          exact absurd c_10 (by decide)
    · -- 3 not taken
      exact absurd c_8 (by decide)
  ·
    refine lv_iload_n hx hb dMd_takes_0 rfl (lv_at hl 0 rfl) ?_
    refine lv_bipush (v := 11) hx hb dMd_takes_1 (by decide) ?_
    refine lv_icmp_ge (tgt := 17) hx hb dMd_takes_3 (by decide) (fun c_14 => ?_) (fun c_14 => ?_)
    · -- 3 taken
      refine lv_iload_n hx hb dMd_takes_17 rfl (lv_at hl 0 rfl) ?_
      refine lv_bipush (v := 11) hx hb dMd_takes_18 (by decide) ?_
      refine lv_icmp_eq (tgt := 29) hx hb dMd_takes_20 (by decide) (fun c_15 => ?_) (fun c_15 => ?_)
      · -- 20 taken
        exact absurd c_15 (by decide)
      · -- 20 not taken
        refine lv_iload_n hx hb dMd_takes_23 rfl (lv_at hl 0 rfl) ?_
        refine lv_bipush (v := 14) hx hb dMd_takes_24 (by decide) ?_
        refine lv_icmp_ne (tgt := 53) hx hb dMd_takes_26 (by decide) (fun c_16 => ?_) (fun c_16 => ?_)
        · -- 26 taken
          refine lv_iload_n hx hb dMd_takes_53 rfl (lv_at hl 0 rfl) ?_
          refine lv_bipush (v := 12) hx hb dMd_takes_54 (by decide) ?_
          refine lv_icmp_ne (tgt := 76) hx hb dMd_takes_56 (by decide) (fun c_17 => ?_) (fun c_17 => ?_)
          · -- 56 taken
            refine lv_iload_n hx hb dMd_takes_76 rfl (lv_at hl 0 rfl) ?_
            refine lv_bipush (v := 15) hx hb dMd_takes_77 (by decide) ?_
            refine lv_icmp_eq (tgt := 94) hx hb dMd_takes_79 (by decide) (fun c_18 => ?_) (fun c_18 => ?_)
            · -- 79 taken
              exact absurd c_18 (by decide)
            · -- 79 not taken
              refine lv_iload_n hx hb dMd_takes_82 rfl (lv_at hl 1 rfl) ?_
              refine lv_bipush (v := 7) hx hb dMd_takes_83 (by decide) ?_
              refine lv_icmp_eq (tgt := 94) hx hb dMd_takes_85 (by decide) (fun c_19 => ?_) (fun c_19 => ?_)
              · -- 85 taken
                refine lv_iconst (v := 1) hx hb dMd_takes_94 (by decide) ?_
                refine lv_goto (tgt := 99) hx hb dMd_takes_95 (by decide) ?_
                exact W.zret (v := 1) hx hb hr rfl (fun t9 ht hW => ⟨1, rfl, by simp [mTakes, bI, *], ht⟩) (fun _ h => by cases h) dMd_takes_99
              · -- 85 not taken
                refine lv_iload_n hx hb dMd_takes_88 rfl (lv_at hl 1 rfl) ?_
                refine lv_bipush (v := 10) hx hb dMd_takes_89 (by decide) ?_
                refine lv_icmp_ne (tgt := 98) hx hb dMd_takes_91 (by decide) (fun c_20 => ?_) (fun c_20 => ?_)
                · -- 91 taken
                  refine lv_iconst (v := 0) hx hb dMd_takes_98 (by decide) ?_
                  exact W.zret (v := 0) hx hb hr rfl (fun t9 ht hW => ⟨0, rfl, by simp [mTakes, bI, *], ht⟩) (fun _ h => by cases h) dMd_takes_99
                · -- 91 not taken
                  refine lv_iconst (v := 1) hx hb dMd_takes_94 (by decide) ?_
                  refine lv_goto (tgt := 99) hx hb dMd_takes_95 (by decide) ?_
                  exact W.zret (v := 1) hx hb hr rfl (fun t9 ht hW => ⟨1, rfl, by simp [mTakes, bI, *], ht⟩) (fun _ h => by cases h) dMd_takes_99
          · -- 56 not taken
            exact absurd c_17 (by decide)
        · -- 26 not taken
          exact absurd c_16 (by decide)
    · -- 3 not taken
      exact absurd c_14 (by decide)
  ·
    refine lv_iload_n hx hb dMd_takes_0 rfl (lv_at hl 0 rfl) ?_
    refine lv_bipush (v := 11) hx hb dMd_takes_1 (by decide) ?_
    refine lv_icmp_ge (tgt := 17) hx hb dMd_takes_3 (by decide) (fun c_21 => ?_) (fun c_21 => ?_)
    · -- 3 taken
      refine lv_iload_n hx hb dMd_takes_17 rfl (lv_at hl 0 rfl) ?_
      refine lv_bipush (v := 11) hx hb dMd_takes_18 (by decide) ?_
      refine lv_icmp_eq (tgt := 29) hx hb dMd_takes_20 (by decide) (fun c_22 => ?_) (fun c_22 => ?_)
      · -- 20 taken
        exact absurd c_22 (by decide)
      · -- 20 not taken
        refine lv_iload_n hx hb dMd_takes_23 rfl (lv_at hl 0 rfl) ?_
        refine lv_bipush (v := 14) hx hb dMd_takes_24 (by decide) ?_
        refine lv_icmp_ne (tgt := 53) hx hb dMd_takes_26 (by decide) (fun c_23 => ?_) (fun c_23 => ?_)
        · -- 26 taken
          exact absurd c_23 (by decide)
        · -- 26 not taken
          refine lv_iload_n hx hb dMd_takes_29 rfl (lv_at hl 1 rfl) ?_
          refine lv_bipush (v := 7) hx hb dMd_takes_30 (by decide) ?_
          refine lv_icmp_lt (tgt := 47) hx hb dMd_takes_32 (by decide) (fun c_24 => ?_) (fun c_24 => ?_)
          · -- 32 taken
            refine lv_iconst (v := 1) hx hb dMd_takes_47 (by decide) ?_
            refine lv_goto (tgt := 52) hx hb dMd_takes_48 (by decide) ?_
            exact W.zret (v := 1) hx hb hr rfl (fun t9 ht hW => ⟨1, rfl, by simp [mTakes, bI, *], ht⟩) (fun _ h => by cases h) dMd_takes_52
          · -- 32 not taken
            refine lv_iload_n hx hb dMd_takes_35 rfl (lv_at hl 1 rfl) ?_
            refine lv_bipush (v := 8) hx hb dMd_takes_36 (by decide) ?_
            refine lv_icmp_eq (tgt := 47) hx hb dMd_takes_38 (by decide) (fun c_25 => ?_) (fun c_25 => ?_)
            · -- 38 taken
              refine lv_iconst (v := 1) hx hb dMd_takes_47 (by decide) ?_
              refine lv_goto (tgt := 52) hx hb dMd_takes_48 (by decide) ?_
              exact W.zret (v := 1) hx hb hr rfl (fun t9 ht hW => ⟨1, rfl, by simp [mTakes, bI, *], ht⟩) (fun _ h => by cases h) dMd_takes_52
            · -- 38 not taken
              refine lv_iload_n hx hb dMd_takes_41 rfl (lv_at hl 1 rfl) ?_
              refine lv_bipush (v := 9) hx hb dMd_takes_42 (by decide) ?_
              refine lv_icmp_ne (tgt := 51) hx hb dMd_takes_44 (by decide) (fun c_26 => ?_) (fun c_26 => ?_)
              · -- 44 taken
                refine lv_iconst (v := 0) hx hb dMd_takes_51 (by decide) ?_
                exact W.zret (v := 0) hx hb hr rfl (fun t9 ht hW => ⟨0, rfl, by simp [mTakes, bI, *], ht⟩) (fun _ h => by cases h) dMd_takes_52
              · -- 44 not taken
                refine lv_iconst (v := 1) hx hb dMd_takes_47 (by decide) ?_
                refine lv_goto (tgt := 52) hx hb dMd_takes_48 (by decide) ?_
                exact W.zret (v := 1) hx hb hr rfl (fun t9 ht hW => ⟨1, rfl, by simp [mTakes, bI, *], ht⟩) (fun _ h => by cases h) dMd_takes_52
    · -- 3 not taken
      exact absurd c_21 (by decide)
  ·
    refine lv_iload_n hx hb dMd_takes_0 rfl (lv_at hl 0 rfl) ?_
    refine lv_bipush (v := 11) hx hb dMd_takes_1 (by decide) ?_
    refine lv_icmp_ge (tgt := 17) hx hb dMd_takes_3 (by decide) (fun c_27 => ?_) (fun c_27 => ?_)
    · -- 3 taken
      refine lv_iload_n hx hb dMd_takes_17 rfl (lv_at hl 0 rfl) ?_
      refine lv_bipush (v := 11) hx hb dMd_takes_18 (by decide) ?_
      refine lv_icmp_eq (tgt := 29) hx hb dMd_takes_20 (by decide) (fun c_28 => ?_) (fun c_28 => ?_)
      · -- 20 taken
        exact absurd c_28 (by decide)
      · -- 20 not taken
        refine lv_iload_n hx hb dMd_takes_23 rfl (lv_at hl 0 rfl) ?_
        refine lv_bipush (v := 14) hx hb dMd_takes_24 (by decide) ?_
        refine lv_icmp_ne (tgt := 53) hx hb dMd_takes_26 (by decide) (fun c_29 => ?_) (fun c_29 => ?_)
        · -- 26 taken
          refine lv_iload_n hx hb dMd_takes_53 rfl (lv_at hl 0 rfl) ?_
          refine lv_bipush (v := 12) hx hb dMd_takes_54 (by decide) ?_
          refine lv_icmp_ne (tgt := 76) hx hb dMd_takes_56 (by decide) (fun c_30 => ?_) (fun c_30 => ?_)
          · -- 56 taken
            refine lv_iload_n hx hb dMd_takes_76 rfl (lv_at hl 0 rfl) ?_
            refine lv_bipush (v := 15) hx hb dMd_takes_77 (by decide) ?_
            refine lv_icmp_eq (tgt := 94) hx hb dMd_takes_79 (by decide) (fun c_31 => ?_) (fun c_31 => ?_)
            · -- 79 taken
              refine lv_iconst (v := 1) hx hb dMd_takes_94 (by decide) ?_
              refine lv_goto (tgt := 99) hx hb dMd_takes_95 (by decide) ?_
              exact W.zret (v := 1) hx hb hr rfl (fun t9 ht hW => ⟨1, rfl, by simp [mTakes, bI, *], ht⟩) (fun _ h => by cases h) dMd_takes_99
            · -- 79 not taken
              exact absurd c_31 (by decide)
          · -- 56 not taken
            exact absurd c_30 (by decide)
        · -- 26 not taken
          exact absurd c_29 (by decide)
    · -- 3 not taken
      exact absurd c_27 (by decide)
set_option maxHeartbeats 8000000 in
set_option maxRecDepth 100000 in
theorem c_Md_raise (l : Launch) (D : va_G) (cI cZ : ClassId) (a : Nat → Nat) (hd : dM a) (m : MS) (x y : Int32) : Met l yMd_raise (ce_ws yMd_raise cMd_raise 3 none) (ce_rm 0) (cm_Pc D cI cZ [.ref (a 0), .int x, .int y] (wM a cI cZ m)) (va_Qv (fun m2 => m2 = mRaise m x y) (fun m2 t => va_P D vwCl (wM a cI cZ m2) t.heap) (aM a)) 0 0 (aM a) := by
  refine Met.ofW (cc := cMd_raise) (maxL := 3) (ret := none) (by decide) rfl ?_
  intro p e s mi args below meth c s₁ B hml hv
  obtain ⟨rfl, hP, hK⟩ := hv
  have hx := B.exec
  have hb := B.bytes
  have hr := B.returns
  have hts := atoms_spec (ws := ce_ws yMd_raise cMd_raise 3 none) B.pre
  have hown : s.vm.findClass RMd = some mi.cls := findClass_of_methodNamed B.named
  have hlocks := B.notSynchronized
  have hS : va_S (aM a) s.heap s.heap [] := va_S.rf
  have hl := lv_entry ([.ref (a 0), .int x, .int y]) (n := 3) (Nat.le_of_ble_eq_true rfl)
  rw [lg_entry_eq]
  generalize (lg_sl ([.ref (a 0), .int x, .int y]) ++ List.replicate (3 - (lg_sl ([.ref (a 0), .int x, .int y])).length) Slot.unset).toArray = ls at hl ⊢
  have hl : lv_has ls 3 [(0, .ref (a 0)), (1, .int x), (2, .int y)] := hl
  refine lv_aload_n hx hb dMd_raise_0 rfl (lv_at hl 0 rfl) ?_
  refine lv_iload_n hx hb dMd_raise_1 rfl (lv_at hl 1 rfl) ?_
  refine cm_pTr (x := x) hx hb hts hown hK hd hP hS lMd_52 dMd_raise_2 (fun H locs hP hS => ?_)
  refine lv_aload_n hx hb dMd_raise_5 rfl (lv_at hl 0 rfl) ?_
  refine lv_iload_n hx hb dMd_raise_6 rfl (lv_at hl 2 rfl) ?_
  refine cm_pNum (x := y) hx hb hts hown hK hd hP hS lMd_56 dMd_raise_7 (fun H locs hP hS => ?_)
  refine lv_aload_n hx hb dMd_raise_10 rfl (lv_at hl 0 rfl) ?_
  refine lv_aload_n hx hb dMd_raise_11 rfl (lv_at hl 0 rfl) ?_
  refine cm_g hx hb hts hown hK hP 17 (by decide) rfl lMd_59 rfl dMd_raise_12 ?_
  refine lv_topi (fun y_1 ey_1 => ?_)
  obtain rfl : y_1 = nI (qAt m) := ey_1.trans (by rw [qAt_zNum, qAt_zTr])
  refine cm_pOrg (x := nI (qAt m)) hx hb hts hown hK hd hP hS lMd_62 dMd_raise_15 (fun H locs hP hS => ?_)
  exact W.vret hx hb hr (fun t9 ht hW => ⟨⟨zOrg (zNum (zTr m x) y) (nI (qAt m)), rfl, rfl, ce_hp ht hP⟩, hS.F ht⟩) hS.2.2 dMd_raise_18
set_option maxHeartbeats 8000000 in
set_option maxRecDepth 100000 in
theorem c_Md_kOf (l : Launch) (D : va_G) (cI cZ : ClassId) (a : Nat → Nat) (m : MS) (i : Nat) (hp : qProg m < 6) (hi : i < 14) (h8 : mG m i ≤ 255) : Met l yMd_kOf (ce_ws yMd_kOf cMd_kOf 2 (some .int)) (ce_rm 0) (cm_Pc D cI cZ [.ref (a 0), .int (nI i)] (wM a cI cZ m)) (vp_Si (fun r => r = nI (mK m i))) 0 0 (fun _ => False) := by
  refine Met.ofW (cc := cMd_kOf) (maxL := 2) (ret := (some .int)) (by decide) rfl ?_
  intro p e s mi args below meth c s₁ B hml hv
  obtain ⟨rfl, hP, hK⟩ := hv
  have hx := B.exec
  have hb := B.bytes
  have hr := B.returns
  have hts := atoms_spec (ws := ce_ws yMd_kOf cMd_kOf 2 (some .int)) B.pre
  have hown : s.vm.findClass RMd = some mi.cls := findClass_of_methodNamed B.named
  have hlocks := B.notSynchronized
  have hl := lv_entry ([.ref (a 0), .int (nI i)]) (n := 2) (Nat.le_of_ble_eq_true rfl)
  rw [lg_entry_eq]
  generalize (lg_sl ([.ref (a 0), .int (nI i)]) ++ List.replicate (2 - (lg_sl ([.ref (a 0), .int (nI i)])).length) Slot.unset).toArray = ls at hl ⊢
  have hl : lv_has ls 2 [(0, .ref (a 0)), (1, .int (nI i))] := hl
  have h8 : qArg m (qProg m * 14 + i) ≤ 255 := h8
  refine lv_aload_n hx hb dMd_kOf_0 rfl (lv_at hl 0 rfl) ?_
  refine cm_g hx hb hts hown hK hP 1 (by decide) rfl lMd_13 rfl dMd_kOf_1 ?_
  refine lv_aload_n hx hb dMd_kOf_4 rfl (lv_at hl 0 rfl) ?_
  refine cm_g hx hb hts hown hK hP 16 (by decide) rfl lMd_65 rfl dMd_kOf_5 ?_
  refine lv_bipush (v := 14) hx hb dMd_kOf_8 (by decide) ?_
  refine lv_imul hx hb dMd_kOf_10 ?_
  refine lv_topi (fun y_1 ey_1 => ?_)
  obtain rfl : y_1 = nI (qProg m * 14) := ey_1.trans (pk_mul _ 14)
  refine lv_iload_n hx hb dMd_kOf_11 rfl (lv_at hl 1 rfl) ?_
  refine lv_iadd hx hb dMd_kOf_12 ?_
  refine lv_topi (fun y_2 ey_2 => ?_)
  obtain rfl : y_2 = nI (qProg m * 14 + i) := ey_2.trans (nI_add _ _)
  refine cm_lArg (i := (qProg m * 14 + i)) (by omega) hx hb hK hP dMd_kOf_13 ?_
  refine lv_bipush (v := 16) hx hb dMd_kOf_14 (by decide) ?_
  refine lv_idiv hx hb dMd_kOf_16 (by decide) ?_
  exact W.iret (v := (nI (qArg m (qProg m * 14 + i))) / 16) hx hb hr (fun t9 ht hW => ⟨(nI (qArg m (qProg m * 14 + i))) / 16, rfl, pk_div (d := 16) (by omega) (by decide) (by decide), ht⟩) (fun _ h => by cases h) dMd_kOf_17
set_option maxHeartbeats 8000000 in
set_option maxRecDepth 100000 in
theorem c_Md_divide (l : Launch) (D : va_G) (cI cZ : ClassId) (a : Nat → Nat) (hd : dM a) (m : MS) (x : Int32) (b : Bool) : Met l yMd_divide (ce_ws yMd_divide cMd_divide 3 none) (ce_rm 1) (cm_Pc D cI cZ [.ref (a 0), .int x, .int (bI b)] (wM a cI cZ m)) (va_Qv (fun m2 => m2 = mDivide m x b) (fun m2 t => va_P D vwCl (wM a cI cZ m2) t.heap) (aM a)) 0 0 (aM a) := by
  refine Met.ofW (cc := cMd_divide) (maxL := 3) (ret := none) (by decide) rfl ?_
  intro p e s mi args below meth c s₁ B hml hv
  obtain ⟨rfl, hP, hK⟩ := hv
  have hx := B.exec
  have hb := B.bytes
  have hr := B.returns
  have hts := atoms_spec (ws := ce_ws yMd_divide cMd_divide 3 none) B.pre
  have hown : s.vm.findClass RMd = some mi.cls := findClass_of_methodNamed B.named
  have hlocks := B.notSynchronized
  have hS : va_S (aM a) s.heap s.heap [] := va_S.rf
  have hl := lv_entry ([.ref (a 0), .int x, .int (bI b)]) (n := 3) (Nat.le_of_ble_eq_true rfl)
  rw [lg_entry_eq]
  generalize (lg_sl ([.ref (a 0), .int x, .int (bI b)]) ++ List.replicate (3 - (lg_sl ([.ref (a 0), .int x, .int (bI b)])).length) Slot.unset).toArray = ls at hl ⊢
  have hl : lv_has ls 3 [(0, .ref (a 0)), (1, .int x), (2, .int (bI b))] := hl
  refine lv_iload_n hx hb dMd_divide_0 rfl (lv_at hl 1 rfl) ?_
  refine lv_if_ne (tgt := 13) hx hb dMd_divide_1 (by decide) (fun c_1 => ?_) (fun c_1 => ?_)
  · -- 1 taken
    refine lv_aload_n hx hb dMd_divide_13 rfl (lv_at hl 0 rfl) ?_
    refine lv_iload_n hx hb dMd_divide_14 rfl (lv_at hl 2 rfl) ?_
    refine lv_if_eq (tgt := 27) hx hb dMd_divide_15 (by decide) (fun c_2 => ?_) (fun c_2 => ?_)
    · -- 15 taken
      refine lv_aload_n hx hb dMd_divide_27 rfl (lv_at hl 0 rfl) ?_
      refine cm_g hx hb hts hown hK hP 18 (by decide) rfl lMd_78 rfl dMd_divide_28 ?_
      refine lv_iload_n hx hb dMd_divide_31 rfl (lv_at hl 1 rfl) ?_
      refine lv_idiv hx hb dMd_divide_32 c_1 ?_
      refine cm_pAcc (x := (qAcc m) / x) hx hb hts hown hK hd hP hS lMd_78 dMd_divide_33 (fun H locs hP hS => ?_)
      exact W.vret hx hb hr (fun t9 ht hW => ⟨⟨zAcc m ((qAcc m) / x), rfl, ((if_neg c_1).trans (if_neg (by rw [bI0 c_2]; decide))).symm, ce_hp ht hP⟩, hS.F ht⟩) hS.2.2 dMd_divide_36
    · -- 15 not taken
      refine lv_aload_n hx hb dMd_divide_18 rfl (lv_at hl 0 rfl) ?_
      refine cm_g hx hb hts hown hK hP 18 (by decide) rfl lMd_78 rfl dMd_divide_19 ?_
      refine lv_iload_n hx hb dMd_divide_22 rfl (lv_at hl 1 rfl) ?_
      refine lv_irem hx hb dMd_divide_23 c_1 ?_
      refine lv_goto (tgt := 33) hx hb dMd_divide_24 (by decide) ?_
      refine cm_pAcc (x := (qAcc m) - (qAcc m) / x * x) hx hb hts hown hK hd hP hS lMd_78 dMd_divide_33 (fun H locs hP hS => ?_)
      exact W.vret hx hb hr (fun t9 ht hW => ⟨⟨zAcc m ((qAcc m) - (qAcc m) / x * x), rfl, ((if_neg c_1).trans (if_pos (bI1 c_2))).symm, ce_hp ht hP⟩, hS.F ht⟩) hS.2.2 dMd_divide_36
  · -- 1 not taken
    refine lv_aload_n hx hb dMd_divide_4 rfl (lv_at hl 0 rfl) ?_
    refine lv_iconst (v := 0) hx hb dMd_divide_5 (by decide) ?_
    refine lv_iconst (v := (-1)) hx hb dMd_divide_6 (by decide) ?_
    refine cm_vv (As := [.int 0, .int (-1)]) (rest := []) ⟨hx, hb, hml, hown, hts⟩ (c_Md_raise l D cI cZ a hd m 0 (-1)) mMd_raise lMd_91 iMd_raise (ce_hR (by omega) (by decide)) ⟨rfl, rfl⟩ hK hP hS rfl hl.1 rfl (Nat.le_of_ble_eq_true rfl) dMd_divide_7 ⟨Nat.le_of_ble_eq_true rfl, Nat.le_of_ble_eq_true rfl⟩ (fun m_3 H locs em_3 hP hS => ?_)
    obtain rfl := em_3
    refine lv_goto (tgt := 36) hx hb dMd_divide_10 (by decide) ?_
    exact W.vret hx hb hr (fun t9 ht hW => ⟨⟨(mRaise m 0 (-1)), rfl, (if_pos c_1).symm, ce_hp ht hP⟩, hS.F ht⟩) hS.2.2 dMd_divide_36
set_option maxHeartbeats 8000000 in
set_option maxRecDepth 100000 in
theorem c_Md_touch (l : Launch) (D : va_G) (cI cZ : ClassId) (a : Nat → Nat) (hd : dM a) (m : MS) (x : Int32) (b : Bool) : Met l yMd_touch (ce_ws yMd_touch cMd_touch 3 none) (ce_rm 1) (cm_Pc D cI cZ [.ref (a 0), .int x, .int (bI b)] (wM a cI cZ m)) (va_Qv (fun m2 => m2 = mTouch m x b) (fun m2 t => va_P D vwCl (wM a cI cZ m2) t.heap) (aM a)) 0 0 (aM a) := by
  refine Met.ofW (cc := cMd_touch) (maxL := 3) (ret := none) (by decide) rfl ?_
  intro p e s mi args below meth c s₁ B hml hv
  obtain ⟨rfl, hP, hK⟩ := hv
  have hx := B.exec
  have hb := B.bytes
  have hr := B.returns
  have hts := atoms_spec (ws := ce_ws yMd_touch cMd_touch 3 none) B.pre
  have hown : s.vm.findClass RMd = some mi.cls := findClass_of_methodNamed B.named
  have hlocks := B.notSynchronized
  have hS : va_S (aM a) s.heap s.heap [] := va_S.rf
  have hl := lv_entry ([.ref (a 0), .int x, .int (bI b)]) (n := 3) (Nat.le_of_ble_eq_true rfl)
  rw [lg_entry_eq]
  generalize (lg_sl ([.ref (a 0), .int x, .int (bI b)]) ++ List.replicate (3 - (lg_sl ([.ref (a 0), .int x, .int (bI b)])).length) Slot.unset).toArray = ls at hl ⊢
  have hl : lv_has ls 3 [(0, .ref (a 0)), (1, .int x), (2, .int (bI b))] := hl
  refine lv_iload_n hx hb dMd_touch_0 rfl (lv_at hl 1 rfl) ?_
  refine lv_bipush (v := 8) hx hb dMd_touch_1 (by decide) ?_
  refine cm_si (As := [.int x, .int 8]) (rest := []) ⟨hx, hb, hml, hown, hts⟩ (c_Md_in l D cI cZ a _ x 8) mMd_in lMd_44 sMd_in (ce_hR (by omega) (by decide)) ⟨rfl, rfl⟩ hK hP rfl hl.1 rfl (Nat.le_of_ble_eq_true rfl) dMd_touch_3 ⟨Nat.le_of_ble_eq_true rfl, Nat.le_of_ble_eq_true rfl⟩ (fun r_1 er_1 => ?_)
  obtain rfl : r_1 = bI (isI x 8) := er_1
  refine lv_if_ne (tgt := 18) hx hb dMd_touch_6 (by decide) (fun c_2 => ?_) (fun c_2 => ?_)
  · -- 6 taken
    refine lv_iload_n hx hb dMd_touch_18 rfl (lv_at hl 2 rfl) ?_
    refine lv_if_eq (tgt := 35) hx hb dMd_touch_19 (by decide) (fun c_3 => ?_) (fun c_3 => ?_)
    · -- 19 taken
      refine lv_aload_n hx hb dMd_touch_35 rfl (lv_at hl 0 rfl) ?_
      refine cm_g hx hb hts hown hK hP 14 (by decide) rfl lMd_38 rfl dMd_touch_36 ?_
      refine lv_iload_n hx hb dMd_touch_39 rfl (lv_at hl 1 rfl) ?_
      refine lv_aload_n hx hb dMd_touch_40 rfl (lv_at hl 0 rfl) ?_
      refine cm_g hx hb hts hown hK hP 18 (by decide) rfl lMd_78 rfl dMd_touch_41 ?_
      refine cm_sCellV (i := x) (isI_in (bI1 c_2)) hx hb hK hd hP hS dMd_touch_44 (fun H locs hP hS => ?_)
      exact W.vret hx hb hr (fun t9 ht hW => ⟨⟨zCell m (upd (qCell m) (x).toNatClampNeg (qAcc m)), rfl, ((if_pos (bI1 c_2)).trans (if_neg (by rw [bI0 c_3]; decide))).symm, ce_hp ht hP⟩, hS.F ht⟩) hS.2.2 dMd_touch_45
    · -- 19 not taken
      refine lv_aload_n hx hb dMd_touch_22 rfl (lv_at hl 0 rfl) ?_
      refine lv_aload_n hx hb dMd_touch_23 rfl (lv_at hl 0 rfl) ?_
      refine cm_g hx hb hts hown hK hP 14 (by decide) rfl lMd_38 rfl dMd_touch_24 ?_
      refine lv_iload_n hx hb dMd_touch_27 rfl (lv_at hl 1 rfl) ?_
      refine cm_lCellV (i := x) (isI_in (bI1 c_2)) hx hb hK hP dMd_touch_28 ?_
      refine cm_pAcc (x := (qCell m) (x).toNatClampNeg) hx hb hts hown hK hd hP hS lMd_78 dMd_touch_29 (fun H locs hP hS => ?_)
      refine lv_goto (tgt := 45) hx hb dMd_touch_32 (by decide) ?_
      exact W.vret hx hb hr (fun t9 ht hW => ⟨⟨zAcc m ((qCell m) (x).toNatClampNeg), rfl, ((if_pos (bI1 c_2)).trans (if_pos (bI1 c_3))).symm, ce_hp ht hP⟩, hS.F ht⟩) hS.2.2 dMd_touch_45
  · -- 6 not taken
    refine lv_aload_n hx hb dMd_touch_9 rfl (lv_at hl 0 rfl) ?_
    refine lv_iconst (v := 1) hx hb dMd_touch_10 (by decide) ?_
    refine lv_iconst (v := (-1)) hx hb dMd_touch_11 (by decide) ?_
    refine cm_vv (As := [.int 1, .int (-1)]) (rest := []) ⟨hx, hb, hml, hown, hts⟩ (c_Md_raise l D cI cZ a hd m 1 (-1)) mMd_raise lMd_91 iMd_raise (ce_hR (by omega) (by decide)) ⟨rfl, rfl⟩ hK hP hS rfl hl.1 rfl (Nat.le_of_ble_eq_true rfl) dMd_touch_12 ⟨Nat.le_of_ble_eq_true rfl, Nat.le_of_ble_eq_true rfl⟩ (fun m_4 H locs em_4 hP hS => ?_)
    obtain rfl := em_4
    refine lv_goto (tgt := 45) hx hb dMd_touch_15 (by decide) ?_
    exact W.vret hx hb hr (fun t9 ht hW => ⟨⟨(mRaise m 1 (-1)), rfl, (if_neg (by rw [bI0 c_2]; decide)).symm, ce_hp ht hP⟩, hS.F ht⟩) hS.2.2 dMd_touch_45
set_option maxHeartbeats 8000000 in
set_option maxRecDepth 100000 in
theorem c_Md_interrupted (l : Launch) (D : va_G) (cI cZ : ClassId) (a : Nat → Nat) (hd : dM a) (m : MS) : Met l yMd_interrupted (ce_ws yMd_interrupted cMd_interrupted 1 none) (ce_rm 1) (cm_Pc D cI cZ [.ref (a 0)] (wM a cI cZ m)) (va_Qv (fun m2 => m2 = mIntr m) (fun m2 t => va_P D vwCl (wM a cI cZ m2) t.heap) (aM a)) 0 0 (aM a) := by
  refine Met.ofW (cc := cMd_interrupted) (maxL := 1) (ret := none) (by decide) rfl ?_
  intro p e s mi args below meth c s₁ B hml hv
  obtain ⟨rfl, hP, hK⟩ := hv
  have hx := B.exec
  have hb := B.bytes
  have hr := B.returns
  have hts := atoms_spec (ws := ce_ws yMd_interrupted cMd_interrupted 1 none) B.pre
  have hown : s.vm.findClass RMd = some mi.cls := findClass_of_methodNamed B.named
  have hlocks := B.notSynchronized
  have hS : va_S (aM a) s.heap s.heap [] := va_S.rf
  have hl := lv_entry ([.ref (a 0)]) (n := 1) (Nat.le_of_ble_eq_true rfl)
  rw [lg_entry_eq]
  generalize (lg_sl ([.ref (a 0)]) ++ List.replicate (1 - (lg_sl ([.ref (a 0)])).length) Slot.unset).toArray = ls at hl ⊢
  have hl : lv_has ls 1 [(0, .ref (a 0))] := hl
  refine lv_aload_n hx hb dMd_interrupted_0 rfl (lv_at hl 0 rfl) ?_
  refine cm_g hx hb hts hown hK hP 25 (by decide) rfl lMd_95 rfl dMd_interrupted_1 ?_
  refine lv_if_ne (tgt := 8) hx hb dMd_interrupted_4 (by decide) (fun c_1 => ?_) (fun c_1 => ?_)
  · -- 4 taken
    refine lv_aload_n hx hb dMd_interrupted_8 rfl (lv_at hl 0 rfl) ?_
    refine lv_iconst (v := 0) hx hb dMd_interrupted_9 (by decide) ?_
    refine cm_pMark (x := false) hx hb hts hown hK hd hP hS lMd_95 dMd_interrupted_10 (fun H locs hP hS => ?_)
    refine lv_aload_n hx hb dMd_interrupted_13 rfl (lv_at hl 0 rfl) ?_
    refine lv_bipush (v := 7) hx hb dMd_interrupted_14 (by decide) ?_
    refine lv_iconst (v := (-1)) hx hb dMd_interrupted_16 (by decide) ?_
    refine cm_vv (As := [.int 7, .int (-1)]) (rest := []) ⟨hx, hb, hml, hown, hts⟩ (c_Md_raise l D cI cZ a hd (zMark m false) 7 (-1)) mMd_raise lMd_91 iMd_raise (ce_hR (by omega) (by decide)) ⟨rfl, rfl⟩ hK hP hS rfl hl.1 rfl (Nat.le_of_ble_eq_true rfl) dMd_interrupted_17 ⟨Nat.le_of_ble_eq_true rfl, Nat.le_of_ble_eq_true rfl⟩ (fun m_2 H locs em_2 hP hS => ?_)
    obtain rfl := em_2
    exact W.vret hx hb hr (fun t9 ht hW => ⟨⟨(mRaise (zMark m false) 7 (-1)), rfl, (if_pos (bI1 c_1)).symm, ce_hp ht hP⟩, hS.F ht⟩) hS.2.2 dMd_interrupted_20
  · -- 4 not taken
    exact W.vret hx hb hr (fun t9 ht hW => ⟨⟨m, rfl, (if_neg (by rw [bI0 c_1]; decide)).symm, ce_hp ht hP⟩, hS.F ht⟩) hS.2.2 dMd_interrupted_7
