set_option maxHeartbeats 8000000 in
set_option maxRecDepth 100000 in
theorem c_Pg_init (l : Launch) (D : va_G) (cI : ClassId) (h0 sz : Nat)  : Met l yPg_init (ce_ws yPg_init cPg_init 1 none) ({ frames := 1, cells := 2, slots := 28, locals := 12 } : Room) (va_Pc [.ref h0] (fun U => U.heap.size = sz ∧ va_P D vwCl [(h0, .inr (0, [.null, .null, .int 0]))] U.heap ∧ va_K D vwCl [(cI, .int)] U)) (va_Qv (fun q : Nat × Nat => sz ≤ q.1 ∧ sz ≤ q.2 ∧ q.1 ≠ q.2) (fun q t => va_P D vwCl [(h0, .inr (0, [.ref q.1, .ref q.2, .int 0])), (q.1, .inl (cI, 14, .inl (fun _ => 0))), (q.2, .inl (cI, 14, .inl (fun _ => 0)))] t.heap) (va_A [(h0, .inr (0, [.null, .null, .int 0]))] sz)) 2 28 (va_A [(h0, .inr (0, [.null, .null, .int 0]))] sz) := by
  refine Met.ofW (cc := cPg_init) (maxL := 1) (ret := none) (by decide) rfl ?_
  intro p e s m args below meth c s₁ B hml hv
  obtain ⟨rfl, hsz, hP, hK⟩ := hv
  have hx := B.exec
  have hb := B.bytes
  have hr := B.returns
  have hts := atoms_spec (ws := ce_ws yPg_init cPg_init 1 none) B.pre
  have hown : s.vm.findClass RPg = some m.cls := findClass_of_methodNamed B.named
  have hlocks := B.notSynchronized
  have hin : meth.name = "<init>" := (name_of_methodNamed B.named B.method).1
  subst hsz
  have hD : va_D (va_A [(h0, .inr (0, [.null, .null, .int 0]))] s.heap.size) [(h0, .inr (0, [.null, .null, .int 0]))] := ⟨fun i j x y hi hj _ => by match i, j, hi, hj with | 0, 0, _, _ => rfl | 0, j + 1, _, hj => simp at hj | i + 1, _, hi, _ => simp at hi, fun k q hk => va_A.in hk⟩
  generalize hAe : va_A [(h0, .inr (0, [.null, .null, .int 0]))] s.heap.size = A at hD ⊢
  have hA : ∀ q : Nat, s.heap.size ≤ q → A q := fun q h => by rw [← hAe]; exact Or.inr h
  have hS : va_S A s.heap s.heap [] := va_S.rf
  have hl := lv_entry ([.ref h0]) (n := 1) (Nat.le_of_ble_eq_true rfl)
  rw [lg_entry_eq]
  generalize (lg_sl ([.ref h0]) ++ List.replicate (1 - (lg_sl ([.ref h0])).length) Slot.unset).toArray = ls at hl ⊢
  have hl : lv_has ls 1 [(0, .ref h0)] := hl
  refine lv_aload_n hx hb dPg_init_0 rfl (lv_at hl 0 rfl) ?_
  refine W.objInit hx hb hown (hts _ (List.mem_cons_of_mem _ lPg_3)) (hts _ (List.mem_cons_of_mem _ objI)) (hts _ (List.mem_cons_of_mem _ objC)) rfl (by rw [hml]; exact hl.1) rfl dPg_init_1 (Nat.le_of_ble_eq_true rfl) (Nat.le_of_ble_eq_true rfl) ?_
  refine W.eq (g2 := F0 m 4 ls []) rfl ?_
  refine lv_aload_n hx hb dPg_init_4 rfl (lv_at hl 0 rfl) ?_
  refine lv_bipush (v := 14) hx hb dPg_init_5 (by decide) ?_
  refine cn_newI (N := 14) hx hb (hts _ (List.mem_cons_of_mem _ arr_int)) hK 0 rfl hP hD hS hA (by decide) (by decide) (by decide) (Nat.le_of_ble_eq_true rfl) (Nat.le_of_ble_eq_true rfl) dPg_init_7 (fun q1 H hP hD hS => ?_)
  refine W.widen (k := 1) (n := 14) (by omega) (by omega) ?_
  have hP : va_P D vwCl [(h0, .inr (0, [.null, .null, .int 0])), (q1, .inl (cI, 14, .inl (fun _ => 0)))] H := hP
  have hD : va_D A [(h0, .inr (0, [.null, .null, .int 0])), (q1, .inl (cI, 14, .inl (fun _ => 0)))] := hD
  refine va_putF (ci := 0) (v := .ref q1) (ty := tyPg 0) (C := RPg) (T := TPg) (N := 3) hx hb hts (fun w h => List.mem_cons_of_mem _ (ce_iP w h)) tyPg tyPg_ok nmPg hown hK hP hD hS 0 rfl rfl 0 (by decide) (hts _ (List.mem_cons_of_mem _ lPg_9)) (fun _ h9 => h9) rfl hin rfl (by decide +kernel) rfl rfl (Nat.le_of_ble_eq_true rfl) dPg_init_9 (fun H locs hP hD hS => ?_)
  have hP : va_P D vwCl [(h0, .inr (0, [.ref q1, .null, .int 0])), (q1, .inl (cI, 14, .inl (fun _ => 0)))] H := hP
  have hD : va_D A [(h0, .inr (0, [.ref q1, .null, .int 0])), (q1, .inl (cI, 14, .inl (fun _ => 0)))] := hD
  refine lv_aload_n hx hb dPg_init_12 rfl (lv_at hl 0 rfl) ?_
  refine lv_bipush (v := 14) hx hb dPg_init_13 (by decide) ?_
  refine cn_newI (N := 14) hx hb (hts _ (List.mem_cons_of_mem _ arr_int)) hK 0 rfl hP hD hS hA (by decide) (by decide) (by decide) (Nat.le_of_ble_eq_true rfl) (Nat.le_of_ble_eq_true rfl) dPg_init_15 (fun q2 H hP hD hS => ?_)
  refine W.widen (k := 2) (n := 28) (by omega) (by omega) ?_
  have hP : va_P D vwCl [(h0, .inr (0, [.ref q1, .null, .int 0])), (q1, .inl (cI, 14, .inl (fun _ => 0))), (q2, .inl (cI, 14, .inl (fun _ => 0)))] H := hP
  have hD : va_D A [(h0, .inr (0, [.ref q1, .null, .int 0])), (q1, .inl (cI, 14, .inl (fun _ => 0))), (q2, .inl (cI, 14, .inl (fun _ => 0)))] := hD
  refine va_putF (ci := 0) (v := .ref q2) (ty := tyPg 1) (C := RPg) (T := TPg) (N := 3) hx hb hts (fun w h => List.mem_cons_of_mem _ (ce_iP w h)) tyPg tyPg_ok nmPg hown hK hP hD hS 0 rfl rfl 1 (by decide) (hts _ (List.mem_cons_of_mem _ lPg_15)) (fun _ h9 => h9) rfl hin rfl (by decide +kernel) rfl rfl (Nat.le_of_ble_eq_true rfl) dPg_init_17 (fun H locs hP hD hS => ?_)
  have hP : va_P D vwCl [(h0, .inr (0, [.ref q1, .ref q2, .int 0])), (q1, .inl (cI, 14, .inl (fun _ => 0))), (q2, .inl (cI, 14, .inl (fun _ => 0)))] H := hP
  have hD : va_D A [(h0, .inr (0, [.ref q1, .ref q2, .int 0])), (q1, .inl (cI, 14, .inl (fun _ => 0))), (q2, .inl (cI, 14, .inl (fun _ => 0)))] := hD
  have fresh : ∀ (i : Nat) (x : Nat × va_E), i ≠ 0 → ([(h0, .inr (0, [.ref q1, .ref q2, .int 0])), (q1, .inl (cI, 14, .inl (fun _ => 0))), (q2, .inl (cI, 14, .inl (fun _ => 0)))] : va_W)[i]? = some x → s.heap.size ≤ x.1 := by
    intro i x hi hv
    have hq := hD.2 i _ hv
    rw [← hAe] at hq
    rcases hq with ⟨k, e9, hk⟩ | hq
    · match k, hk with
      | 0, hk =>
        have e0 : h0 = x.1 := congrArg Prod.fst (Option.some.inj hk)
        exact absurd (hD.1 0 i _ _ rfl hv e0).symm hi
      | k + 1, hk => simp at hk
    · exact hq
  refine W.widen (k := 2) (n := 28) (Nat.le_refl _) (Nat.le_refl _) ?_
  exact W.vret hx hb hr (fun t9 ht hW => ⟨⟨(q1, q2), rfl, ⟨fresh 1 _ (by decide) rfl, fresh 2 _ (by decide) rfl, fun h => absurd (hD.1 1 2 _ _ rfl rfl h) (by decide)⟩, ce_hp ht hP⟩, hS.F ht⟩) hS.2.2 dPg_init_20
set_option maxHeartbeats 8000000 in
set_option maxRecDepth 100000 in
theorem c_Rn_init (l : Launch) (D : va_G) (cI : ClassId) (h0 sz : Nat) (pa : Nat) : Met l yRn_init (ce_ws yRn_init cRn_init 2 none) ({ frames := 1, cells := 2, slots := 10, locals := 12 } : Room) (va_Pc [.ref h0, .ref pa] (fun U => U.heap.size = sz ∧ va_P D vwCl [(h0, .inr (1, [.null, .null, .null, .int 0, .int 0, .int 0, .int 0, .int 0, .int 0, .int 0, .long 0, .int 0, .int 0, .int 0]))] U.heap ∧ va_K D vwCl [(cI, .int)] U)) (va_Qv (fun q : Nat × Nat => sz ≤ q.1 ∧ sz ≤ q.2 ∧ q.1 ≠ q.2) (fun q t => va_P D vwCl [(h0, .inr (1, [.ref pa, .ref q.1, .ref q.2, .int 0, .int 0, .int 0, .int 0, .int 0, .int 0, .int 0, .long 0, .int 0, .int 0, .int 0])), (q.1, .inl (cI, 8, .inl (fun _ => 0))), (q.2, .inl (cI, 2, .inl (fun _ => 0)))] t.heap) (va_A [(h0, .inr (1, [.null, .null, .null, .int 0, .int 0, .int 0, .int 0, .int 0, .int 0, .int 0, .long 0, .int 0, .int 0, .int 0]))] sz)) 2 10 (va_A [(h0, .inr (1, [.null, .null, .null, .int 0, .int 0, .int 0, .int 0, .int 0, .int 0, .int 0, .long 0, .int 0, .int 0, .int 0]))] sz) := by
  refine Met.ofW (cc := cRn_init) (maxL := 2) (ret := none) (by decide) rfl ?_
  intro p e s m args below meth c s₁ B hml hv
  obtain ⟨rfl, hsz, hP, hK⟩ := hv
  have hx := B.exec
  have hb := B.bytes
  have hr := B.returns
  have hts := atoms_spec (ws := ce_ws yRn_init cRn_init 2 none) B.pre
  have hown : s.vm.findClass RRn = some m.cls := findClass_of_methodNamed B.named
  have hlocks := B.notSynchronized
  have hin : meth.name = "<init>" := (name_of_methodNamed B.named B.method).1
  subst hsz
  have hD : va_D (va_A [(h0, .inr (1, [.null, .null, .null, .int 0, .int 0, .int 0, .int 0, .int 0, .int 0, .int 0, .long 0, .int 0, .int 0, .int 0]))] s.heap.size) [(h0, .inr (1, [.null, .null, .null, .int 0, .int 0, .int 0, .int 0, .int 0, .int 0, .int 0, .long 0, .int 0, .int 0, .int 0]))] := ⟨fun i j x y hi hj _ => by match i, j, hi, hj with | 0, 0, _, _ => rfl | 0, j + 1, _, hj => simp at hj | i + 1, _, hi, _ => simp at hi, fun k q hk => va_A.in hk⟩
  generalize hAe : va_A [(h0, .inr (1, [.null, .null, .null, .int 0, .int 0, .int 0, .int 0, .int 0, .int 0, .int 0, .long 0, .int 0, .int 0, .int 0]))] s.heap.size = A at hD ⊢
  have hA : ∀ q : Nat, s.heap.size ≤ q → A q := fun q h => by rw [← hAe]; exact Or.inr h
  have hS : va_S A s.heap s.heap [] := va_S.rf
  have hl := lv_entry ([.ref h0, .ref pa]) (n := 2) (Nat.le_of_ble_eq_true rfl)
  rw [lg_entry_eq]
  generalize (lg_sl ([.ref h0, .ref pa]) ++ List.replicate (2 - (lg_sl ([.ref h0, .ref pa])).length) Slot.unset).toArray = ls at hl ⊢
  have hl : lv_has ls 2 [(0, .ref h0), (1, .ref pa)] := hl
  refine lv_aload_n hx hb dRn_init_0 rfl (lv_at hl 0 rfl) ?_
  refine W.objInit hx hb hown (hts _ (List.mem_cons_of_mem _ lRn_3)) (hts _ (List.mem_cons_of_mem _ objI)) (hts _ (List.mem_cons_of_mem _ objC)) rfl (by rw [hml]; exact hl.1) rfl dRn_init_1 (Nat.le_of_ble_eq_true rfl) (Nat.le_of_ble_eq_true rfl) ?_
  refine W.eq (g2 := F0 m 4 ls []) rfl ?_
  refine lv_aload_n hx hb dRn_init_4 rfl (lv_at hl 0 rfl) ?_
  refine lv_bipush (v := 8) hx hb dRn_init_5 (by decide) ?_
  refine cn_newI (N := 8) hx hb (hts _ (List.mem_cons_of_mem _ arr_int)) hK 0 rfl hP hD hS hA (by decide) (by decide) (by decide) (Nat.le_of_ble_eq_true rfl) (Nat.le_of_ble_eq_true rfl) dRn_init_7 (fun q1 H hP hD hS => ?_)
  refine W.widen (k := 1) (n := 8) (by omega) (by omega) ?_
  have hP : va_P D vwCl [(h0, .inr (1, [.null, .null, .null, .int 0, .int 0, .int 0, .int 0, .int 0, .int 0, .int 0, .long 0, .int 0, .int 0, .int 0])), (q1, .inl (cI, 8, .inl (fun _ => 0)))] H := hP
  have hD : va_D A [(h0, .inr (1, [.null, .null, .null, .int 0, .int 0, .int 0, .int 0, .int 0, .int 0, .int 0, .long 0, .int 0, .int 0, .int 0])), (q1, .inl (cI, 8, .inl (fun _ => 0)))] := hD
  refine va_putF (ci := 1) (v := .ref q1) (ty := tyRn 1) (C := RRn) (T := TRn) (N := 14) hx hb hts (fun w h => List.mem_cons_of_mem _ (ce_iR w h)) tyRn tyRn_ok nmRn hown hK hP hD hS 0 rfl rfl 1 (by decide) (hts _ (List.mem_cons_of_mem _ lRn_11)) (fun _ h9 => h9) rfl hin rfl (by decide +kernel) rfl rfl (Nat.le_of_ble_eq_true rfl) dRn_init_9 (fun H locs hP hD hS => ?_)
  have hP : va_P D vwCl [(h0, .inr (1, [.null, .ref q1, .null, .int 0, .int 0, .int 0, .int 0, .int 0, .int 0, .int 0, .long 0, .int 0, .int 0, .int 0])), (q1, .inl (cI, 8, .inl (fun _ => 0)))] H := hP
  have hD : va_D A [(h0, .inr (1, [.null, .ref q1, .null, .int 0, .int 0, .int 0, .int 0, .int 0, .int 0, .int 0, .long 0, .int 0, .int 0, .int 0])), (q1, .inl (cI, 8, .inl (fun _ => 0)))] := hD
  refine lv_aload_n hx hb dRn_init_12 rfl (lv_at hl 0 rfl) ?_
  refine lv_iconst (v := 2) hx hb dRn_init_13 (by decide) ?_
  refine cn_newI (N := 2) hx hb (hts _ (List.mem_cons_of_mem _ arr_int)) hK 0 rfl hP hD hS hA (by decide) (by decide) (by decide) (Nat.le_of_ble_eq_true rfl) (Nat.le_of_ble_eq_true rfl) dRn_init_14 (fun q2 H hP hD hS => ?_)
  refine W.widen (k := 2) (n := 10) (by omega) (by omega) ?_
  have hP : va_P D vwCl [(h0, .inr (1, [.null, .ref q1, .null, .int 0, .int 0, .int 0, .int 0, .int 0, .int 0, .int 0, .long 0, .int 0, .int 0, .int 0])), (q1, .inl (cI, 8, .inl (fun _ => 0))), (q2, .inl (cI, 2, .inl (fun _ => 0)))] H := hP
  have hD : va_D A [(h0, .inr (1, [.null, .ref q1, .null, .int 0, .int 0, .int 0, .int 0, .int 0, .int 0, .int 0, .long 0, .int 0, .int 0, .int 0])), (q1, .inl (cI, 8, .inl (fun _ => 0))), (q2, .inl (cI, 2, .inl (fun _ => 0)))] := hD
  refine va_putF (ci := 1) (v := .ref q2) (ty := tyRn 2) (C := RRn) (T := TRn) (N := 14) hx hb hts (fun w h => List.mem_cons_of_mem _ (ce_iR w h)) tyRn tyRn_ok nmRn hown hK hP hD hS 0 rfl rfl 2 (by decide) (hts _ (List.mem_cons_of_mem _ lRn_15)) (fun _ h9 => h9) rfl hin rfl (by decide +kernel) rfl rfl (Nat.le_of_ble_eq_true rfl) dRn_init_16 (fun H locs hP hD hS => ?_)
  have hP : va_P D vwCl [(h0, .inr (1, [.null, .ref q1, .ref q2, .int 0, .int 0, .int 0, .int 0, .int 0, .int 0, .int 0, .long 0, .int 0, .int 0, .int 0])), (q1, .inl (cI, 8, .inl (fun _ => 0))), (q2, .inl (cI, 2, .inl (fun _ => 0)))] H := hP
  have hD : va_D A [(h0, .inr (1, [.null, .ref q1, .ref q2, .int 0, .int 0, .int 0, .int 0, .int 0, .int 0, .int 0, .long 0, .int 0, .int 0, .int 0])), (q1, .inl (cI, 8, .inl (fun _ => 0))), (q2, .inl (cI, 2, .inl (fun _ => 0)))] := hD
  refine lv_aload_n hx hb dRn_init_19 rfl (lv_at hl 0 rfl) ?_
  refine lv_aload_n hx hb dRn_init_20 rfl (lv_at hl 1 rfl) ?_
  refine va_putF (ci := 1) (v := .ref pa) (ty := tyRn 0) (C := RRn) (T := TRn) (N := 14) hx hb hts (fun w h => List.mem_cons_of_mem _ (ce_iR w h)) tyRn tyRn_ok nmRn hown hK hP hD hS 0 rfl rfl 0 (by decide) (hts _ (List.mem_cons_of_mem _ lRn_18)) (fun _ h9 => h9) rfl hin rfl (by decide +kernel) rfl rfl (Nat.le_of_ble_eq_true rfl) dRn_init_21 (fun H locs hP hD hS => ?_)
  have hP : va_P D vwCl [(h0, .inr (1, [.ref pa, .ref q1, .ref q2, .int 0, .int 0, .int 0, .int 0, .int 0, .int 0, .int 0, .long 0, .int 0, .int 0, .int 0])), (q1, .inl (cI, 8, .inl (fun _ => 0))), (q2, .inl (cI, 2, .inl (fun _ => 0)))] H := hP
  have hD : va_D A [(h0, .inr (1, [.ref pa, .ref q1, .ref q2, .int 0, .int 0, .int 0, .int 0, .int 0, .int 0, .int 0, .long 0, .int 0, .int 0, .int 0])), (q1, .inl (cI, 8, .inl (fun _ => 0))), (q2, .inl (cI, 2, .inl (fun _ => 0)))] := hD
  have fresh : ∀ (i : Nat) (x : Nat × va_E), i ≠ 0 → ([(h0, .inr (1, [.ref pa, .ref q1, .ref q2, .int 0, .int 0, .int 0, .int 0, .int 0, .int 0, .int 0, .long 0, .int 0, .int 0, .int 0])), (q1, .inl (cI, 8, .inl (fun _ => 0))), (q2, .inl (cI, 2, .inl (fun _ => 0)))] : va_W)[i]? = some x → s.heap.size ≤ x.1 := by
    intro i x hi hv
    have hq := hD.2 i _ hv
    rw [← hAe] at hq
    rcases hq with ⟨k, e9, hk⟩ | hq
    · match k, hk with
      | 0, hk =>
        have e0 : h0 = x.1 := congrArg Prod.fst (Option.some.inj hk)
        exact absurd (hD.1 0 i _ _ rfl hv e0).symm hi
      | k + 1, hk => simp at hk
    · exact hq
  refine W.widen (k := 2) (n := 10) (Nat.le_refl _) (Nat.le_refl _) ?_
  exact W.vret hx hb hr (fun t9 ht hW => ⟨⟨(q1, q2), rfl, ⟨fresh 1 _ (by decide) rfl, fresh 2 _ (by decide) rfl, fun h => absurd (hD.1 1 2 _ _ rfl rfl h) (by decide)⟩, ce_hp ht hP⟩, hS.F ht⟩) hS.2.2 dRn_init_24
