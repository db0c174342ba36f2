-- PROGRAM: its two writes
def gO (P : PR) : Nat → Nat := P.1
def gA (P : PR) : Nat → Nat := P.2.1
def gZ (P : PR) : Nat := P.2.2
def sO (P : PR) (x : Nat → Nat) : PR := (x, gA P, gZ P)
def sA (P : PR) (x : Nat → Nat) : PR := (gO P, x, gZ P)
def sZ (P : PR) (x : Nat) : PR := (gO P, gA P, x)
theorem gO_sO (P : PR) (x : Nat → Nat) : gO (sO P x) = x := rfl
theorem gO_sA (P : PR) (x : Nat → Nat) : gO (sA P x) = gO P := rfl
theorem gO_sZ (P : PR) (x : Nat) : gO (sZ P x) = gO P := rfl
theorem gA_sO (P : PR) (x : Nat → Nat) : gA (sO P x) = gA P := rfl
theorem gA_sA (P : PR) (x : Nat → Nat) : gA (sA P x) = x := rfl
theorem gA_sZ (P : PR) (x : Nat) : gA (sZ P x) = gA P := rfl
theorem gZ_sO (P : PR) (x : Nat → Nat) : gZ (sO P x) = gZ P := rfl
theorem gZ_sA (P : PR) (x : Nat → Nat) : gZ (sA P x) = gZ P := rfl
theorem gZ_sZ (P : PR) (x : Nat) : gZ (sZ P x) = x := rfl
def dP (a : Nat → Nat) : Prop := ∀ i j, 1 ≤ i → i < 4 → 1 ≤ j → j < 4 → a i = a j → i = j
def aP (a : Nat → Nat) : Nat → Prop := fun q => ∃ i, (1 ≤ i ∧ i < 4) ∧ q = a i
theorem dDP {a : Nat → Nat} (h : dP a) (cI : ClassId) (P : PR) : va_D (aP a) (wP a cI P) := by
  have key : ∀ (k : Nat) (q : Nat × va_E), (wP a cI P)[k]? = some q → k < 3 ∧ q.1 = a (k + 1) := by
    intro k q hk
    match k, hk with
    | 0, hk => cases hk; exact ⟨by decide, rfl⟩
    | 1, hk => cases hk; exact ⟨by decide, rfl⟩
    | 2, hk => cases hk; exact ⟨by decide, rfl⟩
    | k + 3, hk => exact absurd hk (by simp [wP])
  refine ⟨fun i j x y hi hj hxy => ?_, fun k q hk => ?_⟩
  · obtain ⟨h1, h2⟩ := key i x hi
    obtain ⟨h3, h4⟩ := key j y hj
    have := h (i + 1) (j + 1) (by omega) (by omega) (by omega) (by omega) (by rw [← h2, ← h4]; exact hxy)
    omega
  · obtain ⟨h1, h2⟩ := key k q hk
    exact ⟨k + 1, ⟨by omega, by omega⟩, h2⟩
section CP1
variable {p : Program} {l : Launch} {e : Env} {R : Room} {s : State} {m : MethodId} {args : Array Value} {below : List Frame} {meth : Method} {c : Code} {H : Heap} {locs : List Loc} {cells slots : Nat} {Q : State → Prop}
variable {cc : ByteArray} {pc : Nat} {ls : Array Slot} {rest : List Value} {D : va_G} {cI : ClassId} {a : Nat → Nat} {P : PR} {w0 : Cond} {H0 : Heap} {own : String} {index : Nat}
theorem ce_pZ {x : Nat} (hx : p.tables.exec = Jvm.exec) (hb : c.code = cc) (hts : ∀ w ∈ w0 :: ce_W, w.before args s = true) (hown : s.vm.findClass own = some m.cls) (hK : va_K D vwCl [(cI, .int)] s) (hd : dP a) (hP : va_P D vwCl (wP a cI P) H) (hS : va_S (aP a) H0 H locs) (hl : Cond.fieldLink own index RPg "size" "I" ∈ ce_W) (hdg : decode cc pc = .ok (.putfield index, 3))
    (kk : ∀ (H1 : Heap) (locs1 : List Loc), va_P D vwCl (wP a cI (sZ P x)) H1 → va_S (aP a) H0 H1 locs1 → W p l e R s m args below meth c H1 locs1 cells slots Q (F0 m (pc + 3) ls rest)) : W p l e R s m args below meth c H locs cells slots Q (F0 m pc ls (.int (nI x) :: .ref (a 1) :: rest)) :=
  va_put (ci := 0) (C := RPg) (T := TPg) (N := 3) (v := .int (nI x)) (ty := .int) hx hb hts (fun w h => List.mem_cons_of_mem _ (ce_iP w h)) tyPg tyPg_ok nmPg hown hK hP (dDP hd cI P) hS 0 rfl rfl 2 (by decide) (hts _ (List.mem_cons_of_mem _ hl)) (fun x h => h) rfl (by decide +kernel) rfl rfl (Nat.le_of_ble_eq_true rfl) hdg (fun H1 locs1 h1 _ h3 => kk H1 locs1 h1 h3)
theorem ce_sOps {i x : Nat} (hi : i < 14) (hx : p.tables.exec = Jvm.exec) (hb : c.code = cc) (hK : va_K D vwCl [(cI, .int)] s) (hd : dP a) (hP : va_P D vwCl (wP a cI P) H) (hS : va_S (aP a) H0 H locs) (hdg : decode cc pc = .ok (.iastore, 1))
    (kk : ∀ (H1 : Heap) (locs1 : List Loc), va_P D vwCl (wP a cI (sO P (va_up (gO P) i x))) H1 → va_S (aP a) H0 H1 locs1 → W p l e R s m args below meth c H1 locs1 cells slots Q (F0 m (pc + 1) ls rest)) : W p l e R s m args below meth c H locs cells slots Q (F0 m pc ls (.int (nI x) :: .int (nI i) :: .ref (a 2) :: rest)) := by
  refine va_iast hx hb hK hP (dDP hd cI P) hS 1 0 rfl rfl (vp_in_nI hi (by decide)) hdg (fun H1 locs1 h1 _ h3 => kk H1 locs1 ?_ h3)
  have e1 : (nI i).toNatClampNeg = i := nI_clamp (by omega)
  rw [e1, up_nI] at h1
  exact h1
theorem ce_sArgs {i x : Nat} (hi : i < 14) (hx : p.tables.exec = Jvm.exec) (hb : c.code = cc) (hK : va_K D vwCl [(cI, .int)] s) (hd : dP a) (hP : va_P D vwCl (wP a cI P) H) (hS : va_S (aP a) H0 H locs) (hdg : decode cc pc = .ok (.iastore, 1))
    (kk : ∀ (H1 : Heap) (locs1 : List Loc), va_P D vwCl (wP a cI (sA P (va_up (gA P) i x))) H1 → va_S (aP a) H0 H1 locs1 → W p l e R s m args below meth c H1 locs1 cells slots Q (F0 m (pc + 1) ls rest)) : W p l e R s m args below meth c H locs cells slots Q (F0 m pc ls (.int (nI x) :: .int (nI i) :: .ref (a 3) :: rest)) := by
  refine va_iast hx hb hK hP (dDP hd cI P) hS 2 0 rfl rfl (vp_in_nI hi (by decide)) hdg (fun H1 locs1 h1 _ h3 => kk H1 locs1 ?_ h3)
  have e1 : (nI i).toNatClampNeg = i := nI_clamp (by omega)
  rw [e1, up_nI] at h1
  exact h1
end CP1
def pAdd (P : PR) (o g : Nat) : Int32 × PR := if gZ P < 14 then (nI (gZ P), sZ (sA (sO P (va_up (gO P) (gZ P) o)) (va_up (gA P) (gZ P) g)) (gZ P + 1)) else (-2, P)

set_option maxHeartbeats 4000000 in
set_option maxRecDepth 100000 in
theorem c_Pg_append (l : Launch) (D : va_G) (cI : ClassId) (a : Nat → Nat) (hd : dP a) (P : PR) (o g : Nat) (hz : gZ P ≤ 14) : Met l yPg_append (ce_ws yPg_append cPg_append 3 (some .int)) (ce_rm 0) (ce_Pc D cI [.ref (a 1), .int (nI o), .int (nI g)] (wP a cI P)) (va_Qi (fun r P2 => (r, P2) = pAdd P o g) (fun P2 t => va_P D vwCl (wP a cI P2) t.heap) (aP a)) 0 0 (aP a) := by
  refine Met.ofW (cc := cPg_append) (maxL := 3) (ret := (some .int)) (by decide) rfl ?_
  intro p e s m args below meth c s₁ B hml hv
  obtain ⟨rfl, hP, hK, hN⟩ := hv
  have hx := B.exec
  have hb := B.bytes
  have hr := B.returns
  have hts := atoms_spec (ws := ce_ws yPg_append cPg_append 3 (some .int)) B.pre
  have hown : s.vm.findClass RPg = some m.cls := findClass_of_methodNamed B.named
  have hlocks := B.notSynchronized
  have hS : va_S (aP a) s.heap s.heap [] := va_S.rf
  have hl := lv_entry ([.ref (a 1), .int (nI o), .int (nI g)]) (n := 3) (Nat.le_of_ble_eq_true rfl)
  rw [lg_entry_eq]
  generalize (lg_sl ([.ref (a 1), .int (nI o), .int (nI g)]) ++ List.replicate (3 - (lg_sl ([.ref (a 1), .int (nI o), .int (nI g)])).length) Slot.unset).toArray = ls at hl ⊢
  have hl : lv_has ls 3 [(0, .ref (a 1)), (1, .int (nI o)), (2, .int (nI g))] := hl
  refine lv_aload_n hx hb dPg_append_0 rfl (lv_at hl 0 rfl) ?_
  refine ce_gP hx hb hts hown hK hP 2 (by decide) rfl lPg_18 rfl dPg_append_1 ?_
  refine lv_topi (fun y_1 ey_1 => ?_)
  obtain rfl : y_1 = nI (gZ P) := ey_1.trans (rfl)
  refine lv_bipush (v := 14) hx hb dPg_append_4 (by decide) ?_
  refine lv_icmp_lt (tgt := 12) hx hb dPg_append_6 (by decide) (fun c_2 => ?_) (fun c_2 => ?_)
  · -- 6 taken
    have hs : gZ P < 14 := (nI_ltI (b := 14) (by omega) (by decide)).mp c_2
    refine lv_aload_n hx hb dPg_append_12 rfl (lv_at hl 0 rfl) ?_
    refine ce_gP hx hb hts hown hK hP 0 (by decide) rfl lPg_9 rfl dPg_append_13 ?_
    refine lv_aload_n hx hb dPg_append_16 rfl (lv_at hl 0 rfl) ?_
    refine ce_gP hx hb hts hown hK hP 2 (by decide) rfl lPg_18 rfl dPg_append_17 ?_
    refine lv_topi (fun y_3 ey_3 => ?_)
    obtain rfl : y_3 = nI (gZ P) := ey_3.trans (rfl)
    refine lv_iload_n hx hb dPg_append_20 rfl (lv_at hl 1 rfl) ?_
    refine ce_sOps (i := (gZ P)) (x := o) hs hx hb hK hd hP hS dPg_append_21 (fun H locs hP hS => ?_)
    refine lv_aload_n hx hb dPg_append_22 rfl (lv_at hl 0 rfl) ?_
    refine ce_gP hx hb hts hown hK hP 1 (by decide) rfl lPg_15 rfl dPg_append_23 ?_
    refine lv_aload_n hx hb dPg_append_26 rfl (lv_at hl 0 rfl) ?_
    refine ce_gP hx hb hts hown hK hP 2 (by decide) rfl lPg_18 rfl dPg_append_27 ?_
    refine lv_topi (fun y_4 ey_4 => ?_)
    obtain rfl : y_4 = nI (gZ P) := ey_4.trans (by show nI (gZ _) = _; rw [gZ_sO])
    refine lv_iload_n hx hb dPg_append_30 rfl (lv_at hl 2 rfl) ?_
    refine ce_sArgs (i := (gZ P)) (x := g) hs hx hb hK hd hP hS dPg_append_31 (fun H locs hP hS => ?_)
    rw [gA_sO] at hP
    refine lv_aload_n hx hb dPg_append_32 rfl (lv_at hl 0 rfl) ?_
    refine lv_dup hx hb dPg_append_33 rfl ?_
    refine ce_gP hx hb hts hown hK hP 2 (by decide) rfl lPg_18 rfl dPg_append_34 ?_
    refine lv_topi (fun y_5 ey_5 => ?_)
    obtain rfl : y_5 = nI (gZ P) := ey_5.trans (by show nI (gZ _) = _; rw [gZ_sA, gZ_sO])
    refine lv_iconst (v := 1) hx hb dPg_append_37 (by decide) ?_
    refine lv_iadd hx hb dPg_append_38 ?_
    refine lv_topi (fun y_6 ey_6 => ?_)
    obtain rfl : y_6 = nI (gZ P + 1) := ey_6.trans (nI_1 _)
    refine ce_pZ (x := (gZ P + 1)) hx hb hts hown hK hd hP hS lPg_18 dPg_append_39 (fun H locs hP hS => ?_)
    refine lv_aload_n hx hb dPg_append_42 rfl (lv_at hl 0 rfl) ?_
    refine ce_gP hx hb hts hown hK hP 2 (by decide) rfl lPg_18 rfl dPg_append_43 ?_
    refine lv_topi (fun y_7 ey_7 => ?_)
    obtain rfl : y_7 = nI (gZ P + 1) := ey_7.trans (by show nI (gZ _) = _; rw [gZ_sZ])
    refine lv_iconst (v := 1) hx hb dPg_append_46 (by decide) ?_
    refine lv_isub hx hb dPg_append_47 ?_
    refine lv_topi (fun y_8 ey_8 => ?_)
    obtain rfl : y_8 = nI (gZ P) := ey_8.trans (nI_pred _)
    exact W.iret (v := nI (gZ P)) hx hb hr (fun t9 ht hW => ⟨⟨nI (gZ P), sZ (sA (sO P (va_up (gO P) (gZ P) o)) (va_up (gA P) (gZ P) g)) (gZ P + 1), rfl, (if_pos hs).symm, ce_hp ht hP⟩, hS.F ht⟩) hS.2.2 dPg_append_48
  · -- 6 not taken
    refine lv_bipush (v := (-2)) hx hb dPg_append_9 (by decide) ?_
    exact W.iret (v := (-2)) hx hb hr (fun t9 ht hW => ⟨⟨(-2), P, rfl, (if_neg (fun h => c_2 (nI_lt (b := 14) h (by decide)))).symm, ce_hp ht hP⟩, hS.F ht⟩) hS.2.2 dPg_append_11
set_option maxHeartbeats 4000000 in
set_option maxRecDepth 100000 in
theorem c_Pg_empty (l : Launch) (D : va_G) (cI : ClassId) (a : Nat → Nat) (hd : dP a) (P : PR)  : Met l yPg_empty (ce_ws yPg_empty cPg_empty 1 none) (ce_rm 0) (ce_Pc D cI [.ref (a 1)] (wP a cI P)) (va_Qv (fun P2 => P2 = sZ P 0) (fun P2 t => va_P D vwCl (wP a cI P2) t.heap) (aP a)) 0 0 (aP a) := by
  refine Met.ofW (cc := cPg_empty) (maxL := 1) (ret := none) (by decide) rfl ?_
  intro p e s m args below meth c s₁ B hml hv
  obtain ⟨rfl, hP, hK, hN⟩ := hv
  have hx := B.exec
  have hb := B.bytes
  have hr := B.returns
  have hts := atoms_spec (ws := ce_ws yPg_empty cPg_empty 1 none) B.pre
  have hown : s.vm.findClass RPg = some m.cls := findClass_of_methodNamed B.named
  have hlocks := B.notSynchronized
  have hS : va_S (aP a) s.heap s.heap [] := va_S.rf
  have hl := lv_entry ([.ref (a 1)]) (n := 1) (Nat.le_of_ble_eq_true rfl)
  rw [lg_entry_eq]
  generalize (lg_sl ([.ref (a 1)]) ++ List.replicate (1 - (lg_sl ([.ref (a 1)])).length) Slot.unset).toArray = ls at hl ⊢
  have hl : lv_has ls 1 [(0, .ref (a 1))] := hl
  refine lv_aload_n hx hb dPg_empty_0 rfl (lv_at hl 0 rfl) ?_
  refine lv_iconst (v := 0) hx hb dPg_empty_1 (by decide) ?_
  refine ce_pZ (x := 0) hx hb hts hown hK hd hP hS lPg_18 dPg_empty_2 (fun H locs hP hS => ?_)
  exact W.vret hx hb hr (fun t9 ht hW => ⟨⟨sZ P 0, rfl, rfl, ce_hp ht hP⟩, hS.F ht⟩) hS.2.2 dPg_empty_5
