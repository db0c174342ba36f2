theorem cm_iM : ∀ w ∈ u_ws RMd TMd 27, w ∈ ce_W := by decide +kernel
def mF (a : Nat → Nat) (m : MS) : List Value := [.ref (a 1), .ref (a 2), .ref (a 3), .ref (a 4), .ref (a 5), .ref (a 6), .long (qCtr m), .int (qRuns m), .int (qThr m), .int (qTrd m), .ref (a 7), .ref (a 8), .ref (a 9), .int (nI (qOpen m)), .ref (a 10), .ref (a 11), .int (nI (qProg m)), .int (nI (qAt m)), .int (qAcc m), .int (qSteps m), .int (qFin m), .int (qCat m), .int (qTr m), .int (qNum m), .int (qOrg m), .int (bI (qMark m)), .int (bI (qStop m))]
def wM (a : Nat → Nat) (cI cZ : ClassId) (m : MS) : va_W := [(a 0, .inr (3, mF a m)), (a 1, .inl (cI, 84, .inl (fun i => nI (qOp m i)))), (a 2, .inl (cI, 84, .inl (fun i => nI (qArg m i)))), (a 3, .inl (cI, 6, .inl (fun i => nI (qSize m i)))), (a 4, .inl (cI, 48, .inl (qTold m))), (a 5, .inl (cI, 48, .inl (qCls m))), (a 6, .inl (cZ, 6, .inl (fun i => bI (qRan m i)))), (a 7, .inl (cI, 15, .inl (fun i => nI (qBlk m i)))), (a 8, .inl (cI, 15, .inl (fun i => nI (qEnd m i)))), (a 9, .inl (cI, 15, .inl (fun i => nI (qLeft m i)))), (a 10, .inl (cI, 8, .inl (qCell m))), (a 11, .inl (cI, 2, .inl (qHeld m)))]
def dM (a : Nat → Nat) : Prop := ∀ i j, i < 12 → j < 12 → a i = a j → i = j
def aM (a : Nat → Nat) : Nat → Prop := fun q => ∃ i, i < 12 ∧ q = a i
theorem wM_fst (a : Nat → Nat) (cI cZ : ClassId) (m : MS) : (wM a cI cZ m).map Prod.fst = (List.range 12).map a := rfl
theorem dDM {a : Nat → Nat} (h : dM a) (cI cZ : ClassId) (m : MS) : va_D (aM a) (wM a cI cZ m) := by
  have key : ∀ (k : Nat) (q : Nat × va_E), (wM a cI cZ m)[k]? = some q → k < 12 ∧ q.1 = a k := by
    intro k q hk
    have h1 : ((wM a cI cZ m).map Prod.fst)[k]? = some q.1 := by rw [List.getElem?_map, hk]; rfl
    rw [wM_fst, List.getElem?_map] at h1
    cases h2 : (List.range 12)[k]? with
    | none => rw [h2] at h1; cases h1
    | some j =>
      rw [h2] at h1
      obtain ⟨h4, h5⟩ := List.getElem?_eq_some_iff.mp h2
      rw [List.length_range] at h4
      rw [List.getElem_range] at h5
      subst h5
      exact ⟨h4, (Option.some.inj h1).symm⟩
  refine ⟨fun i j x y hi hj hxy => ?_, fun k q hk => ?_⟩
  · obtain ⟨h1, h2⟩ := key i x hi
    obtain ⟨h3, h4⟩ := key j y hj
    exact h i j h1 h3 (by rw [← h2, ← h4]; exact hxy)
  · obtain ⟨h1, h2⟩ := key k q hk
    exact ⟨k, h1, h2⟩
def cm_Pc (D : va_G) (cI cZ : ClassId) (av : List Value) (ws : va_W) : Array Value → State → Prop := va_Pc av (fun U => va_P D vwCl ws U.heap ∧ va_K D vwCl [(cI, .int), (cZ, .boolean)] U)
theorem cm_blind {D : va_G} {cI cZ : ClassId} {av : List Value} {ws : va_W} : FrameBlind (cm_Pc D cI cZ av ws) := fun a U g mk q => ⟨q.1, q.2.1, va_K.moved (u := U) (U := U.calling g mk a) (Vm.Alike.refl U.vm) q.2.2⟩
theorem cm_at {D : va_G} {cI cZ : ClassId} {av : List Value} {ws : va_W} {s : State} {H : Heap} (hP : va_P D vwCl ws H) (hK : va_K D vwCl [(cI, .int), (cZ, .boolean)] s) : ∀ U : State, U.heap = H → s.WarmedH U.vm → cm_Pc D cI cZ av ws av.toArray U := fun U hU hW => ⟨rfl, by rw [hU]; exact hP, va_K.moved hW.alike hK⟩
theorem up_nI (f : Nat → Nat) (i x : Nat) : upd (fun j => nI (f j)) i (nI x) = fun j => nI (va_up f i x j) := by
  funext j
  unfold upd va_up
  split <;> rfl
theorem up_bI (f : Nat → Bool) (i : Nat) (x : Bool) : upd (fun j => bI (f j)) i (vp_nar .boolean (bI x)) = fun j => bI (va_up f i x j) := by
  have e : vp_nar .boolean (bI x) = bI x := by cases x <;> rfl
  rw [e]
  funext j
  unfold upd va_up
  split <;> rfl
theorem cm_like {D : va_G} {a : Nat → Nat} {cI cZ : ClassId} {m m2 : MS} {H : Heap} (h0 : mF a m = mF a m2) (h1 : qOp m = qOp m2) (h2 : qArg m = qArg m2) (h3 : qSize m = qSize m2) (h4 : ∀ j, j < 48 → qTold m j = qTold m2 j) (h5 : ∀ j, j < 48 → qCls m j = qCls m2 j) (h6 : qRan m = qRan m2) (h7 : qBlk m = qBlk m2) (h8 : qEnd m = qEnd m2) (h9 : qLeft m = qLeft m2) (h10 : ∀ j, j < 8 → qCell m j = qCell m2 j) (h11 : ∀ j, j < 2 → qHeld m j = qHeld m2 j) (hP : va_P D vwCl (wM a cI cZ m) H) : va_P D vwCl (wM a cI cZ m2) H := by
  intro k q hk
  match k, hk with
  | 0, hk =>
    cases hk
    rw [← h0]
    exact hP 0 _ rfl
  | 1, hk =>
    cases hk
    have h := hP 1 _ rfl
    rw [h1] at h
    exact h
  | 2, hk =>
    cases hk
    have h := hP 2 _ rfl
    rw [h2] at h
    exact h
  | 3, hk =>
    cases hk
    have h := hP 3 _ rfl
    rw [h3] at h
    exact h
  | 4, hk =>
    cases hk
    exact (hP 4 _ rfl).trans (congrArg some (ce_vc h4))
  | 5, hk =>
    cases hk
    exact (hP 5 _ rfl).trans (congrArg some (ce_vc h5))
  | 6, hk =>
    cases hk
    have h := hP 6 _ rfl
    rw [h6] at h
    exact h
  | 7, hk =>
    cases hk
    have h := hP 7 _ rfl
    rw [h7] at h
    exact h
  | 8, hk =>
    cases hk
    have h := hP 8 _ rfl
    rw [h8] at h
    exact h
  | 9, hk =>
    cases hk
    have h := hP 9 _ rfl
    rw [h9] at h
    exact h
  | 10, hk =>
    cases hk
    exact (hP 10 _ rfl).trans (congrArg some (ce_vc h10))
  | 11, hk =>
    cases hk
    exact (hP 11 _ rfl).trans (congrArg some (ce_vc h11))
  | k + 12, hk => exact absurd hk (by simp [wM])
section CM1
variable {p : Program} {l : Launch} {e : Env} {R : Room} {s : State} {mi : MethodId} {args : Array Value} {below : List Frame} {meth : Method} {c : Code} {H : Heap} {locs : List Loc} {cells slots : Nat} {Q : State → Prop}
variable {cc : ByteArray} {pc nL : Nat} {ls : Array Slot} {rest st0 : List Value} {D : va_G} {cI cZ : ClassId} {a : Nat → Nat} {m : MS} {w0 : Cond} {H0 : Heap} {own : String} {index : Nat}
theorem cm_g (hx : p.tables.exec = Jvm.exec) (hb : c.code = cc) (hts : ∀ w ∈ w0 :: ce_W, w.before args s = true) (hown : s.vm.findClass own = some mi.cls) (hK : va_K D vwCl [(cI, .int), (cZ, .boolean)] s) (hP : va_P D vwCl (wM a cI cZ m) H) (k : Nat) (hk : k < 27) {v : Value} (hv : (mF a m)[k]? = some v) (hl : Cond.fieldLink own index RMd (TMd k).2.1 (TMd k).2.2.1 ∈ ce_W) (hs : (TMd k).1 = RMd) (hdg : decode cc pc = .ok (.getfield index, 3))
    (kk : W p l e R s mi args below meth c H locs cells slots Q (F0 mi (pc + 3) ls (v :: rest))) : W p l e R s mi args below meth c H locs cells slots Q (F0 mi pc ls (.ref (a 0) :: rest)) :=
  va_get (ci := 3) (C := RMd) (T := TMd) (N := 27) hx hb hts (fun w h => List.mem_cons_of_mem _ (cm_iM w h)) hown hK hP 0 rfl rfl k hk (hts _ (List.mem_cons_of_mem _ hl)) (fun x h => by rw [hs] at h; exact h) hv hdg kk
theorem cm_p (hx : p.tables.exec = Jvm.exec) (hb : c.code = cc) (hts : ∀ w ∈ w0 :: ce_W, w.before args s = true) (hown : s.vm.findClass own = some mi.cls) (hK : va_K D vwCl [(cI, .int), (cZ, .boolean)] s) (hd : dM a) (hP : va_P D vwCl (wM a cI cZ m) H) (hS : va_S (aM a) H0 H locs) (k : Nat) (hk : k < 27) {ty : FieldType} {v : Value} {m2 : MS} (hl : Cond.fieldLink own index RMd (TMd k).2.1 (TMd k).2.2.1 ∈ ce_W) (hs : (TMd k).1 = RMd) (hfin : (TMd k).2.2.2 = false) (hty : parseFieldDescriptor (TMd k).2.2.1 = some ty) (hn : narrow ty v = v) (hfit : fits ty v = true) (hw : (wM a cI cZ m).set 0 (a 0, .inr (3, (mF a m).set k v)) = wM a cI cZ m2) (hdg : decode cc pc = .ok (.putfield index, 3))
    (kk : ∀ (H1 : Heap) (locs1 : List Loc), va_P D vwCl (wM a cI cZ m2) H1 → va_S (aM a) H0 H1 locs1 → W p l e R s mi args below meth c H1 locs1 cells slots Q (F0 mi (pc + 3) ls rest)) : W p l e R s mi args below meth c H locs cells slots Q (F0 mi pc ls (v :: .ref (a 0) :: rest)) :=
  va_put (ci := 3) (C := RMd) (T := TMd) (N := 27) hx hb hts (fun w h => List.mem_cons_of_mem _ (cm_iM w h)) tyMd tyMd_ok nmMd hown hK hP (dDM hd cI cZ m) hS 0 rfl rfl k hk (hts _ (List.mem_cons_of_mem _ hl)) (fun x h => by rw [hs] at h; exact h) hfin hty hn hfit hk hdg (fun H1 locs1 h1 _ h3 => kk H1 locs1 (hw ▸ h1) h3)
theorem cm_pCtr {x : Int64} (hx : p.tables.exec = Jvm.exec) (hb : c.code = cc) (hts : ∀ w ∈ w0 :: ce_W, w.before args s = true) (hown : s.vm.findClass own = some mi.cls) (hK : va_K D vwCl [(cI, .int), (cZ, .boolean)] s) (hd : dM a) (hP : va_P D vwCl (wM a cI cZ m) H) (hS : va_S (aM a) H0 H locs) (hl : Cond.fieldLink own index RMd "counter" "J" ∈ ce_W) (hdg : decode cc pc = .ok (.putfield index, 3))
    (kk : ∀ (H1 : Heap) (locs1 : List Loc), va_P D vwCl (wM a cI cZ (zCtr m x)) H1 → va_S (aM a) H0 H1 locs1 → W p l e R s mi args below meth c H1 locs1 cells slots Q (F0 mi (pc + 3) ls rest)) : W p l e R s mi args below meth c H locs cells slots Q (F0 mi pc ls (.long x :: .ref (a 0) :: rest)) :=
  cm_p (ty := .long) (v := .long x) (m2 := zCtr m x) hx hb hts hown hK hd hP hS 6 (by decide) hl rfl rfl (by decide +kernel) rfl rfl rfl hdg kk
theorem cm_pRuns {x : Int32} (hx : p.tables.exec = Jvm.exec) (hb : c.code = cc) (hts : ∀ w ∈ w0 :: ce_W, w.before args s = true) (hown : s.vm.findClass own = some mi.cls) (hK : va_K D vwCl [(cI, .int), (cZ, .boolean)] s) (hd : dM a) (hP : va_P D vwCl (wM a cI cZ m) H) (hS : va_S (aM a) H0 H locs) (hl : Cond.fieldLink own index RMd "runs" "I" ∈ ce_W) (hdg : decode cc pc = .ok (.putfield index, 3))
    (kk : ∀ (H1 : Heap) (locs1 : List Loc), va_P D vwCl (wM a cI cZ (zRuns m x)) H1 → va_S (aM a) H0 H1 locs1 → W p l e R s mi args below meth c H1 locs1 cells slots Q (F0 mi (pc + 3) ls rest)) : W p l e R s mi args below meth c H locs cells slots Q (F0 mi pc ls (.int x :: .ref (a 0) :: rest)) :=
  cm_p (ty := .int) (v := .int x) (m2 := zRuns m x) hx hb hts hown hK hd hP hS 7 (by decide) hl rfl rfl (by decide +kernel) rfl rfl rfl hdg kk
theorem cm_pThr {x : Int32} (hx : p.tables.exec = Jvm.exec) (hb : c.code = cc) (hts : ∀ w ∈ w0 :: ce_W, w.before args s = true) (hown : s.vm.findClass own = some mi.cls) (hK : va_K D vwCl [(cI, .int), (cZ, .boolean)] s) (hd : dM a) (hP : va_P D vwCl (wM a cI cZ m) H) (hS : va_S (aM a) H0 H locs) (hl : Cond.fieldLink own index RMd "threads" "I" ∈ ce_W) (hdg : decode cc pc = .ok (.putfield index, 3))
    (kk : ∀ (H1 : Heap) (locs1 : List Loc), va_P D vwCl (wM a cI cZ (zThr m x)) H1 → va_S (aM a) H0 H1 locs1 → W p l e R s mi args below meth c H1 locs1 cells slots Q (F0 mi (pc + 3) ls rest)) : W p l e R s mi args below meth c H locs cells slots Q (F0 mi pc ls (.int x :: .ref (a 0) :: rest)) :=
  cm_p (ty := .int) (v := .int x) (m2 := zThr m x) hx hb hts hown hK hd hP hS 8 (by decide) hl rfl rfl (by decide +kernel) rfl rfl rfl hdg kk
theorem cm_pTrd {x : Int32} (hx : p.tables.exec = Jvm.exec) (hb : c.code = cc) (hts : ∀ w ∈ w0 :: ce_W, w.before args s = true) (hown : s.vm.findClass own = some mi.cls) (hK : va_K D vwCl [(cI, .int), (cZ, .boolean)] s) (hd : dM a) (hP : va_P D vwCl (wM a cI cZ m) H) (hS : va_S (aM a) H0 H locs) (hl : Cond.fieldLink own index RMd "troubled" "I" ∈ ce_W) (hdg : decode cc pc = .ok (.putfield index, 3))
    (kk : ∀ (H1 : Heap) (locs1 : List Loc), va_P D vwCl (wM a cI cZ (zTrd m x)) H1 → va_S (aM a) H0 H1 locs1 → W p l e R s mi args below meth c H1 locs1 cells slots Q (F0 mi (pc + 3) ls rest)) : W p l e R s mi args below meth c H locs cells slots Q (F0 mi pc ls (.int x :: .ref (a 0) :: rest)) :=
  cm_p (ty := .int) (v := .int x) (m2 := zTrd m x) hx hb hts hown hK hd hP hS 9 (by decide) hl rfl rfl (by decide +kernel) rfl rfl rfl hdg kk
theorem cm_pOpen {x : Nat} (hx : p.tables.exec = Jvm.exec) (hb : c.code = cc) (hts : ∀ w ∈ w0 :: ce_W, w.before args s = true) (hown : s.vm.findClass own = some mi.cls) (hK : va_K D vwCl [(cI, .int), (cZ, .boolean)] s) (hd : dM a) (hP : va_P D vwCl (wM a cI cZ m) H) (hS : va_S (aM a) H0 H locs) (hl : Cond.fieldLink own index RMd "open" "I" ∈ ce_W) (hdg : decode cc pc = .ok (.putfield index, 3))
    (kk : ∀ (H1 : Heap) (locs1 : List Loc), va_P D vwCl (wM a cI cZ (zOpen m x)) H1 → va_S (aM a) H0 H1 locs1 → W p l e R s mi args below meth c H1 locs1 cells slots Q (F0 mi (pc + 3) ls rest)) : W p l e R s mi args below meth c H locs cells slots Q (F0 mi pc ls (.int (nI x) :: .ref (a 0) :: rest)) :=
  cm_p (ty := .int) (v := .int (nI x)) (m2 := zOpen m x) hx hb hts hown hK hd hP hS 13 (by decide) hl rfl rfl (by decide +kernel) rfl rfl rfl hdg kk
theorem cm_pProg {x : Nat} (hx : p.tables.exec = Jvm.exec) (hb : c.code = cc) (hts : ∀ w ∈ w0 :: ce_W, w.before args s = true) (hown : s.vm.findClass own = some mi.cls) (hK : va_K D vwCl [(cI, .int), (cZ, .boolean)] s) (hd : dM a) (hP : va_P D vwCl (wM a cI cZ m) H) (hS : va_S (aM a) H0 H locs) (hl : Cond.fieldLink own index RMd "program" "I" ∈ ce_W) (hdg : decode cc pc = .ok (.putfield index, 3))
    (kk : ∀ (H1 : Heap) (locs1 : List Loc), va_P D vwCl (wM a cI cZ (zProg m x)) H1 → va_S (aM a) H0 H1 locs1 → W p l e R s mi args below meth c H1 locs1 cells slots Q (F0 mi (pc + 3) ls rest)) : W p l e R s mi args below meth c H locs cells slots Q (F0 mi pc ls (.int (nI x) :: .ref (a 0) :: rest)) :=
  cm_p (ty := .int) (v := .int (nI x)) (m2 := zProg m x) hx hb hts hown hK hd hP hS 16 (by decide) hl rfl rfl (by decide +kernel) rfl rfl rfl hdg kk
theorem cm_pAt {x : Nat} (hx : p.tables.exec = Jvm.exec) (hb : c.code = cc) (hts : ∀ w ∈ w0 :: ce_W, w.before args s = true) (hown : s.vm.findClass own = some mi.cls) (hK : va_K D vwCl [(cI, .int), (cZ, .boolean)] s) (hd : dM a) (hP : va_P D vwCl (wM a cI cZ m) H) (hS : va_S (aM a) H0 H locs) (hl : Cond.fieldLink own index RMd "at" "I" ∈ ce_W) (hdg : decode cc pc = .ok (.putfield index, 3))
    (kk : ∀ (H1 : Heap) (locs1 : List Loc), va_P D vwCl (wM a cI cZ (zAt m x)) H1 → va_S (aM a) H0 H1 locs1 → W p l e R s mi args below meth c H1 locs1 cells slots Q (F0 mi (pc + 3) ls rest)) : W p l e R s mi args below meth c H locs cells slots Q (F0 mi pc ls (.int (nI x) :: .ref (a 0) :: rest)) :=
  cm_p (ty := .int) (v := .int (nI x)) (m2 := zAt m x) hx hb hts hown hK hd hP hS 17 (by decide) hl rfl rfl (by decide +kernel) rfl rfl rfl hdg kk
theorem cm_pAcc {x : Int32} (hx : p.tables.exec = Jvm.exec) (hb : c.code = cc) (hts : ∀ w ∈ w0 :: ce_W, w.before args s = true) (hown : s.vm.findClass own = some mi.cls) (hK : va_K D vwCl [(cI, .int), (cZ, .boolean)] s) (hd : dM a) (hP : va_P D vwCl (wM a cI cZ m) H) (hS : va_S (aM a) H0 H locs) (hl : Cond.fieldLink own index RMd "accumulator" "I" ∈ ce_W) (hdg : decode cc pc = .ok (.putfield index, 3))
    (kk : ∀ (H1 : Heap) (locs1 : List Loc), va_P D vwCl (wM a cI cZ (zAcc m x)) H1 → va_S (aM a) H0 H1 locs1 → W p l e R s mi args below meth c H1 locs1 cells slots Q (F0 mi (pc + 3) ls rest)) : W p l e R s mi args below meth c H locs cells slots Q (F0 mi pc ls (.int x :: .ref (a 0) :: rest)) :=
  cm_p (ty := .int) (v := .int x) (m2 := zAcc m x) hx hb hts hown hK hd hP hS 18 (by decide) hl rfl rfl (by decide +kernel) rfl rfl rfl hdg kk
theorem cm_pSteps {x : Int32} (hx : p.tables.exec = Jvm.exec) (hb : c.code = cc) (hts : ∀ w ∈ w0 :: ce_W, w.before args s = true) (hown : s.vm.findClass own = some mi.cls) (hK : va_K D vwCl [(cI, .int), (cZ, .boolean)] s) (hd : dM a) (hP : va_P D vwCl (wM a cI cZ m) H) (hS : va_S (aM a) H0 H locs) (hl : Cond.fieldLink own index RMd "steps" "I" ∈ ce_W) (hdg : decode cc pc = .ok (.putfield index, 3))
    (kk : ∀ (H1 : Heap) (locs1 : List Loc), va_P D vwCl (wM a cI cZ (zSteps m x)) H1 → va_S (aM a) H0 H1 locs1 → W p l e R s mi args below meth c H1 locs1 cells slots Q (F0 mi (pc + 3) ls rest)) : W p l e R s mi args below meth c H locs cells slots Q (F0 mi pc ls (.int x :: .ref (a 0) :: rest)) :=
  cm_p (ty := .int) (v := .int x) (m2 := zSteps m x) hx hb hts hown hK hd hP hS 19 (by decide) hl rfl rfl (by decide +kernel) rfl rfl rfl hdg kk
theorem cm_pFin {x : Int32} (hx : p.tables.exec = Jvm.exec) (hb : c.code = cc) (hts : ∀ w ∈ w0 :: ce_W, w.before args s = true) (hown : s.vm.findClass own = some mi.cls) (hK : va_K D vwCl [(cI, .int), (cZ, .boolean)] s) (hd : dM a) (hP : va_P D vwCl (wM a cI cZ m) H) (hS : va_S (aM a) H0 H locs) (hl : Cond.fieldLink own index RMd "finals" "I" ∈ ce_W) (hdg : decode cc pc = .ok (.putfield index, 3))
    (kk : ∀ (H1 : Heap) (locs1 : List Loc), va_P D vwCl (wM a cI cZ (zFin m x)) H1 → va_S (aM a) H0 H1 locs1 → W p l e R s mi args below meth c H1 locs1 cells slots Q (F0 mi (pc + 3) ls rest)) : W p l e R s mi args below meth c H locs cells slots Q (F0 mi pc ls (.int x :: .ref (a 0) :: rest)) :=
  cm_p (ty := .int) (v := .int x) (m2 := zFin m x) hx hb hts hown hK hd hP hS 20 (by decide) hl rfl rfl (by decide +kernel) rfl rfl rfl hdg kk
theorem cm_pCat {x : Int32} (hx : p.tables.exec = Jvm.exec) (hb : c.code = cc) (hts : ∀ w ∈ w0 :: ce_W, w.before args s = true) (hown : s.vm.findClass own = some mi.cls) (hK : va_K D vwCl [(cI, .int), (cZ, .boolean)] s) (hd : dM a) (hP : va_P D vwCl (wM a cI cZ m) H) (hS : va_S (aM a) H0 H locs) (hl : Cond.fieldLink own index RMd "catches" "I" ∈ ce_W) (hdg : decode cc pc = .ok (.putfield index, 3))
    (kk : ∀ (H1 : Heap) (locs1 : List Loc), va_P D vwCl (wM a cI cZ (zCat m x)) H1 → va_S (aM a) H0 H1 locs1 → W p l e R s mi args below meth c H1 locs1 cells slots Q (F0 mi (pc + 3) ls rest)) : W p l e R s mi args below meth c H locs cells slots Q (F0 mi pc ls (.int x :: .ref (a 0) :: rest)) :=
  cm_p (ty := .int) (v := .int x) (m2 := zCat m x) hx hb hts hown hK hd hP hS 21 (by decide) hl rfl rfl (by decide +kernel) rfl rfl rfl hdg kk
theorem cm_pTr {x : Int32} (hx : p.tables.exec = Jvm.exec) (hb : c.code = cc) (hts : ∀ w ∈ w0 :: ce_W, w.before args s = true) (hown : s.vm.findClass own = some mi.cls) (hK : va_K D vwCl [(cI, .int), (cZ, .boolean)] s) (hd : dM a) (hP : va_P D vwCl (wM a cI cZ m) H) (hS : va_S (aM a) H0 H locs) (hl : Cond.fieldLink own index RMd "trouble" "I" ∈ ce_W) (hdg : decode cc pc = .ok (.putfield index, 3))
    (kk : ∀ (H1 : Heap) (locs1 : List Loc), va_P D vwCl (wM a cI cZ (zTr m x)) H1 → va_S (aM a) H0 H1 locs1 → W p l e R s mi args below meth c H1 locs1 cells slots Q (F0 mi (pc + 3) ls rest)) : W p l e R s mi args below meth c H locs cells slots Q (F0 mi pc ls (.int x :: .ref (a 0) :: rest)) :=
  cm_p (ty := .int) (v := .int x) (m2 := zTr m x) hx hb hts hown hK hd hP hS 22 (by decide) hl rfl rfl (by decide +kernel) rfl rfl rfl hdg kk
theorem cm_pNum {x : Int32} (hx : p.tables.exec = Jvm.exec) (hb : c.code = cc) (hts : ∀ w ∈ w0 :: ce_W, w.before args s = true) (hown : s.vm.findClass own = some mi.cls) (hK : va_K D vwCl [(cI, .int), (cZ, .boolean)] s) (hd : dM a) (hP : va_P D vwCl (wM a cI cZ m) H) (hS : va_S (aM a) H0 H locs) (hl : Cond.fieldLink own index RMd "number" "I" ∈ ce_W) (hdg : decode cc pc = .ok (.putfield index, 3))
    (kk : ∀ (H1 : Heap) (locs1 : List Loc), va_P D vwCl (wM a cI cZ (zNum m x)) H1 → va_S (aM a) H0 H1 locs1 → W p l e R s mi args below meth c H1 locs1 cells slots Q (F0 mi (pc + 3) ls rest)) : W p l e R s mi args below meth c H locs cells slots Q (F0 mi pc ls (.int x :: .ref (a 0) :: rest)) :=
  cm_p (ty := .int) (v := .int x) (m2 := zNum m x) hx hb hts hown hK hd hP hS 23 (by decide) hl rfl rfl (by decide +kernel) rfl rfl rfl hdg kk
theorem cm_pOrg {x : Int32} (hx : p.tables.exec = Jvm.exec) (hb : c.code = cc) (hts : ∀ w ∈ w0 :: ce_W, w.before args s = true) (hown : s.vm.findClass own = some mi.cls) (hK : va_K D vwCl [(cI, .int), (cZ, .boolean)] s) (hd : dM a) (hP : va_P D vwCl (wM a cI cZ m) H) (hS : va_S (aM a) H0 H locs) (hl : Cond.fieldLink own index RMd "origin" "I" ∈ ce_W) (hdg : decode cc pc = .ok (.putfield index, 3))
    (kk : ∀ (H1 : Heap) (locs1 : List Loc), va_P D vwCl (wM a cI cZ (zOrg m x)) H1 → va_S (aM a) H0 H1 locs1 → W p l e R s mi args below meth c H1 locs1 cells slots Q (F0 mi (pc + 3) ls rest)) : W p l e R s mi args below meth c H locs cells slots Q (F0 mi pc ls (.int x :: .ref (a 0) :: rest)) :=
  cm_p (ty := .int) (v := .int x) (m2 := zOrg m x) hx hb hts hown hK hd hP hS 24 (by decide) hl rfl rfl (by decide +kernel) rfl rfl rfl hdg kk
theorem cm_pMark {x : Bool} (hx : p.tables.exec = Jvm.exec) (hb : c.code = cc) (hts : ∀ w ∈ w0 :: ce_W, w.before args s = true) (hown : s.vm.findClass own = some mi.cls) (hK : va_K D vwCl [(cI, .int), (cZ, .boolean)] s) (hd : dM a) (hP : va_P D vwCl (wM a cI cZ m) H) (hS : va_S (aM a) H0 H locs) (hl : Cond.fieldLink own index RMd "mark" "Z" ∈ ce_W) (hdg : decode cc pc = .ok (.putfield index, 3))
    (kk : ∀ (H1 : Heap) (locs1 : List Loc), va_P D vwCl (wM a cI cZ (zMark m x)) H1 → va_S (aM a) H0 H1 locs1 → W p l e R s mi args below meth c H1 locs1 cells slots Q (F0 mi (pc + 3) ls rest)) : W p l e R s mi args below meth c H locs cells slots Q (F0 mi pc ls (.int (bI x) :: .ref (a 0) :: rest)) :=
  cm_p (ty := .boolean) (v := .int (bI x)) (m2 := zMark m x) hx hb hts hown hK hd hP hS 25 (by decide) hl rfl rfl (by decide +kernel) (bI_nar x) (bI_fit x) rfl hdg kk
theorem cm_pStop {x : Bool} (hx : p.tables.exec = Jvm.exec) (hb : c.code = cc) (hts : ∀ w ∈ w0 :: ce_W, w.before args s = true) (hown : s.vm.findClass own = some mi.cls) (hK : va_K D vwCl [(cI, .int), (cZ, .boolean)] s) (hd : dM a) (hP : va_P D vwCl (wM a cI cZ m) H) (hS : va_S (aM a) H0 H locs) (hl : Cond.fieldLink own index RMd "stopping" "Z" ∈ ce_W) (hdg : decode cc pc = .ok (.putfield index, 3))
    (kk : ∀ (H1 : Heap) (locs1 : List Loc), va_P D vwCl (wM a cI cZ (zStop m x)) H1 → va_S (aM a) H0 H1 locs1 → W p l e R s mi args below meth c H1 locs1 cells slots Q (F0 mi (pc + 3) ls rest)) : W p l e R s mi args below meth c H locs cells slots Q (F0 mi pc ls (.int (bI x) :: .ref (a 0) :: rest)) :=
  cm_p (ty := .boolean) (v := .int (bI x)) (m2 := zStop m x) hx hb hts hown hK hd hP hS 26 (by decide) hl rfl rfl (by decide +kernel) (bI_nar x) (bI_fit x) rfl hdg kk
theorem cm_lOp {i : Nat} (hi : i < 84) (hx : p.tables.exec = Jvm.exec) (hb : c.code = cc) (hK : va_K D vwCl [(cI, .int), (cZ, .boolean)] s) (hP : va_P D vwCl (wM a cI cZ m) H) (hdg : decode cc pc = .ok (.iaload, 1))
    (kk : W p l e R s mi args below meth c H locs cells slots Q (F0 mi (pc + 1) ls (.int (nI (qOp m i)) :: rest))) : W p l e R s mi args below meth c H locs cells slots Q (F0 mi pc ls (.int (nI i) :: .ref (a 1) :: rest)) := by
  refine va_iald hx hb hK hP 1 0 rfl rfl (vp_in_nI hi (by decide)) hdg ?_
  have e1 : (nI i).toNatClampNeg = i := nI_clamp (by omega)
  show W p l e R s mi args below meth c H locs cells slots Q (F0 mi (pc + 1) ls (.int (nI (qOp m (nI i).toNatClampNeg)) :: rest))
  rw [e1]
  exact kk
theorem cm_sOp {i : Nat} {x : Nat} (hi : i < 84) (hx : p.tables.exec = Jvm.exec) (hb : c.code = cc) (hK : va_K D vwCl [(cI, .int), (cZ, .boolean)] s) (hd : dM a) (hP : va_P D vwCl (wM a cI cZ m) H) (hS : va_S (aM a) H0 H locs) (hdg : decode cc pc = .ok (.iastore, 1))
    (kk : ∀ (H1 : Heap) (locs1 : List Loc), va_P D vwCl (wM a cI cZ (zOp m (va_up (qOp m) i x))) H1 → va_S (aM a) H0 H1 locs1 → W p l e R s mi args below meth c H1 locs1 cells slots Q (F0 mi (pc + 1) ls rest)) : W p l e R s mi args below meth c H locs cells slots Q (F0 mi pc ls (.int (nI x) :: .int (nI i) :: .ref (a 1) :: rest)) := by
  refine va_iast hx hb hK hP (dDM hd cI cZ m) hS 1 0 rfl rfl (vp_in_nI hi (by decide)) hdg (fun H1 locs1 h1 _ h3 => kk H1 locs1 ?_ h3)
  have e1 : (nI i).toNatClampNeg = i := nI_clamp (by omega)
  rw [e1, up_nI] at h1
  exact h1
theorem cm_lArg {i : Nat} (hi : i < 84) (hx : p.tables.exec = Jvm.exec) (hb : c.code = cc) (hK : va_K D vwCl [(cI, .int), (cZ, .boolean)] s) (hP : va_P D vwCl (wM a cI cZ m) H) (hdg : decode cc pc = .ok (.iaload, 1))
    (kk : W p l e R s mi args below meth c H locs cells slots Q (F0 mi (pc + 1) ls (.int (nI (qArg m i)) :: rest))) : W p l e R s mi args below meth c H locs cells slots Q (F0 mi pc ls (.int (nI i) :: .ref (a 2) :: rest)) := by
  refine va_iald hx hb hK hP 2 0 rfl rfl (vp_in_nI hi (by decide)) hdg ?_
  have e1 : (nI i).toNatClampNeg = i := nI_clamp (by omega)
  show W p l e R s mi args below meth c H locs cells slots Q (F0 mi (pc + 1) ls (.int (nI (qArg m (nI i).toNatClampNeg)) :: rest))
  rw [e1]
  exact kk
theorem cm_sArg {i : Nat} {x : Nat} (hi : i < 84) (hx : p.tables.exec = Jvm.exec) (hb : c.code = cc) (hK : va_K D vwCl [(cI, .int), (cZ, .boolean)] s) (hd : dM a) (hP : va_P D vwCl (wM a cI cZ m) H) (hS : va_S (aM a) H0 H locs) (hdg : decode cc pc = .ok (.iastore, 1))
    (kk : ∀ (H1 : Heap) (locs1 : List Loc), va_P D vwCl (wM a cI cZ (zArg m (va_up (qArg m) i x))) H1 → va_S (aM a) H0 H1 locs1 → W p l e R s mi args below meth c H1 locs1 cells slots Q (F0 mi (pc + 1) ls rest)) : W p l e R s mi args below meth c H locs cells slots Q (F0 mi pc ls (.int (nI x) :: .int (nI i) :: .ref (a 2) :: rest)) := by
  refine va_iast hx hb hK hP (dDM hd cI cZ m) hS 2 0 rfl rfl (vp_in_nI hi (by decide)) hdg (fun H1 locs1 h1 _ h3 => kk H1 locs1 ?_ h3)
  have e1 : (nI i).toNatClampNeg = i := nI_clamp (by omega)
  rw [e1, up_nI] at h1
  exact h1
theorem cm_lSize {i : Nat} (hi : i < 6) (hx : p.tables.exec = Jvm.exec) (hb : c.code = cc) (hK : va_K D vwCl [(cI, .int), (cZ, .boolean)] s) (hP : va_P D vwCl (wM a cI cZ m) H) (hdg : decode cc pc = .ok (.iaload, 1))
    (kk : W p l e R s mi args below meth c H locs cells slots Q (F0 mi (pc + 1) ls (.int (nI (qSize m i)) :: rest))) : W p l e R s mi args below meth c H locs cells slots Q (F0 mi pc ls (.int (nI i) :: .ref (a 3) :: rest)) := by
  refine va_iald hx hb hK hP 3 0 rfl rfl (vp_in_nI hi (by decide)) hdg ?_
  have e1 : (nI i).toNatClampNeg = i := nI_clamp (by omega)
  show W p l e R s mi args below meth c H locs cells slots Q (F0 mi (pc + 1) ls (.int (nI (qSize m (nI i).toNatClampNeg)) :: rest))
  rw [e1]
  exact kk
theorem cm_sSize {i : Nat} {x : Nat} (hi : i < 6) (hx : p.tables.exec = Jvm.exec) (hb : c.code = cc) (hK : va_K D vwCl [(cI, .int), (cZ, .boolean)] s) (hd : dM a) (hP : va_P D vwCl (wM a cI cZ m) H) (hS : va_S (aM a) H0 H locs) (hdg : decode cc pc = .ok (.iastore, 1))
    (kk : ∀ (H1 : Heap) (locs1 : List Loc), va_P D vwCl (wM a cI cZ (zSize m (va_up (qSize m) i x))) H1 → va_S (aM a) H0 H1 locs1 → W p l e R s mi args below meth c H1 locs1 cells slots Q (F0 mi (pc + 1) ls rest)) : W p l e R s mi args below meth c H locs cells slots Q (F0 mi pc ls (.int (nI x) :: .int (nI i) :: .ref (a 3) :: rest)) := by
  refine va_iast hx hb hK hP (dDM hd cI cZ m) hS 3 0 rfl rfl (vp_in_nI hi (by decide)) hdg (fun H1 locs1 h1 _ h3 => kk H1 locs1 ?_ h3)
  have e1 : (nI i).toNatClampNeg = i := nI_clamp (by omega)
  rw [e1, up_nI] at h1
  exact h1
theorem cm_lTold {i : Nat} (hi : i < 48) (hx : p.tables.exec = Jvm.exec) (hb : c.code = cc) (hK : va_K D vwCl [(cI, .int), (cZ, .boolean)] s) (hP : va_P D vwCl (wM a cI cZ m) H) (hdg : decode cc pc = .ok (.iaload, 1))
    (kk : W p l e R s mi args below meth c H locs cells slots Q (F0 mi (pc + 1) ls (.int (qTold m i) :: rest))) : W p l e R s mi args below meth c H locs cells slots Q (F0 mi pc ls (.int (nI i) :: .ref (a 4) :: rest)) := by
  refine va_iald hx hb hK hP 4 0 rfl rfl (vp_in_nI hi (by decide)) hdg ?_
  have e1 : (nI i).toNatClampNeg = i := nI_clamp (by omega)
  show W p l e R s mi args below meth c H locs cells slots Q (F0 mi (pc + 1) ls (.int (qTold m (nI i).toNatClampNeg) :: rest))
  rw [e1]
  exact kk
theorem cm_sTold {i : Nat} {x : Int32} (hi : i < 48) (hx : p.tables.exec = Jvm.exec) (hb : c.code = cc) (hK : va_K D vwCl [(cI, .int), (cZ, .boolean)] s) (hd : dM a) (hP : va_P D vwCl (wM a cI cZ m) H) (hS : va_S (aM a) H0 H locs) (hdg : decode cc pc = .ok (.iastore, 1))
    (kk : ∀ (H1 : Heap) (locs1 : List Loc), va_P D vwCl (wM a cI cZ (zTold m (upd (qTold m) i x))) H1 → va_S (aM a) H0 H1 locs1 → W p l e R s mi args below meth c H1 locs1 cells slots Q (F0 mi (pc + 1) ls rest)) : W p l e R s mi args below meth c H locs cells slots Q (F0 mi pc ls (.int x :: .int (nI i) :: .ref (a 4) :: rest)) := by
  refine va_iast hx hb hK hP (dDM hd cI cZ m) hS 4 0 rfl rfl (vp_in_nI hi (by decide)) hdg (fun H1 locs1 h1 _ h3 => kk H1 locs1 ?_ h3)
  have e1 : (nI i).toNatClampNeg = i := nI_clamp (by omega)
  rw [e1] at h1
  exact h1
theorem cm_lCls {i : Nat} (hi : i < 48) (hx : p.tables.exec = Jvm.exec) (hb : c.code = cc) (hK : va_K D vwCl [(cI, .int), (cZ, .boolean)] s) (hP : va_P D vwCl (wM a cI cZ m) H) (hdg : decode cc pc = .ok (.iaload, 1))
    (kk : W p l e R s mi args below meth c H locs cells slots Q (F0 mi (pc + 1) ls (.int (qCls m i) :: rest))) : W p l e R s mi args below meth c H locs cells slots Q (F0 mi pc ls (.int (nI i) :: .ref (a 5) :: rest)) := by
  refine va_iald hx hb hK hP 5 0 rfl rfl (vp_in_nI hi (by decide)) hdg ?_
  have e1 : (nI i).toNatClampNeg = i := nI_clamp (by omega)
  show W p l e R s mi args below meth c H locs cells slots Q (F0 mi (pc + 1) ls (.int (qCls m (nI i).toNatClampNeg) :: rest))
  rw [e1]
  exact kk
theorem cm_sCls {i : Nat} {x : Int32} (hi : i < 48) (hx : p.tables.exec = Jvm.exec) (hb : c.code = cc) (hK : va_K D vwCl [(cI, .int), (cZ, .boolean)] s) (hd : dM a) (hP : va_P D vwCl (wM a cI cZ m) H) (hS : va_S (aM a) H0 H locs) (hdg : decode cc pc = .ok (.iastore, 1))
    (kk : ∀ (H1 : Heap) (locs1 : List Loc), va_P D vwCl (wM a cI cZ (zCls m (upd (qCls m) i x))) H1 → va_S (aM a) H0 H1 locs1 → W p l e R s mi args below meth c H1 locs1 cells slots Q (F0 mi (pc + 1) ls rest)) : W p l e R s mi args below meth c H locs cells slots Q (F0 mi pc ls (.int x :: .int (nI i) :: .ref (a 5) :: rest)) := by
  refine va_iast hx hb hK hP (dDM hd cI cZ m) hS 5 0 rfl rfl (vp_in_nI hi (by decide)) hdg (fun H1 locs1 h1 _ h3 => kk H1 locs1 ?_ h3)
  have e1 : (nI i).toNatClampNeg = i := nI_clamp (by omega)
  rw [e1] at h1
  exact h1
theorem cm_lRan {i : Nat} (hi : i < 6) (hx : p.tables.exec = Jvm.exec) (hb : c.code = cc) (hK : va_K D vwCl [(cI, .int), (cZ, .boolean)] s) (hP : va_P D vwCl (wM a cI cZ m) H) (hdg : decode cc pc = .ok (.baload, 1))
    (kk : W p l e R s mi args below meth c H locs cells slots Q (F0 mi (pc + 1) ls (.int (bI (qRan m i)) :: rest))) : W p l e R s mi args below meth c H locs cells slots Q (F0 mi pc ls (.int (nI i) :: .ref (a 6) :: rest)) := by
  refine va_zald hx hb hK hP 6 1 rfl rfl (vp_in_nI hi (by decide)) hdg ?_
  have e1 : (nI i).toNatClampNeg = i := nI_clamp (by omega)
  show W p l e R s mi args below meth c H locs cells slots Q (F0 mi (pc + 1) ls (.int (bI (qRan m (nI i).toNatClampNeg)) :: rest))
  rw [e1]
  exact kk
theorem cm_sRan {i : Nat} {x : Bool} (hi : i < 6) (hx : p.tables.exec = Jvm.exec) (hb : c.code = cc) (hK : va_K D vwCl [(cI, .int), (cZ, .boolean)] s) (hd : dM a) (hP : va_P D vwCl (wM a cI cZ m) H) (hS : va_S (aM a) H0 H locs) (hdg : decode cc pc = .ok (.bastore, 1))
    (kk : ∀ (H1 : Heap) (locs1 : List Loc), va_P D vwCl (wM a cI cZ (zRan m (va_up (qRan m) i x))) H1 → va_S (aM a) H0 H1 locs1 → W p l e R s mi args below meth c H1 locs1 cells slots Q (F0 mi (pc + 1) ls rest)) : W p l e R s mi args below meth c H locs cells slots Q (F0 mi pc ls (.int (bI x) :: .int (nI i) :: .ref (a 6) :: rest)) := by
  refine va_zast hx hb hK hP (dDM hd cI cZ m) hS 6 1 rfl rfl (vp_in_nI hi (by decide)) hdg (fun H1 locs1 h1 _ h3 => kk H1 locs1 ?_ h3)
  have e1 : (nI i).toNatClampNeg = i := nI_clamp (by omega)
  rw [e1, up_bI] at h1
  exact h1
theorem cm_lBlk {i : Nat} (hi : i < 15) (hx : p.tables.exec = Jvm.exec) (hb : c.code = cc) (hK : va_K D vwCl [(cI, .int), (cZ, .boolean)] s) (hP : va_P D vwCl (wM a cI cZ m) H) (hdg : decode cc pc = .ok (.iaload, 1))
    (kk : W p l e R s mi args below meth c H locs cells slots Q (F0 mi (pc + 1) ls (.int (nI (qBlk m i)) :: rest))) : W p l e R s mi args below meth c H locs cells slots Q (F0 mi pc ls (.int (nI i) :: .ref (a 7) :: rest)) := by
  refine va_iald hx hb hK hP 7 0 rfl rfl (vp_in_nI hi (by decide)) hdg ?_
  have e1 : (nI i).toNatClampNeg = i := nI_clamp (by omega)
  show W p l e R s mi args below meth c H locs cells slots Q (F0 mi (pc + 1) ls (.int (nI (qBlk m (nI i).toNatClampNeg)) :: rest))
  rw [e1]
  exact kk
theorem cm_sBlk {i : Nat} {x : Nat} (hi : i < 15) (hx : p.tables.exec = Jvm.exec) (hb : c.code = cc) (hK : va_K D vwCl [(cI, .int), (cZ, .boolean)] s) (hd : dM a) (hP : va_P D vwCl (wM a cI cZ m) H) (hS : va_S (aM a) H0 H locs) (hdg : decode cc pc = .ok (.iastore, 1))
    (kk : ∀ (H1 : Heap) (locs1 : List Loc), va_P D vwCl (wM a cI cZ (zBlk m (va_up (qBlk m) i x))) H1 → va_S (aM a) H0 H1 locs1 → W p l e R s mi args below meth c H1 locs1 cells slots Q (F0 mi (pc + 1) ls rest)) : W p l e R s mi args below meth c H locs cells slots Q (F0 mi pc ls (.int (nI x) :: .int (nI i) :: .ref (a 7) :: rest)) := by
  refine va_iast hx hb hK hP (dDM hd cI cZ m) hS 7 0 rfl rfl (vp_in_nI hi (by decide)) hdg (fun H1 locs1 h1 _ h3 => kk H1 locs1 ?_ h3)
  have e1 : (nI i).toNatClampNeg = i := nI_clamp (by omega)
  rw [e1, up_nI] at h1
  exact h1
theorem cm_lEnd {i : Nat} (hi : i < 15) (hx : p.tables.exec = Jvm.exec) (hb : c.code = cc) (hK : va_K D vwCl [(cI, .int), (cZ, .boolean)] s) (hP : va_P D vwCl (wM a cI cZ m) H) (hdg : decode cc pc = .ok (.iaload, 1))
    (kk : W p l e R s mi args below meth c H locs cells slots Q (F0 mi (pc + 1) ls (.int (nI (qEnd m i)) :: rest))) : W p l e R s mi args below meth c H locs cells slots Q (F0 mi pc ls (.int (nI i) :: .ref (a 8) :: rest)) := by
  refine va_iald hx hb hK hP 8 0 rfl rfl (vp_in_nI hi (by decide)) hdg ?_
  have e1 : (nI i).toNatClampNeg = i := nI_clamp (by omega)
  show W p l e R s mi args below meth c H locs cells slots Q (F0 mi (pc + 1) ls (.int (nI (qEnd m (nI i).toNatClampNeg)) :: rest))
  rw [e1]
  exact kk
theorem cm_sEnd {i : Nat} {x : Nat} (hi : i < 15) (hx : p.tables.exec = Jvm.exec) (hb : c.code = cc) (hK : va_K D vwCl [(cI, .int), (cZ, .boolean)] s) (hd : dM a) (hP : va_P D vwCl (wM a cI cZ m) H) (hS : va_S (aM a) H0 H locs) (hdg : decode cc pc = .ok (.iastore, 1))
    (kk : ∀ (H1 : Heap) (locs1 : List Loc), va_P D vwCl (wM a cI cZ (zEnd m (va_up (qEnd m) i x))) H1 → va_S (aM a) H0 H1 locs1 → W p l e R s mi args below meth c H1 locs1 cells slots Q (F0 mi (pc + 1) ls rest)) : W p l e R s mi args below meth c H locs cells slots Q (F0 mi pc ls (.int (nI x) :: .int (nI i) :: .ref (a 8) :: rest)) := by
  refine va_iast hx hb hK hP (dDM hd cI cZ m) hS 8 0 rfl rfl (vp_in_nI hi (by decide)) hdg (fun H1 locs1 h1 _ h3 => kk H1 locs1 ?_ h3)
  have e1 : (nI i).toNatClampNeg = i := nI_clamp (by omega)
  rw [e1, up_nI] at h1
  exact h1
theorem cm_lLeft {i : Nat} (hi : i < 15) (hx : p.tables.exec = Jvm.exec) (hb : c.code = cc) (hK : va_K D vwCl [(cI, .int), (cZ, .boolean)] s) (hP : va_P D vwCl (wM a cI cZ m) H) (hdg : decode cc pc = .ok (.iaload, 1))
    (kk : W p l e R s mi args below meth c H locs cells slots Q (F0 mi (pc + 1) ls (.int (nI (qLeft m i)) :: rest))) : W p l e R s mi args below meth c H locs cells slots Q (F0 mi pc ls (.int (nI i) :: .ref (a 9) :: rest)) := by
  refine va_iald hx hb hK hP 9 0 rfl rfl (vp_in_nI hi (by decide)) hdg ?_
  have e1 : (nI i).toNatClampNeg = i := nI_clamp (by omega)
  show W p l e R s mi args below meth c H locs cells slots Q (F0 mi (pc + 1) ls (.int (nI (qLeft m (nI i).toNatClampNeg)) :: rest))
  rw [e1]
  exact kk
theorem cm_sLeft {i : Nat} {x : Nat} (hi : i < 15) (hx : p.tables.exec = Jvm.exec) (hb : c.code = cc) (hK : va_K D vwCl [(cI, .int), (cZ, .boolean)] s) (hd : dM a) (hP : va_P D vwCl (wM a cI cZ m) H) (hS : va_S (aM a) H0 H locs) (hdg : decode cc pc = .ok (.iastore, 1))
    (kk : ∀ (H1 : Heap) (locs1 : List Loc), va_P D vwCl (wM a cI cZ (zLeft m (va_up (qLeft m) i x))) H1 → va_S (aM a) H0 H1 locs1 → W p l e R s mi args below meth c H1 locs1 cells slots Q (F0 mi (pc + 1) ls rest)) : W p l e R s mi args below meth c H locs cells slots Q (F0 mi pc ls (.int (nI x) :: .int (nI i) :: .ref (a 9) :: rest)) := by
  refine va_iast hx hb hK hP (dDM hd cI cZ m) hS 9 0 rfl rfl (vp_in_nI hi (by decide)) hdg (fun H1 locs1 h1 _ h3 => kk H1 locs1 ?_ h3)
  have e1 : (nI i).toNatClampNeg = i := nI_clamp (by omega)
  rw [e1, up_nI] at h1
  exact h1
theorem cm_lCell {i : Nat} (hi : i < 8) (hx : p.tables.exec = Jvm.exec) (hb : c.code = cc) (hK : va_K D vwCl [(cI, .int), (cZ, .boolean)] s) (hP : va_P D vwCl (wM a cI cZ m) H) (hdg : decode cc pc = .ok (.iaload, 1))
    (kk : W p l e R s mi args below meth c H locs cells slots Q (F0 mi (pc + 1) ls (.int (qCell m i) :: rest))) : W p l e R s mi args below meth c H locs cells slots Q (F0 mi pc ls (.int (nI i) :: .ref (a 10) :: rest)) := by
  refine va_iald hx hb hK hP 10 0 rfl rfl (vp_in_nI hi (by decide)) hdg ?_
  have e1 : (nI i).toNatClampNeg = i := nI_clamp (by omega)
  show W p l e R s mi args below meth c H locs cells slots Q (F0 mi (pc + 1) ls (.int (qCell m (nI i).toNatClampNeg) :: rest))
  rw [e1]
  exact kk
theorem cm_sCell {i : Nat} {x : Int32} (hi : i < 8) (hx : p.tables.exec = Jvm.exec) (hb : c.code = cc) (hK : va_K D vwCl [(cI, .int), (cZ, .boolean)] s) (hd : dM a) (hP : va_P D vwCl (wM a cI cZ m) H) (hS : va_S (aM a) H0 H locs) (hdg : decode cc pc = .ok (.iastore, 1))
    (kk : ∀ (H1 : Heap) (locs1 : List Loc), va_P D vwCl (wM a cI cZ (zCell m (upd (qCell m) i x))) H1 → va_S (aM a) H0 H1 locs1 → W p l e R s mi args below meth c H1 locs1 cells slots Q (F0 mi (pc + 1) ls rest)) : W p l e R s mi args below meth c H locs cells slots Q (F0 mi pc ls (.int x :: .int (nI i) :: .ref (a 10) :: rest)) := by
  refine va_iast hx hb hK hP (dDM hd cI cZ m) hS 10 0 rfl rfl (vp_in_nI hi (by decide)) hdg (fun H1 locs1 h1 _ h3 => kk H1 locs1 ?_ h3)
  have e1 : (nI i).toNatClampNeg = i := nI_clamp (by omega)
  rw [e1] at h1
  exact h1
theorem cm_lHeld {i : Nat} (hi : i < 2) (hx : p.tables.exec = Jvm.exec) (hb : c.code = cc) (hK : va_K D vwCl [(cI, .int), (cZ, .boolean)] s) (hP : va_P D vwCl (wM a cI cZ m) H) (hdg : decode cc pc = .ok (.iaload, 1))
    (kk : W p l e R s mi args below meth c H locs cells slots Q (F0 mi (pc + 1) ls (.int (qHeld m i) :: rest))) : W p l e R s mi args below meth c H locs cells slots Q (F0 mi pc ls (.int (nI i) :: .ref (a 11) :: rest)) := by
  refine va_iald hx hb hK hP 11 0 rfl rfl (vp_in_nI hi (by decide)) hdg ?_
  have e1 : (nI i).toNatClampNeg = i := nI_clamp (by omega)
  show W p l e R s mi args below meth c H locs cells slots Q (F0 mi (pc + 1) ls (.int (qHeld m (nI i).toNatClampNeg) :: rest))
  rw [e1]
  exact kk
theorem cm_sHeld {i : Nat} {x : Int32} (hi : i < 2) (hx : p.tables.exec = Jvm.exec) (hb : c.code = cc) (hK : va_K D vwCl [(cI, .int), (cZ, .boolean)] s) (hd : dM a) (hP : va_P D vwCl (wM a cI cZ m) H) (hS : va_S (aM a) H0 H locs) (hdg : decode cc pc = .ok (.iastore, 1))
    (kk : ∀ (H1 : Heap) (locs1 : List Loc), va_P D vwCl (wM a cI cZ (zHeld m (upd (qHeld m) i x))) H1 → va_S (aM a) H0 H1 locs1 → W p l e R s mi args below meth c H1 locs1 cells slots Q (F0 mi (pc + 1) ls rest)) : W p l e R s mi args below meth c H locs cells slots Q (F0 mi pc ls (.int x :: .int (nI i) :: .ref (a 11) :: rest)) := by
  refine va_iast hx hb hK hP (dDM hd cI cZ m) hS 11 0 rfl rfl (vp_in_nI hi (by decide)) hdg (fun H1 locs1 h1 _ h3 => kk H1 locs1 ?_ h3)
  have e1 : (nI i).toNatClampNeg = i := nI_clamp (by omega)
  rw [e1] at h1
  exact h1
theorem cm_lCellV {i : Int32} (hi : vp_in i 8) (hx : p.tables.exec = Jvm.exec) (hb : c.code = cc) (hK : va_K D vwCl [(cI, .int), (cZ, .boolean)] s) (hP : va_P D vwCl (wM a cI cZ m) H) (hdg : decode cc pc = .ok (.iaload, 1))
    (kk : W p l e R s mi args below meth c H locs cells slots Q (F0 mi (pc + 1) ls (.int (qCell m i.toNatClampNeg) :: rest))) : W p l e R s mi args below meth c H locs cells slots Q (F0 mi pc ls (.int i :: .ref (a 10) :: rest)) := va_iald hx hb hK hP 10 0 rfl rfl hi hdg kk
theorem cm_sCellV {i x : Int32} (hi : vp_in i 8) (hx : p.tables.exec = Jvm.exec) (hb : c.code = cc) (hK : va_K D vwCl [(cI, .int), (cZ, .boolean)] s) (hd : dM a) (hP : va_P D vwCl (wM a cI cZ m) H) (hS : va_S (aM a) H0 H locs) (hdg : decode cc pc = .ok (.iastore, 1))
    (kk : ∀ (H1 : Heap) (locs1 : List Loc), va_P D vwCl (wM a cI cZ (zCell m (upd (qCell m) i.toNatClampNeg x))) H1 → va_S (aM a) H0 H1 locs1 → W p l e R s mi args below meth c H1 locs1 cells slots Q (F0 mi (pc + 1) ls rest)) : W p l e R s mi args below meth c H locs cells slots Q (F0 mi pc ls (.int x :: .int i :: .ref (a 10) :: rest)) := va_iast hx hb hK hP (dDM hd cI cZ m) hS 10 0 rfl rfl hi hdg (fun H1 locs1 h1 _ h3 => kk H1 locs1 h1 h3)
variable {y : MethodName} {b : ByteArray} {maxL n : Nat} {rm : Room} {As : List Value}
theorem cm_vi {post : Int32 → MS → Prop} (F : CallFix p mi c cc nL s args (w0 :: ce_W) own) (hM : Met l y (ce_ws y b maxL (some .int)) rm (cm_Pc D cI cZ (.ref (a 0) :: As) (wM a cI cZ m)) (va_Qi post (fun m2 t => va_P D vwCl (wM a cI cZ m2) t.heap) (aM a)) 0 0 (aM a)) (hm : ce_M y b maxL (some .int) n) (hl : Cond.methodLink own index y ∈ ce_W) (hi : Cond.instanceMethod y ∈ ce_W ∧ Cond.selects RMd y y ∈ ce_W) (hR : rm.frames + 1 ≤ R.frames ∧ 8 + (maxL + 11) + rm.locals ≤ R.locals) (hrc : rm.cells = 0 ∧ rm.slots = 0) (hK : va_K D vwCl [(cI, .int), (cZ, .boolean)] s) (hP : va_P D vwCl (wM a cI cZ m) H) (hS : va_S (aM a) H0 H locs) (hn : As.length = n) (hsz : ls.size = nL) (hst : st0 = As.reverse ++ .ref (a 0) :: rest) (hw : (rest.map fun v => v.category).sum ≤ 8) (hdg : decode cc pc = .ok (.invokevirtual index, 3)) (hc : cells + 0 ≤ R.cells ∧ slots + 0 ≤ R.slots)
    (kk : ∀ (r : Int32) (m2 : MS) (H1 : Heap) (locs1 : List Loc), post r m2 → va_P D vwCl (wM a cI cZ m2) H1 → va_S (aM a) H0 H1 locs1 → W p l e R s mi args below meth c H1 locs1 cells slots Q (F0 mi (pc + 3) ls (.int r :: rest))) : W p l e R s mi args below meth c H locs cells slots Q (F0 mi pc ls st0) :=
  va_calli (va_runV F hM (ce_cV F.2.2.2.2 (ce_good hm.1) hm hrc.1 hrc.2 hl hi hR (ce_tl w0)) ⟨cm_blind, va_recv hK hP (ci := 3) (q0 := 0) rfl rfl, cm_at hP hK⟩ rfl hn hsz hst (lv_room hw) hdg hc) hS (fun _ _ h => h) (fun _ h => h) (fun r u1 t H1 locs1 ht _ hp hB _ _ hS1 => kk r u1 H1 locs1 hp (ht ▸ hB) hS1)
theorem cm_vv {post : MS → Prop} (F : CallFix p mi c cc nL s args (w0 :: ce_W) own) (hM : Met l y (ce_ws y b maxL none) rm (cm_Pc D cI cZ (.ref (a 0) :: As) (wM a cI cZ m)) (va_Qv post (fun m2 t => va_P D vwCl (wM a cI cZ m2) t.heap) (aM a)) 0 0 (aM a)) (hm : ce_M y b maxL none n) (hl : Cond.methodLink own index y ∈ ce_W) (hi : Cond.instanceMethod y ∈ ce_W ∧ Cond.selects RMd y y ∈ ce_W) (hR : rm.frames + 1 ≤ R.frames ∧ 8 + (maxL + 11) + rm.locals ≤ R.locals) (hrc : rm.cells = 0 ∧ rm.slots = 0) (hK : va_K D vwCl [(cI, .int), (cZ, .boolean)] s) (hP : va_P D vwCl (wM a cI cZ m) H) (hS : va_S (aM a) H0 H locs) (hn : As.length = n) (hsz : ls.size = nL) (hst : st0 = As.reverse ++ .ref (a 0) :: rest) (hw : (rest.map fun v => v.category).sum ≤ 8) (hdg : decode cc pc = .ok (.invokevirtual index, 3)) (hc : cells + 0 ≤ R.cells ∧ slots + 0 ≤ R.slots)
    (kk : ∀ (m2 : MS) (H1 : Heap) (locs1 : List Loc), post m2 → va_P D vwCl (wM a cI cZ m2) H1 → va_S (aM a) H0 H1 locs1 → W p l e R s mi args below meth c H1 locs1 cells slots Q (F0 mi (pc + 3) ls rest)) : W p l e R s mi args below meth c H locs cells slots Q (F0 mi pc ls st0) :=
  va_callv (va_runV F hM (ce_cV F.2.2.2.2 (ce_good hm.1) hm hrc.1 hrc.2 hl hi hR (ce_tl w0)) ⟨cm_blind, va_recv hK hP (ci := 3) (q0 := 0) rfl rfl, cm_at hP hK⟩ rfl hn hsz hst (lv_room hw) hdg hc) hS (fun _ _ h => h) (fun _ h => h) (fun u1 t H1 locs1 ht _ hp hB _ _ hS1 => kk u1 H1 locs1 hp (ht ▸ hB) hS1)
theorem cm_ri {ret : Option FieldType} {post : Int32 → Prop} (F : CallFix p mi c cc nL s args (w0 :: ce_W) own) (hM : Met l y (ce_ws y b maxL ret) rm (cm_Pc D cI cZ (.ref (a 0) :: As) (wM a cI cZ m)) (vp_Si post) 0 0 (fun _ => False)) (hm : ce_M y b maxL ret n) (hl : Cond.methodLink own index y ∈ ce_W) (hi : Cond.instanceMethod y ∈ ce_W ∧ Cond.selects RMd y y ∈ ce_W) (hR : rm.frames + 1 ≤ R.frames ∧ 8 + (maxL + 11) + rm.locals ≤ R.locals) (hrc : rm.cells = 0 ∧ rm.slots = 0) (hK : va_K D vwCl [(cI, .int), (cZ, .boolean)] s) (hP : va_P D vwCl (wM a cI cZ m) H) (hn : As.length = n) (hsz : ls.size = nL) (hst : st0 = As.reverse ++ .ref (a 0) :: rest) (hw : (rest.map fun v => v.category).sum ≤ 8) (hdg : decode cc pc = .ok (.invokevirtual index, 3)) (hc : cells + 0 ≤ R.cells ∧ slots + 0 ≤ R.slots)
    (kk : ∀ r : Int32, post r → W p l e R s mi args below meth c H locs cells slots Q (F0 mi (pc + 3) ls (.int r :: rest))) : W p l e R s mi args below meth c H locs cells slots Q (F0 mi pc ls st0) :=
  vp_callSi (va_runV F hM (ce_cV F.2.2.2.2 (ce_good hm.1) hm hrc.1 hrc.2 hl hi hR (ce_tl w0)) ⟨cm_blind, va_recv hK hP (ci := 3) (q0 := 0) rfl rfl, cm_at hP hK⟩ rfl hn hsz hst (lv_room hw) hdg hc).run kk
theorem cm_si {ret : Option FieldType} {post : Int32 → Prop} (F : CallFix p mi c cc nL s args (w0 :: ce_W) own) (hM : Met l y (ce_ws y b maxL ret) rm (cm_Pc D cI cZ As (wM a cI cZ m)) (vp_Si post) 0 0 (fun _ => False)) (hm : ce_M y b maxL ret n) (hl : Cond.methodLink own index y ∈ ce_W) (hi : Cond.static y ∈ ce_W) (hR : rm.frames + 1 ≤ R.frames ∧ 8 + (maxL + 11) + rm.locals ≤ R.locals) (hrc : rm.cells = 0 ∧ rm.slots = 0) (hK : va_K D vwCl [(cI, .int), (cZ, .boolean)] s) (hP : va_P D vwCl (wM a cI cZ m) H) (hn : As.length = n) (hsz : ls.size = nL) (hst : st0 = As.reverse ++ rest) (hw : (rest.map fun v => v.category).sum ≤ 8) (hdg : decode cc pc = .ok (.invokestatic index, 3)) (hc : cells + 0 ≤ R.cells ∧ slots + 0 ≤ R.slots)
    (kk : ∀ r : Int32, post r → W p l e R s mi args below meth c H locs cells slots Q (F0 mi (pc + 3) ls (.int r :: rest))) : W p l e R s mi args below meth c H locs cells slots Q (F0 mi pc ls st0) :=
  vp_callSi (va_runS F hM (ce_cS F.2.2.2.2 (ce_good hm.1) hm hrc.1 hrc.2 hl hi hR (ce_tl w0)) ⟨cm_blind, cm_at hP hK⟩ rfl hn hsz hst (lv_room hw) hdg hc).run kk
end CM1
