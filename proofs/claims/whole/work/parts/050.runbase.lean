theorem ce_iR : ∀ w ∈ u_ws RRn TRn 14, w ∈ ce_W := by decide +kernel
theorem ce_iP : ∀ w ∈ u_ws RPg TPg 3, w ∈ ce_W := by decide +kernel
theorem bI_nar (b : Bool) : narrow .boolean (.int (bI b)) = .int (bI b) := by cases b <;> rfl
theorem bI_fit (b : Bool) : fits .boolean (.int (bI b)) = true := by cases b <;> rfl
-- THE WORLD OF A RUN: a 0 the Run, a 1 its Program, a 2 ops, a 3 arguments, a 4 cells, a 5 holds
def rF (a : Nat → Nat) (u : RS) : List Value := [.ref (a 1), .ref (a 4), .ref (a 5), .int (bI (gKnown u)), .int (gName u), .int (gAcc u), .int (gSteps u), .int (gFin u), .int (gCat u), .int (bI (gMark u)), .long (gCnt u), .int (gTr u), .int (gTa u), .int (gOwn u)]
def wP (a : Nat → Nat) (cI : ClassId) (P : PR) : va_W := [(a 1, .inr (0, [.ref (a 2), .ref (a 3), .int (nI P.2.2)])), (a 2, .inl (cI, 14, .inl (fun i => nI (P.1 i)))), (a 3, .inl (cI, 14, .inl (fun i => nI (P.2.1 i))))]
def wR (a : Nat → Nat) (cI : ClassId) (P : PR) (u : RS) : va_W := [(a 0, .inr (1, rF a u)), (a 1, .inr (0, [.ref (a 2), .ref (a 3), .int (nI P.2.2)])), (a 2, .inl (cI, 14, .inl (fun i => nI (P.1 i)))), (a 3, .inl (cI, 14, .inl (fun i => nI (P.2.1 i)))), (a 4, .inl (cI, 8, .inl (gCells u))), (a 5, .inl (cI, 2, .inl (gHolds u)))]
/-- the six are apart; which they are -/
def dR (a : Nat → Nat) : Prop := ∀ i j, i < 6 → j < 6 → a i = a j → i = j
def aR (a : Nat → Nat) : Nat → Prop := fun q => ∃ i, i < 6 ∧ q = a i
theorem wR_fst (a : Nat → Nat) (cI : ClassId) (P : PR) (u : RS) : (wR a cI P u).map Prod.fst = (List.range 6).map a := rfl
theorem dD {a : Nat → Nat} (h : dR a) (cI : ClassId) (P : PR) (u : RS) : va_D (aR a) (wR a cI P u) := by
  have key : ∀ (k : Nat) (q : Nat × va_E), (wR a cI P u)[k]? = some q → k < 6 ∧ q.1 = a k := by
    intro k q hk
    have h1 : ((wR a cI P u).map Prod.fst)[k]? = some q.1 := by rw [List.getElem?_map, hk]; rfl
    rw [wR_fst, List.getElem?_map] at h1
    cases h2 : (List.range 6)[k]? with
    | none => rw [h2] at h1; cases h1
    | some j =>
      rw [h2] at h1
      have h3 := List.getElem?_eq_some_iff.mp h2
      obtain ⟨h4, h5⟩ := h3
      rw [List.length_range] at h4
      rw [List.getElem_range] at h5
      subst h5
      exact ⟨h4, (Option.some.inj h1).symm⟩
  refine ⟨fun i j x y hi hj hxy => ?_, fun k q hk => ?_⟩
  · obtain ⟨h1, h2⟩ := key i x hi
    obtain ⟨h3, h4⟩ := key j y hj
    exact h i j h1 h3 (by rw [← h2, ← h4]; exact hxy)
  · obtain ⟨h1, h2⟩ := key k q hk
    exact ⟨k, h1, h2⟩
/-- the link of the one call over the nest's border -/
def ce_N (U : State) : Prop := va_Nw (.methodLinkNest RRn 22 yEx_isWithin "CaseExecutor") U
/-- a start: these arguments, this world -/
def ce_Pc (D : va_G) (cI : ClassId) (av : List Value) (ws : va_W) : Array Value → State → Prop := va_Pc av (fun U => va_P D vwCl ws U.heap ∧ va_K D vwCl [(cI, .int)] U ∧ ce_N U)
theorem ce_blind {D : va_G} {cI : ClassId} {av : List Value} {ws : va_W} : FrameBlind (ce_Pc D cI av ws) := fun a U g mk q => ⟨q.1, q.2.1, va_K.moved (u := U) (U := U.calling g mk a) (Vm.Alike.refl U.vm) q.2.2.1, va_Nw.same rfl (u := U) (U := U.calling g mk a) rfl q.2.2.2⟩
theorem ce_at {D : va_G} {cI : ClassId} {av : List Value} {ws : va_W} {s : State} {H : Heap} (hP : va_P D vwCl ws H) (hK : va_K D vwCl [(cI, .int)] s) (hN : ce_N s) : ∀ U : State, U.heap = H → s.WarmedH U.vm → ce_Pc D cI av ws av.toArray U := fun U hU hW => ⟨rfl, by rw [hU]; exact hP, va_K.moved hW.alike hK, va_Nw.warmM hW hN⟩
section CE2
variable {p : Program} {l : Launch} {e : Env} {R : Room} {s : State} {m : MethodId} {args : Array Value} {below : List Frame} {meth : Method} {c : Code} {H : Heap} {locs : List Loc} {cells slots : Nat} {Q : State → Prop}
variable {cc : ByteArray} {pc : Nat} {ls : Array Slot} {rest : List Value} {D : va_G} {cI : ClassId} {a : Nat → Nat} {P : PR} {u u' : RS} {w0 : Cond} {H0 : Heap} {own : String} {index : Nat}
theorem ce_gR (hx : p.tables.exec = Jvm.exec) (hb : c.code = cc) (hts : ∀ w ∈ w0 :: ce_W, w.before args s = true) (hown : s.vm.findClass own = some m.cls) (hK : va_K D vwCl [(cI, .int)] s) (hP : va_P D vwCl (wR a cI P u) H) (k : Nat) (hk : k < 14) {v : Value} (hv : (rF a u)[k]? = some v) (hl : Cond.fieldLink own index RRn (TRn k).2.1 (TRn k).2.2.1 ∈ ce_W) (hs : (TRn k).1 = RRn) (hdg : decode cc pc = .ok (.getfield index, 3))
    (kk : W p l e R s m args below meth c H locs cells slots Q (F0 m (pc + 3) ls (v :: rest))) : W p l e R s m args below meth c H locs cells slots Q (F0 m pc ls (.ref (a 0) :: rest)) :=
  va_get (ci := 1) (C := RRn) (T := TRn) (N := 14) hx hb hts (fun w h => List.mem_cons_of_mem _ (ce_iR w h)) hown hK hP 0 rfl rfl k hk (hts _ (List.mem_cons_of_mem _ hl)) (fun x h => by rw [hs] at h; exact h) hv hdg kk
theorem ce_pR (hx : p.tables.exec = Jvm.exec) (hb : c.code = cc) (hts : ∀ w ∈ w0 :: ce_W, w.before args s = true) (hown : s.vm.findClass own = some m.cls) (hK : va_K D vwCl [(cI, .int)] s) (hd : dR a) (hP : va_P D vwCl (wR a cI P u) H) (hS : va_S (aR a) H0 H locs) (k : Nat) (hk : k < 14) {ty : FieldType} {v : Value} (hl : Cond.fieldLink own index RRn (TRn k).2.1 (TRn k).2.2.1 ∈ ce_W) (hs : (TRn k).1 = RRn) (hfin : (TRn k).2.2.2 = false) (hty : parseFieldDescriptor (TRn k).2.2.1 = some ty) (hn : narrow ty v = v) (hfit : fits ty v = true) (hw : (wR a cI P u).set 0 (a 0, .inr (1, (rF a u).set k v)) = wR a cI P u') (hdg : decode cc pc = .ok (.putfield index, 3))
    (kk : ∀ (H1 : Heap) (locs1 : List Loc), va_P D vwCl (wR a cI P u') H1 → va_S (aR a) H0 H1 locs1 → W p l e R s m args below meth c H1 locs1 cells slots Q (F0 m (pc + 3) ls rest)) : W p l e R s m args below meth c H locs cells slots Q (F0 m pc ls (v :: .ref (a 0) :: rest)) :=
  va_put (ci := 1) (C := RRn) (T := TRn) (N := 14) hx hb hts (fun w h => List.mem_cons_of_mem _ (ce_iR w h)) tyRn tyRn_ok nmRn hown hK hP (dD hd cI P u) hS 0 rfl rfl k hk (hts _ (List.mem_cons_of_mem _ hl)) (fun x h => by rw [hs] at h; exact h) hfin hty hn hfit hk hdg (fun H1 locs1 h1 _ h3 => kk H1 locs1 (hw ▸ h1) h3)
theorem ce_gP (hx : p.tables.exec = Jvm.exec) (hb : c.code = cc) (hts : ∀ w ∈ w0 :: ce_W, w.before args s = true) (hown : s.vm.findClass own = some m.cls) (hK : va_K D vwCl [(cI, .int)] s) (hP : va_P D vwCl (wP a cI P) H) (k : Nat) (hk : k < 3) {v : Value} (hv : ([.ref (a 2), .ref (a 3), .int (nI P.2.2)] : List Value)[k]? = some v) (hl : Cond.fieldLink own index RPg (TPg k).2.1 (TPg k).2.2.1 ∈ ce_W) (hs : (TPg k).1 = RPg) (hdg : decode cc pc = .ok (.getfield index, 3))
    (kk : W p l e R s m args below meth c H locs cells slots Q (F0 m (pc + 3) ls (v :: rest))) : W p l e R s m args below meth c H locs cells slots Q (F0 m pc ls (.ref (a 1) :: rest)) :=
  va_get (ci := 0) (C := RPg) (T := TPg) (N := 3) hx hb hts (fun w h => List.mem_cons_of_mem _ (ce_iP w h)) hown hK hP 0 rfl rfl k hk (hts _ (List.mem_cons_of_mem _ hl)) (fun x h => by rw [hs] at h; exact h) hv hdg kk
theorem ce_ast4 (hx : p.tables.exec = Jvm.exec) (hb : c.code = cc) (hK : va_K D vwCl [(cI, .int)] s) (hd : dR a) (hP : va_P D vwCl (wR a cI P u) H) (hS : va_S (aR a) H0 H locs) {i x : Int32} (hin : vp_in i 8) (hdg : decode cc pc = .ok (.iastore, 1))
    (kk : ∀ (H1 : Heap) (locs1 : List Loc), va_P D vwCl (wR a cI P (sCells u (upd (gCells u) i.toNatClampNeg x))) H1 → va_S (aR a) H0 H1 locs1 → W p l e R s m args below meth c H1 locs1 cells slots Q (F0 m (pc + 1) ls rest)) : W p l e R s m args below meth c H locs cells slots Q (F0 m pc ls (.int x :: .int i :: .ref (a 4) :: rest)) :=
  va_iast hx hb hK hP (dD hd cI P u) hS 4 0 rfl rfl hin hdg (fun H1 locs1 h1 _ h3 => kk H1 locs1 h1 h3)
theorem ce_ast5 (hx : p.tables.exec = Jvm.exec) (hb : c.code = cc) (hK : va_K D vwCl [(cI, .int)] s) (hd : dR a) (hP : va_P D vwCl (wR a cI P u) H) (hS : va_S (aR a) H0 H locs) {i x : Int32} (hin : vp_in i 2) (hdg : decode cc pc = .ok (.iastore, 1))
    (kk : ∀ (H1 : Heap) (locs1 : List Loc), va_P D vwCl (wR a cI P (sHolds u (upd (gHolds u) i.toNatClampNeg x))) H1 → va_S (aR a) H0 H1 locs1 → W p l e R s m args below meth c H1 locs1 cells slots Q (F0 m (pc + 1) ls rest)) : W p l e R s m args below meth c H locs cells slots Q (F0 m pc ls (.int x :: .int i :: .ref (a 5) :: rest)) :=
  va_iast hx hb hK hP (dD hd cI P u) hS 5 0 rfl rfl hin hdg (fun H1 locs1 h1 _ h3 => kk H1 locs1 h1 h3)
end CE2
section CE3
variable {p : Program} {l : Launch} {e : Env} {R : Room} {s : State} {m : MethodId} {args : Array Value} {below : List Frame} {meth : Method} {c : Code} {H : Heap} {locs : List Loc} {cells slots : Nat} {Q : State → Prop}
variable {cc : ByteArray} {pc nL : Nat} {ls : Array Slot} {rest st0 : List Value} {D : va_G} {cI : ClassId} {a : Nat → Nat} {P : PR} {u : RS} {w0 : Cond} {H0 : Heap} {own : String} {index : Nat}
variable {y : MethodName} {b : ByteArray} {maxL n : Nat} {rm : Room} {As : List Value}
/-- a call of a Run's own method that answers an int -/
theorem ce_vi {post : Int32 → RS → Prop} (F : CallFix p m c cc nL s args (w0 :: ce_W) own) (hM : Met l y (ce_ws y b maxL (some .int)) rm (ce_Pc D cI (.ref (a 0) :: As) (wR a cI P u)) (va_Qi post (fun u' t => va_P D vwCl (wR a cI P u') t.heap) (aR a)) 0 0 (aR a)) (hm : ce_M y b maxL (some .int) n) (hl : Cond.methodLink own index y ∈ ce_W) (hi : Cond.instanceMethod y ∈ ce_W ∧ Cond.selects RRn y y ∈ ce_W) (hR : rm.frames + 1 ≤ R.frames ∧ 8 + (maxL + 11) + rm.locals ≤ R.locals) (hrc : rm.cells = 0 ∧ rm.slots = 0) (hK : va_K D vwCl [(cI, .int)] s) (hN : ce_N s) (hP : va_P D vwCl (wR a cI P u) H) (hS : va_S (aR a) H0 H locs) (hn : As.length = n) (hsz : ls.size = nL) (hst : st0 = As.reverse ++ .ref (a 0) :: rest) (hw : (rest.map fun v => v.category).sum ≤ 8) (hdg : decode cc pc = .ok (.invokevirtual index, 3)) (hc : cells + 0 ≤ R.cells ∧ slots + 0 ≤ R.slots)
    (kk : ∀ (r : Int32) (u' : RS) (H1 : Heap) (locs1 : List Loc), post r u' → va_P D vwCl (wR a cI P u') H1 → va_S (aR a) H0 H1 locs1 → W p l e R s m args below meth c H1 locs1 cells slots Q (F0 m (pc + 3) ls (.int r :: rest))) : W p l e R s m args below meth c H locs cells slots Q (F0 m pc ls st0) :=
  va_calli (va_runV F hM (ce_cV F.2.2.2.2 (ce_good hm.1) hm hrc.1 hrc.2 hl hi hR (ce_tl w0)) ⟨ce_blind, va_recv hK hP (ci := 1) (q0 := 0) rfl rfl, ce_at hP hK hN⟩ rfl hn hsz hst (lv_room hw) hdg hc) hS (fun _ _ h => h) (fun _ h => h) (fun r u1 t H1 locs1 ht _ hp hB _ _ hS1 => kk r u1 H1 locs1 hp (ht ▸ hB) hS1)
/-- and one that answers nothing -/
theorem ce_vv {post : RS → Prop} (F : CallFix p m c cc nL s args (w0 :: ce_W) own) (hM : Met l y (ce_ws y b maxL none) rm (ce_Pc D cI (.ref (a 0) :: As) (wR a cI P u)) (va_Qv post (fun u' t => va_P D vwCl (wR a cI P u') t.heap) (aR a)) 0 0 (aR a)) (hm : ce_M y b maxL none n) (hl : Cond.methodLink own index y ∈ ce_W) (hi : Cond.instanceMethod y ∈ ce_W ∧ Cond.selects RRn y y ∈ ce_W) (hR : rm.frames + 1 ≤ R.frames ∧ 8 + (maxL + 11) + rm.locals ≤ R.locals) (hrc : rm.cells = 0 ∧ rm.slots = 0) (hK : va_K D vwCl [(cI, .int)] s) (hN : ce_N s) (hP : va_P D vwCl (wR a cI P u) H) (hS : va_S (aR a) H0 H locs) (hn : As.length = n) (hsz : ls.size = nL) (hst : st0 = As.reverse ++ .ref (a 0) :: rest) (hw : (rest.map fun v => v.category).sum ≤ 8) (hdg : decode cc pc = .ok (.invokevirtual index, 3)) (hc : cells + 0 ≤ R.cells ∧ slots + 0 ≤ R.slots)
    (kk : ∀ (u' : RS) (H1 : Heap) (locs1 : List Loc), post u' → va_P D vwCl (wR a cI P u') H1 → va_S (aR a) H0 H1 locs1 → W p l e R s m args below meth c H1 locs1 cells slots Q (F0 m (pc + 3) ls rest)) : W p l e R s m args below meth c H locs cells slots Q (F0 m pc ls st0) :=
  va_callv (va_runV F hM (ce_cV F.2.2.2.2 (ce_good hm.1) hm hrc.1 hrc.2 hl hi hR (ce_tl w0)) ⟨ce_blind, va_recv hK hP (ci := 1) (q0 := 0) rfl rfl, ce_at hP hK hN⟩ rfl hn hsz hst (lv_room hw) hdg hc) hS (fun _ _ h => h) (fun _ h => h) (fun u1 t H1 locs1 ht _ hp hB _ _ hS1 => kk u1 H1 locs1 hp (ht ▸ hB) hS1)
/-- a call that only reads, of an object of any world -/
theorem ce_ri {ret : Option FieldType} {ws : va_W} {x ci : Nat} {r0 : vw_C} {fs : List Value} {post : Int32 → Prop} (F : CallFix p m c cc nL s args (w0 :: ce_W) own) (hM : Met l y (ce_ws y b maxL ret) rm (ce_Pc D cI (.ref x :: As) ws) (vp_Si post) 0 0 (fun _ => False)) (hm : ce_M y b maxL ret n) (hl : Cond.methodLink own index y ∈ ce_W) (hi : Cond.instanceMethod y ∈ ce_W ∧ Cond.selects r0.1 y y ∈ ce_W) (hR : rm.frames + 1 ≤ R.frames ∧ 8 + (maxL + 11) + rm.locals ≤ R.locals) (hrc : rm.cells = 0 ∧ rm.slots = 0) (hK : va_K D vwCl [(cI, .int)] s) (hN : ce_N s) (hP : va_P D vwCl ws H) (q0 : Nat) (hc0 : vwCl[ci]? = some r0) (he : ws[q0]? = some (x, .inr (ci, fs))) (hn : As.length = n) (hsz : ls.size = nL) (hst : st0 = As.reverse ++ .ref x :: rest) (hw : (rest.map fun v => v.category).sum ≤ 8) (hdg : decode cc pc = .ok (.invokevirtual index, 3)) (hc : cells + 0 ≤ R.cells ∧ slots + 0 ≤ R.slots)
    (kk : ∀ r : Int32, post r → W p l e R s m args below meth c H locs cells slots Q (F0 m (pc + 3) ls (.int r :: rest))) : W p l e R s m args below meth c H locs cells slots Q (F0 m pc ls st0) :=
  vp_callSi (va_runV F hM (ce_cV F.2.2.2.2 (ce_good hm.1) hm hrc.1 hrc.2 hl hi hR (ce_tl w0)) ⟨ce_blind, va_recv hK hP hc0 he, ce_at hP hK hN⟩ rfl hn hsz hst (lv_room hw) hdg hc).run kk
theorem ce_rl {ret : Option FieldType} {ws : va_W} {x ci : Nat} {r0 : vw_C} {fs : List Value} {post : Int64 → Prop} (F : CallFix p m c cc nL s args (w0 :: ce_W) own) (hM : Met l y (ce_ws y b maxL ret) rm (ce_Pc D cI (.ref x :: As) ws) (vp_Sl post) 0 0 (fun _ => False)) (hm : ce_M y b maxL ret n) (hl : Cond.methodLink own index y ∈ ce_W) (hi : Cond.instanceMethod y ∈ ce_W ∧ Cond.selects r0.1 y y ∈ ce_W) (hR : rm.frames + 1 ≤ R.frames ∧ 8 + (maxL + 11) + rm.locals ≤ R.locals) (hrc : rm.cells = 0 ∧ rm.slots = 0) (hK : va_K D vwCl [(cI, .int)] s) (hN : ce_N s) (hP : va_P D vwCl ws H) (q0 : Nat) (hc0 : vwCl[ci]? = some r0) (he : ws[q0]? = some (x, .inr (ci, fs))) (hn : As.length = n) (hsz : ls.size = nL) (hst : st0 = As.reverse ++ .ref x :: rest) (hw : (rest.map fun v => v.category).sum ≤ 8) (hdg : decode cc pc = .ok (.invokevirtual index, 3)) (hc : cells + 0 ≤ R.cells ∧ slots + 0 ≤ R.slots)
    (kk : ∀ r : Int64, post r → W p l e R s m args below meth c H locs cells slots Q (F0 m (pc + 3) ls (.long r :: rest))) : W p l e R s m args below meth c H locs cells slots Q (F0 m pc ls st0) :=
  vp_callSl (va_runV F hM (ce_cV F.2.2.2.2 (ce_good hm.1) hm hrc.1 hrc.2 hl hi hR (ce_tl w0)) ⟨ce_blind, va_recv hK hP hc0 he, ce_at hP hK hN⟩ rfl hn hsz hst (lv_room hw) hdg hc).run kk
/-- a static call that only counts -/
theorem ce_si {ret : Option FieldType} {ws : va_W} {post : Int32 → Prop} (F : CallFix p m c cc nL s args (w0 :: ce_W) own) (hM : Met l y (ce_ws y b maxL ret) rm (ce_Pc D cI As ws) (vp_Si post) 0 0 (fun _ => False)) (hm : ce_M y b maxL ret n) (hl : Cond.methodLink own index y ∈ ce_W) (hi : Cond.static y ∈ ce_W) (hR : rm.frames + 1 ≤ R.frames ∧ 8 + (maxL + 11) + rm.locals ≤ R.locals) (hrc : rm.cells = 0 ∧ rm.slots = 0) (hK : va_K D vwCl [(cI, .int)] s) (hN : ce_N s) (hP : va_P D vwCl ws H) (hn : As.length = n) (hsz : ls.size = nL) (hst : st0 = As.reverse ++ rest) (hw : (rest.map fun v => v.category).sum ≤ 8) (hdg : decode cc pc = .ok (.invokestatic index, 3)) (hc : cells + 0 ≤ R.cells ∧ slots + 0 ≤ R.slots)
    (kk : ∀ r : Int32, post r → W p l e R s m args below meth c H locs cells slots Q (F0 m (pc + 3) ls (.int r :: rest))) : W p l e R s m args below meth c H locs cells slots Q (F0 m pc ls st0) :=
  vp_callSi (va_runS F hM (ce_cS F.2.2.2.2 (ce_good hm.1) hm hrc.1 hrc.2 hl hi hR (ce_tl w0)) ⟨ce_blind, ce_at hP hK hN⟩ rfl hn hsz hst (lv_room hw) hdg hc).run kk
end CE3
