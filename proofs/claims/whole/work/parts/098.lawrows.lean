section LW1
variable {p : Program} {l : Launch} {e : Env} {R : Room} {s : State} {m : MethodId} {args : Array Value} {below : List Frame} {meth : Method} {c : Code} {H H1 : Heap} {locs : List Loc} {cells slots : Nat} {Q : State → Prop}
variable {cc : ByteArray} {pc nL : Nat} {ls : Array Slot} {rest st0 : List Value} {D : va_G} {cI cP cR cZ : ClassId} {a b : Nat → Nat} {E : XS} {g : MS} {H0 : Heap} {own : String} {index : Nat} {A : Nat → Prop}
variable {y : MethodName} {bb : ByteArray} {maxL n : Nat} {rm : Room} {As : List Value}
theorem lx_vi {post : Int32 → XS → Prop} (F : CallFix p m c cc nL s args lw_tbl own) (hM : Met l y (ce_ws y bb maxL (some .int)) rm (cx_Pc D cI cP cR (.ref (b 0) :: As) (wX b cI cP cR E)) (va_Qi post (fun v2 t => va_P D vwCl (wX b cI cP cR v2) t.heap) (aX b)) 0 0 (aX b)) (hm : ce_M y bb maxL (some .int) n) (hl : Cond.methodLink own index y ∈ ce_W) (hi : Cond.instanceMethod y ∈ ce_W ∧ Cond.selects REx y y ∈ ce_W) (hR : rm.frames + 1 ≤ R.frames ∧ 8 + (maxL + 11) + rm.locals ≤ R.locals) (hrc : rm.cells = 0 ∧ rm.slots = 0) (hK : va_K D vwCl [(cI, .int), (cP, .object RPg), (cR, .object RRn)] s) (hN : ce_N s) (hP : va_P D vwCl (wX b cI cP cR E) H) (hX : ∀ q, aX b q → A q) (hS : va_S A H0 H locs) (hn : As.length = n) (hsz : ls.size = nL) (hst : st0 = As.reverse ++ .ref (b 0) :: rest) (hw : (rest.map fun v => v.category).sum ≤ 8) (hdg : decode cc pc = .ok (.invokevirtual index, 3)) (hc : cells + 0 ≤ R.cells ∧ slots + 0 ≤ R.slots)
    (kk : ∀ (r : Int32) (v2 : XS) (H1 : Heap) (locs1 : List Loc), post r v2 → va_P D vwCl (wX b cI cP cR v2) H1 → (∀ q : Nat, q < H.size → ¬ aX b q → H1[q]? = H[q]?) → va_S A H0 H1 locs1 → W p l e R s m args below meth c H1 locs1 cells slots Q (F0 m (pc + 3) ls (.int r :: rest))) : W p l e R s m args below meth c H locs cells slots Q (F0 m pc ls st0) :=
  va_calli (va_runV F hM (ce_cV F.2.2.2.2 (ce_goodL hm.1) hm hrc.1 hrc.2 hl hi hR ce_tbl) ⟨cx_blind, va_recv hK hP (ci := 2) (q0 := 0) rfl rfl, cx_at hP hK hN⟩ rfl hn hsz hst (lv_room hw) hdg hc) hS (fun q _ h => hX q h) hX (fun r u1 t H1 locs1 ht _ hp hB _ hk hS1 => kk r u1 H1 locs1 hp (ht ▸ hB) hk hS1)
theorem lx_ri {post : Int32 → Prop} (F : CallFix p m c cc nL s args lw_tbl own) (hM : Met l y (ce_ws y bb maxL (some .int)) rm (cx_Pc D cI cP cR (.ref (b 0) :: As) (wX b cI cP cR E)) (vp_Si post) 0 0 (fun _ => False)) (hm : ce_M y bb maxL (some .int) n) (hl : Cond.methodLink own index y ∈ ce_W) (hi : Cond.instanceMethod y ∈ ce_W ∧ Cond.selects REx y y ∈ ce_W) (hR : rm.frames + 1 ≤ R.frames ∧ 8 + (maxL + 11) + rm.locals ≤ R.locals) (hrc : rm.cells = 0 ∧ rm.slots = 0) (hK : va_K D vwCl [(cI, .int), (cP, .object RPg), (cR, .object RRn)] s) (hN : ce_N s) (hP : va_P D vwCl (wX b cI cP cR E) H) (hn : As.length = n) (hsz : ls.size = nL) (hst : st0 = As.reverse ++ .ref (b 0) :: rest) (hw : (rest.map fun v => v.category).sum ≤ 8) (hdg : decode cc pc = .ok (.invokevirtual index, 3)) (hc : cells + 0 ≤ R.cells ∧ slots + 0 ≤ R.slots)
    (kk : ∀ r : Int32, post r → W p l e R s m args below meth c H locs cells slots Q (F0 m (pc + 3) ls (.int r :: rest))) : W p l e R s m args below meth c H locs cells slots Q (F0 m pc ls st0) :=
  vp_callSi (va_runV F hM (ce_cV F.2.2.2.2 (ce_goodL hm.1) hm hrc.1 hrc.2 hl hi hR ce_tbl) ⟨cx_blind, va_recv hK hP (ci := 2) (q0 := 0) rfl rfl, cx_at hP hK hN⟩ rfl hn hsz hst (lv_room hw) hdg hc).run kk
theorem lx_rl {post : Int64 → Prop} (F : CallFix p m c cc nL s args lw_tbl own) (hM : Met l y (ce_ws y bb maxL (some .long)) rm (cx_Pc D cI cP cR (.ref (b 0) :: As) (wX b cI cP cR E)) (vp_Sl post) 0 0 (fun _ => False)) (hm : ce_M y bb maxL (some .long) n) (hl : Cond.methodLink own index y ∈ ce_W) (hi : Cond.instanceMethod y ∈ ce_W ∧ Cond.selects REx y y ∈ ce_W) (hR : rm.frames + 1 ≤ R.frames ∧ 8 + (maxL + 11) + rm.locals ≤ R.locals) (hrc : rm.cells = 0 ∧ rm.slots = 0) (hK : va_K D vwCl [(cI, .int), (cP, .object RPg), (cR, .object RRn)] s) (hN : ce_N s) (hP : va_P D vwCl (wX b cI cP cR E) H) (hn : As.length = n) (hsz : ls.size = nL) (hst : st0 = As.reverse ++ .ref (b 0) :: rest) (hw : (rest.map fun v => v.category).sum ≤ 8) (hdg : decode cc pc = .ok (.invokevirtual index, 3)) (hc : cells + 0 ≤ R.cells ∧ slots + 0 ≤ R.slots)
    (kk : ∀ r : Int64, post r → W p l e R s m args below meth c H locs cells slots Q (F0 m (pc + 3) ls (.long r :: rest))) : W p l e R s m args below meth c H locs cells slots Q (F0 m pc ls st0) :=
  vp_callSl (va_runV F hM (ce_cV F.2.2.2.2 (ce_goodL hm.1) hm hrc.1 hrc.2 hl hi hR ce_tbl) ⟨cx_blind, va_recv hK hP (ci := 2) (q0 := 0) rfl rfl, cx_at hP hK hN⟩ rfl hn hsz hst (lv_room hw) hdg hc).run kk
theorem lm_vi {post : Int32 → MS → Prop} (F : CallFix p m c cc nL s args lw_tbl own) (hM : Met l y (ce_ws y bb maxL (some .int)) rm (cm_Pc D cI cZ (.ref (a 0) :: As) (wM a cI cZ g)) (va_Qi post (fun v2 t => va_P D vwCl (wM a cI cZ v2) t.heap) (aM a)) 0 0 (aM a)) (hm : ce_M y bb maxL (some .int) n) (hl : Cond.methodLink own index y ∈ ce_W) (hi : Cond.instanceMethod y ∈ ce_W ∧ Cond.selects RMd y y ∈ ce_W) (hR : rm.frames + 1 ≤ R.frames ∧ 8 + (maxL + 11) + rm.locals ≤ R.locals) (hrc : rm.cells = 0 ∧ rm.slots = 0) (hK : va_K D vwCl [(cI, .int), (cZ, .boolean)] s) (hP : va_P D vwCl (wM a cI cZ g) H) (hX : ∀ q, aM a q → A q) (hS : va_S A H0 H locs) (hn : As.length = n) (hsz : ls.size = nL) (hst : st0 = As.reverse ++ .ref (a 0) :: rest) (hw : (rest.map fun v => v.category).sum ≤ 8) (hdg : decode cc pc = .ok (.invokevirtual index, 3)) (hc : cells + 0 ≤ R.cells ∧ slots + 0 ≤ R.slots)
    (kk : ∀ (r : Int32) (v2 : MS) (H1 : Heap) (locs1 : List Loc), post r v2 → va_P D vwCl (wM a cI cZ v2) H1 → (∀ q : Nat, q < H.size → ¬ aM a q → H1[q]? = H[q]?) → va_S A H0 H1 locs1 → W p l e R s m args below meth c H1 locs1 cells slots Q (F0 m (pc + 3) ls (.int r :: rest))) : W p l e R s m args below meth c H locs cells slots Q (F0 m pc ls st0) :=
  va_calli (va_runV F hM (ce_cV F.2.2.2.2 (ce_goodL hm.1) hm hrc.1 hrc.2 hl hi hR ce_tbl) ⟨cm_blind, va_recv hK hP (ci := 3) (q0 := 0) rfl rfl, cm_at hP hK⟩ rfl hn hsz hst (lv_room hw) hdg hc) hS (fun q _ h => hX q h) hX (fun r u1 t H1 locs1 ht _ hp hB _ hk hS1 => kk r u1 H1 locs1 hp (ht ▸ hB) hk hS1)
theorem lm_ri {post : Int32 → Prop} (F : CallFix p m c cc nL s args lw_tbl own) (hM : Met l y (ce_ws y bb maxL (some .int)) rm (cm_Pc D cI cZ (.ref (a 0) :: As) (wM a cI cZ g)) (vp_Si post) 0 0 (fun _ => False)) (hm : ce_M y bb maxL (some .int) n) (hl : Cond.methodLink own index y ∈ ce_W) (hi : Cond.instanceMethod y ∈ ce_W ∧ Cond.selects RMd y y ∈ ce_W) (hR : rm.frames + 1 ≤ R.frames ∧ 8 + (maxL + 11) + rm.locals ≤ R.locals) (hrc : rm.cells = 0 ∧ rm.slots = 0) (hK : va_K D vwCl [(cI, .int), (cZ, .boolean)] s) (hP : va_P D vwCl (wM a cI cZ g) H) (hn : As.length = n) (hsz : ls.size = nL) (hst : st0 = As.reverse ++ .ref (a 0) :: rest) (hw : (rest.map fun v => v.category).sum ≤ 8) (hdg : decode cc pc = .ok (.invokevirtual index, 3)) (hc : cells + 0 ≤ R.cells ∧ slots + 0 ≤ R.slots)
    (kk : ∀ r : Int32, post r → W p l e R s m args below meth c H locs cells slots Q (F0 m (pc + 3) ls (.int r :: rest))) : W p l e R s m args below meth c H locs cells slots Q (F0 m pc ls st0) :=
  vp_callSi (va_runV F hM (ce_cV F.2.2.2.2 (ce_goodL hm.1) hm hrc.1 hrc.2 hl hi hR ce_tbl) ⟨cm_blind, va_recv hK hP (ci := 3) (q0 := 0) rfl rfl, cm_at hP hK⟩ rfl hn hsz hst (lv_room hw) hdg hc).run kk
theorem lm_rl {post : Int64 → Prop} (F : CallFix p m c cc nL s args lw_tbl own) (hM : Met l y (ce_ws y bb maxL (some .long)) rm (cm_Pc D cI cZ (.ref (a 0) :: As) (wM a cI cZ g)) (vp_Sl post) 0 0 (fun _ => False)) (hm : ce_M y bb maxL (some .long) n) (hl : Cond.methodLink own index y ∈ ce_W) (hi : Cond.instanceMethod y ∈ ce_W ∧ Cond.selects RMd y y ∈ ce_W) (hR : rm.frames + 1 ≤ R.frames ∧ 8 + (maxL + 11) + rm.locals ≤ R.locals) (hrc : rm.cells = 0 ∧ rm.slots = 0) (hK : va_K D vwCl [(cI, .int), (cZ, .boolean)] s) (hP : va_P D vwCl (wM a cI cZ g) H) (hn : As.length = n) (hsz : ls.size = nL) (hst : st0 = As.reverse ++ .ref (a 0) :: rest) (hw : (rest.map fun v => v.category).sum ≤ 8) (hdg : decode cc pc = .ok (.invokevirtual index, 3)) (hc : cells + 0 ≤ R.cells ∧ slots + 0 ≤ R.slots)
    (kk : ∀ r : Int64, post r → W p l e R s m args below meth c H locs cells slots Q (F0 m (pc + 3) ls (.long r :: rest))) : W p l e R s m args below meth c H locs cells slots Q (F0 m pc ls st0) :=
  vp_callSl (va_runV F hM (ce_cV F.2.2.2.2 (ce_goodL hm.1) hm hrc.1 hrc.2 hl hi hR ce_tbl) ⟨cm_blind, va_recv hK hP (ci := 3) (q0 := 0) rfl rfl, cm_at hP hK⟩ rfl hn hsz hst (lv_room hw) hdg hc).run kk
end LW1
def apart (a b : Nat → Nat) : Prop := ∀ i j, i < 39 → j < 12 → b i ≠ a j
theorem kept_M {D : va_G} {cI cZ : ClassId} {a b : Nat → Nat} {g : MS} {H H1 : Heap} (hdM : dM a) (hba : apart a b) (hP : va_P D vwCl (wM a cI cZ g) H) (hk : ∀ q : Nat, q < H.size → ¬ aX b q → H1[q]? = H[q]?) : va_P D vwCl (wM a cI cZ g) H1 := by
  refine hP.kept (fun k q hq => hk q.1 (hP k q hq).lt ?_)
  rintro ⟨i, hi, e⟩
  obtain ⟨j, hj, e2⟩ := (dDM hdM cI cZ g).2 k q hq
  exact hba i j hi hj (e.symm.trans e2)
theorem kept_X {D : va_G} {cI cP cR : ClassId} {a b : Nat → Nat} {E : XS} {H H1 : Heap} (hd : dX b) (hba : apart a b) (hP : va_P D vwCl (wX b cI cP cR E) H) (hk : ∀ q : Nat, q < H.size → ¬ aM a q → H1[q]? = H[q]?) : va_P D vwCl (wX b cI cP cR E) H1 := by
  refine hP.kept (fun k q hq => hk q.1 (hP k q hq).lt ?_)
  rintro ⟨j, hj, e⟩
  obtain ⟨i, hi, e2⟩ := (dDX hd cI cP cR E).2 k q hq
  exact hba i j hi hj (e2.symm.trans e)
theorem lcmp0 {x y : Int64} (h : y = x) : lg_cmp x y = 0 := by
  subst h
  unfold lg_cmp
  rw [if_neg (fun h => Int64.lt_irrefl h), if_pos rfl]
theorem w_and7 (x : Int32) : ∃ k, k < 8 ∧ x &&& 7 = nI k := by
  refine ⟨x.toBitVec.toNat % 8, Nat.mod_lt _ (by omega), ?_⟩
  apply Int32.toBitVec_inj.1
  show x.toBitVec &&& 7#32 = BitVec.ofNat 32 (x.toBitVec.toNat % 8)
  apply BitVec.eq_of_toNat_eq
  rw [BitVec.toNat_and, BitVec.toNat_ofNat, BitVec.toNat_ofNat, show (7 % 2 ^ 32 : Nat) = 2 ^ 3 - 1 from rfl, Nat.and_two_pow_sub_one_eq_mod]
  omega
theorem lw_in4 {L i : Nat} (hL : L ≤ 2048) (hi : i ≤ L) (h : ¬ nI i > nI L - 4) : i + 4 ≤ L := by
  refine Nat.le_of_not_lt (fun q => h ?_)
  show nI L - 4 < nI i
  rw [Int32.lt_iff_toInt_lt]
  have e : (nI L - nI 4).toInt = (L : Int) - (4 : Nat) := pk_sub_toInt (by omega) (by decide)
  have e2 : (nI i).toInt = i := Int32.toInt_ofNat_of_lt (by omega)
  have e3 : (nI L - 4).toInt = (L : Int) - (4 : Nat) := e
  rw [e3, e2]
  omega
