-- WORDS: one list for every method: those words of the tables that hold on through calls
def ce_ok (w : Cond) : Bool := (w.onTables && w.keeps) || (match w with
  | .arrayClass _ => true
  | _ => false)
def ce_W : List Cond := lw_tbl.filter ce_ok
theorem ce_okp {w : Cond} (h : ce_ok w = true) : (w.onTables && w.keeps) = true ∨ ∃ ty, w = .arrayClass ty := by
  unfold ce_ok at h
  rcases (Bool.or_eq_true _ _).mp h with h | h
  · exact Or.inl h
  · refine Or.inr ?_
    split at h
    · exact ⟨_, rfl⟩
    · cases h
theorem ce_in {w : Cond} (h : w ∈ lw_tbl) (hg : ce_ok w = true) : w ∈ ce_W := List.mem_filter.mpr ⟨h, hg⟩
theorem ce_good {w0 w1 : Cond} (h : w1 ∈ ce_W) : GoodIn (w0 :: ce_W) (w1 :: ce_W) := by
  intro w hw
  have hm : w ∈ ce_W := by
    rcases List.mem_cons.mp hw with e | e
    · rw [e]; exact h
    · exact e
  exact ⟨List.mem_cons_of_mem _ hm, ce_okp (List.mem_filter.mp hm).2⟩
theorem ce_goodL {w1 : Cond} (h : w1 ∈ ce_W) : GoodIn lw_tbl (w1 :: ce_W) := by
  intro w hw
  have hm : w ∈ ce_W := by
    rcases List.mem_cons.mp hw with e | e
    · rw [e]; exact h
    · exact e
  exact ⟨(List.mem_filter.mp hm).1, ce_okp (List.mem_filter.mp hm).2⟩
/-- rooms by height: h frames above this one, no cells -/
def ce_rm (h : Nat) : Room := { frames := h, cells := 0, slots := 0, locals := 30 * h }
/-- a method in the words that all share -/
def ce_M (y : MethodName) (b : ByteArray) (maxL : Nat) (ret : Option FieldType) (n : Nat) : Prop :=
  Cond.code y b maxL ret ∈ ce_W ∧ Cond.initialized y.cls ∈ ce_W ∧ (y.cls ≠ "java/lang/invoke/MethodHandle" ∧ y.cls ≠ "java/lang/invoke/VarHandle" ∧ (parseMethodDescriptor y.desc).map (fun d => d.parameters.length) = some n)
def ce_ws (y : MethodName) (b : ByteArray) (maxL : Nat) (ret : Option FieldType) : List Cond := Cond.code y b maxL ret :: ce_W
section CE1
variable {p : Program} {l : Launch} {e : Env} {R : Room} {s : State} {m : MethodId} {args : Array Value} {below : List Frame} {meth : Method} {c : Code} {H : Heap} {locs : List Loc} {cells slots : Nat} {Q : State → Prop}
variable {y : MethodName} {b : ByteArray} {maxL n mc ms index : Nat} {ret : Option FieldType} {own C : String} {rm : Room} {Ts : List Cond}
theorem ce_cB (hts : ∀ w ∈ Ts, w.before args s = true) (hG : GoodIn Ts (ce_ws y b maxL ret)) (hM : ce_M y b maxL ret n) (hrc : rm.cells = mc) (hrs : rm.slots = ms) (hl : Cond.methodLink own index y ∈ ce_W) (hR : rm.frames + 1 ≤ R.frames ∧ 8 + (maxL + 11) + rm.locals ≤ R.locals) (hin : ∀ w ∈ ce_W, w ∈ Ts) : CallB R s args own index y b maxL ret (ce_ws y b maxL ret) rm mc ms n :=
  callB_of n hts hG rfl hrc hrs (hts _ (hin _ hM.2.1)) (hts _ (hin _ hl)) hM.2.2 hR
theorem ce_cV (hts : ∀ w ∈ Ts, w.before args s = true) (hG : GoodIn Ts (ce_ws y b maxL ret)) (hM : ce_M y b maxL ret n) (hrc : rm.cells = mc) (hrs : rm.slots = ms) (hl : Cond.methodLink own index y ∈ ce_W) (hi : Cond.instanceMethod y ∈ ce_W ∧ Cond.selects C y y ∈ ce_W) (hR : rm.frames + 1 ≤ R.frames ∧ 8 + (maxL + 11) + rm.locals ≤ R.locals) (hin : ∀ w ∈ ce_W, w ∈ Ts) : CallW R s args own C index y b maxL ret (ce_ws y b maxL ret) rm mc ms n :=
  ⟨ce_cB hts hG hM hrc hrs hl hR hin, hts _ (hin _ hi.1), hts _ (hin _ hi.2)⟩
theorem ce_cS (hts : ∀ w ∈ Ts, w.before args s = true) (hG : GoodIn Ts (ce_ws y b maxL ret)) (hM : ce_M y b maxL ret n) (hrc : rm.cells = mc) (hrs : rm.slots = ms) (hl : Cond.methodLink own index y ∈ ce_W) (hi : Cond.static y ∈ ce_W) (hR : rm.frames + 1 ≤ R.frames ∧ 8 + (maxL + 11) + rm.locals ≤ R.locals) (hin : ∀ w ∈ ce_W, w ∈ Ts) : CallB R s args own index y b maxL ret (ce_ws y b maxL ret) rm mc ms n ∧ (Cond.static y).before args s = true :=
  ⟨ce_cB hts hG hM hrc hrs hl hR hin, hts _ (hin _ hi)⟩
theorem ce_cI (hts : ∀ w ∈ Ts, w.before args s = true) (hG : GoodIn Ts (ce_ws y b maxL none)) (hM : ce_M y b maxL none n) (hrc : rm.cells = mc) (hrs : rm.slots = ms) (hl : Cond.methodLink own index y ∈ ce_W) (hi : Cond.instanceMethod y ∈ ce_W) (hy1 : y.name = "<init>") (hR : rm.frames + 1 ≤ R.frames ∧ 8 + (maxL + 11) + rm.locals ≤ R.locals) (hin : ∀ w ∈ ce_W, w ∈ Ts) : CallB R s args own index y b maxL none (ce_ws y b maxL none) rm mc ms n ∧ y.name = "<init>" ∧ (Cond.instanceMethod y).before args s = true :=
  ⟨ce_cB hts hG hM hrc hrs hl hR hin, hy1, hts _ (hin _ hi)⟩
end CE1
theorem ce_tl (w0 : Cond) : ∀ w ∈ ce_W, w ∈ w0 :: ce_W := fun _ h => List.mem_cons_of_mem _ h
theorem ce_tbl : ∀ w ∈ ce_W, w ∈ lw_tbl := fun _ h => (List.mem_filter.mp h).1
-- WORLDS: addresses never change in a method that makes nothing
theorem ce_vc {cA : ClassId} {n : Nat} {f g : Nat → Int32} (h : ∀ j, j < n → f j = g j) : vp_cell cA (n, .inl f) = vp_cell cA (n, .inl g) := by
  rw [vp_cell_i, vp_cell_i]
  unfold arrV
  congr 2
  funext j
  exact congrArg Value.int (h j.val j.isLt)
theorem ce_D {A B : Nat → Prop} {ws ws' : va_W} (hD : va_D A ws) (e : ws.map Prod.fst = ws'.map Prod.fst) (hB : ∀ (k : Nat) (q : Nat × va_E), ws'[k]? = some q → B q.1) : va_D B ws' := by
  refine ⟨fun i j x y hi hj hxy => ?_, hB⟩
  have key : ∀ (k : Nat) (q : Nat × va_E), ws'[k]? = some q → ∃ q0, ws[k]? = some q0 ∧ q0.1 = q.1 := by
    intro k q hk
    have h1 : (ws.map Prod.fst)[k]? = some q.1 := by rw [e, List.getElem?_map, hk]; rfl
    rw [List.getElem?_map] at h1
    cases hw : ws[k]? with
    | none => rw [hw] at h1; cases h1
    | some q0 => rw [hw] at h1; exact ⟨q0, rfl, Option.some.inj h1⟩
  obtain ⟨x0, a1, a2⟩ := key i x hi
  obtain ⟨y0, b1, b2⟩ := key j y hj
  exact hD.1 i j x0 y0 a1 b1 (a2.trans (hxy.trans b2.symm))
