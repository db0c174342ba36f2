theorem wX_fst (b : Nat → Nat) (cI cP cR : ClassId) (E : XS) : (wX b cI cP cR E).map Prod.fst = (List.range 39).map b := rfl
theorem dDX {b : Nat → Nat} (h : dX b) (cI cP cR : ClassId) (E : XS) : va_D (aX b) (wX b cI cP cR E) := by
  have key : ∀ (k : Nat) (q : Nat × va_E), (wX b cI cP cR E)[k]? = some q → k < 39 ∧ q.1 = b k := by
    intro k q hk
    have h1 : ((wX b cI cP cR E).map Prod.fst)[k]? = some q.1 := by rw [List.getElem?_map, hk]; rfl
    rw [wX_fst, List.getElem?_map] at h1
    cases h2 : (List.range 39)[k]? with
    | none => rw [h2] at h1; cases h1
    | some j =>
      rw [h2] at h1
      obtain ⟨h4, h5⟩ := List.getElem?_eq_some_iff.mp h2
      rw [List.length_range] at h4
      rw [List.getElem_range] at h5
      subst h5
      exact ⟨h4, (Option.some.inj h1).symm⟩
  refine ⟨fun i j x y hi hj hxy => ?_, fun k q hk => ?_⟩
  · obtain ⟨h1, h2⟩ := key i x hi
    obtain ⟨h3, h4⟩ := key j y hj
    exact h i j h1 h3 (by rw [← h2, ← h4]; exact hxy)
  · obtain ⟨h1, h2⟩ := key k q hk
    exact ⟨k, h1, h2⟩
theorem cx_iX : ∀ w ∈ u_ws REx TEx 6, w ∈ ce_W := by decide +kernel
def tP (E : XS) (x : Nat → PR) : XS := (x, eU E, eC E, eR E, eT E, eB E)
def tU (E : XS) (x : Nat → RS) : XS := (eP E, x, eC E, eR E, eT E, eB E)
def tC (E : XS) (x : Int64) : XS := (eP E, eU E, x, eR E, eT E, eB E)
def tR (E : XS) (x : Int32) : XS := (eP E, eU E, eC E, x, eT E, eB E)
def tT (E : XS) (x : Int32) : XS := (eP E, eU E, eC E, eR E, x, eB E)
def tB (E : XS) (x : Int32) : XS := (eP E, eU E, eC E, eR E, eT E, x)
section CX1
variable {p : Program} {l : Launch} {e : Env} {R : Room} {s : State} {m : MethodId} {args : Array Value} {below : List Frame} {meth : Method} {c : Code} {H : Heap} {locs : List Loc} {cells slots : Nat} {Q : State → Prop}
variable {cc : ByteArray} {pc nL : Nat} {ls : Array Slot} {rest st0 : List Value} {D : va_G} {cI cP cR : ClassId} {b : Nat → Nat} {E : XS} {w0 : Cond} {H0 : Heap} {own : String} {index : Nat} {tys : List (ClassId × FieldType)}
theorem cx_g (hx : p.tables.exec = Jvm.exec) (hb : c.code = cc) (hts : ∀ w ∈ w0 :: ce_W, w.before args s = true) (hown : s.vm.findClass own = some m.cls) (hK : va_K D vwCl tys s) (hP : va_P D vwCl (wX b cI cP cR E) H) (k : Nat) (hk : k < 6) {v : Value} (hv : (xF b E)[k]? = some v) (hl : Cond.fieldLink own index REx (TEx k).2.1 (TEx k).2.2.1 ∈ ce_W) (hs : (TEx k).1 = REx) (hdg : decode cc pc = .ok (.getfield index, 3))
    (kk : W p l e R s m args below meth c H locs cells slots Q (F0 m (pc + 3) ls (v :: rest))) : W p l e R s m args below meth c H locs cells slots Q (F0 m pc ls (.ref (b 0) :: rest)) :=
  va_get (ci := 2) (C := REx) (T := TEx) (N := 6) hx hb hts (fun w h => List.mem_cons_of_mem _ (cx_iX w h)) hown hK hP 0 rfl rfl k hk (hts _ (List.mem_cons_of_mem _ hl)) (fun x h => by rw [hs] at h; exact h) hv hdg kk
theorem cx_pC {x : Int64} (hx : p.tables.exec = Jvm.exec) (hb : c.code = cc) (hts : ∀ w ∈ w0 :: ce_W, w.before args s = true) (hown : s.vm.findClass own = some m.cls) (hK : va_K D vwCl tys s) (hd : dX b) (hP : va_P D vwCl (wX b cI cP cR E) H) (hS : va_S (aX b) H0 H locs) (hl : Cond.fieldLink own index REx "theCounter" "J" ∈ ce_W) (hdg : decode cc pc = .ok (.putfield index, 3))
    (kk : ∀ (H1 : Heap) (locs1 : List Loc), va_P D vwCl (wX b cI cP cR (tC E x)) H1 → va_S (aX b) H0 H1 locs1 → W p l e R s m args below meth c H1 locs1 cells slots Q (F0 m (pc + 3) ls rest)) : W p l e R s m args below meth c H locs cells slots Q (F0 m pc ls (.long x :: .ref (b 0) :: rest)) :=
  va_put (ci := 2) (v := .long x) (ty := .long) (C := REx) (T := TEx) (N := 6) hx hb hts (fun w h => List.mem_cons_of_mem _ (cx_iX w h)) tyEx tyEx_ok nmEx hown hK hP (dDX hd cI cP cR E) hS 0 rfl rfl 2 (by decide) (hts _ (List.mem_cons_of_mem _ hl)) (fun _ h => h) rfl (by decide +kernel) rfl rfl (Nat.le_of_ble_eq_true rfl) hdg (fun H1 locs1 h1 _ h3 => kk H1 locs1 h1 h3)
theorem cx_pR {x : Int32} (hx : p.tables.exec = Jvm.exec) (hb : c.code = cc) (hts : ∀ w ∈ w0 :: ce_W, w.before args s = true) (hown : s.vm.findClass own = some m.cls) (hK : va_K D vwCl tys s) (hd : dX b) (hP : va_P D vwCl (wX b cI cP cR E) H) (hS : va_S (aX b) H0 H locs) (hl : Cond.fieldLink own index REx "runs" "I" ∈ ce_W) (hdg : decode cc pc = .ok (.putfield index, 3))
    (kk : ∀ (H1 : Heap) (locs1 : List Loc), va_P D vwCl (wX b cI cP cR (tR E x)) H1 → va_S (aX b) H0 H1 locs1 → W p l e R s m args below meth c H1 locs1 cells slots Q (F0 m (pc + 3) ls rest)) : W p l e R s m args below meth c H locs cells slots Q (F0 m pc ls (.int x :: .ref (b 0) :: rest)) :=
  va_put (ci := 2) (v := .int x) (ty := .int) (C := REx) (T := TEx) (N := 6) hx hb hts (fun w h => List.mem_cons_of_mem _ (cx_iX w h)) tyEx tyEx_ok nmEx hown hK hP (dDX hd cI cP cR E) hS 0 rfl rfl 3 (by decide) (hts _ (List.mem_cons_of_mem _ hl)) (fun _ h => h) rfl (by decide +kernel) rfl rfl (Nat.le_of_ble_eq_true rfl) hdg (fun H1 locs1 h1 _ h3 => kk H1 locs1 h1 h3)
theorem cx_pT {x : Int32} (hx : p.tables.exec = Jvm.exec) (hb : c.code = cc) (hts : ∀ w ∈ w0 :: ce_W, w.before args s = true) (hown : s.vm.findClass own = some m.cls) (hK : va_K D vwCl tys s) (hd : dX b) (hP : va_P D vwCl (wX b cI cP cR E) H) (hS : va_S (aX b) H0 H locs) (hl : Cond.fieldLink own index REx "threadRuns" "I" ∈ ce_W) (hdg : decode cc pc = .ok (.putfield index, 3))
    (kk : ∀ (H1 : Heap) (locs1 : List Loc), va_P D vwCl (wX b cI cP cR (tT E x)) H1 → va_S (aX b) H0 H1 locs1 → W p l e R s m args below meth c H1 locs1 cells slots Q (F0 m (pc + 3) ls rest)) : W p l e R s m args below meth c H locs cells slots Q (F0 m pc ls (.int x :: .ref (b 0) :: rest)) :=
  va_put (ci := 2) (v := .int x) (ty := .int) (C := REx) (T := TEx) (N := 6) hx hb hts (fun w h => List.mem_cons_of_mem _ (cx_iX w h)) tyEx tyEx_ok nmEx hown hK hP (dDX hd cI cP cR E) hS 0 rfl rfl 4 (by decide) (hts _ (List.mem_cons_of_mem _ hl)) (fun _ h => h) rfl (by decide +kernel) rfl rfl (Nat.le_of_ble_eq_true rfl) hdg (fun H1 locs1 h1 _ h3 => kk H1 locs1 h1 h3)
theorem cx_pB {x : Int32} (hx : p.tables.exec = Jvm.exec) (hb : c.code = cc) (hts : ∀ w ∈ w0 :: ce_W, w.before args s = true) (hown : s.vm.findClass own = some m.cls) (hK : va_K D vwCl tys s) (hd : dX b) (hP : va_P D vwCl (wX b cI cP cR E) H) (hS : va_S (aX b) H0 H locs) (hl : Cond.fieldLink own index REx "troubledRuns" "I" ∈ ce_W) (hdg : decode cc pc = .ok (.putfield index, 3))
    (kk : ∀ (H1 : Heap) (locs1 : List Loc), va_P D vwCl (wX b cI cP cR (tB E x)) H1 → va_S (aX b) H0 H1 locs1 → W p l e R s m args below meth c H1 locs1 cells slots Q (F0 m (pc + 3) ls rest)) : W p l e R s m args below meth c H locs cells slots Q (F0 m pc ls (.int x :: .ref (b 0) :: rest)) :=
  va_put (ci := 2) (v := .int x) (ty := .int) (C := REx) (T := TEx) (N := 6) hx hb hts (fun w h => List.mem_cons_of_mem _ (cx_iX w h)) tyEx tyEx_ok nmEx hown hK hP (dDX hd cI cP cR E) hS 0 rfl rfl 5 (by decide) (hts _ (List.mem_cons_of_mem _ hl)) (fun _ h => h) rfl (by decide +kernel) rfl rfl (Nat.le_of_ble_eq_true rfl) hdg (fun H1 locs1 h1 _ h3 => kk H1 locs1 h1 h3)
theorem cx_lP {j : Nat} (hj : j < 6) (hx : p.tables.exec = Jvm.exec) (hb : c.code = cc) (hK : va_K D vwCl [(cI, .int), (cP, .object RPg), (cR, .object RRn)] s) (hP : va_P D vwCl (wX b cI cP cR E) H) (hdg : decode cc pc = .ok (.aaload, 1))
    (kk : W p l e R s m args below meth c H locs cells slots Q (F0 m (pc + 1) ls (.ref (adr b j 1) :: rest))) : W p l e R s m args below meth c H locs cells slots Q (F0 m pc ls (.int (nI j) :: .ref (b 1) :: rest)) := by
  refine va_aldq (C := RPg) hx hb hK hP 1 1 rfl rfl (vp_in_nI hj (by decide)) hdg ?_
  have e1 : (nI j).toNatClampNeg = j := nI_clamp (by omega)
  show W p l e R s m args below meth c H locs cells slots Q (F0 m (pc + 1) ls (va_rf (some (adr b (nI j).toNatClampNeg 1)) :: rest))
  rw [e1]
  exact kk
theorem cx_lR {j : Nat} (hj : j < 6) (hx : p.tables.exec = Jvm.exec) (hb : c.code = cc) (hK : va_K D vwCl [(cI, .int), (cP, .object RPg), (cR, .object RRn)] s) (hP : va_P D vwCl (wX b cI cP cR E) H) (hdg : decode cc pc = .ok (.aaload, 1))
    (kk : W p l e R s m args below meth c H locs cells slots Q (F0 m (pc + 1) ls (.ref (adr b j 0) :: rest))) : W p l e R s m args below meth c H locs cells slots Q (F0 m pc ls (.int (nI j) :: .ref (b 2) :: rest)) := by
  refine va_aldq (C := RRn) hx hb hK hP 2 2 rfl rfl (vp_in_nI hj (by decide)) hdg ?_
  have e1 : (nI j).toNatClampNeg = j := nI_clamp (by omega)
  show W p l e R s m args below meth c H locs cells slots Q (F0 m (pc + 1) ls (va_rf (some (adr b (nI j).toNatClampNeg 0)) :: rest))
  rw [e1]
  exact kk
end CX1
