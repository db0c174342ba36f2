theorem va_RAO {args : Array Value} {s : State} {C : String} (h : (Cond.arrayOver (.object C)).before args s = true) : ∃ cA : ClassId, ArrOfT s cA (.object C) ∧ va_RA s cA (.object C) := by
  obtain ⟨comp, c, k, h1, h2, h3, h4, h5⟩ := Cond.arrayOver_spec h
  exact ⟨c, fun n z => ⟨fun k h => (by cases h), k, h3, comp, h4⟩, k, comp, h3, h4, h1, h5⟩
section CN2
variable {p : Program} {l : Launch} {e : Env} {R : Room} {s : State} {m : MethodId} {args : Array Value} {below : List Frame} {meth : Method} {c : Code} {H : Heap} {locs : List Loc} {cells slots : Nat} {Q : State → Prop}
variable {cc : ByteArray} {pc : Nat} {ls : Array Slot} {rest : List Value} {D : va_G} {cl : List vw_C} {A : Nat → Prop} {tys : List (ClassId × FieldType)} {ws : va_W} {H0 : Heap}
/-- a new array of references, of the kind that the tables name -/
theorem cn_newq (hexec : p.tables.exec = Jvm.exec) (hb : c.code = cc) {own C : String} {index : Nat} (hown : s.vm.findClass own = some m.cls) (hclink : (Cond.classLink own index C).before args s = true) (hover : va_AO C s) (hK : va_K D cl tys s) (t0 : Nat) {cP : ClassId} (ht : tys[t0]? = some (cP, .object C)) (hP : va_P D cl ws H) (hD : va_D A ws) (hS : va_S A H0 H locs) (hA : ∀ q, H0.size ≤ q → A q)
    {n : Int32} {N' : Nat} (hn : ¬ n < 0) (hN : n.toNatClampNeg = N') (hbytes : N' * 4 ≤ 536870912) (hcells : cells + 1 ≤ R.cells) (hslots : slots + N' ≤ R.slots) (hdg : decode cc pc = .ok (.anewarray index, 3))
    (kk : ∀ (q : Nat) (H1 : Heap), va_P D cl (ws ++ [(q, .inl (cP, N', .inr (.inr (.inr (.inr (fun _ => none))))))]) H1 → va_D A (ws ++ [(q, .inl (cP, N', .inr (.inr (.inr (.inr (fun _ => none))))))]) → va_S A H0 H1 locs →
      W p l e R s m args below meth c H1 locs (cells + 1) (slots + N') Q (F0 m (pc + 3) ls (.ref q :: rest))) : W p l e R s m args below meth c H locs cells slots Q (F0 m pc ls (.int n :: rest)) := by
  refine va_newq hexec hb hown hclink hover hK hP hD hS hA hn hN hbytes hcells hslots hdg (fun q cA H1 hK1 hP1 hD1 hS1 => ?_)
  obtain ⟨_, _, _, _, _, e1⟩ := (hK.2 t0 _ ht).2
  obtain ⟨_, _, _, _, _, e2⟩ := (hK1.2 tys.length (cA, .object C) (by rw [List.getElem?_append_right (Nat.le_refl _), Nat.sub_self]; rfl)).2
  obtain rfl : cA = cP := Option.some.inj (e2.symm.trans e1)
  exact kk q H1 hP1 hD1 hS1
end CN2
theorem ci_blind {D : va_G} {cI : ClassId} {av : List Value} {ws : va_W} {sz : Nat} : FrameBlind (va_Pc av (fun U => U.heap.size = sz ∧ va_P D vwCl ws U.heap ∧ va_K D vwCl [(cI, .int)] U)) := fun a U g mk q => ⟨q.1, q.2.1, q.2.2.1, va_K.moved (u := U) (U := U.calling g mk a) (Vm.Alike.refl U.vm) q.2.2.2⟩
theorem ci_at {D : va_G} {cI : ClassId} {av : List Value} {ws : va_W} {s : State} {H : Heap} (hP : va_P D vwCl ws H) (hK : va_K D vwCl [(cI, .int)] s) : ∀ U : State, U.heap = H → s.WarmedH U.vm → va_Pc av (fun U => U.heap.size = H.size ∧ va_P D vwCl ws U.heap ∧ va_K D vwCl [(cI, .int)] U) av.toArray U := fun U hU hW => ⟨rfl, by rw [hU], by rw [hU]; exact hP, va_K.moved hW.alike hK⟩
theorem fr1 {A : Nat → Prop} {q sz : Nat} {v : va_E} (h1 : A q) (h2 : ∀ x, sz ≤ x → A x) : ∀ x, va_A [(q, v)] sz x → A x := by
  rintro x (⟨k, e9, hk⟩ | h)
  · match k, hk with
    | 0, hk =>
      have e0 : q = x := congrArg Prod.fst (Option.some.inj hk)
      exact e0 ▸ h1
    | k + 1, hk => simp at hk
  · exact h2 x h
theorem d3 {q x y sz : Nat} {v v1 v2 v3 : va_E} (hq : q < sz) (h1 : sz ≤ x) (h2 : sz ≤ y) (h3 : x ≠ y) : va_D (va_A [(q, v)] sz) [(q, v1), (x, v2), (y, v3)] := by
  refine ⟨fun i j p r hi hj e => ?_, fun k p hk => ?_⟩
  · match i, j, hi, hj with
    | 0, 0, _, _ => rfl
    | 1, 1, _, _ => rfl
    | 2, 2, _, _ => rfl
    | 0, 1, hi, hj => cases hi; cases hj; have e : q = x := e; omega
    | 0, 2, hi, hj => cases hi; cases hj; have e : q = y := e; omega
    | 1, 0, hi, hj => cases hi; cases hj; have e : x = q := e; omega
    | 1, 2, hi, hj => cases hi; cases hj; exact absurd e h3
    | 2, 0, hi, hj => cases hi; cases hj; have e : y = q := e; omega
    | 2, 1, hi, hj => cases hi; cases hj; exact absurd e.symm h3
    | i + 3, _, hi, _ => simp at hi
    | 0, j + 3, _, hj => simp at hj
    | 1, j + 3, _, hj => simp at hj
    | 2, j + 3, _, hj => simp at hj
  · match k, hk with
    | 0, hk => cases hk; exact Or.inl ⟨0, v, rfl⟩
    | 1, hk => cases hk; exact Or.inr h1
    | 2, hk => cases hk; exact Or.inr h2
    | k + 3, hk => simp at hk
def P00 : PR := (fun _ => 0, fun _ => 0, 0)
def u00 : RS := mkR (fun _ => 0) (fun _ => 0) false 0 0 0 0 0 false 0 0 0 0
def E00 : XS := (fun _ => P00, fun _ => u00, 0, 0, 0, 0)
def wB (g : Nat → Nat → Nat) (cI : ClassId) : Nat → va_W
  | 0 => []
  | n + 1 => wB g cI n ++ wR (g n) cI P00 u00
theorem wB_congr {g g2 : Nat → Nat → Nat} {cI : ClassId} (n : Nat) (h : ∀ i, i < n → g i = g2 i) : wB g cI n = wB g2 cI n := by
  induction n with
  | zero => rfl
  | succ n ih =>
    show wB g cI n ++ wR (g n) cI P00 u00 = wB g2 cI n ++ wR (g2 n) cI P00 u00
    rw [ih (fun i hi => h i (by omega)), h n (by omega)]
def bOf (h0 b1 b2 : Nat) (g : Nat → Nat → Nat) : Nat → Nat
  | 0 => h0
  | 1 => b1
  | 2 => b2
  | n + 3 => g (n / 6) (n % 6)
theorem adr_bOf {h0 b1 b2 : Nat} {g : Nat → Nat → Nat} (j k : Nat) (hk : k < 6) : adr (bOf h0 b1 b2 g) j k = g j k := by
  unfold adr
  have e : 3 + 6 * j + k = (6 * j + k) + 3 := by omega
  rw [e]
  show g ((6 * j + k) / 6) ((6 * j + k) % 6) = g j k
  rw [show (6 * j + k) / 6 = j by omega, show (6 * j + k) % 6 = k by omega]
theorem wR_congr {a a2 : Nat → Nat} {cI : ClassId} {P : PR} {u : RS} (h : ∀ k, k < 6 → a k = a2 k) : wR a cI P u = wR a2 cI P u := by
  unfold wR rF
  rw [h 0 (by decide), h 1 (by decide), h 2 (by decide), h 3 (by decide), h 4 (by decide), h 5 (by decide)]
theorem wAll_wB {h0 b1 b2 : Nat} {g : Nat → Nat → Nat} {cI : ClassId} (n : Nat) : wAll (bOf h0 b1 b2 g) cI E00 n = wB g cI n := by
  induction n with
  | zero => rfl
  | succ n ih =>
    show wAll (bOf h0 b1 b2 g) cI E00 n ++ wR (adr (bOf h0 b1 b2 g) n) cI P00 u00 = wB g cI n ++ wR (g n) cI P00 u00
    rw [ih, wR_congr (adr_bOf n)]
def cX0 (h0 b1 b2 : Nat) (cP cR : ClassId) (fP fR : Nat → Option Nat) : va_W := [(h0, .inr (2, [.ref b1, .ref b2, .long 0, .int 0, .int 0, .int 0])), (b1, .inl (cP, 6, .inr (.inr (.inr (.inr fP))))), (b2, .inl (cR, 6, .inr (.inr (.inr (.inr fR)))))]
theorem vq_ext {cA : ClassId} {n : Nat} {f g : Nat → Option Nat} (h : ∀ j, j < n → f j = g j) : vp_cell cA (n, .inr (.inr (.inr (.inr f)))) = vp_cell cA (n, .inr (.inr (.inr (.inr g)))) := by
  rw [vp_cell_q, vp_cell_q]
  unfold arrV
  congr 2
  funext j
  exact congrArg va_rf (h j.val j.isLt)
theorem wX_made {D : va_G} {h0 b1 b2 : Nat} {g : Nat → Nat → Nat} {cI cP cR : ClassId} {fP fR : Nat → Option Nat} {H : Heap} (h1 : ∀ i, i < 6 → fP i = some (g i 1)) (h2 : ∀ i, i < 6 → fR i = some (g i 0)) (hP : va_P D vwCl (cX0 h0 b1 b2 cP cR fP fR ++ wB g cI 6) H) : va_P D vwCl (wX (bOf h0 b1 b2 g) cI cP cR E00) H := by
  unfold wX
  rw [wAll_wB]
  intro k q hk
  match k, hk with
  | 0, hk => exact hP 0 q hk
  | 1, hk =>
    cases hk
    exact (hP 1 _ rfl).trans (congrArg some (vq_ext (fun j hj => (h1 j hj).trans (congrArg some (adr_bOf j 1 (by decide)).symm))))
  | 2, hk =>
    cases hk
    exact (hP 2 _ rfl).trans (congrArg some (vq_ext (fun j hj => (h2 j hj).trans (congrArg some (adr_bOf j 0 (by decide)).symm))))
  | k + 3, hk => exact hP (k + 3) q hk
theorem dX_made {A : Nat → Prop} {h0 b1 b2 : Nat} {g : Nat → Nat → Nat} {cI cP cR : ClassId} {fP fR : Nat → Option Nat} (hD : va_D A (cX0 h0 b1 b2 cP cR fP fR ++ wB g cI 6)) : dX (bOf h0 b1 b2 g) ∧ ∀ i, i < 39 → A (bOf h0 b1 b2 g i) := by
  have e : (cX0 h0 b1 b2 cP cR fP fR ++ wB g cI 6).map Prod.fst = (List.range 39).map (bOf h0 b1 b2 g) := rfl
  have key : ∀ i, i < 39 → ∃ x : Nat × va_E, (cX0 h0 b1 b2 cP cR fP fR ++ wB g cI 6)[i]? = some x ∧ x.1 = bOf h0 b1 b2 g i := by
    intro i hi
    have h1 : ((cX0 h0 b1 b2 cP cR fP fR ++ wB g cI 6).map Prod.fst)[i]? = some (bOf h0 b1 b2 g i) := by
      rw [e, List.getElem?_map, List.getElem?_range hi]
      rfl
    rw [List.getElem?_map] at h1
    cases hx : (cX0 h0 b1 b2 cP cR fP fR ++ wB g cI 6)[i]? with
    | none => rw [hx] at h1; cases h1
    | some x => rw [hx] at h1; exact ⟨x, rfl, Option.some.inj h1⟩
  refine ⟨fun i j hi hj hij => ?_, fun i hi => ?_⟩
  · obtain ⟨x, x1, x2⟩ := key i hi
    obtain ⟨y, y1, y2⟩ := key j hj
    exact hD.1 i j x y x1 y1 (x2.trans (hij.trans y2.symm))
  · obtain ⟨x, x1, x2⟩ := key i hi
    rw [← x2]
    exact hD.2 i x x1
def exPc (D : va_G) (cI cP cR : ClassId) (h0 sz : Nat) : Array Value → State → Prop := va_Pc [.ref h0] (fun U => U.heap.size = sz ∧ va_P D vwCl [(h0, .inr (2, [.null, .null, .long 0, .int 0, .int 0, .int 0]))] U.heap ∧ va_K D vwCl [(cI, .int), (cP, .object RPg), (cR, .object RRn)] U ∧ va_AO RPg U ∧ va_AO RRn U ∧ va_Nw (.methodLinkNest REx 21 yPg_init "CaseExecutor") U)
theorem dvPg : ∀ j, j < 3 → defaultValue (tyPg j) = vp_V [.null, .null, .int 0] j := by
  intro j hj
  rcases (show j = 0 ∨ j = 1 ∨ j = 2 by omega) with rfl | rfl | rfl <;> rfl
theorem dvRn : ∀ j, j < 14 → defaultValue (tyRn j) = vp_V [.null, .null, .null, .int 0, .int 0, .int 0, .int 0, .int 0, .int 0, .int 0, .long 0, .int 0, .int 0, .int 0] j := by
  intro j hj
  rcases (show j = 0 ∨ j = 1 ∨ j = 2 ∨ j = 3 ∨ j = 4 ∨ j = 5 ∨ j = 6 ∨ j = 7 ∨ j = 8 ∨ j = 9 ∨ j = 10 ∨ j = 11 ∨ j = 12 ∨ j = 13 by omega) with rfl | rfl | rfl | rfl | rfl | rfl | rfl | rfl | rfl | rfl | rfl | rfl | rfl | rfl <;> rfl
set_option maxHeartbeats 8000000 in
set_option maxRecDepth 100000 in
theorem c_Ex_init (l : Launch) (D : va_G) (cI cP cR : ClassId) (h0 sz : Nat) : Met l yEx_init (ce_ws yEx_init cEx_init 2 none) ({ frames := 2, cells := 38, slots := 342, locals := 60 } : Room) (exPc D cI cP cR h0 sz) (va_Qv (fun b : Nat → Nat => b 0 = h0 ∧ dX b ∧ ∀ i, 1 ≤ i → i < 39 → sz ≤ b i) (fun b t => va_P D vwCl (wX b cI cP cR E00) t.heap) (va_A [(h0, .inr (2, [.null, .null, .long 0, .int 0, .int 0, .int 0]))] sz)) 38 342 (va_A [(h0, .inr (2, [.null, .null, .long 0, .int 0, .int 0, .int 0]))] sz) := by
  refine Met.ofW (cc := cEx_init) (maxL := 2) (ret := none) (by decide) rfl ?_
  intro p e s m args below meth c s₁ B hml hv
  obtain ⟨rfl, hsz, hP, hK, hOP, hOR, hNe⟩ := hv
  have hx := B.exec
  have hb := B.bytes
  have hr := B.returns
  have hts := atoms_spec (ws := ce_ws yEx_init cEx_init 2 none) B.pre
  have hown : s.vm.findClass REx = some m.cls := findClass_of_methodNamed B.named
  have hlocks := B.notSynchronized
  have hin : meth.name = "<init>" := (name_of_methodNamed B.named B.method).1
  subst hsz
  have hK1 := hK.sub (tys' := [(cI, .int)]) [0] rfl
  have hD : va_D (va_A [(h0, .inr (2, [.null, .null, .long 0, .int 0, .int 0, .int 0]))] s.heap.size) [(h0, .inr (2, [.null, .null, .long 0, .int 0, .int 0, .int 0]))] := ⟨fun i j x y hi hj _ => by match i, j, hi, hj with | 0, 0, _, _ => rfl | 0, j + 1, _, hj => simp at hj | i + 1, _, hi, _ => simp at hi, fun k q hk => va_A.in hk⟩
  generalize hAe : va_A [(h0, .inr (2, [.null, .null, .long 0, .int 0, .int 0, .int 0]))] s.heap.size = A at hD ⊢
  have hA : ∀ q : Nat, s.heap.size ≤ q → A q := fun q h => by rw [← hAe]; exact Or.inr h
  have hS : va_S A s.heap s.heap [] := va_S.rf
  have hl := lv_entry ([.ref h0]) (n := 2) (Nat.le_of_ble_eq_true rfl)
  rw [lg_entry_eq]
  generalize (lg_sl ([.ref h0]) ++ List.replicate (2 - (lg_sl ([.ref h0])).length) Slot.unset).toArray = ls at hl ⊢
  have hl : lv_has ls 2 [(0, .ref h0)] := hl
  have loop : ∀ (b1 b2 n j : Nat) (g : Nat → Nat → Nat) (fP fR : Nat → Option Nat) (H : Heap) (locs : List Loc) (ls : Array Slot), j + n = 6 → (∀ i, i < j → fP i = some (g i 1)) → (∀ i, i < j → fR i = some (g i 0)) → va_P D vwCl (cX0 h0 b1 b2 cP cR fP fR ++ wB g cI j) H → va_D A (cX0 h0 b1 b2 cP cR fP fR ++ wB g cI j) → va_S A s.heap H locs → lv_has ls 2 [(0, .ref h0), (1, .int (nI j))] → W p l e (headSpec (ce_ws yEx_init cEx_init 2 none) ({ frames := 2, cells := 38, slots := 342, locals := 60 } : Room)).room s m ([.ref h0] : List Value).toArray below meth c H locs (2 + 6 * j) (12 + 55 * j) (MQ below (va_Qv (fun b : Nat → Nat => b 0 = h0 ∧ dX b ∧ ∀ i, 1 ≤ i → i < 39 → s.heap.size ≤ b i) (fun b t => va_P D vwCl (wX b cI cP cR E00) t.heap) A) ([.ref h0] : List Value).toArray s 38 342 A) (F0 m 24 ls []) := by
    intro b1 b2 n
    induction n with
    | zero =>
      intro j g fP fR H locs ls hj hf1 hf2 hP hD hS hl
      obtain rfl : j = 6 := hj
      refine lv_iload_n hx hb dEx_init_24 rfl (lv_at hl 1 rfl) ?_
      refine lv_bipush (v := 6) hx hb dEx_init_25 (by decide) ?_
      refine lv_icmp_ge (tgt := 68) hx hb dEx_init_27 (by decide) (fun c_1 => ?_) (fun c_1 => ?_)
      · obtain ⟨hdx, hdA⟩ := dX_made hD
        have hfr : ∀ i, 1 ≤ i → i < 39 → s.heap.size ≤ bOf h0 b1 b2 g i := by
          intro i h1 hi
          have hq := hdA i hi
          rw [← hAe] at hq
          rcases hq with ⟨k, e9, hk⟩ | hq
          · match k, hk with
            | 0, hk =>
              have e0 : bOf h0 b1 b2 g 0 = bOf h0 b1 b2 g i := congrArg Prod.fst (Option.some.inj hk)
              have := hdx 0 i (by decide) hi e0
              omega
            | k + 1, hk => simp at hk
          · exact hq
        refine W.widen (k := 38) (n := 342) (Nat.le_refl _) (Nat.le_refl _) ?_
        exact W.vret hx hb hr (fun t9 ht hW => ⟨⟨bOf h0 b1 b2 g, rfl, ⟨rfl, hdx, hfr⟩, ce_hp ht (wX_made hf1 hf2 hP)⟩, hS.F ht⟩) hS.2.2 dEx_init_68
      · exact absurd (nI_le (a := 6) (b := 6) (by omega) (by omega)) c_1
    | succ n ihn =>
      intro j g fP fR H locs ls hj hf1 hf2 hP hD hS hl
      have hj6 : j < 6 := by omega
      have hcl : (nI j).toNatClampNeg = j := nI_clamp (by omega)
      have hB0 : ∀ g2 : Nat → Nat → Nat, (∀ i, i < j → g i = g2 i) → wB g cI j = wB g2 cI j := fun g2 h => wB_congr j h
      generalize hpl : wB g cI j = pl at hP hD
      refine lv_iload_n hx hb dEx_init_24 rfl (lv_at hl 1 rfl) ?_
      refine lv_bipush (v := 6) hx hb dEx_init_25 (by decide) ?_
      refine lv_icmp_ge (tgt := 68) hx hb dEx_init_27 (by decide) (fun c_1 => ?_) (fun c_1 => ?_)
      · exact absurd c_1 (nI_ge (a := j) (b := 6) (by omega) (by omega))
      ·
        have hP : va_P D vwCl ([(h0, .inr (2, [.ref b1, .ref b2, .long 0, .int 0, .int 0, .int 0])), (b1, .inl (cP, 6, .inr (.inr (.inr (.inr fP))))), (b2, .inl (cR, 6, .inr (.inr (.inr (.inr fR)))))] ++ pl) H := hP
        have hD : va_D A ([(h0, .inr (2, [.ref b1, .ref b2, .long 0, .int 0, .int 0, .int 0])), (b1, .inl (cP, 6, .inr (.inr (.inr (.inr fP))))), (b2, .inl (cR, 6, .inr (.inr (.inr (.inr fR)))))] ++ pl) := hD
        refine lv_aload_n hx hb dEx_init_30 rfl (lv_at hl 0 rfl) ?_
        refine va_get (ci := 2) (C := REx) (T := TEx) (N := 6) hx hb hts (fun w h => List.mem_cons_of_mem _ (cx_iX w h)) hown hK hP 0 rfl rfl 0 (by decide) (hts _ (List.mem_cons_of_mem _ lEx_11)) (fun _ h9 => h9) rfl dEx_init_31 ?_
        refine lv_iload_n hx hb dEx_init_34 rfl (lv_at hl 1 rfl) ?_
        refine va_new (ci := 0) (C := RPg) (T := TPg) (N := 3) (fs := [.null, .null, .int 0]) hx hb hts (fun w h => List.mem_cons_of_mem _ (ce_iP w h)) tyPg tyPg_ok hown (hts _ (List.mem_cons_of_mem _ lEx_9)) (hts _ (List.mem_cons_of_mem _ inPg)) (hts _ (List.mem_cons_of_mem _ iniPg)) hK hP hD hS hA rfl (dvPg) (by show 2 + 6 * j + 1 ≤ 38; omega) (by show 12 + 55 * j + 3 ≤ 342; omega) dEx_init_35 (fun q1 H hP hD hS => ?_)
        have hP := hP.swap
        have hD := hD.swap
        have hP : va_P D vwCl ([(h0, .inr (2, [.ref b1, .ref b2, .long 0, .int 0, .int 0, .int 0])), (b1, .inl (cP, 6, .inr (.inr (.inr (.inr fP))))), (b2, .inl (cR, 6, .inr (.inr (.inr (.inr fR))))), (q1, .inr (0, [.null, .null, .int 0]))] ++ pl) H := hP
        have hD : va_D A ([(h0, .inr (2, [.ref b1, .ref b2, .long 0, .int 0, .int 0, .int 0])), (b1, .inl (cP, 6, .inr (.inr (.inr (.inr fP))))), (b2, .inl (cR, 6, .inr (.inr (.inr (.inr fR))))), (q1, .inr (0, [.null, .null, .int 0]))] ++ pl) := hD
        refine lv_dup hx hb dEx_init_38 rfl ?_
        have hlt : q1 < H.size := (hP 3 _ rfl).lt
        have hsz0 : s.heap.size ≤ H.size := hS.1
        have hPq : va_P D vwCl [(q1, .inr (0, [.null, .null, .int 0]))] H := fun k x hk => by match k, hk with | 0, hk => exact hP 3 x hk | k + 1, hk => simp at hk
        have hfA := fr1 (v := .inr (0, [.null, .null, .int 0])) (hD.2 3 _ rfl) (fun x (h : H.size ≤ x) => hA x (Nat.le_trans hsz0 h))
        refine va_callv (va_runIN (b := q1) (As := []) (rest := [.ref q1, .int (nI j), .ref b1]) ⟨hx, hb, hml, hown, hts⟩ (c_Pg_init l D cI q1 H.size) ⟨va_cnB 0 hts (ce_good mPg_init.1) rfl rfl rfl hNe (hts _ (List.mem_cons_of_mem _ mPg_init.2.1)) mPg_init.2.2 ⟨Nat.le_of_ble_eq_true rfl, Nat.le_of_ble_eq_true rfl⟩, rfl, hts _ (List.mem_cons_of_mem _ iPg_init)⟩ ⟨ci_blind, ci_at hPq hK1⟩ rfl rfl hl.1 rfl (lv_room (Nat.le_of_ble_eq_true rfl)) dEx_init_39 ⟨by show 2 + 6 * j + 1 + 2 ≤ 38; omega, by show 12 + 55 * j + 3 + 28 ≤ 342; omega⟩) hS (fun q _ h => hfA q h) hfA (fun u t H1 locs1 ht _ hp hB hsz1 hk hS1 => ?_)
        obtain ⟨x, y⟩ := u
        obtain ⟨u1, u2, u3⟩ := hp
        have hB : va_P D vwCl [(q1, .inr (0, [.ref x, .ref y, .int 0])), (x, .inl (cI, 14, .inl (fun _ => 0))), (y, .inl (cI, 14, .inl (fun _ => 0)))] H1 := ht ▸ hB
        have J := va_joinQ hP hD [3] [0, 1, 2] (cx := [(q1, .inr (0, [.null, .null, .int 0]))]) (wr := [(h0, .inr (2, [.ref b1, .ref b2, .long 0, .int 0, .int 0, .int 0])), (b1, .inl (cP, 6, .inr (.inr (.inr (.inr fP))))), (b2, .inl (cR, 6, .inr (.inr (.inr (.inr fR)))))]) rfl rfl rfl (by decide) hk hfA hB (d3 hlt u1 u2 u3)
        clear hP hD hS hPq hfA hlt hsz0
        revert J hS1
        clear hB hk hsz1 u1 u2 u3 ht
        generalize H1 = H
        generalize locs1 = locs
        intro hS J
        have hP : va_P D vwCl ([(h0, .inr (2, [.ref b1, .ref b2, .long 0, .int 0, .int 0, .int 0])), (b1, .inl (cP, 6, .inr (.inr (.inr (.inr fP))))), (b2, .inl (cR, 6, .inr (.inr (.inr (.inr fR))))), (q1, .inr (0, [.ref x, .ref y, .int 0])), (x, .inl (cI, 14, .inl (fun _ => 0))), (y, .inl (cI, 14, .inl (fun _ => 0)))] ++ pl) H := J.1
        have hD : va_D A ([(h0, .inr (2, [.ref b1, .ref b2, .long 0, .int 0, .int 0, .int 0])), (b1, .inl (cP, 6, .inr (.inr (.inr (.inr fP))))), (b2, .inl (cR, 6, .inr (.inr (.inr (.inr fR))))), (q1, .inr (0, [.ref x, .ref y, .int 0])), (x, .inl (cI, 14, .inl (fun _ => 0))), (y, .inl (cI, 14, .inl (fun _ => 0)))] ++ pl) := J.2
        clear J
        refine va_astq (r := (RPg, TPg, 3)) hx hb hK hP hD hS 1 1 3 0 rfl rfl rfl rfl (vp_in_nI hj6 (by decide)) dEx_init_42 (fun H locs hP hD hS => ?_)
        rw [hcl] at hP hD
        have hP : va_P D vwCl ([(h0, .inr (2, [.ref b1, .ref b2, .long 0, .int 0, .int 0, .int 0])), (b1, .inl (cP, 6, .inr (.inr (.inr (.inr (va_up fP j (some q1))))))), (b2, .inl (cR, 6, .inr (.inr (.inr (.inr fR))))), (q1, .inr (0, [.ref x, .ref y, .int 0])), (x, .inl (cI, 14, .inl (fun _ => 0))), (y, .inl (cI, 14, .inl (fun _ => 0)))] ++ pl) H := hP
        have hD : va_D A ([(h0, .inr (2, [.ref b1, .ref b2, .long 0, .int 0, .int 0, .int 0])), (b1, .inl (cP, 6, .inr (.inr (.inr (.inr (va_up fP j (some q1))))))), (b2, .inl (cR, 6, .inr (.inr (.inr (.inr fR))))), (q1, .inr (0, [.ref x, .ref y, .int 0])), (x, .inl (cI, 14, .inl (fun _ => 0))), (y, .inl (cI, 14, .inl (fun _ => 0)))] ++ pl) := hD
        refine lv_aload_n hx hb dEx_init_43 rfl (lv_at hl 0 rfl) ?_
        refine va_get (ci := 2) (C := REx) (T := TEx) (N := 6) hx hb hts (fun w h => List.mem_cons_of_mem _ (cx_iX w h)) hown hK hP 0 rfl rfl 1 (by decide) (hts _ (List.mem_cons_of_mem _ lEx_17)) (fun _ h9 => h9) rfl dEx_init_44 ?_
        refine lv_iload_n hx hb dEx_init_47 rfl (lv_at hl 1 rfl) ?_
        refine va_new (ci := 1) (C := RRn) (T := TRn) (N := 14) (fs := [.null, .null, .null, .int 0, .int 0, .int 0, .int 0, .int 0, .int 0, .int 0, .long 0, .int 0, .int 0, .int 0]) hx hb hts (fun w h => List.mem_cons_of_mem _ (ce_iR w h)) tyRn tyRn_ok hown (hts _ (List.mem_cons_of_mem _ lEx_15)) (hts _ (List.mem_cons_of_mem _ inRn)) (hts _ (List.mem_cons_of_mem _ iniRn)) hK hP hD hS hA rfl (dvRn) (by show 2 + 6 * j + 1 + 2 + 1 ≤ 38; omega) (by show 12 + 55 * j + 3 + 28 + 14 ≤ 342; omega) dEx_init_48 (fun q2 H hP hD hS => ?_)
        have hP := hP.swap
        have hD := hD.swap
        have hP : va_P D vwCl ([(h0, .inr (2, [.ref b1, .ref b2, .long 0, .int 0, .int 0, .int 0])), (b1, .inl (cP, 6, .inr (.inr (.inr (.inr (va_up fP j (some q1))))))), (b2, .inl (cR, 6, .inr (.inr (.inr (.inr fR))))), (q1, .inr (0, [.ref x, .ref y, .int 0])), (x, .inl (cI, 14, .inl (fun _ => 0))), (y, .inl (cI, 14, .inl (fun _ => 0))), (q2, .inr (1, [.null, .null, .null, .int 0, .int 0, .int 0, .int 0, .int 0, .int 0, .int 0, .long 0, .int 0, .int 0, .int 0]))] ++ pl) H := hP
        have hD : va_D A ([(h0, .inr (2, [.ref b1, .ref b2, .long 0, .int 0, .int 0, .int 0])), (b1, .inl (cP, 6, .inr (.inr (.inr (.inr (va_up fP j (some q1))))))), (b2, .inl (cR, 6, .inr (.inr (.inr (.inr fR))))), (q1, .inr (0, [.ref x, .ref y, .int 0])), (x, .inl (cI, 14, .inl (fun _ => 0))), (y, .inl (cI, 14, .inl (fun _ => 0))), (q2, .inr (1, [.null, .null, .null, .int 0, .int 0, .int 0, .int 0, .int 0, .int 0, .int 0, .long 0, .int 0, .int 0, .int 0]))] ++ pl) := hD
        refine lv_dup hx hb dEx_init_51 rfl ?_
        refine lv_aload_n hx hb dEx_init_52 rfl (lv_at hl 0 rfl) ?_
        refine va_get (ci := 2) (C := REx) (T := TEx) (N := 6) hx hb hts (fun w h => List.mem_cons_of_mem _ (cx_iX w h)) hown hK hP 0 rfl rfl 0 (by decide) (hts _ (List.mem_cons_of_mem _ lEx_11)) (fun _ h9 => h9) rfl dEx_init_53 ?_
        refine lv_iload_n hx hb dEx_init_56 rfl (lv_at hl 1 rfl) ?_
        refine va_aldq (C := RPg) hx hb hK hP 1 1 rfl rfl (vp_in_nI hj6 (by decide)) dEx_init_57 ?_
        rw [hcl, va_up_self]
        have hlt : q2 < H.size := (hP 6 _ rfl).lt
        have hsz0 : s.heap.size ≤ H.size := hS.1
        have hPq : va_P D vwCl [(q2, .inr (1, [.null, .null, .null, .int 0, .int 0, .int 0, .int 0, .int 0, .int 0, .int 0, .long 0, .int 0, .int 0, .int 0]))] H := fun k x hk => by match k, hk with | 0, hk => exact hP 6 x hk | k + 1, hk => simp at hk
        have hfA := fr1 (v := .inr (1, [.null, .null, .null, .int 0, .int 0, .int 0, .int 0, .int 0, .int 0, .int 0, .long 0, .int 0, .int 0, .int 0])) (hD.2 6 _ rfl) (fun x (h : H.size ≤ x) => hA x (Nat.le_trans hsz0 h))
        refine va_callv (va_runI (b := q2) (As := [.ref q1]) (rest := [.ref q2, .int (nI j), .ref b2]) ⟨hx, hb, hml, hown, hts⟩ (c_Rn_init l D cI q2 H.size q1) (ce_cI hts (ce_good mRn_init.1) mRn_init rfl rfl lEx_22 iRn_init rfl ⟨Nat.le_of_ble_eq_true rfl, Nat.le_of_ble_eq_true rfl⟩ (ce_tl _)) ⟨ci_blind, ci_at hPq hK1⟩ rfl rfl hl.1 rfl (lv_room (Nat.le_of_ble_eq_true rfl)) dEx_init_58 ⟨by show 2 + 6 * j + 1 + 2 + 1 + 2 ≤ 38; omega, by show 12 + 55 * j + 3 + 28 + 14 + 10 ≤ 342; omega⟩) hS (fun q _ h => hfA q h) hfA (fun u t H1 locs1 ht _ hp hB hsz1 hk hS1 => ?_)
        obtain ⟨v, w⟩ := u
        obtain ⟨u1, u2, u3⟩ := hp
        have hB : va_P D vwCl [(q2, .inr (1, [.ref q1, .ref v, .ref w, .int 0, .int 0, .int 0, .int 0, .int 0, .int 0, .int 0, .long 0, .int 0, .int 0, .int 0])), (v, .inl (cI, 8, .inl (fun _ => 0))), (w, .inl (cI, 2, .inl (fun _ => 0)))] H1 := ht ▸ hB
        have J := va_joinQ hP hD [6] [0, 1, 2, 3, 4, 5] (cx := [(q2, .inr (1, [.null, .null, .null, .int 0, .int 0, .int 0, .int 0, .int 0, .int 0, .int 0, .long 0, .int 0, .int 0, .int 0]))]) (wr := [(h0, .inr (2, [.ref b1, .ref b2, .long 0, .int 0, .int 0, .int 0])), (b1, .inl (cP, 6, .inr (.inr (.inr (.inr (va_up fP j (some q1))))))), (b2, .inl (cR, 6, .inr (.inr (.inr (.inr fR))))), (q1, .inr (0, [.ref x, .ref y, .int 0])), (x, .inl (cI, 14, .inl (fun _ => 0))), (y, .inl (cI, 14, .inl (fun _ => 0)))]) rfl rfl rfl (by decide) hk hfA hB (d3 hlt u1 u2 u3)
        clear hP hD hS hPq hfA hlt hsz0
        revert J hS1
        clear hB hk hsz1 u1 u2 u3 ht
        generalize H1 = H
        generalize locs1 = locs
        intro hS J
        have hP : va_P D vwCl ([(h0, .inr (2, [.ref b1, .ref b2, .long 0, .int 0, .int 0, .int 0])), (b1, .inl (cP, 6, .inr (.inr (.inr (.inr (va_up fP j (some q1))))))), (b2, .inl (cR, 6, .inr (.inr (.inr (.inr fR))))), (q1, .inr (0, [.ref x, .ref y, .int 0])), (x, .inl (cI, 14, .inl (fun _ => 0))), (y, .inl (cI, 14, .inl (fun _ => 0))), (q2, .inr (1, [.ref q1, .ref v, .ref w, .int 0, .int 0, .int 0, .int 0, .int 0, .int 0, .int 0, .long 0, .int 0, .int 0, .int 0])), (v, .inl (cI, 8, .inl (fun _ => 0))), (w, .inl (cI, 2, .inl (fun _ => 0)))] ++ pl) H := J.1
        have hD : va_D A ([(h0, .inr (2, [.ref b1, .ref b2, .long 0, .int 0, .int 0, .int 0])), (b1, .inl (cP, 6, .inr (.inr (.inr (.inr (va_up fP j (some q1))))))), (b2, .inl (cR, 6, .inr (.inr (.inr (.inr fR))))), (q1, .inr (0, [.ref x, .ref y, .int 0])), (x, .inl (cI, 14, .inl (fun _ => 0))), (y, .inl (cI, 14, .inl (fun _ => 0))), (q2, .inr (1, [.ref q1, .ref v, .ref w, .int 0, .int 0, .int 0, .int 0, .int 0, .int 0, .int 0, .long 0, .int 0, .int 0, .int 0])), (v, .inl (cI, 8, .inl (fun _ => 0))), (w, .inl (cI, 2, .inl (fun _ => 0)))] ++ pl) := J.2
        clear J
        refine va_astq (r := (RRn, TRn, 14)) hx hb hK hP hD hS 2 2 6 1 rfl rfl rfl rfl (vp_in_nI hj6 (by decide)) dEx_init_61 (fun H locs hP hD hS => ?_)
        rw [hcl] at hP hD
        have hP : va_P D vwCl ([(h0, .inr (2, [.ref b1, .ref b2, .long 0, .int 0, .int 0, .int 0])), (b1, .inl (cP, 6, .inr (.inr (.inr (.inr (va_up fP j (some q1))))))), (b2, .inl (cR, 6, .inr (.inr (.inr (.inr (va_up fR j (some q2))))))), (q1, .inr (0, [.ref x, .ref y, .int 0])), (x, .inl (cI, 14, .inl (fun _ => 0))), (y, .inl (cI, 14, .inl (fun _ => 0))), (q2, .inr (1, [.ref q1, .ref v, .ref w, .int 0, .int 0, .int 0, .int 0, .int 0, .int 0, .int 0, .long 0, .int 0, .int 0, .int 0])), (v, .inl (cI, 8, .inl (fun _ => 0))), (w, .inl (cI, 2, .inl (fun _ => 0)))] ++ pl) H := hP
        have hD : va_D A ([(h0, .inr (2, [.ref b1, .ref b2, .long 0, .int 0, .int 0, .int 0])), (b1, .inl (cP, 6, .inr (.inr (.inr (.inr (va_up fP j (some q1))))))), (b2, .inl (cR, 6, .inr (.inr (.inr (.inr (va_up fR j (some q2))))))), (q1, .inr (0, [.ref x, .ref y, .int 0])), (x, .inl (cI, 14, .inl (fun _ => 0))), (y, .inl (cI, 14, .inl (fun _ => 0))), (q2, .inr (1, [.ref q1, .ref v, .ref w, .int 0, .int 0, .int 0, .int 0, .int 0, .int 0, .int 0, .long 0, .int 0, .int 0, .int 0])), (v, .inl (cI, 8, .inl (fun _ => 0))), (w, .inl (cI, 2, .inl (fun _ => 0)))] ++ pl) := hD
        refine lv_iinc (v := nI (j + 1)) (lv' := [(1, .int (nI (j + 1))), (0, .ref h0)]) hx hb dEx_init_62 hl (k := 1) rfl (nI_1 j) (by decide) rfl (fun ls hl => ?_)
        refine lv_goto (tgt := 24) hx hb dEx_init_65 (by decide) ?_
        have hP := va_P.part (cx := [(h0, .inr (2, [.ref b1, .ref b2, .long 0, .int 0, .int 0, .int 0])), (b1, .inl (cP, 6, .inr (.inr (.inr (.inr (va_up fP j (some q1))))))), (b2, .inl (cR, 6, .inr (.inr (.inr (.inr (va_up fR j (some q2))))))), (q2, .inr (1, [.ref q1, .ref v, .ref w, .int 0, .int 0, .int 0, .int 0, .int 0, .int 0, .int 0, .long 0, .int 0, .int 0, .int 0])), (q1, .inr (0, [.ref x, .ref y, .int 0])), (x, .inl (cI, 14, .inl (fun _ => 0))), (y, .inl (cI, 14, .inl (fun _ => 0))), (v, .inl (cI, 8, .inl (fun _ => 0))), (w, .inl (cI, 2, .inl (fun _ => 0)))]) hP [0, 1, 2, 6, 3, 4, 5, 7, 8] rfl
        have hD := va_D.part (cx := [(h0, .inr (2, [.ref b1, .ref b2, .long 0, .int 0, .int 0, .int 0])), (b1, .inl (cP, 6, .inr (.inr (.inr (.inr (va_up fP j (some q1))))))), (b2, .inl (cR, 6, .inr (.inr (.inr (.inr (va_up fR j (some q2))))))), (q2, .inr (1, [.ref q1, .ref v, .ref w, .int 0, .int 0, .int 0, .int 0, .int 0, .int 0, .int 0, .long 0, .int 0, .int 0, .int 0])), (q1, .inr (0, [.ref x, .ref y, .int 0])), (x, .inl (cI, 14, .inl (fun _ => 0))), (y, .inl (cI, 14, .inl (fun _ => 0))), (v, .inl (cI, 8, .inl (fun _ => 0))), (w, .inl (cI, 2, .inl (fun _ => 0)))]) hD [0, 1, 2, 6, 3, 4, 5, 7, 8] rfl rfl
        have hP : va_P D vwCl ((cX0 h0 b1 b2 cP cR (va_up fP j (some q1)) (va_up fR j (some q2)) ++ wR (fun k => [q2, q1, x, y, v, w].getD k 0) cI P00 u00) ++ pl) H := hP
        have hD : va_D A ((cX0 h0 b1 b2 cP cR (va_up fP j (some q1)) (va_up fR j (some q2)) ++ wR (fun k => [q2, q1, x, y, v, w].getD k 0) cI P00 u00) ++ pl) := hD
        have hP := hP.swap
        have hD := hD.swap
        rw [List.append_assoc] at hP hD
        have hw : pl ++ wR (fun k => [q2, q1, x, y, v, w].getD k 0) cI P00 u00 = wB (va_up g j (fun k => [q2, q1, x, y, v, w].getD k 0)) cI (j + 1) := by
          show _ = wB (va_up g j (fun k => [q2, q1, x, y, v, w].getD k 0)) cI j ++ wR ((va_up g j (fun k => [q2, q1, x, y, v, w].getD k 0)) j) cI P00 u00
          rw [va_up_self, ← hB0 _ (fun i hi => (va_up_ne _ _ (by omega)).symm), hpl]
        rw [hw] at hP hD
        refine W.widen (k := 2 + 6 * (j + 1)) (n := 12 + 55 * (j + 1)) (by omega) (by omega) ?_
        have ff1 : ∀ i, i < j + 1 → va_up fP j (some q1) i = some ((va_up g j (fun k => [q2, q1, x, y, v, w].getD k 0)) i 1) := by
          intro i hi
          by_cases ci : i = j
          · subst ci; rw [va_up_self, va_up_self]; rfl
          · rw [va_up_ne _ _ ci, va_up_ne _ _ ci]; exact hf1 i (by omega)
        have ff2 : ∀ i, i < j + 1 → va_up fR j (some q2) i = some ((va_up g j (fun k => [q2, q1, x, y, v, w].getD k 0)) i 0) := by
          intro i hi
          by_cases ci : i = j
          · subst ci; rw [va_up_self, va_up_self]; rfl
          · rw [va_up_ne _ _ ci, va_up_ne _ _ ci]; exact hf2 i (by omega)
        exact ihn (j + 1) _ _ _ _ _ _ (by omega) ff1 ff2 hP hD hS (lv_sub hl [1, 0] rfl)
  refine lv_aload_n hx hb dEx_init_0 rfl (lv_at hl 0 rfl) ?_
  refine W.objInit hx hb hown (hts _ (List.mem_cons_of_mem _ lEx_1)) (hts _ (List.mem_cons_of_mem _ objI)) (hts _ (List.mem_cons_of_mem _ objC)) rfl (by rw [hml]; exact hl.1) rfl dEx_init_1 (Nat.le_of_ble_eq_true rfl) (Nat.le_of_ble_eq_true rfl) ?_
  refine W.eq (g2 := F0 m 4 ls []) rfl ?_
  refine lv_aload_n hx hb dEx_init_4 rfl (lv_at hl 0 rfl) ?_
  refine lv_bipush (v := 6) hx hb dEx_init_5 (by decide) ?_
  refine cn_newq (N' := 6) hx hb hown (hts _ (List.mem_cons_of_mem _ lEx_9)) hOP hK 1 rfl hP hD hS hA (by decide) (by decide) (by decide) (Nat.le_of_ble_eq_true rfl) (Nat.le_of_ble_eq_true rfl) dEx_init_7 (fun b1 H hP hD hS => ?_)
  refine W.widen (k := 1) (n := 6) (by omega) (by omega) ?_
  have hP : va_P D vwCl [(h0, .inr (2, [.null, .null, .long 0, .int 0, .int 0, .int 0])), (b1, .inl (cP, 6, .inr (.inr (.inr (.inr (fun _ => none))))))] H := hP
  have hD : va_D A [(h0, .inr (2, [.null, .null, .long 0, .int 0, .int 0, .int 0])), (b1, .inl (cP, 6, .inr (.inr (.inr (.inr (fun _ => none))))))] := hD
  refine va_putF (ci := 2) (v := .ref b1) (ty := tyEx 0) (C := REx) (T := TEx) (N := 6) hx hb hts (fun w h => List.mem_cons_of_mem _ (cx_iX w h)) tyEx tyEx_ok nmEx hown hK hP hD hS 0 rfl rfl 0 (by decide) (hts _ (List.mem_cons_of_mem _ lEx_11)) (fun _ h9 => h9) rfl hin rfl (by decide +kernel) rfl rfl (Nat.le_of_ble_eq_true rfl) dEx_init_10 (fun H locs hP hD hS => ?_)
  have hP : va_P D vwCl [(h0, .inr (2, [.ref b1, .null, .long 0, .int 0, .int 0, .int 0])), (b1, .inl (cP, 6, .inr (.inr (.inr (.inr (fun _ => none))))))] H := hP
  have hD : va_D A [(h0, .inr (2, [.ref b1, .null, .long 0, .int 0, .int 0, .int 0])), (b1, .inl (cP, 6, .inr (.inr (.inr (.inr (fun _ => none))))))] := hD
  refine lv_aload_n hx hb dEx_init_13 rfl (lv_at hl 0 rfl) ?_
  refine lv_bipush (v := 6) hx hb dEx_init_14 (by decide) ?_
  refine cn_newq (N' := 6) hx hb hown (hts _ (List.mem_cons_of_mem _ lEx_15)) hOR hK 2 rfl hP hD hS hA (by decide) (by decide) (by decide) (Nat.le_of_ble_eq_true rfl) (Nat.le_of_ble_eq_true rfl) dEx_init_16 (fun b2 H hP hD hS => ?_)
  refine W.widen (k := 2) (n := 12) (by omega) (by omega) ?_
  have hP : va_P D vwCl [(h0, .inr (2, [.ref b1, .null, .long 0, .int 0, .int 0, .int 0])), (b1, .inl (cP, 6, .inr (.inr (.inr (.inr (fun _ => none)))))), (b2, .inl (cR, 6, .inr (.inr (.inr (.inr (fun _ => none))))))] H := hP
  have hD : va_D A [(h0, .inr (2, [.ref b1, .null, .long 0, .int 0, .int 0, .int 0])), (b1, .inl (cP, 6, .inr (.inr (.inr (.inr (fun _ => none)))))), (b2, .inl (cR, 6, .inr (.inr (.inr (.inr (fun _ => none))))))] := hD
  refine va_putF (ci := 2) (v := .ref b2) (ty := tyEx 1) (C := REx) (T := TEx) (N := 6) hx hb hts (fun w h => List.mem_cons_of_mem _ (cx_iX w h)) tyEx tyEx_ok nmEx hown hK hP hD hS 0 rfl rfl 1 (by decide) (hts _ (List.mem_cons_of_mem _ lEx_17)) (fun _ h9 => h9) rfl hin rfl (by decide +kernel) rfl rfl (Nat.le_of_ble_eq_true rfl) dEx_init_19 (fun H locs hP hD hS => ?_)
  have hP : va_P D vwCl [(h0, .inr (2, [.ref b1, .ref b2, .long 0, .int 0, .int 0, .int 0])), (b1, .inl (cP, 6, .inr (.inr (.inr (.inr (fun _ => none)))))), (b2, .inl (cR, 6, .inr (.inr (.inr (.inr (fun _ => none))))))] H := hP
  have hD : va_D A [(h0, .inr (2, [.ref b1, .ref b2, .long 0, .int 0, .int 0, .int 0])), (b1, .inl (cP, 6, .inr (.inr (.inr (.inr (fun _ => none)))))), (b2, .inl (cR, 6, .inr (.inr (.inr (.inr (fun _ => none))))))] := hD
  refine lv_iconst (v := 0) hx hb dEx_init_22 (by decide) ?_
  refine lv_istore_n (lv' := [(1, .int 0), (0, .ref h0)]) hx hb dEx_init_23 rfl hl (by decide) rfl (fun ls hl => ?_)
  exact loop b1 b2 6 0 (fun _ _ => 0) (fun _ => none) (fun _ => none) _ _ _ rfl (fun i h => absurd h (Nat.not_lt_zero i)) (fun i h => absurd h (Nat.not_lt_zero i)) hP hD hS (lv_sub hl [1, 0] rfl)
