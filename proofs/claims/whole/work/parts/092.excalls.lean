section CX2
variable {p : Program} {l : Launch} {e : Env} {R : Room} {s : State} {m : MethodId} {args : Array Value} {below : List Frame} {meth : Method} {c : Code} {H : Heap} {locs : List Loc} {cells slots : Nat} {Q : State → Prop}
variable {cc : ByteArray} {pc nL : Nat} {ls : Array Slot} {rest st0 : List Value} {D : va_G} {cI cP cR : ClassId} {b : Nat → Nat} {E : XS} {w0 : Cond} {H0 : Heap} {own : String} {index : Nat}
variable {y : MethodName} {bb : ByteArray} {maxL n : Nat} {rm : Room} {As : List Value}
/-- a call on run j that answers nothing -/
theorem cx_vv {post : RS → Prop} {j : Nat} (hj : j < 6) (F : CallFix p m c cc nL s args (w0 :: ce_W) own) (hM : Met l y (ce_ws y bb maxL none) rm (ce_Pc D cI (.ref (adr b j 0) :: As) (wR (adr b j) cI (eP E j) (eU E j))) (va_Qv post (fun u2 t => va_P D vwCl (wR (adr b j) cI (eP E j) u2) t.heap) (aR (adr b j))) 0 0 (aR (adr b j))) (hm : ce_M y bb maxL none n) (hl : Cond.methodLink own index y ∈ ce_W) (hi : Cond.instanceMethod y ∈ ce_W ∧ Cond.selects RRn y y ∈ ce_W) (hR : rm.frames + 1 ≤ R.frames ∧ 8 + (maxL + 11) + rm.locals ≤ R.locals) (hrc : rm.cells = 0 ∧ rm.slots = 0) (hK : va_K D vwCl [(cI, .int), (cP, .object RPg), (cR, .object RRn)] s) (hN : ce_N s) (hd : dX b) (hP : va_P D vwCl (wX b cI cP cR E) H) (hS : va_S (aX b) H0 H locs) (hn : As.length = n) (hsz : ls.size = nL) (hst : st0 = As.reverse ++ .ref (adr b j 0) :: rest) (hw : (rest.map fun v => v.category).sum ≤ 8) (hdg : decode cc pc = .ok (.invokevirtual index, 3)) (hc : cells + 0 ≤ R.cells ∧ slots + 0 ≤ R.slots)
    (kk : ∀ (u2 : RS) (H1 : Heap) (locs1 : List Loc), post u2 → va_P D vwCl (wX b cI cP cR (tU E (va_up (eU E) j u2))) H1 → va_S (aX b) H0 H1 locs1 → W p l e R s m args below meth c H1 locs1 cells slots Q (F0 m (pc + 3) ls rest)) : W p l e R s m args below meth c H locs cells slots Q (F0 m pc ls st0) := by
  have hPj := (wX_P.mp hP).2 j hj
  have hK1 := hK.sub (tys' := [(cI, .int)]) [0] rfl
  refine va_callv (va_runV F hM (ce_cV F.2.2.2.2 (ce_good hm.1) hm hrc.1 hrc.2 hl hi hR (ce_tl w0)) ⟨ce_blind, va_recv hK1 hPj (ci := 1) (q0 := 0) rfl rfl, ce_at hPj hK1 hN⟩ rfl hn hsz hst (lv_room hw) hdg hc) hS (fun q _ h => aX_R hj q h) (fun q h => aX_R hj q h) (fun u1 t H1 locs1 ht _ hp hB _ hk hS1 => kk u1 H1 locs1 hp (wX_back hd hj hP hk ?_ rfl ?_) hS1)
  · show va_P D vwCl (wR (adr b j) cI (eP E j) (va_up (eU E) j u1 j)) H1
    rw [va_up_self]
    exact ht ▸ hB
  · intro k _ hkj
    exact ⟨rfl, va_up_ne _ _ hkj⟩
end CX2
theorem aP_R {a : Nat → Nat} : ∀ q, aP a q → aR a q := by
  rintro q ⟨i, ⟨_, h2⟩, rfl⟩
  exact ⟨i, by omega, rfl⟩
theorem dR_P {a : Nat → Nat} (h : dR a) : dP a := fun i j _ h2 _ h4 e => h i j (by omega) (by omega) e
/-- a call on the program gave back its three cells: the run's own are as they were -/
theorem wR_back {D : va_G} {a : Nat → Nat} {cI : ClassId} {P P2 : PR} {u : RS} {H H1 : Heap} (hd : dR a) (hP : va_P D vwCl (wR a cI P u) H) (hk : ∀ q : Nat, q < H.size → ¬ aP a q → H1[q]? = H[q]?) (h1 : va_P D vwCl (wP a cI P2) H1) : va_P D vwCl (wR a cI P2 u) H1 := by
  have out : ∀ i, i < 6 → (i = 0 ∨ i = 4 ∨ i = 5) → ¬ aP a (a i) := by
    rintro i hi h0 ⟨k, ⟨hk1, hk2⟩, e⟩
    have := hd i k hi (by omega) e
    omega
  intro k q hq
  match k, hq with
  | 0, hq => cases hq; exact (hP 0 _ rfl).kept (hk _ (hP 0 _ rfl).lt (out 0 (by decide) (Or.inl rfl)))
  | 1, hq => exact h1 0 q hq
  | 2, hq => exact h1 1 q hq
  | 3, hq => exact h1 2 q hq
  | 4, hq => cases hq; exact (hP 4 _ rfl).kept (hk _ (hP 4 _ rfl).lt (out 4 (by decide) (Or.inr (Or.inl rfl))))
  | 5, hq => cases hq; exact (hP 5 _ rfl).kept (hk _ (hP 5 _ rfl).lt (out 5 (by decide) (Or.inr (Or.inr rfl))))
  | k + 6, hq => exact absurd hq (by simp [wR])
section CX3
variable {p : Program} {l : Launch} {e : Env} {R : Room} {s : State} {m : MethodId} {args : Array Value} {below : List Frame} {meth : Method} {c : Code} {H : Heap} {locs : List Loc} {cells slots : Nat} {Q : State → Prop}
variable {cc : ByteArray} {pc nL : Nat} {ls : Array Slot} {rest st0 : List Value} {D : va_G} {cI cP cR : ClassId} {b : Nat → Nat} {E : XS} {w0 : Cond} {H0 : Heap} {own : String} {index : Nat}
variable {y : MethodName} {bb : ByteArray} {maxL n : Nat} {rm : Room} {As : List Value}
/-- a call on program j that answers an int -/
theorem cx_pi {post : Int32 → PR → Prop} {j : Nat} (hj : j < 6) (F : CallFix p m c cc nL s args (w0 :: ce_W) own) (hM : Met l y (ce_ws y bb maxL (some .int)) rm (ce_Pc D cI (.ref (adr b j 1) :: As) (wP (adr b j) cI (eP E j))) (va_Qi post (fun P2 t => va_P D vwCl (wP (adr b j) cI P2) t.heap) (aP (adr b j))) 0 0 (aP (adr b j))) (hm : ce_M y bb maxL (some .int) n) (hl : Cond.methodLink own index y ∈ ce_W) (hi : Cond.instanceMethod y ∈ ce_W ∧ Cond.selects RPg y y ∈ ce_W) (hR : rm.frames + 1 ≤ R.frames ∧ 8 + (maxL + 11) + rm.locals ≤ R.locals) (hrc : rm.cells = 0 ∧ rm.slots = 0) (hK : va_K D vwCl [(cI, .int), (cP, .object RPg), (cR, .object RRn)] s) (hN : ce_N s) (hd : dX b) (hP : va_P D vwCl (wX b cI cP cR E) H) (hS : va_S (aX b) H0 H locs) (hn : As.length = n) (hsz : ls.size = nL) (hst : st0 = As.reverse ++ .ref (adr b j 1) :: rest) (hw : (rest.map fun v => v.category).sum ≤ 8) (hdg : decode cc pc = .ok (.invokevirtual index, 3)) (hc : cells + 0 ≤ R.cells ∧ slots + 0 ≤ R.slots)
    (kk : ∀ (r : Int32) (P2 : PR) (H1 : Heap) (locs1 : List Loc), post r P2 → va_P D vwCl (wX b cI cP cR (tP E (va_up (eP E) j P2))) H1 → va_S (aX b) H0 H1 locs1 → W p l e R s m args below meth c H1 locs1 cells slots Q (F0 m (pc + 3) ls (.int r :: rest))) : W p l e R s m args below meth c H locs cells slots Q (F0 m pc ls st0) := by
  have hPj := (wX_P.mp hP).2 j hj
  have hPp := hPj.sub (ws' := wP (adr b j) cI (eP E j)) [1, 2, 3] rfl
  have hK1 := hK.sub (tys' := [(cI, .int)]) [0] rfl
  refine va_calli (va_runV F hM (ce_cV F.2.2.2.2 (ce_good hm.1) hm hrc.1 hrc.2 hl hi hR (ce_tl w0)) ⟨ce_blind, va_recv hK1 hPp (ci := 0) (q0 := 0) rfl rfl, ce_at hPp hK1 hN⟩ rfl hn hsz hst (lv_room hw) hdg hc) hS (fun q _ h => aX_R hj q (aP_R q h)) (fun q h => aX_R hj q (aP_R q h)) (fun r P2 t H1 locs1 ht _ hp hB _ hk hS1 => kk r P2 H1 locs1 hp (wX_back hd hj hP (fun q h1 h2 => hk q h1 (fun h3 => h2 (aP_R q h3))) ?_ rfl ?_) hS1)
  · show va_P D vwCl (wR (adr b j) cI (va_up (eP E) j P2 j) (eU E j)) H1
    rw [va_up_self]
    exact wR_back (dX_R hd hj) hPj hk (ht ▸ hB)
  · intro k _ hkj
    exact ⟨va_up_ne _ _ hkj, rfl⟩
end CX3
