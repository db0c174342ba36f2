theorem b8_in {f : Nat → Int32} {p j : Nat} (h : ∀ i, i < j → f (p * 8 + i) = 0) : ∀ i, i < j + 1 → upd f (p * 8 + j) 0 (p * 8 + i) = 0 := by
  intro i hi
  unfold upd
  split
  · rfl
  · exact h i (by omega)
theorem b8_out {f h : Nat → Int32} {p j : Nat} {x : Int32} (hh : ∀ q, (q < p * 8 ∨ p * 8 + 8 ≤ q) → f q = h q) (hj : j < 8) : ∀ q, (q < p * 8 ∨ p * 8 + 8 ≤ q) → upd f (p * 8 + j) x q = h q := by
  intro q hq
  unfold upd
  rw [if_neg (by omega)]
  exact hh q hq
theorem blk8_of {f h g : Nat → Int32} {p : Nat} (h1 : ∀ i, i < 8 → f (p * 8 + i) = g i) (h2 : ∀ q, (q < p * 8 ∨ p * 8 + 8 ≤ q) → f q = h q) : f = blk8 h p g := by
  funext q
  unfold blk8
  split
  · have e := h1 (q - p * 8) (by omega)
    rw [← e]
    congr 1
    omega
  · exact h2 q (by omega)
set_option maxHeartbeats 8000000 in
set_option maxRecDepth 100000 in
theorem c_Md_forget (l : Launch) (D : va_G) (cI cZ : ClassId) (a : Nat → Nat) (hd : dM a) (m : MS) (pn : Nat) (hp6 : pn < 6) : Met l yMd_forget (ce_ws yMd_forget cMd_forget 3 none) (ce_rm 0) (cm_Pc D cI cZ [.ref (a 0), .int (nI pn)] (wM a cI cZ m)) (va_Qv (fun m2 => m2 = mForget m pn) (fun m2 t => va_P D vwCl (wM a cI cZ m2) t.heap) (aM a)) 0 0 (aM a) := by
  refine Met.ofW (cc := cMd_forget) (maxL := 3) (ret := none) (by decide) rfl ?_
  intro p e s mi args below meth c s₁ B hml hv
  obtain ⟨rfl, hP, hK⟩ := hv
  have hx := B.exec
  have hb := B.bytes
  have hr := B.returns
  have hts := atoms_spec (ws := ce_ws yMd_forget cMd_forget 3 none) B.pre
  have hown : s.vm.findClass RMd = some mi.cls := findClass_of_methodNamed B.named
  have hlocks := B.notSynchronized
  have hS : va_S (aM a) s.heap s.heap [] := va_S.rf
  have hl := lv_entry ([.ref (a 0), .int (nI pn)]) (n := 3) (Nat.le_of_ble_eq_true rfl)
  rw [lg_entry_eq]
  generalize (lg_sl ([.ref (a 0), .int (nI pn)]) ++ List.replicate (3 - (lg_sl ([.ref (a 0), .int (nI pn)])).length) Slot.unset).toArray = ls at hl ⊢
  have hl : lv_has ls 3 [(0, .ref (a 0)), (1, .int (nI pn))] := hl
  refine lv_aload_n hx hb dMd_forget_0 rfl (lv_at hl 0 rfl) ?_
  refine cm_g hx hb hts hown hK hP 5 (by decide) rfl lMd_25 rfl dMd_forget_1 ?_
  refine lv_iload_n hx hb dMd_forget_4 rfl (lv_at hl 1 rfl) ?_
  refine lv_iconst (v := 0) hx hb dMd_forget_5 (by decide) ?_
  refine cm_sRan (i := pn) (x := false) (by omega) hx hb hK hd hP hS dMd_forget_6 (fun H locs hP hS => ?_)
  refine lv_iconst (v := 0) hx hb dMd_forget_7 (by decide) ?_
  refine lv_istore_n (lv' := [(2, .int 0), (0, .ref (a 0)), (1, .int (nI pn))]) hx hb dMd_forget_8 rfl hl (by decide) rfl (fun ls hl => ?_)
  have loop : ∀ (n j : Nat) (f : Nat → Int32) (H : Heap) (locs : List Loc) (ls : Array Slot), j + n = 8 → (∀ i, i < j → f (pn * 8 + i) = 0) → (∀ q, (q < pn * 8 ∨ pn * 8 + 8 ≤ q) → f q = qCls m q) → va_P D vwCl (wM a cI cZ (zCls (zRan m (va_up (qRan m) pn false)) f)) H → va_S (aM a) s.heap H locs → lv_has ls 3 [(0, .ref (a 0)), (1, .int (nI pn)), (2, .int (nI j))] → W p l e (headSpec (ce_ws yMd_forget cMd_forget 3 none) (ce_rm 0)).room s mi (([.ref (a 0), .int (nI pn)] : List Value).toArray) below meth c H locs 0 0 (MQ below (va_Qv (fun m2 => m2 = mForget m pn) (fun m2 t => va_P D vwCl (wM a cI cZ m2) t.heap) (aM a)) (([.ref (a 0), .int (nI pn)] : List Value).toArray) s 0 0 (aM a)) (F0 mi 9 ls []) := by
    intro n
    induction n with
    | zero =>
      intro j f H locs ls hj hf ho hP hS hl
      refine lv_iload_n hx hb dMd_forget_9 rfl (lv_at hl 2 rfl) ?_
      refine lv_bipush (v := 8) hx hb dMd_forget_10 (by decide) ?_
      refine lv_icmp_ge (tgt := 33) hx hb dMd_forget_12 (by decide) (fun c_1 => ?_) (fun c_1 => ?_)
      · -- 12 taken
        exact W.vret hx hb hr (fun t9 ht hW => ⟨⟨zCls (zRan m (va_up (qRan m) pn false)) f, rfl, congrArg (zCls (zRan m (va_up (qRan m) pn false))) (blk8_of (fun i h => hf i (by omega)) ho), ce_hp ht hP⟩, hS.F ht⟩) hS.2.2 dMd_forget_33
      · -- 12 not taken
        exact absurd (nI_le (a := 8) (b := j) (by omega) (by omega)) c_1
    | succ n ihn =>
      intro j f H locs ls hj hf ho hP hS hl
      refine lv_iload_n hx hb dMd_forget_9 rfl (lv_at hl 2 rfl) ?_
      refine lv_bipush (v := 8) hx hb dMd_forget_10 (by decide) ?_
      refine lv_icmp_ge (tgt := 33) hx hb dMd_forget_12 (by decide) (fun c_2 => ?_) (fun c_2 => ?_)
      · -- 12 taken
        exact absurd c_2 (nI_ge (a := j) (b := 8) (by omega) (by omega))
      · -- 12 not taken
        refine lv_aload_n hx hb dMd_forget_15 rfl (lv_at hl 0 rfl) ?_
        refine cm_g hx hb hts hown hK hP 4 (by decide) rfl lMd_22 rfl dMd_forget_16 ?_
        refine lv_iload_n hx hb dMd_forget_19 rfl (lv_at hl 1 rfl) ?_
        refine lv_bipush (v := 8) hx hb dMd_forget_20 (by decide) ?_
        refine lv_imul hx hb dMd_forget_22 ?_
        refine lv_topi (fun y_3 ey_3 => ?_)
        obtain rfl : y_3 = nI (pn * 8) := ey_3.trans (pk_mul _ 8)
        refine lv_iload_n hx hb dMd_forget_23 rfl (lv_at hl 2 rfl) ?_
        refine lv_iadd hx hb dMd_forget_24 ?_
        refine lv_topi (fun y_4 ey_4 => ?_)
        obtain rfl : y_4 = nI (pn * 8 + j) := ey_4.trans (nI_add _ _)
        refine lv_iconst (v := 0) hx hb dMd_forget_25 (by decide) ?_
        refine cm_sCls (i := (pn * 8 + j)) (x := 0) (by omega) hx hb hK hd hP hS dMd_forget_26 (fun H locs hP hS => ?_)
        rw [qCls_zCls] at hP
        rw [zCls_zCls] at hP
        refine lv_iinc (v := nI (j + 1)) (lv' := [(2, .int (nI (j + 1))), (0, .ref (a 0)), (1, .int (nI pn))]) hx hb dMd_forget_27 hl (k := 2) rfl (nI_1 j) (by decide) rfl (fun ls hl => ?_)
        refine lv_goto (tgt := 9) hx hb dMd_forget_30 (by decide) ?_
        exact ihn (j + 1) (upd f (pn * 8 + j) 0) _ _ _ (by omega) (b8_in hf) (b8_out ho (by omega)) hP hS (lv_sub hl [1, 2, 0] rfl)
  exact loop 8 0 (qCls m) _ _ _ rfl (fun i h => absurd h (Nat.not_lt_zero i)) (fun _ _ => rfl) hP hS (lv_sub hl [1, 2, 0] rfl)
