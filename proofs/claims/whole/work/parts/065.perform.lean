theorem c_Rn_doActions (l : Launch) (D : va_G) (cI : ClassId) (a : Nat → Nat) (hd : dR a) (P : PR) (hp : pOk P) (k : Nat) : okDA l D cI a P k := by
  induction k with
  | zero => exact fun u i z d hdk hiz hz => c_Rn_doActions_step l D cI a hd P hp 0 d hdk (fun k2 h => by omega) u i z hiz hz
  | succ k ih => exact fun u i z d hdk hiz hz => c_Rn_doActions_step l D cI a hd P hp (k + 1) d hdk (fun k2 h => Nat.succ.inj h ▸ ih) u i z hiz hz
theorem zero_upd {f : Nat → Int32} {j : Nat} (h : ∀ q, q < j → f q = 0) : ∀ q, q < j + 1 → upd f j 0 q = 0 := by
  intro q hq
  unfold upd
  split
  · rfl
  · exact h q (by omega)
theorem ce_like {D : va_G} {a : Nat → Nat} {cI : ClassId} {P : PR} {u u' : RS} {H : Heap} (h0 : rF a u = rF a u') (h4 : ∀ j, j < 8 → gCells u j = gCells u' j) (h5 : ∀ j, j < 2 → gHolds u j = gHolds u' j) (hP : va_P D vwCl (wR a cI P u) H) : va_P D vwCl (wR a cI P u') H := by
  intro k q hk
  match k, hk with
  | 0, hk =>
    cases hk
    rw [← h0]
    exact hP 0 _ rfl
  | 1, hk => exact hP 1 q hk
  | 2, hk => exact hP 2 q hk
  | 3, hk => exact hP 3 q hk
  | 4, hk =>
    cases hk
    exact (hP 4 _ rfl).trans (congrArg some (ce_vc h4))
  | 5, hk =>
    cases hk
    exact (hP 5 _ rfl).trans (congrArg some (ce_vc h5))
  | k + 6, hk => exact absurd hk (by simp [wR])
set_option maxHeartbeats 4000000 in
set_option maxRecDepth 100000 in
theorem c_Rn_begin (l : Launch) (D : va_G) (cI : ClassId) (a : Nat → Nat) (hd : dR a) (P : PR) (u : RS) (x : Int32) : Met l yRn_begin (ce_ws yRn_begin cRn_begin 3 none) (ce_rm 1) (ce_Pc D cI [.ref (a 0), .int x] (wR a cI P u)) (va_Qv (fun u' => u' = xBegin x u) (fun u' t => va_P D vwCl (wR a cI P u') t.heap) (aR a)) 0 0 (aR a) := by
  refine Met.ofW (cc := cRn_begin) (maxL := 3) (ret := none) (by decide) rfl ?_
  intro p e s m args below meth c s₁ B hml hv
  obtain ⟨rfl, hP, hK, hN⟩ := hv
  have hx := B.exec
  have hb := B.bytes
  have hr := B.returns
  have hts := atoms_spec (ws := ce_ws yRn_begin cRn_begin 3 none) B.pre
  have hown : s.vm.findClass RRn = some m.cls := findClass_of_methodNamed B.named
  have hlocks := B.notSynchronized
  have hS : va_S (aR a) s.heap s.heap [] := va_S.rf
  have hl := lv_entry ([.ref (a 0), .int x]) (n := 3) (Nat.le_of_ble_eq_true rfl)
  rw [lg_entry_eq]
  generalize (lg_sl ([.ref (a 0), .int x]) ++ List.replicate (3 - (lg_sl ([.ref (a 0), .int x])).length) Slot.unset).toArray = ls at hl ⊢
  have hl : lv_has ls 3 [(0, .ref (a 0)), (1, .int x)] := hl
  refine lv_aload_n hx hb dRn_begin_0 rfl (lv_at hl 0 rfl) ?_
  refine lv_iload_n hx hb dRn_begin_1 rfl (lv_at hl 1 rfl) ?_
  refine ce_pName hx hb hts hown hK hd hP hS lRn_76 dRn_begin_2 (fun H locs hP hS => ?_)
  refine lv_aload_n hx hb dRn_begin_5 rfl (lv_at hl 0 rfl) ?_
  refine lv_iconst (v := 0) hx hb dRn_begin_6 (by decide) ?_
  refine ce_pAcc hx hb hts hown hK hd hP hS lRn_42 dRn_begin_7 (fun H locs hP hS => ?_)
  refine lv_aload_n hx hb dRn_begin_10 rfl (lv_at hl 0 rfl) ?_
  refine lv_iconst (v := 0) hx hb dRn_begin_11 (by decide) ?_
  refine ce_pSteps hx hb hts hown hK hd hP hS lRn_45 dRn_begin_12 (fun H locs hP hS => ?_)
  refine lv_aload_n hx hb dRn_begin_15 rfl (lv_at hl 0 rfl) ?_
  refine lv_iconst (v := 0) hx hb dRn_begin_16 (by decide) ?_
  refine ce_pFin hx hb hts hown hK hd hP hS lRn_48 dRn_begin_17 (fun H locs hP hS => ?_)
  refine lv_aload_n hx hb dRn_begin_20 rfl (lv_at hl 0 rfl) ?_
  refine lv_iconst (v := 0) hx hb dRn_begin_21 (by decide) ?_
  refine ce_pCat hx hb hts hown hK hd hP hS lRn_51 dRn_begin_22 (fun H locs hP hS => ?_)
  refine lv_aload_n hx hb dRn_begin_25 rfl (lv_at hl 0 rfl) ?_
  refine lv_iconst (v := 0) hx hb dRn_begin_26 (by decide) ?_
  refine ce_pMark (x := false) hx hb hts hown hK hd hP hS lRn_60 dRn_begin_27 (fun H locs hP hS => ?_)
  refine lv_aload_n hx hb dRn_begin_30 rfl (lv_at hl 0 rfl) ?_
  refine lv_lconst (v := 0) hx hb dRn_begin_31 (by decide) ?_
  refine ce_pCnt hx hb hts hown hK hd hP hS lRn_34 dRn_begin_32 (fun H locs hP hS => ?_)
  refine lv_iconst (v := 0) hx hb dRn_begin_35 (by decide) ?_
  refine lv_istore_n (lv' := [(2, .int 0), (0, .ref (a 0)), (1, .int x)]) hx hb dRn_begin_36 rfl hl (by decide) rfl (fun ls hl => ?_)
  generalize hU : sCnt (sMark (sCat (sFin (sSteps (sAcc (sName u x) 0) 0) 0) 0) false) 0 = g0 at hP
  have loop58 : ∀ (n j : Nat) (f : Nat → Int32) (H : Heap) (locs : List Loc) (ls : Array Slot), j + n = 2 → (∀ q, q < j → f q = 0) → va_P D vwCl (wR a cI P (sHolds (sCells g0 (fun _ => 0)) f)) H → va_S (aR a) s.heap H locs → lv_has ls 3 [(0, .ref (a 0)), (2, .int (nI j))] → W p l e (headSpec (ce_ws yRn_begin cRn_begin 3 none) (ce_rm 1)).room s m (([.ref (a 0), .int x] : List Value).toArray) below meth c H locs 0 0 (MQ below (va_Qv (fun u' => u' = xBegin x u) (fun u' t => va_P D vwCl (wR a cI P u') t.heap) (aR a)) (([.ref (a 0), .int x] : List Value).toArray) s 0 0 (aR a)) (F0 m 58 ls []) := by
    intro n
    induction n with
    | zero =>
      intro j f H locs ls hj hf hP hS hl
      refine lv_iload_n hx hb dRn_begin_58 rfl (lv_at hl 1 rfl) ?_
      refine lv_iconst (v := 2) hx hb dRn_begin_59 (by decide) ?_
      refine lv_icmp_ge (tgt := 76) hx hb dRn_begin_60 (by decide) (fun c_1 => ?_) (fun c_1 => ?_)
      · -- 60 taken
        obtain rfl : j = 2 := by omega
        have hP := ce_like (u := sHolds (sCells g0 (fun _ => 0)) f) (u' := sHolds (sCells g0 (fun _ => 0)) (fun _ => 0)) rfl (fun _ _ => rfl) (fun q h => hf q h) hP
        refine lv_aload_n hx hb dRn_begin_76 rfl (lv_at hl 0 rfl) ?_
        refine ce_vv (As := []) (rest := []) ⟨hx, hb, hml, hown, hts⟩ (c_Rn_forgetTrouble l D cI a hd P (sHolds (sCells g0 (fun _ => 0)) (fun _ => 0))) mRn_forgetTrouble lRn_79 iRn_forgetTrouble ⟨Nat.le_of_ble_eq_true rfl, Nat.le_of_ble_eq_true rfl⟩ ⟨rfl, rfl⟩ hK hN hP hS rfl hl.1 rfl (Nat.le_of_ble_eq_true rfl) dRn_begin_77 ⟨Nat.le_of_ble_eq_true rfl, Nat.le_of_ble_eq_true rfl⟩ (fun u_3 H locs er_2 hP hS => ?_)
        obtain rfl := er_2
        have hP : va_P D vwCl (wR a cI P (sOwn (sTa (sTr (sHolds (sCells g0 (fun _ => 0)) (fun _ => 0)) (-1)) (-1)) (-1))) H := hP
        exact W.vret hx hb hr (fun t9 ht hW => ⟨⟨sOwn (sTa (sTr (sHolds (sCells g0 (fun _ => 0)) (fun _ => 0)) (-1)) (-1)) (-1), rfl, by rw [← hU]; rfl, ce_hp ht hP⟩, hS.F ht⟩) hS.2.2 dRn_begin_80
      · -- 60 not taken
        exact absurd (nI_le (a := 2) (b := j) (by omega) (by omega)) c_1
    | succ n ihn =>
      intro j f H locs ls hj hf hP hS hl
      refine lv_iload_n hx hb dRn_begin_58 rfl (lv_at hl 1 rfl) ?_
      refine lv_iconst (v := 2) hx hb dRn_begin_59 (by decide) ?_
      refine lv_icmp_ge (tgt := 76) hx hb dRn_begin_60 (by decide) (fun c_4 => ?_) (fun c_4 => ?_)
      · -- 60 taken
        exact absurd c_4 (nI_ge (a := j) (b := 2) (by omega) (by omega))
      · -- 60 not taken
        refine lv_aload_n hx hb dRn_begin_63 rfl (lv_at hl 0 rfl) ?_
        refine ce_gR hx hb hts hown hK hP 2 (by decide) rfl lRn_15 rfl dRn_begin_64 ?_
        refine lv_iload_n hx hb dRn_begin_67 rfl (lv_at hl 1 rfl) ?_
        refine lv_iconst (v := 0) hx hb dRn_begin_68 (by decide) ?_
        refine ce_ast5 hx hb hK hd hP hS (vp_in_nI (by omega) (by decide)) dRn_begin_69 (fun H locs hP hS => ?_)
        rw [gHolds_sHolds] at hP
        rw [nI_clamp (n := j) (by omega)] at hP
        have hP : va_P D vwCl (wR a cI P (sHolds (sHolds (sCells g0 (fun _ => 0)) f) (upd f j 0))) H := hP
        refine lv_iinc (v := nI (j + 1)) (lv' := [(2, .int (nI (j + 1))), (0, .ref (a 0))]) hx hb dRn_begin_70 hl (k := 1) rfl (nI_1 j) (by decide) rfl (fun ls hl => ?_)
        refine lv_goto (tgt := 58) hx hb dRn_begin_73 (by decide) ?_
        exact ihn (j + 1) (upd f j 0) _ _ _ (by omega) (zero_upd hf) hP hS (lv_sub hl [1, 0] rfl)
  have loop37 : ∀ (n j : Nat) (f : Nat → Int32) (H : Heap) (locs : List Loc) (ls : Array Slot), j + n = 8 → (∀ q, q < j → f q = 0) → va_P D vwCl (wR a cI P (sCells g0 f)) H → va_S (aR a) s.heap H locs → lv_has ls 3 [(0, .ref (a 0)), (2, .int (nI j))] → W p l e (headSpec (ce_ws yRn_begin cRn_begin 3 none) (ce_rm 1)).room s m (([.ref (a 0), .int x] : List Value).toArray) below meth c H locs 0 0 (MQ below (va_Qv (fun u' => u' = xBegin x u) (fun u' t => va_P D vwCl (wR a cI P u') t.heap) (aR a)) (([.ref (a 0), .int x] : List Value).toArray) s 0 0 (aR a)) (F0 m 37 ls []) := by
    intro n
    induction n with
    | zero =>
      intro j f H locs ls hj hf hP hS hl
      refine lv_iload_n hx hb dRn_begin_37 rfl (lv_at hl 1 rfl) ?_
      refine lv_bipush (v := 8) hx hb dRn_begin_38 (by decide) ?_
      refine lv_icmp_ge (tgt := 56) hx hb dRn_begin_40 (by decide) (fun c_5 => ?_) (fun c_5 => ?_)
      · -- 40 taken
        obtain rfl : j = 8 := by omega
        have hP := ce_like (u := sCells g0 f) (u' := sHolds (sCells g0 (fun _ => 0)) (gHolds g0)) rfl (fun q h => hf q h) (fun _ _ => rfl) hP
        refine lv_iconst (v := 0) hx hb dRn_begin_56 (by decide) ?_
        refine lv_istore_n (lv' := [(2, .int 0), (0, .ref (a 0))]) hx hb dRn_begin_57 rfl hl (by decide) rfl (fun ls hl => ?_)
        exact loop58 2 0 (gHolds g0) _ _ _ rfl (fun q h => absurd h (Nat.not_lt_zero q)) hP hS (lv_sub hl [1, 0] rfl)
      · -- 40 not taken
        exact absurd (nI_le (a := 8) (b := j) (by omega) (by omega)) c_5
    | succ n ihn =>
      intro j f H locs ls hj hf hP hS hl
      refine lv_iload_n hx hb dRn_begin_37 rfl (lv_at hl 1 rfl) ?_
      refine lv_bipush (v := 8) hx hb dRn_begin_38 (by decide) ?_
      refine lv_icmp_ge (tgt := 56) hx hb dRn_begin_40 (by decide) (fun c_6 => ?_) (fun c_6 => ?_)
      · -- 40 taken
        exact absurd c_6 (nI_ge (a := j) (b := 8) (by omega) (by omega))
      · -- 40 not taken
        refine lv_aload_n hx hb dRn_begin_43 rfl (lv_at hl 0 rfl) ?_
        refine ce_gR hx hb hts hown hK hP 1 (by decide) rfl lRn_11 rfl dRn_begin_44 ?_
        refine lv_iload_n hx hb dRn_begin_47 rfl (lv_at hl 1 rfl) ?_
        refine lv_iconst (v := 0) hx hb dRn_begin_48 (by decide) ?_
        refine ce_ast4 hx hb hK hd hP hS (vp_in_nI (by omega) (by decide)) dRn_begin_49 (fun H locs hP hS => ?_)
        rw [gCells_sCells] at hP
        rw [nI_clamp (n := j) (by omega)] at hP
        have hP : va_P D vwCl (wR a cI P (sCells (sCells g0 f) (upd f j 0))) H := hP
        refine lv_iinc (v := nI (j + 1)) (lv' := [(2, .int (nI (j + 1))), (0, .ref (a 0))]) hx hb dRn_begin_50 hl (k := 1) rfl (nI_1 j) (by decide) rfl (fun ls hl => ?_)
        refine lv_goto (tgt := 37) hx hb dRn_begin_53 (by decide) ?_
        exact ihn (j + 1) (upd f j 0) _ _ _ (by omega) (zero_upd hf) hP hS (lv_sub hl [1, 0] rfl)
  exact loop37 8 0 (gCells g0) _ _ _ rfl (fun q h => absurd h (Nat.not_lt_zero q)) hP hS (lv_sub hl [1, 0] rfl)
set_option maxHeartbeats 4000000 in
set_option maxRecDepth 100000 in
theorem c_Rn_perform (l : Launch) (D : va_G) (cI : ClassId) (a : Nat → Nat) (hd : dR a) (P : PR) (hp : pOk P) (u : RS) (x : Int32) : Met l yRn_perform (ce_ws yRn_perform cRn_perform 2 none) (ce_rm 48) (ce_Pc D cI [.ref (a 0), .int x] (wR a cI P u)) (va_Qv (fun u' => u' = xRun P x u) (fun u' t => va_P D vwCl (wR a cI P u') t.heap) (aR a)) 0 0 (aR a) := by
  refine Met.ofW (cc := cRn_perform) (maxL := 2) (ret := none) (by decide) rfl ?_
  intro p e s m args below meth c s₁ B hml hv
  obtain ⟨rfl, hP, hK, hN⟩ := hv
  have hx := B.exec
  have hb := B.bytes
  have hr := B.returns
  have hts := atoms_spec (ws := ce_ws yRn_perform cRn_perform 2 none) B.pre
  have hown : s.vm.findClass RRn = some m.cls := findClass_of_methodNamed B.named
  have hlocks := B.notSynchronized
  have hS : va_S (aR a) s.heap s.heap [] := va_S.rf
  have hl := lv_entry ([.ref (a 0), .int x]) (n := 2) (Nat.le_of_ble_eq_true rfl)
  rw [lg_entry_eq]
  generalize (lg_sl ([.ref (a 0), .int x]) ++ List.replicate (2 - (lg_sl ([.ref (a 0), .int x])).length) Slot.unset).toArray = ls at hl ⊢
  have hl : lv_has ls 2 [(0, .ref (a 0)), (1, .int x)] := hl
  refine lv_aload_n hx hb dRn_perform_0 rfl (lv_at hl 0 rfl) ?_
  refine lv_iload_n hx hb dRn_perform_1 rfl (lv_at hl 1 rfl) ?_
  refine ce_vv (As := [.int x]) (rest := []) ⟨hx, hb, hml, hown, hts⟩ (c_Rn_begin l D cI a hd P u x) mRn_begin lRn_63 iRn_begin ⟨Nat.le_of_ble_eq_true rfl, Nat.le_of_ble_eq_true rfl⟩ ⟨rfl, rfl⟩ hK hN hP hS rfl hl.1 rfl (Nat.le_of_ble_eq_true rfl) dRn_perform_2 ⟨Nat.le_of_ble_eq_true rfl, Nat.le_of_ble_eq_true rfl⟩ (fun u_2 H locs er_1 hP hS => ?_)
  obtain rfl := er_1
  refine lv_aload_n hx hb dRn_perform_5 rfl (lv_at hl 0 rfl) ?_
  refine lv_iconst (v := 0) hx hb dRn_perform_6 (by decide) ?_
  refine lv_aload_n hx hb dRn_perform_7 rfl (lv_at hl 0 rfl) ?_
  refine ce_gR hx hb hts hown hK hP 0 (by decide) rfl lRn_18 rfl dRn_perform_8 ?_
  refine ce_ri (As := []) (rest := [.int 0, .ref (a 0)]) ⟨hx, hb, hml, hown, hts⟩ (c_Pg_size l D cI a P) mPg_size lRn_67 iPg_size ⟨Nat.le_of_ble_eq_true rfl, Nat.le_of_ble_eq_true rfl⟩ ⟨rfl, rfl⟩ hK hN (hP.sub (ws' := wP a cI P) [1, 2, 3] rfl) 0 rfl rfl rfl hl.1 rfl (Nat.le_of_ble_eq_true rfl) dRn_perform_11 ⟨Nat.le_of_ble_eq_true rfl, Nat.le_of_ble_eq_true rfl⟩ (fun r_3 er_3 => ?_)
  obtain rfl : r_3 = nI P.2.2 := er_3
  refine lv_iconst (v := 0) hx hb dRn_perform_14 (by decide) ?_
  refine ce_vi (As := [.int 0, .int (nI P.2.2), .int 0]) (rest := []) ⟨hx, hb, hml, hown, hts⟩ (c_Rn_doActions l D cI a hd P hp 15 (xBegin x u) 0 P.2.2 0 rfl (Nat.zero_le _) (Nat.le_refl _)) mRn_doActions lRn_72 iRn_doActions ⟨Nat.le_of_ble_eq_true rfl, Nat.le_of_ble_eq_true rfl⟩ ⟨rfl, rfl⟩ hK hN hP hS rfl hl.1 rfl (Nat.le_of_ble_eq_true rfl) dRn_perform_15 ⟨Nat.le_of_ble_eq_true rfl, Nat.le_of_ble_eq_true rfl⟩ (fun r_4 u_5 H locs er_4 hP hS => ?_)
  refine lv_pop hx hb dRn_perform_18 rfl ?_
  refine lv_aload_n hx hb dRn_perform_19 rfl (lv_at hl 0 rfl) ?_
  refine lv_iconst (v := 1) hx hb dRn_perform_20 (by decide) ?_
  refine ce_pKnown (x := true) hx hb hts hown hK hd hP hS lRn_26 dRn_perform_21 (fun H locs hP hS => ?_)
  exact W.vret hx hb hr (fun t9 ht hW => ⟨⟨sKnown u_5 true, rfl, congrArg (fun q : Int32 × RS => sKnown q.2 true) er_4, ce_hp ht hP⟩, hS.F ht⟩) hS.2.2 dRn_perform_24
