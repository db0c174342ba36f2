-- THE SIMULATION: the class's run against the reference's machine
def mV (m : MS) : (Int32) × (Int32) × (Int32) × (Int32) × (Bool) × (Nat → Int32) × (Nat → Int32) × (Int64) := (qAcc m, qSteps m, qFin m, qCat m, qMark m, qCell m, qHeld m, qCtr m)
def mT (m : MS) : (Int32) × (Int32) × (Int32) × (Bool) := (qTr m, qNum m, qOrg m, qStop m)
theorem mV_zAcc (m : MS) (x : Int32) : mV (zAcc m x) = (x, (mV m).2.1, (mV m).2.2.1, (mV m).2.2.2.1, (mV m).2.2.2.2.1, (mV m).2.2.2.2.2.1, (mV m).2.2.2.2.2.2.1, (mV m).2.2.2.2.2.2.2) := Eq.trans (b := (x, (mV m).2.1, (mV m).2.2.1, (mV m).2.2.2.1, (mV m).2.2.2.2.1, (mV m).2.2.2.2.2.1, (mV m).2.2.2.2.2.2.1, (mV m).2.2.2.2.2.2.2)) rfl rfl
theorem mV_zSteps (m : MS) (x : Int32) : mV (zSteps m x) = ((mV m).1, x, (mV m).2.2.1, (mV m).2.2.2.1, (mV m).2.2.2.2.1, (mV m).2.2.2.2.2.1, (mV m).2.2.2.2.2.2.1, (mV m).2.2.2.2.2.2.2) := Eq.trans (b := ((mV m).1, x, (mV m).2.2.1, (mV m).2.2.2.1, (mV m).2.2.2.2.1, (mV m).2.2.2.2.2.1, (mV m).2.2.2.2.2.2.1, (mV m).2.2.2.2.2.2.2)) rfl rfl
theorem mV_zFin (m : MS) (x : Int32) : mV (zFin m x) = ((mV m).1, (mV m).2.1, x, (mV m).2.2.2.1, (mV m).2.2.2.2.1, (mV m).2.2.2.2.2.1, (mV m).2.2.2.2.2.2.1, (mV m).2.2.2.2.2.2.2) := Eq.trans (b := ((mV m).1, (mV m).2.1, x, (mV m).2.2.2.1, (mV m).2.2.2.2.1, (mV m).2.2.2.2.2.1, (mV m).2.2.2.2.2.2.1, (mV m).2.2.2.2.2.2.2)) rfl rfl
theorem mV_zCat (m : MS) (x : Int32) : mV (zCat m x) = ((mV m).1, (mV m).2.1, (mV m).2.2.1, x, (mV m).2.2.2.2.1, (mV m).2.2.2.2.2.1, (mV m).2.2.2.2.2.2.1, (mV m).2.2.2.2.2.2.2) := Eq.trans (b := ((mV m).1, (mV m).2.1, (mV m).2.2.1, x, (mV m).2.2.2.2.1, (mV m).2.2.2.2.2.1, (mV m).2.2.2.2.2.2.1, (mV m).2.2.2.2.2.2.2)) rfl rfl
theorem mV_zMark (m : MS) (x : Bool) : mV (zMark m x) = ((mV m).1, (mV m).2.1, (mV m).2.2.1, (mV m).2.2.2.1, x, (mV m).2.2.2.2.2.1, (mV m).2.2.2.2.2.2.1, (mV m).2.2.2.2.2.2.2) := Eq.trans (b := ((mV m).1, (mV m).2.1, (mV m).2.2.1, (mV m).2.2.2.1, x, (mV m).2.2.2.2.2.1, (mV m).2.2.2.2.2.2.1, (mV m).2.2.2.2.2.2.2)) rfl rfl
theorem mV_zCell (m : MS) (x : Nat → Int32) : mV (zCell m x) = ((mV m).1, (mV m).2.1, (mV m).2.2.1, (mV m).2.2.2.1, (mV m).2.2.2.2.1, x, (mV m).2.2.2.2.2.2.1, (mV m).2.2.2.2.2.2.2) := Eq.trans (b := ((mV m).1, (mV m).2.1, (mV m).2.2.1, (mV m).2.2.2.1, (mV m).2.2.2.2.1, x, (mV m).2.2.2.2.2.2.1, (mV m).2.2.2.2.2.2.2)) rfl rfl
theorem mV_zHeld (m : MS) (x : Nat → Int32) : mV (zHeld m x) = ((mV m).1, (mV m).2.1, (mV m).2.2.1, (mV m).2.2.2.1, (mV m).2.2.2.2.1, (mV m).2.2.2.2.2.1, x, (mV m).2.2.2.2.2.2.2) := Eq.trans (b := ((mV m).1, (mV m).2.1, (mV m).2.2.1, (mV m).2.2.2.1, (mV m).2.2.2.2.1, (mV m).2.2.2.2.2.1, x, (mV m).2.2.2.2.2.2.2)) rfl rfl
theorem mV_zCtr (m : MS) (x : Int64) : mV (zCtr m x) = ((mV m).1, (mV m).2.1, (mV m).2.2.1, (mV m).2.2.2.1, (mV m).2.2.2.2.1, (mV m).2.2.2.2.2.1, (mV m).2.2.2.2.2.2.1, x) := Eq.trans (b := ((mV m).1, (mV m).2.1, (mV m).2.2.1, (mV m).2.2.2.1, (mV m).2.2.2.2.1, (mV m).2.2.2.2.2.1, (mV m).2.2.2.2.2.2.1, x)) rfl rfl
theorem mV_zTr (m : MS) (x : Int32) : mV (zTr m x) = mV m := Eq.trans (b := mV m) rfl rfl
theorem mV_zNum (m : MS) (x : Int32) : mV (zNum m x) = mV m := Eq.trans (b := mV m) rfl rfl
theorem mV_zOrg (m : MS) (x : Int32) : mV (zOrg m x) = mV m := Eq.trans (b := mV m) rfl rfl
theorem mV_zStop (m : MS) (x : Bool) : mV (zStop m x) = mV m := Eq.trans (b := mV m) rfl rfl
theorem mV_zBlk (m : MS) (x : Nat → Nat) : mV (zBlk m x) = mV m := Eq.trans (b := mV m) rfl rfl
theorem mV_zEnd (m : MS) (x : Nat → Nat) : mV (zEnd m x) = mV m := Eq.trans (b := mV m) rfl rfl
theorem mV_zLeft (m : MS) (x : Nat → Nat) : mV (zLeft m x) = mV m := Eq.trans (b := mV m) rfl rfl
theorem mV_zOpen (m : MS) (x : Nat) : mV (zOpen m x) = mV m := Eq.trans (b := mV m) rfl rfl
theorem mV_zAt (m : MS) (x : Nat) : mV (zAt m x) = mV m := Eq.trans (b := mV m) rfl rfl
theorem mT_zAcc (m : MS) (x : Int32) : mT (zAcc m x) = mT m := Eq.trans (b := mT m) rfl rfl
theorem mT_zSteps (m : MS) (x : Int32) : mT (zSteps m x) = mT m := Eq.trans (b := mT m) rfl rfl
theorem mT_zFin (m : MS) (x : Int32) : mT (zFin m x) = mT m := Eq.trans (b := mT m) rfl rfl
theorem mT_zCat (m : MS) (x : Int32) : mT (zCat m x) = mT m := Eq.trans (b := mT m) rfl rfl
theorem mT_zMark (m : MS) (x : Bool) : mT (zMark m x) = mT m := Eq.trans (b := mT m) rfl rfl
theorem mT_zCell (m : MS) (x : Nat → Int32) : mT (zCell m x) = mT m := Eq.trans (b := mT m) rfl rfl
theorem mT_zHeld (m : MS) (x : Nat → Int32) : mT (zHeld m x) = mT m := Eq.trans (b := mT m) rfl rfl
theorem mT_zCtr (m : MS) (x : Int64) : mT (zCtr m x) = mT m := Eq.trans (b := mT m) rfl rfl
theorem mT_zTr (m : MS) (x : Int32) : mT (zTr m x) = (x, (mT m).2.1, (mT m).2.2.1, (mT m).2.2.2) := Eq.trans (b := (x, (mT m).2.1, (mT m).2.2.1, (mT m).2.2.2)) rfl rfl
theorem mT_zNum (m : MS) (x : Int32) : mT (zNum m x) = ((mT m).1, x, (mT m).2.2.1, (mT m).2.2.2) := Eq.trans (b := ((mT m).1, x, (mT m).2.2.1, (mT m).2.2.2)) rfl rfl
theorem mT_zOrg (m : MS) (x : Int32) : mT (zOrg m x) = ((mT m).1, (mT m).2.1, x, (mT m).2.2.2) := Eq.trans (b := ((mT m).1, (mT m).2.1, x, (mT m).2.2.2)) rfl rfl
theorem mT_zStop (m : MS) (x : Bool) : mT (zStop m x) = ((mT m).1, (mT m).2.1, (mT m).2.2.1, x) := Eq.trans (b := ((mT m).1, (mT m).2.1, (mT m).2.2.1, x)) rfl rfl
theorem mT_zBlk (m : MS) (x : Nat → Nat) : mT (zBlk m x) = mT m := Eq.trans (b := mT m) rfl rfl
theorem mT_zEnd (m : MS) (x : Nat → Nat) : mT (zEnd m x) = mT m := Eq.trans (b := mT m) rfl rfl
theorem mT_zLeft (m : MS) (x : Nat → Nat) : mT (zLeft m x) = mT m := Eq.trans (b := mT m) rfl rfl
theorem mT_zOpen (m : MS) (x : Nat) : mT (zOpen m x) = mT m := Eq.trans (b := mT m) rfl rfl
theorem mT_zAt (m : MS) (x : Nat) : mT (zAt m x) = mT m := Eq.trans (b := mT m) rfl rfl
def uV (c0 : Int64) (u : RS) : Int32 × Int32 × Int32 × Int32 × Bool × (Nat → Int32) × (Nat → Int32) × Int64 := (gAcc u, gSteps u, gFin u, gCat u, gMark u, gCells u, gHolds u, c0 + gCnt u)
theorem uV_sCells (c0 : Int64) (u : RS) (x : Nat → Int32) : uV c0 (sCells u x) = ((uV c0 u).1, (uV c0 u).2.1, (uV c0 u).2.2.1, (uV c0 u).2.2.2.1, (uV c0 u).2.2.2.2.1, x, (uV c0 u).2.2.2.2.2.2.1, (uV c0 u).2.2.2.2.2.2.2) := Eq.trans (b := ((uV c0 u).1, (uV c0 u).2.1, (uV c0 u).2.2.1, (uV c0 u).2.2.2.1, (uV c0 u).2.2.2.2.1, x, (uV c0 u).2.2.2.2.2.2.1, (uV c0 u).2.2.2.2.2.2.2)) rfl rfl
theorem uV_sHolds (c0 : Int64) (u : RS) (x : Nat → Int32) : uV c0 (sHolds u x) = ((uV c0 u).1, (uV c0 u).2.1, (uV c0 u).2.2.1, (uV c0 u).2.2.2.1, (uV c0 u).2.2.2.2.1, (uV c0 u).2.2.2.2.2.1, x, (uV c0 u).2.2.2.2.2.2.2) := Eq.trans (b := ((uV c0 u).1, (uV c0 u).2.1, (uV c0 u).2.2.1, (uV c0 u).2.2.2.1, (uV c0 u).2.2.2.2.1, (uV c0 u).2.2.2.2.2.1, x, (uV c0 u).2.2.2.2.2.2.2)) rfl rfl
theorem uV_sKnown (c0 : Int64) (u : RS) (x : Bool) : uV c0 (sKnown u x) = uV c0 u := Eq.trans (b := uV c0 u) rfl rfl
theorem uV_sName (c0 : Int64) (u : RS) (x : Int32) : uV c0 (sName u x) = uV c0 u := Eq.trans (b := uV c0 u) rfl rfl
theorem uV_sAcc (c0 : Int64) (u : RS) (x : Int32) : uV c0 (sAcc u x) = (x, (uV c0 u).2.1, (uV c0 u).2.2.1, (uV c0 u).2.2.2.1, (uV c0 u).2.2.2.2.1, (uV c0 u).2.2.2.2.2.1, (uV c0 u).2.2.2.2.2.2.1, (uV c0 u).2.2.2.2.2.2.2) := Eq.trans (b := (x, (uV c0 u).2.1, (uV c0 u).2.2.1, (uV c0 u).2.2.2.1, (uV c0 u).2.2.2.2.1, (uV c0 u).2.2.2.2.2.1, (uV c0 u).2.2.2.2.2.2.1, (uV c0 u).2.2.2.2.2.2.2)) rfl rfl
theorem uV_sSteps (c0 : Int64) (u : RS) (x : Int32) : uV c0 (sSteps u x) = ((uV c0 u).1, x, (uV c0 u).2.2.1, (uV c0 u).2.2.2.1, (uV c0 u).2.2.2.2.1, (uV c0 u).2.2.2.2.2.1, (uV c0 u).2.2.2.2.2.2.1, (uV c0 u).2.2.2.2.2.2.2) := Eq.trans (b := ((uV c0 u).1, x, (uV c0 u).2.2.1, (uV c0 u).2.2.2.1, (uV c0 u).2.2.2.2.1, (uV c0 u).2.2.2.2.2.1, (uV c0 u).2.2.2.2.2.2.1, (uV c0 u).2.2.2.2.2.2.2)) rfl rfl
theorem uV_sFin (c0 : Int64) (u : RS) (x : Int32) : uV c0 (sFin u x) = ((uV c0 u).1, (uV c0 u).2.1, x, (uV c0 u).2.2.2.1, (uV c0 u).2.2.2.2.1, (uV c0 u).2.2.2.2.2.1, (uV c0 u).2.2.2.2.2.2.1, (uV c0 u).2.2.2.2.2.2.2) := Eq.trans (b := ((uV c0 u).1, (uV c0 u).2.1, x, (uV c0 u).2.2.2.1, (uV c0 u).2.2.2.2.1, (uV c0 u).2.2.2.2.2.1, (uV c0 u).2.2.2.2.2.2.1, (uV c0 u).2.2.2.2.2.2.2)) rfl rfl
theorem uV_sCat (c0 : Int64) (u : RS) (x : Int32) : uV c0 (sCat u x) = ((uV c0 u).1, (uV c0 u).2.1, (uV c0 u).2.2.1, x, (uV c0 u).2.2.2.2.1, (uV c0 u).2.2.2.2.2.1, (uV c0 u).2.2.2.2.2.2.1, (uV c0 u).2.2.2.2.2.2.2) := Eq.trans (b := ((uV c0 u).1, (uV c0 u).2.1, (uV c0 u).2.2.1, x, (uV c0 u).2.2.2.2.1, (uV c0 u).2.2.2.2.2.1, (uV c0 u).2.2.2.2.2.2.1, (uV c0 u).2.2.2.2.2.2.2)) rfl rfl
theorem uV_sMark (c0 : Int64) (u : RS) (x : Bool) : uV c0 (sMark u x) = ((uV c0 u).1, (uV c0 u).2.1, (uV c0 u).2.2.1, (uV c0 u).2.2.2.1, x, (uV c0 u).2.2.2.2.2.1, (uV c0 u).2.2.2.2.2.2.1, (uV c0 u).2.2.2.2.2.2.2) := Eq.trans (b := ((uV c0 u).1, (uV c0 u).2.1, (uV c0 u).2.2.1, (uV c0 u).2.2.2.1, x, (uV c0 u).2.2.2.2.2.1, (uV c0 u).2.2.2.2.2.2.1, (uV c0 u).2.2.2.2.2.2.2)) rfl rfl
theorem uV_sCnt (c0 : Int64) (u : RS) (x : Int64) : uV c0 (sCnt u x) = ((uV c0 u).1, (uV c0 u).2.1, (uV c0 u).2.2.1, (uV c0 u).2.2.2.1, (uV c0 u).2.2.2.2.1, (uV c0 u).2.2.2.2.2.1, (uV c0 u).2.2.2.2.2.2.1, c0 + x) := Eq.trans (b := ((uV c0 u).1, (uV c0 u).2.1, (uV c0 u).2.2.1, (uV c0 u).2.2.2.1, (uV c0 u).2.2.2.2.1, (uV c0 u).2.2.2.2.2.1, (uV c0 u).2.2.2.2.2.2.1, c0 + x)) rfl rfl
theorem uV_sTr (c0 : Int64) (u : RS) (x : Int32) : uV c0 (sTr u x) = uV c0 u := Eq.trans (b := uV c0 u) rfl rfl
theorem uV_sTa (c0 : Int64) (u : RS) (x : Int32) : uV c0 (sTa u x) = uV c0 u := Eq.trans (b := uV c0 u) rfl rfl
theorem uV_sOwn (c0 : Int64) (u : RS) (x : Int32) : uV c0 (sOwn u x) = uV c0 u := Eq.trans (b := uV c0 u) rfl rfl
def cN (u : RS) : Prop := gTr u = -1 ∧ gTa u = -1 ∧ gOwn u = -1
/-- how a stretch ended: as the class says it (r, u), and as the machine shows it -/
def rT (r : Int32) (u : RS) (t : Int32 × Int32 × Int32 × Bool) : Prop := (r = 0 ∧ t.1 = -1 ∧ t.2.2.2 = false ∧ cN u) ∨ (r = 1 ∧ t.1 = -1 ∧ t.2.2.2 = true ∧ cN u) ∨ (r = 2 ∧ t.1 = gTr u ∧ t.2.1 = gOwn u ∧ t.2.2.1 = gTa u ∧ t.2.2.2 = false ∧ (∃ j, j < 11 ∧ gTr u = nI j) ∧ (gTr u ≠ 10 → gOwn u = -1))
theorem isW7 (x : Int32) : isW x 7 = isI x 8 := by
  unfold isW isI
  have a : (7 : Int32) < x ↔ (8 : Int32) ≤ x := by
    rw [Int32.lt_iff_toInt_lt, Int32.le_iff_toInt_le]
    have a1 : (7 : Int32).toInt = 7 := rfl
    have a2 : (8 : Int32).toInt = 8 := rfl
    rw [a1, a2]
    omega
  exact decide_eq_decide.mpr (and_congr_right (fun _ => not_congr a))
theorem takes16 : ∀ K, K < 16 → ∀ j, j < 11 → mTakes K (nI j) = xTakes K (nI j) := by decide +kernel
theorem nI_ne10 {j : Nat} (h : j < 11) (h2 : j ≠ 10) : nI j ≠ 10 := fun q => h2 ((nI_eq (b := 10) (by omega) (by decide)).mp q)
theorem nI_hold {h : Nat} (hh : h ≤ 15) : (nI h = 0) ↔ ¬ (0 < nI h) := by
  constructor
  · intro q; rw [q]; decide
  · intro q
    by_cases e : h = 0
    · subst e; rfl
    · exact absurd ((nI_ltI (a := 0) (b := h) (by decide) (by omega)).mpr (by omega)) q
/-- what an action that has no block does -/
def AG (c0 : Int64) (u : RS) (x : Int32 × RS) (m2 : MS) : Prop := mV m2 = uV c0 x.2 ∧ rT x.1 x.2 (mT m2) ∧ gName x.2 = gName u ∧ gHolds x.2 = gHolds u ∧ gSteps x.2 = gSteps u
theorem ag_ok {c0 : Int64} {u u2 : RS} {m m2 : MS} (hV : mV m2 = uV c0 u2) (hT : mT m2 = mT m) (h1 : qTr m = -1) (h2 : qStop m = false) (hN : cN u2) (a1 : gName u2 = gName u) (a2 : gHolds u2 = gHolds u) (a3 : gSteps u2 = gSteps u) : AG c0 u (0, u2) m2 := by
  refine ⟨hV, Or.inl ⟨rfl, ?_, ?_, hN⟩, a1, a2, a3⟩
  · rw [hT]; exact h1
  · rw [hT]; exact h2
theorem ag_up {c0 : Int64} {u u2 : RS} {m2 : MS} {t i : Nat} {n : Int32} (ht : t < 11) (hn : t ≠ 10 → n = -1) (hV : mV m2 = uV c0 u2) (h2 : qStop m2 = false) (hat : qAt m2 = i) (a1 : gName u2 = gName u) (a2 : gHolds u2 = gHolds u) (a3 : gSteps u2 = gSteps u) : AG c0 u (2, sOwn (sTa (sTr u2 (nI t)) (nI i)) n) (mRaise m2 (nI t) n) := by
  refine ⟨?_, Or.inr (Or.inr ?_), a1, a2, a3⟩
  · unfold mRaise
    rw [mV_zOrg, mV_zNum, mV_zTr, hV]
    rfl
  · unfold mRaise
    rw [mT_zOrg, mT_zNum, mT_zTr, hat]
    refine ⟨rfl, rfl, rfl, rfl, h2, ⟨t, ht, rfl⟩, fun q => ?_⟩
    exact hn (fun e => q (by subst e; rfl))
theorem act_rel {c0 : Int64} {P : PR} {i e : Nat} {f : Nat → Nat → RS → Int32 × RS} {u : RS} {m : MS} (hV : mV m = uV c0 u) (h1 : qTr m = -1) (h2 : qStop m = false) (hN : cN u) (hat : qAt m = i) (hh : ∀ j, j < 2 → ∃ h, h ≤ 15 ∧ gHolds u j = nI h) (hop : P.1 i ≤ 20) (hnb : P.1 i < 10 ∨ 14 < P.1 i) (hK : pK P i < 16) : AG c0 u (xAct f P i e u) (mAct m (P.1 i) (pV P i) (pN P i) (pK P i)) := by
  have eA : qAcc m = gAcc u := congrArg (fun t => t.1) hV
  have eM : qMark m = gMark u := congrArg (fun t => t.2.2.2.2.1) hV
  have eC : qCell m = gCells u := congrArg (fun t => t.2.2.2.2.2.1) hV
  have eH : qHeld m = gHolds u := congrArg (fun t => t.2.2.2.2.2.2.1) hV
  have eX : qCtr m = c0 + gCnt u := congrArg (fun t => t.2.2.2.2.2.2.2) hV
  have R0 : ∀ (u2 : RS) (m2 : MS), mV m2 = uV c0 u2 → mT m2 = mT m → cN u2 → gName u2 = gName u → gHolds u2 = gHolds u → gSteps u2 = gSteps u → AG c0 u (0, u2) m2 := fun u2 m2 a b c d e9 g => ag_ok a b h1 h2 c d e9 g
  have RU : ∀ (t : Nat) (n : Int32), t < 11 → (t ≠ 10 → n = -1) → AG c0 u (2, sOwn (sTa (sTr u (nI t)) (nI i)) n) (mRaise m (nI t) n) := fun t n a b => ag_up a b hV h2 hat rfl rfl rfl
  have RM : AG c0 u (0, u) m := R0 u m hV rfl hN rfl rfl rfl
  have RS9 : AG c0 u (xSleep (nI i) u) (mIntr m) := by
    unfold xSleep mIntr
    rw [eM]
    split
    · refine ag_up (t := 7) (by decide) (fun _ => rfl) ?_ h2 hat rfl rfl rfl
      rw [mV_zMark, hV]
      rfl
    · exact RM
  obtain ⟨h, hle, hhe⟩ := hh (pK P i % 2) (Nat.mod_lt _ (by decide))
  have hz : qHeld m (pK P i % 2) = 0 ↔ ¬ xHeld P i u = true := by
    unfold xHeld
    rw [eH, hhe, nI_hold hle, decide_eq_true_eq]
  rcases (show P.1 i = 0 ∨ P.1 i = 1 ∨ P.1 i = 2 ∨ P.1 i = 3 ∨ P.1 i = 4 ∨ P.1 i = 5 ∨ P.1 i = 6 ∨ P.1 i = 7 ∨ P.1 i = 8 ∨ P.1 i = 9 ∨ P.1 i = 15 ∨ P.1 i = 16 ∨ P.1 i = 17 ∨ P.1 i = 18 ∨ P.1 i = 19 ∨ P.1 i = 20 by omega) with ho | ho | ho | ho | ho | ho | ho | ho | ho | ho | ho | ho | ho | ho | ho | ho
  · have ex : xAct f P i e u = (0, sAcc u (gAcc u + pV P i)) := by simp only [xAct, ho]
    rw [ex, ho]
    refine R0 _ (zAcc m (qAcc m + pV P i)) ?_ (mT_zAcc _ _) hN rfl rfl rfl
    rw [mV_zAcc, eA, hV]; rfl
  · have ex : xAct f P i e u = (0, sAcc u (gAcc u * pV P i)) := by simp only [xAct, ho]
    rw [ex, ho]
    refine R0 _ (zAcc m (qAcc m * pV P i)) ?_ (mT_zAcc _ _) hN rfl rfl rfl
    rw [mV_zAcc, eA, hV]; rfl
  · have ex : xAct f P i e u = xDiv P i u := by simp only [xAct, ho]
    rw [ex, ho]
    show AG c0 u (xDiv P i u) (mDivide m (pV P i) false)
    unfold xDiv mDivide
    split
    · exact RU 0 (-1) (by decide) (fun _ => rfl)
    · rw [if_neg (by decide)]
      refine R0 _ (zAcc m (qAcc m / pV P i)) ?_ (mT_zAcc _ _) hN rfl rfl rfl
      rw [mV_zAcc, eA, hV]; rfl
  · have ex : xAct f P i e u = xRem P i u := by simp only [xAct, ho]
    rw [ex, ho]
    show AG c0 u (xRem P i u) (mDivide m (pV P i) true)
    unfold xRem mDivide
    split
    · exact RU 0 (-1) (by decide) (fun _ => rfl)
    · rw [if_pos rfl]
      refine R0 _ (zAcc m (qAcc m - qAcc m / pV P i * pV P i)) ?_ (mT_zAcc _ _) hN rfl rfl rfl
      rw [mV_zAcc, eA, hV]; rfl
  · have ex : xAct f P i e u = xLoad P i u := by simp only [xAct, ho]
    rw [ex, ho]
    show AG c0 u (xLoad P i u) (mTouch m (pV P i) true)
    unfold xLoad mTouch
    rw [isW7]
    split
    · rw [if_pos rfl]
      refine R0 _ (zAcc m (qCell m (pV P i).toNatClampNeg)) ?_ (mT_zAcc _ _) hN rfl rfl rfl
      rw [mV_zAcc, eC, hV]; rfl
    · exact RU 1 (-1) (by decide) (fun _ => rfl)
  · have ex : xAct f P i e u = xKeep P i u := by simp only [xAct, ho]
    rw [ex, ho]
    show AG c0 u (xKeep P i u) (mTouch m (pV P i) false)
    unfold xKeep mTouch
    rw [isW7]
    split
    · rw [if_neg (by decide)]
      refine R0 _ (zCell m (upd (qCell m) (pV P i).toNatClampNeg (qAcc m))) ?_ (mT_zCell _ _) hN rfl rfl rfl
      rw [mV_zCell, eC, eA, hV]; rfl
    · exact RU 1 (-1) (by decide) (fun _ => rfl)
  · have ex : xAct f P i e u = xBreak P i u := by simp only [xAct, ho]
    rw [ex, ho]
    show AG c0 u (xBreak P i u) (if pK P i < 6 then mRaise m (nI (pK P i)) (-1) else zAcc m (nI (pN P i)))
    unfold xBreak
    by_cases c : pK P i ≤ 5
    · rw [if_pos c, if_pos (by omega)]
      exact RU _ (-1) (by omega) (fun _ => rfl)
    · rw [if_neg c, if_neg (by omega)]
      refine R0 _ (zAcc m (nI (pN P i))) ?_ (mT_zAcc _ _) hN rfl rfl rfl
      rw [mV_zAcc, hV]; rfl
  · have ex : xAct f P i e u = xThrow P i u := by simp only [xAct, ho]
    rw [ex, ho]
    show AG c0 u (xThrow P i u) (if 6 < pK P i ∧ pK P i < 11 then mRaise m (nI (pK P i)) (if pK P i = 10 then nI (pN P i) else -1) else m)
    unfold xThrow
    by_cases c : pK P i = 7 ∨ pK P i = 8 ∨ pK P i = 9
    · rw [if_pos c, if_pos (by omega), if_neg (by omega)]
      exact RU _ (-1) (by omega) (fun _ => rfl)
    · rw [if_neg c]
      by_cases c2 : pK P i = 10
      · rw [if_pos c2, if_pos (by omega), if_pos c2, c2]
        exact RU 10 _ (by omega) (fun q => absurd rfl q)
      · rw [if_neg c2, if_neg (by omega)]
        exact RM
  · have ex : xAct f P i e u = (0, sMark u true) := by simp only [xAct, ho]
    rw [ex, ho]
    refine R0 _ (zMark m true) ?_ (mT_zMark _ _) hN rfl rfl rfl
    rw [mV_zMark, hV]; rfl
  · have ex : xAct f P i e u = (0, sMark (sAcc u (bI (gMark u))) false) := by simp only [xAct, ho]
    rw [ex, ho]
    refine R0 _ (zMark (zAcc m (bI (qMark m))) false) ?_ (by rw [mT_zMark, mT_zAcc]) hN rfl rfl rfl
    rw [mV_zMark, mV_zAcc, eM, hV]; rfl
  · have ex : xAct f P i e u = if xHeld P i u = true then (0, u) else xComes u (nI i) 6 := by simp only [xAct, ho]
    rw [ex, ho]
    show AG c0 u _ (if qHeld m (pK P i % 2) = 0 then mRaise m 6 (-1) else m)
    by_cases c : xHeld P i u = true
    · rw [if_pos c, if_neg (fun q => hz.mp q c)]
      exact RM
    · rw [if_neg c, if_pos (hz.mpr c)]
      exact RU 6 (-1) (by decide) (fun _ => rfl)
  · have ex : xAct f P i e u = if xHeld P i u = true then xSleep (nI i) u else xComes u (nI i) 6 := by simp only [xAct, ho]
    rw [ex, ho]
    show AG c0 u _ (if qHeld m (pK P i % 2) = 0 then mRaise m 6 (-1) else mIntr m)
    by_cases c : xHeld P i u = true
    · rw [if_pos c, if_neg (fun q => hz.mp q c)]
      exact RS9
    · rw [if_neg c, if_pos (hz.mpr c)]
      exact RU 6 (-1) (by decide) (fun _ => rfl)
  · have ex : xAct f P i e u = xSleep (nI i) u := by simp only [xAct, ho]
    rw [ex, ho]
    exact RS9
  · have ex : xAct f P i e u = (0, sAcc u (bI (xHeld P i u))) := by simp only [xAct, ho]
    rw [ex, ho]
    refine R0 _ (zAcc m (bI (decide (0 < qHeld m (pK P i % 2))))) ?_ (mT_zAcc _ _) hN rfl rfl rfl
    rw [mV_zAcc, eH, hV]; rfl
  · have ex : xAct f P i e u = (0, sCnt u (gCnt u + (pV P i).toInt64)) := by simp only [xAct, ho]
    rw [ex, ho]
    refine R0 _ (zCtr m (qCtr m + (pV P i).toInt64)) ?_ (mT_zCtr _ _) hN rfl rfl rfl
    rw [mV_zCtr, eX, hV, Int64.add_assoc]; rfl
  · have ex : xAct f P i e u = (1, u) := by simp only [xAct, ho]
    rw [ex, ho]
    refine (⟨?_, Or.inr (Or.inl ⟨rfl, ?_, ?_, hN⟩), rfl, rfl, rfl⟩ : AG c0 u (1, u) (zStop m true))
    · rw [mV_zStop]; exact hV
    · rw [mT_zStop]; exact h1
    · rw [mT_zStop]
-- THE STRETCHES: so many turns of the machine's loop lead from m to m2
def Rch (th : Bool) (c : Nat) (m m2 : MS) : Prop := ∀ n, mLoop th (c + n) m = mLoop th n m2
theorem Rch.rf {th : Bool} {m : MS} : Rch th 0 m m := fun n => by rw [Nat.zero_add]
theorem Rch.tr {th : Bool} {x y : Nat} {m m1 m2 : MS} (h1 : Rch th x m m1) (h2 : Rch th y m1 m2) : Rch th (x + y) m m2 := fun n => by rw [Nat.add_assoc, h1, h2]
theorem Rch.leave {th : Bool} {m : MS} (h : 0 < qOpen m) (h2 : mGo m = false ∨ qAt m = qEnd m (qOpen m - 1)) : Rch th 1 m (mLeave m (qOpen m - 1)) := fun n => by rw [Nat.add_comm]; exact mLoop_leave h h2
theorem mGo_yes {m : MS} (h1 : qTr m = -1) (h2 : qStop m = false) : mGo m = true := by
  unfold mGo
  rw [h1, h2]
  decide
theorem Rch.step {th : Bool} {m : MS} (h1 : qTr m = -1) (h2 : qStop m = false) (h3 : qAt m < mLim m) (h4 : mLim m ≤ qSize m (qProg m)) : Rch th 1 m (mStep th m) := fun n => by
  rw [Nat.add_comm]
  have hg := mGo_yes h1 h2
  have hs : ¬ qAt m = qSize m (qProg m) := by omega
  refine mLoop_step ?_ ?_
  · rintro ⟨ho, q | q⟩
    · rw [hg] at q; cases q
    · have e : mLim m = qEnd m (qOpen m - 1) := if_neg (by omega)
      omega
  · rintro (q | q)
    · rw [hg] at q; cases q
    · exact hs q
theorem rT_stop {r : Int32} {u : RS} {m : MS} (h : rT r u (mT m)) (hr : r ≠ 0) : mGo m = false := by
  rcases h with h | h | h
  · exact absurd h.1 hr
  · unfold mGo
    have e : qStop m = true := h.2.2.1
    rw [e]
    simp
  · obtain ⟨_, h1, _, _, _, ⟨j, hj, hj2⟩, _⟩ := h
    have e : qTr m = nI j := h1.trans hj2
    unfold mGo
    rw [e, decide_eq_false (nI_pos (by omega))]
    rfl
theorem rT_go {u : RS} {m : MS} (h : rT 0 u (mT m)) : qTr m = -1 ∧ qStop m = false ∧ cN u := by
  rcases h with h | h | h
  · exact h.2
  · exact absurd h.1 (by decide)
  · exact absurd h.1 (by decide)
/-- the program as the class has it and as the machine has it -/
def pM (P : PR) (m : MS) : Prop := (pOk P) ∧ (qSize m (qProg m) = P.2.2) ∧ (∀ i, i < 14 → mO m i = P.1 i) ∧ (∀ i, i < 14 → mG m i = P.2.1 i)
theorem pM.ok {P : PR} {m : MS} (h9 : pM P m) : pOk P := h9.1
theorem pM.sz {P : PR} {m : MS} (h9 : pM P m) : qSize m (qProg m) = P.2.2 := h9.2.1
theorem pM.op {P : PR} {m : MS} (h9 : pM P m) : ∀ i, i < 14 → mO m i = P.1 i := h9.2.2.1
theorem pM.ag {P : PR} {m : MS} (h9 : pM P m) : ∀ i, i < 14 → mG m i = P.2.1 i := h9.2.2.2
theorem mG_same {m m2 : MS} (h : mSame m2 = mSame m) (i : Nat) : mG m2 i = mG m i := by
  unfold mG
  rw [sm_Arg h, sm_Prog h]
theorem pM.same {P : PR} {m m2 : MS} (h : pM P m) (e : mSame m2 = mSame m) : pM P m2 := by
  refine ⟨h.ok, ?_, fun i hi => (mO_same e i).trans (h.op i hi), fun i hi => (mG_same e i).trans (h.ag i hi)⟩
  rw [sm_Size e, sm_Prog e]
  exact h.sz
def nmO (th : Bool) (m : MS) : Int32 := if th = true then 20 + nI (qProg m) else 10
def Pr (th : Bool) (P : PR) (c0 : Int64) (d i z : Nat) (u : RS) (m : MS) : Prop := (pM P m) ∧ (qOpen m = d) ∧ (qAt m = i) ∧ (mLim m = z) ∧ (mV m = uV c0 u) ∧ (qTr m = -1) ∧ (qStop m = false) ∧ (cN u) ∧ (∀ j, j < 2 → ∃ h, h ≤ d ∧ gHolds u j = nI h) ∧ (gName u = nmO th m)
theorem Pr.pm {th : Bool} {P : PR} {c0 : Int64} {d i z : Nat} {u : RS} {m : MS} (h9 : Pr th P c0 d i z u m) : pM P m := h9.1
theorem Pr.opn {th : Bool} {P : PR} {c0 : Int64} {d i z : Nat} {u : RS} {m : MS} (h9 : Pr th P c0 d i z u m) : qOpen m = d := h9.2.1
theorem Pr.pat {th : Bool} {P : PR} {c0 : Int64} {d i z : Nat} {u : RS} {m : MS} (h9 : Pr th P c0 d i z u m) : qAt m = i := h9.2.2.1
theorem Pr.lim {th : Bool} {P : PR} {c0 : Int64} {d i z : Nat} {u : RS} {m : MS} (h9 : Pr th P c0 d i z u m) : mLim m = z := h9.2.2.2.1
theorem Pr.v {th : Bool} {P : PR} {c0 : Int64} {d i z : Nat} {u : RS} {m : MS} (h9 : Pr th P c0 d i z u m) : mV m = uV c0 u := h9.2.2.2.2.1
theorem Pr.tr {th : Bool} {P : PR} {c0 : Int64} {d i z : Nat} {u : RS} {m : MS} (h9 : Pr th P c0 d i z u m) : qTr m = -1 := h9.2.2.2.2.2.1
theorem Pr.sp {th : Bool} {P : PR} {c0 : Int64} {d i z : Nat} {u : RS} {m : MS} (h9 : Pr th P c0 d i z u m) : qStop m = false := h9.2.2.2.2.2.2.1
theorem Pr.n {th : Bool} {P : PR} {c0 : Int64} {d i z : Nat} {u : RS} {m : MS} (h9 : Pr th P c0 d i z u m) : cN u := h9.2.2.2.2.2.2.2.1
theorem Pr.hd {th : Bool} {P : PR} {c0 : Int64} {d i z : Nat} {u : RS} {m : MS} (h9 : Pr th P c0 d i z u m) : ∀ j, j < 2 → ∃ h, h ≤ d ∧ gHolds u j = nI h := h9.2.2.2.2.2.2.2.2.1
theorem Pr.nm {th : Bool} {P : PR} {c0 : Int64} {d i z : Nat} {u : RS} {m : MS} (h9 : Pr th P c0 d i z u m) : gName u = nmO th m := h9.2.2.2.2.2.2.2.2.2
def mLow (d : Nat) (m m2 : MS) : Prop := ∀ j, j < d → qBlk m2 j = qBlk m j ∧ qEnd m2 j = qEnd m j ∧ qLeft m2 j = qLeft m j
theorem mLow.tr {d : Nat} {m m1 m2 : MS} (h1 : mLow d m m1) (h2 : mLow d m1 m2) : mLow d m m2 := fun j hj => ⟨(h2 j hj).1.trans (h1 j hj).1, (h2 j hj).2.1.trans (h1 j hj).2.1, (h2 j hj).2.2.trans (h1 j hj).2.2⟩
theorem mLim_low {d : Nat} {m m2 : MS} (hS : mSame m2 = mSame m) (h1 : qOpen m = d) (h2 : qOpen m2 = d) (hL : mLow d m m2) : mLim m2 = mLim m := by
  unfold mLim
  rw [h1, h2, sm_Size hS, sm_Prog hS]
  split
  · rfl
  · exact (hL (d - 1) (by omega)).2.1
def Po (th : Bool) (c0 : Int64) (d z : Nat) (u : RS) (m : MS) (s b : Nat) (x : Int32 × RS) (c : Nat) (m2 : MS) (s2 : Nat) : Prop := (Rch th c m m2) ∧ (mSame m2 = mSame m) ∧ (qOpen m2 = d) ∧ (mLow d m m2) ∧ (mV m2 = uV c0 x.2) ∧ (rT x.1 x.2 (mT m2)) ∧ (x.1 = 0 → qAt m2 = z) ∧ (gName x.2 = gName u) ∧ (gHolds x.2 = gHolds u) ∧ (gSteps x.2 = nI s2) ∧ (s ≤ s2) ∧ (s2 ≤ 400) ∧ (c ≤ 32 * (s2 - s) + b)
theorem Po.rch {th : Bool} {c0 : Int64} {d z : Nat} {u : RS} {m : MS} {s b : Nat} {x : Int32 × RS} {c : Nat} {m2 : MS} {s2 : Nat} (h9 : Po th c0 d z u m s b x c m2 s2) : Rch th c m m2 := h9.1
theorem Po.same {th : Bool} {c0 : Int64} {d z : Nat} {u : RS} {m : MS} {s b : Nat} {x : Int32 × RS} {c : Nat} {m2 : MS} {s2 : Nat} (h9 : Po th c0 d z u m s b x c m2 s2) : mSame m2 = mSame m := h9.2.1
theorem Po.opn {th : Bool} {c0 : Int64} {d z : Nat} {u : RS} {m : MS} {s b : Nat} {x : Int32 × RS} {c : Nat} {m2 : MS} {s2 : Nat} (h9 : Po th c0 d z u m s b x c m2 s2) : qOpen m2 = d := h9.2.2.1
theorem Po.low {th : Bool} {c0 : Int64} {d z : Nat} {u : RS} {m : MS} {s b : Nat} {x : Int32 × RS} {c : Nat} {m2 : MS} {s2 : Nat} (h9 : Po th c0 d z u m s b x c m2 s2) : mLow d m m2 := h9.2.2.2.1
theorem Po.v {th : Bool} {c0 : Int64} {d z : Nat} {u : RS} {m : MS} {s b : Nat} {x : Int32 × RS} {c : Nat} {m2 : MS} {s2 : Nat} (h9 : Po th c0 d z u m s b x c m2 s2) : mV m2 = uV c0 x.2 := h9.2.2.2.2.1
theorem Po.t {th : Bool} {c0 : Int64} {d z : Nat} {u : RS} {m : MS} {s b : Nat} {x : Int32 × RS} {c : Nat} {m2 : MS} {s2 : Nat} (h9 : Po th c0 d z u m s b x c m2 s2) : rT x.1 x.2 (mT m2) := h9.2.2.2.2.2.1
theorem Po.pat {th : Bool} {c0 : Int64} {d z : Nat} {u : RS} {m : MS} {s b : Nat} {x : Int32 × RS} {c : Nat} {m2 : MS} {s2 : Nat} (h9 : Po th c0 d z u m s b x c m2 s2) : x.1 = 0 → qAt m2 = z := h9.2.2.2.2.2.2.1
theorem Po.nm {th : Bool} {c0 : Int64} {d z : Nat} {u : RS} {m : MS} {s b : Nat} {x : Int32 × RS} {c : Nat} {m2 : MS} {s2 : Nat} (h9 : Po th c0 d z u m s b x c m2 s2) : gName x.2 = gName u := h9.2.2.2.2.2.2.2.1
theorem Po.hd {th : Bool} {c0 : Int64} {d z : Nat} {u : RS} {m : MS} {s b : Nat} {x : Int32 × RS} {c : Nat} {m2 : MS} {s2 : Nat} (h9 : Po th c0 d z u m s b x c m2 s2) : gHolds x.2 = gHolds u := h9.2.2.2.2.2.2.2.2.1
theorem Po.st {th : Bool} {c0 : Int64} {d z : Nat} {u : RS} {m : MS} {s b : Nat} {x : Int32 × RS} {c : Nat} {m2 : MS} {s2 : Nat} (h9 : Po th c0 d z u m s b x c m2 s2) : gSteps x.2 = nI s2 := h9.2.2.2.2.2.2.2.2.2.1
theorem Po.le {th : Bool} {c0 : Int64} {d z : Nat} {u : RS} {m : MS} {s b : Nat} {x : Int32 × RS} {c : Nat} {m2 : MS} {s2 : Nat} (h9 : Po th c0 d z u m s b x c m2 s2) : s ≤ s2 := h9.2.2.2.2.2.2.2.2.2.2.1
theorem Po.l4 {th : Bool} {c0 : Int64} {d z : Nat} {u : RS} {m : MS} {s b : Nat} {x : Int32 × RS} {c : Nat} {m2 : MS} {s2 : Nat} (h9 : Po th c0 d z u m s b x c m2 s2) : s2 ≤ 400 := h9.2.2.2.2.2.2.2.2.2.2.2.1
theorem Po.cb {th : Bool} {c0 : Int64} {d z : Nat} {u : RS} {m : MS} {s b : Nat} {x : Int32 × RS} {c : Nat} {m2 : MS} {s2 : Nat} (h9 : Po th c0 d z u m s b x c m2 s2) : c ≤ 32 * (s2 - s) + b := h9.2.2.2.2.2.2.2.2.2.2.2.2
def Post (th : Bool) (c0 : Int64) (d z : Nat) (u : RS) (m : MS) (s b : Nat) (x : Int32 × RS) : Prop := ∃ c m2 s2, Po th c0 d z u m s b x c m2 s2
theorem mO_of {P : PR} {m : MS} (h : pM P m) {i : Nat} (hi : i < 14) : mO m i = P.1 i := h.op i hi
theorem mStep_400 {th : Bool} {m : MS} (h : qSteps m = 400) : mStep th m = zStop m true := if_pos h
theorem mStep_blk {th : Bool} {m : MS} (h : ¬ qSteps m = 400) (h2 : 9 < mO m (qAt m) ∧ mO m (qAt m) < 15) : mStep th m = mEnter (zAt (zSteps m (qSteps m + 1)) (qAt m + 1)) (qAt m) (mG m (qAt m) % 16) := (if_neg h).trans (if_pos h2)
theorem mStep_21 {th : Bool} {m : MS} (h : ¬ qSteps m = 400) (h2 : mO m (qAt m) = 21) : mStep th m = zAt (zAcc (zSteps m (qSteps m + 1)) (if th = true then 20 + nI (qProg m) else 10)) (qAt m + 1) := (if_neg h).trans ((if_neg (by omega)).trans (if_pos h2))
theorem mStep_act {th : Bool} {m : MS} (h : ¬ qSteps m = 400) (h2 : ¬ (9 < mO m (qAt m) ∧ mO m (qAt m) < 15)) (h3 : ¬ mO m (qAt m) = 21) : mStep th m = zAt (mAct (zSteps m (qSteps m + 1)) (mO m (qAt m)) (nI (mG m (qAt m)) - 100) (mG m (qAt m) % 16) (mG m (qAt m) / 16)) (qAt m + 1) := (if_neg h).trans ((if_neg h2).trans (if_neg h3))
theorem nI400 {s : Nat} (h : s ≤ 400) : nI s = 400 ↔ s = 400 := nI_eq (b := 400) (by omega) (by decide)
theorem nI400le {s : Nat} (h : s ≤ 400) : (400 : Int32) ≤ nI s ↔ 400 ≤ s := nI_leI (a := 400) (by decide) (by omega)
theorem pB_none {P : PR} {i e : Nat} (h : P.1 i < 10 ∨ 14 < P.1 i) : pB P i e = 0 := if_pos h
theorem pB_some {P : PR} {i e : Nat} (h : ¬ (P.1 i < 10 ∨ 14 < P.1 i)) : pB P i e = min (pN P i) (e - i - 1) := if_neg h
theorem pK16 {P : PR} {i : Nat} (h : P.2.1 i ≤ 255) : pK P i < 16 := by
  unfold pK
  omega
/-- an action that has no block -/
theorem sim_flat {th : Bool} {P : PR} {c0 : Int64} {d i z : Nat} {u : RS} {m : MS} {s : Nat} {f : Nat → Nat → RS → Int32 × RS} (hi : i < z) (hz : z ≤ P.2.2) (hd15 : d ≤ 15) (H : Pr th P c0 d i z u m) (hs : gSteps u = nI s) (hs4 : s < 400) (hnb : P.1 i < 10 ∨ 14 < P.1 i) : Post th c0 d (i + 1 + pB P i z) u m (s + 1) 32 (xAct f P i (i + 1 + pB P i z) (sSteps u (gSteps u + 1))) := by
  have h14 : i < 14 := by have := H.pm.ok.1; omega
  obtain ⟨hop, hag⟩ := H.pm.ok.2 i (by omega)
  have eO : mO m (qAt m) = P.1 i := by rw [H.pat]; exact H.pm.op i h14
  have eG : mG m (qAt m) = P.2.1 i := by rw [H.pat]; exact H.pm.ag i h14
  have eS : qSteps m = nI s := (congrArg (fun t => t.2.1) H.v).trans hs
  have hn4 : ¬ qSteps m = 400 := by rw [eS, nI400 (by omega)]; omega
  have hstep := Rch.step (th := th) H.tr H.sp (by rw [H.pat, H.lim]; exact hi) (by rw [H.lim, H.pm.sz]; exact hz)
  have hV1 : mV (zSteps m (qSteps m + 1)) = uV c0 (sSteps u (gSteps u + 1)) := by
    rw [mV_zSteps, eS, H.v, hs]
    rfl
  have eB : i + 1 + pB P i z = i + 1 := by rw [pB_none hnb]
  rw [eB]
  have hst1 : gSteps (sSteps u (gSteps u + 1)) = nI (s + 1) := by
    show gSteps u + 1 = _
    rw [hs, nI_1]
  have low : ∀ m2, mFrm m2 = (qBlk m, qEnd m, qLeft m, qOpen m, i + 1) → qOpen m2 = d ∧ mLow d m m2 ∧ qAt m2 = i + 1 := by
    intro m2 hF
    obtain ⟨f1, f2, f3, f4, f5⟩ := fm_1 hF
    exact ⟨f4.trans H.opn, fun j _ => by rw [f1, f2, f3]; exact ⟨rfl, rfl, rfl⟩, f5⟩
  by_cases c21 : P.1 i = 21
  · have ex : xAct f P i (i + 1) (sSteps u (gSteps u + 1)) = (0, sAcc (sSteps u (gSteps u + 1)) (gName u)) := by
      simp only [xAct, c21]
      rfl
    rw [ex]
    have e := mStep_21 (th := th) hn4 (eO.trans c21)
    rw [e] at hstep
    have hF : mFrm (zAt (zAcc (zSteps m (qSteps m + 1)) (if th = true then 20 + nI (qProg m) else 10)) (qAt m + 1)) = (qBlk m, qEnd m, qLeft m, qOpen m, i + 1) := by
      rw [mFrm_zAt, mFrm_zAcc, mFrm_zSteps, H.pat]
      rfl
    obtain ⟨l1, l2, l3⟩ := low _ hF
    refine ⟨1, _, s + 1, hstep, ?_, l1, l2, ?_, Or.inl ⟨rfl, ?_, ?_, H.n⟩, fun _ => l3, rfl, rfl, hst1, by omega, by omega, by omega⟩
    · rw [mSame_zAt, mSame_zAcc, mSame_zSteps]
    · rw [mV_zAt, mV_zAcc, hV1, H.nm]
      rfl
    · rw [mT_zAt, mT_zAcc, mT_zSteps]; exact H.tr
    · rw [mT_zAt, mT_zAcc, mT_zSteps]; exact H.sp
  · have e := mStep_act (th := th) hn4 (by rw [eO]; omega) (by rw [eO]; exact c21)
    rw [eO, eG] at e
    rw [e] at hstep
    have A := act_rel (e := i + 1) (f := f) hV1 (m := zSteps m (qSteps m + 1)) H.tr H.sp H.n H.pat (fun j hj => by obtain ⟨h, h1, h2⟩ := H.hd j hj; exact ⟨h, by omega, h2⟩) (by omega) hnb (pK16 hag)
    obtain ⟨a1, a2, a3, a4, a5⟩ := A
    have hF : mFrm (zAt (mAct (zSteps m (qSteps m + 1)) (P.1 i) (nI (P.2.1 i) - 100) (P.2.1 i % 16) (P.2.1 i / 16)) (qAt m + 1)) = (qBlk m, qEnd m, qLeft m, qOpen m, i + 1) := by
      rw [mFrm_zAt, mFrm_act, mFrm_zSteps, H.pat]
      rfl
    obtain ⟨l1, l2, l3⟩ := low _ hF
    refine ⟨1, _, s + 1, hstep, ?_, l1, l2, ?_, ?_, fun _ => l3, a3, a4, a5.trans hst1, by omega, by omega, by omega⟩
    · rw [mSame_zAt, mSame_act, mSame_zSteps]
    · rw [mV_zAt]; exact a1
    · rw [mT_zAt]; exact a2
theorem nmO_same {th : Bool} {m m2 : MS} (h : mSame m2 = mSame m) : nmO th m2 = nmO th m := by
  unfold nmO
  rw [sm_Prog h]
theorem mV_pop (m : MS) (d : Nat) : mV (mPop m d) = mV m := by
  unfold mPop
  rw [mV_zAt, mV_zOpen]
theorem mT_pop (m : MS) (d : Nat) : mT (mPop m d) = mT m := by
  unfold mPop
  rw [mT_zAt, mT_zOpen]
theorem mFrm_push (m : MS) (i z : Nat) : mFrm (mPush m i z) = (va_up (qBlk m) (qOpen m) i, va_up (qEnd m) (qOpen m) z, va_up (qLeft m) (qOpen m) (mK m i), qOpen m + 1, qAt m) := by
  unfold mPush
  rw [mFrm_zOpen, mFrm_zLeft, mFrm_zEnd, mFrm_zBlk]
  rfl
theorem mV_push (m : MS) (i z : Nat) : mV (mPush m i z) = mV m := by
  unfold mPush
  rw [mV_zOpen, mV_zLeft, mV_zEnd, mV_zBlk]
theorem mT_push (m : MS) (i z : Nat) : mT (mPush m i z) = mT m := by
  unfold mPush
  rw [mT_zOpen, mT_zLeft, mT_zEnd, mT_zBlk]
/-- a block is entered -/
theorem sim_enter {th : Bool} {P : PR} {c0 : Int64} {d i z : Nat} {u : RS} {m : MS} {s : Nat} (hi : i < z) (hz : z ≤ P.2.2) (hd15 : d ≤ 14) (H : Pr th P c0 d i z u m) (hs : gSteps u = nI s) (hs4 : s < 400) (hb1 : 10 ≤ P.1 i) (hb2 : P.1 i ≤ 14) (hno : ¬ (P.1 i = 14 ∧ pK P i = 0)) : ∃ m1, Rch th 1 m m1 ∧ mSame m1 = mSame m ∧ qBlk m1 d = i ∧ qEnd m1 d = i + 1 + pB P i z ∧ qLeft m1 d = pK P i ∧ mLow d m m1 ∧ Pr th P c0 (d + 1) (i + 1) (i + 1 + pB P i z) (if P.1 i = 13 then xGrab P i (sSteps u (gSteps u + 1)) else sSteps u (gSteps u + 1)) m1 := by
  have h14 : i < 14 := by have := H.pm.ok.1; omega
  have eO : mO m (qAt m) = P.1 i := by rw [H.pat]; exact H.pm.op i h14
  have eG : mG m (qAt m) = P.2.1 i := by rw [H.pat]; exact H.pm.ag i h14
  have eS : qSteps m = nI s := (congrArg (fun t => t.2.1) H.v).trans hs
  have hn4 : ¬ qSteps m = 400 := by rw [eS, nI400 (by omega)]; omega
  have hstep := Rch.step (th := th) H.tr H.sp (by rw [H.pat, H.lim]; exact hi) (by rw [H.lim, H.pm.sz]; exact hz)
  rw [mStep_blk hn4 (by rw [eO]; omega), eG, H.pat] at hstep
  generalize hg : zAt (zSteps m (qSteps m + 1)) (i + 1) = g at hstep
  have gS : mSame g = mSame m := by rw [← hg, mSame_zAt, mSame_zSteps]
  have gV : mV g = uV c0 (sSteps u (gSteps u + 1)) := by
    rw [← hg, mV_zAt, mV_zSteps, eS, H.v, hs]
    rfl
  have gT : mT g = mT m := by rw [← hg, mT_zAt, mT_zSteps]
  have gF : mFrm g = (qBlk m, qEnd m, qLeft m, qOpen m, i + 1) := by
    rw [← hg, mFrm_zAt, mFrm_zSteps]
    rfl
  obtain ⟨f1, f2, f3, f4, f5⟩ := fm_1 gF
  have gO : mO g i = P.1 i := (mO_same gS i).trans (H.pm.op i h14)
  have gK : mK g i = pK P i := by
    unfold mK pK
    rw [sm_Arg gS, sm_Prog gS, ← H.pm.ag i h14]
    rfl
  have gL : mLim g = z := by
    rw [← H.lim]
    unfold mLim
    rw [sm_Size gS, sm_Prog gS, f2, f4]
  have eB : min (i + 1 + P.2.1 i % 16) z = i + 1 + pB P i z := by
    rw [pB_some (by omega)]
    unfold pN
    omega
  have push : ∀ m1, mFrm m1 = mFrm (mPush g i (i + 1 + pB P i z)) → mSame m1 = mSame m → mT m1 = mT m → mV m1 = uV c0 (if P.1 i = 13 then xGrab P i (sSteps u (gSteps u + 1)) else sSteps u (gSteps u + 1)) → qBlk m1 d = i ∧ qEnd m1 d = i + 1 + pB P i z ∧ qLeft m1 d = pK P i ∧ mLow d m m1 ∧ Pr th P c0 (d + 1) (i + 1) (i + 1 + pB P i z) (if P.1 i = 13 then xGrab P i (sSteps u (gSteps u + 1)) else sSteps u (gSteps u + 1)) m1 := by
    intro m1 hF hS hT hV
    rw [mFrm_push, f1, f2, f3, f4, f5, gK, H.opn] at hF
    obtain ⟨p1, p2, p3, p4, p5⟩ := fm_1 hF
    have pE : qEnd m1 d = i + 1 + pB P i z := by rw [p2, va_up_self]
    refine ⟨by rw [p1, va_up_self], pE, by rw [p3, va_up_self], fun j hj => ?_, ?_⟩
    · rw [p1, p2, p3, va_up_ne _ _ (by omega), va_up_ne _ _ (by omega), va_up_ne _ _ (by omega)]
      exact ⟨rfl, rfl, rfl⟩
    · refine ⟨H.pm.same hS, p4, p5, ?_, hV, ?_, ?_, ?_, ?_, ?_⟩
      · unfold mLim
        rw [p4, if_neg (by omega), Nat.add_sub_cancel]
        exact pE
      · exact (congrArg (fun t => t.1) hT).trans H.tr
      · exact (congrArg (fun t => t.2.2.2) hT).trans H.sp
      · split <;> exact H.n
      · intro j hj
        obtain ⟨h, h1, h2⟩ := H.hd j hj
        split
        · show ∃ h, h ≤ d + 1 ∧ upd (gHolds u) (pK P i % 2) (gHolds u (pK P i % 2) + 1) j = nI h
          unfold upd
          split
          · rename_i e9
            rw [← e9, h2, nI_1]
            exact ⟨h + 1, by omega, rfl⟩
          · exact ⟨h, by omega, h2⟩
        · exact ⟨h, by omega, h2⟩
      · rw [nmO_same hS, ← H.nm]
        split <;> rfl
  have en : mEnter g i (P.2.1 i % 16) = if P.1 i = 13 then zHeld (mPush g i (i + 1 + pB P i z)) (upd (qHeld g) (pK P i % 2) (qHeld g (pK P i % 2) + 1)) else mPush g i (i + 1 + pB P i z) := by
    unfold mEnter
    rw [gO, gK, gL, eB, if_neg hno]
  rw [en] at hstep
  refine ⟨_, hstep, ?_, push _ ?_ ?_ ?_ ?_⟩
  · split
    · rw [mSame_zHeld, mSame_push, gS]
    · rw [mSame_push, gS]
  · split
    · rw [mFrm_zHeld]
    · rfl
  · split
    · rw [mSame_zHeld, mSame_push, gS]
    · rw [mSame_push, gS]
  · split
    · rw [mT_zHeld, mT_push, gT]
    · rw [mT_push, gT]
  · split
    · have eH : qHeld g = gHolds u := congrArg (fun t => t.2.2.2.2.2.2.1) gV
      rw [mV_zHeld, mV_push, gV, eH]
      rfl
    · rw [mV_push, gV]
theorem leave_now {th : Bool} {c0 : Int64} {d e : Nat} {u1 : RS} {m1 m2 : MS} {s b c1 s2 : Nat} {x : Int32 × RS} (hE : qEnd m1 d = e) (B : Po th c0 (d + 1) e u1 m1 s b x c1 m2 s2) : Rch th (c1 + 1) m1 (mLeave m2 d) := by
  have h := Rch.leave (th := th) (m := m2) (by rw [B.opn]; omega) (by
    by_cases c : x.1 = 0
    · right
      rw [B.opn, Nat.add_sub_cancel, (B.low d (by omega)).2.1, hE]
      exact B.pat c
    · left
      exact rT_stop B.t c)
  rw [B.opn, Nat.add_sub_cancel] at h
  exact B.rch.tr h
theorem sim_fin {th : Bool} {c0 : Int64} {d e : Nat} {u u1 : RS} {m1 m2 : MS} {s b c1 s2 : Nat} {x y : Int32 × RS} (hE : qEnd m1 d = e) (B : Po th c0 (d + 1) e u1 m1 s b x c1 m2 s2) (hF : mFrm (mLeave m2 d) = (qBlk m2, qEnd m2, qLeft m2, d, qEnd m2 d)) (hV : mV (mLeave m2 d) = uV c0 y.2) (hT : rT y.1 y.2 (mT (mLeave m2 d))) (n1 : gName y.2 = gName u) (n2 : gHolds y.2 = gHolds u) (n3 : gSteps y.2 = gSteps x.2) : Po th c0 d e u m1 s (b + 1) y (c1 + 1) (mLeave m2 d) s2 := by
  obtain ⟨f1, f2, f3, f4, f5⟩ := fm_1 hF
  refine ⟨leave_now hE B, (mSame_leave m2 d).trans B.same, f4, fun j hj => ?_, hV, hT, fun _ => ?_, n1, n2, n3.trans B.st, B.le, B.l4, ?_⟩
  · rw [f1, f2, f3]
    exact B.low j (by omega)
  · rw [f5, (B.low d (by omega)).2.1, hE]
  · have := B.cb
    omega
theorem Po.front {th : Bool} {c0 : Int64} {d e : Nat} {u u1 : RS} {m m1 m2 : MS} {s b b2 k c1 s2 : Nat} {x : Int32 × RS} (B : Po th c0 d e u1 m1 s b x c1 m2 s2) (h : Rch th k m m1) (hS : mSame m1 = mSame m) (hL : mLow d m m1) (n1 : gName u1 = gName u) (n2 : gHolds u1 = gHolds u) (hb : k + b ≤ b2) : Po th c0 d e u m s b2 x (k + c1) m2 s2 :=
  ⟨h.tr B.rch, B.same.trans hS, B.opn, hL.tr B.low, B.v, B.t, B.pat, B.nm.trans n1, B.hd.trans n2, B.st, B.le, B.l4, by have := B.cb; omega⟩
/-- the block of a REPEAT, n + 1 times more -/
theorem sim_rep {th : Bool} {P : PR} {c0 : Int64} {d i e : Nat} {f : RS → Int32 × RS} (h14 : i < 14) (ho : P.1 i = 14)
    (body : ∀ (u : RS) (m : MS) (s : Nat), Pr th P c0 (d + 1) (i + 1) e u m → gSteps u = nI s → s ≤ 400 → Post th c0 (d + 1) e u m s 1 (f u)) (n : Nat) : ∀ (u : RS) (m : MS) (s : Nat), Pr th P c0 (d + 1) (i + 1) e u m → gSteps u = nI s → s ≤ 400 → qBlk m d = i → qEnd m d = e → qLeft m d = n + 1 → Post th c0 d e u m s (2 * (n + 1)) (xRep f (n + 1) u) := by
  induction n with
  | zero =>
    intro u m s H hs hs4 hB hE hL
    obtain ⟨c1, m2, s2, B⟩ := body u m s H hs hs4
    have mo : mO m2 (qBlk m2 d) = 14 := by rw [(B.low d (by omega)).1, hB, mO_same B.same, H.pm.op i h14, ho]
    have ml : mLeave m2 d = mPop m2 d := by
      rw [mLeave_14 mo, (B.low d (by omega)).2.2, hL]
      exact if_neg (fun q => absurd q.2.2 (by decide))
    have key : xRep f (0 + 1) u = f u := by
      show (if (f u).1 = 0 then xRep f 0 (f u).2 else f u) = f u
      split
      · rename_i h
        exact Prod.ext h.symm rfl
      · rfl
    rw [key]
    refine ⟨_, _, _, sim_fin hE B ?_ ?_ ?_ B.nm B.hd rfl⟩
    · rw [ml]; exact mFrm_pop m2 d
    · rw [ml, mV_pop]; exact B.v
    · rw [ml, mT_pop]; exact B.t
  | succ n ih =>
    intro u m s H hs hs4 hB hE hL
    obtain ⟨c1, m2, s2, B⟩ := body u m s H hs hs4
    have l3 := B.low d (by omega)
    have mo : mO m2 (qBlk m2 d) = 14 := by rw [l3.1, hB, mO_same B.same, H.pm.op i h14, ho]
    by_cases c : (f u).1 = 0
    · have hT := B.t
      rw [c] at hT
      obtain ⟨t1, t2, t3⟩ := rT_go hT
      have ml : mLeave m2 d = zOpen (zAt (zLeft (mPop m2 d) (va_up (qLeft m2) d (n + 1))) (i + 1)) (d + 1) := by
        rw [mLeave_14 mo, if_pos ⟨by rw [t1]; decide, t2, by rw [l3.2.2, hL]; omega⟩, l3.2.2, hL, l3.1, hB]
        rfl
      have key : xRep f (n + 1 + 1) u = xRep f (n + 1) (f u).2 := if_pos c
      rw [key]
      have r1 := leave_now hE B
      rw [ml] at r1
      generalize hg : zOpen (zAt (zLeft (mPop m2 d) (va_up (qLeft m2) d (n + 1))) (i + 1)) (d + 1) = g at r1
      have gF : mFrm g = (qBlk m2, qEnd m2, va_up (qLeft m2) d (n + 1), d + 1, i + 1) := by
        rw [← hg, mFrm_zOpen, mFrm_zAt, mFrm_zLeft, mFrm_pop]
      have gS : mSame g = mSame m := by rw [← hg, mSame_zOpen, mSame_zAt, mSame_zLeft, mSame_pop, B.same]
      have gV : mV g = mV m2 := by rw [← hg, mV_zOpen, mV_zAt, mV_zLeft, mV_pop]
      have gT : mT g = mT m2 := by rw [← hg, mT_zOpen, mT_zAt, mT_zLeft, mT_pop]
      obtain ⟨f1, f2, f3, f4, f5⟩ := fm_1 gF
      have gE : qEnd g d = e := by rw [f2, l3.2.1, hE]
      have HG : Pr th P c0 (d + 1) (i + 1) e (f u).2 g := by
        refine ⟨H.pm.same gS, f4, f5, ?_, gV.trans B.v, (congrArg (fun t => t.1) gT).trans t1, (congrArg (fun t => t.2.2.2) gT).trans t2, t3, ?_, ?_⟩
        · unfold mLim
          rw [f4, if_neg (by omega), Nat.add_sub_cancel]
          exact gE
        · rw [B.hd]; exact H.hd
        · rw [B.nm, nmO_same gS, H.nm]
      obtain ⟨c2, m3, s3, B3⟩ := ih (f u).2 g s2 HG B.st B.l4 (by rw [f1, l3.1, hB]) gE (by rw [f3, va_up_self])
      have lowg : mLow d m g := fun j hj => by
        rw [f1, f2, f3, va_up_ne _ _ (by omega)]
        exact B.low j (by omega)
      refine ⟨(c1 + 1) + c2, m3, s3, r1.tr B3.rch, B3.same.trans gS, B3.opn, lowg.tr B3.low, B3.v, B3.t, B3.pat, B3.nm.trans B.nm, B3.hd.trans B.hd, B3.st, Nat.le_trans B.le B3.le, B3.l4, ?_⟩
      have a1 := B.cb
      have a2 := B3.cb
      have a3 := B.le
      have a4 := B3.le
      omega
    · have hg := rT_stop B.t c
      have ml : mLeave m2 d = mPop m2 d := by
        rw [mLeave_14 mo]
        refine if_neg (fun q => ?_)
        have e9 : mGo m2 = true := by
          unfold mGo
          rw [q.2.1, decide_eq_true q.1]
          rfl
        rw [hg] at e9
        cases e9
      have key : xRep f (n + 1 + 1) u = f u := if_neg c
      rw [key]
      have B2 := sim_fin (u := u) (y := f u) hE B (by rw [ml]; exact mFrm_pop m2 d) (by rw [ml, mV_pop]; exact B.v) (by rw [ml, mT_pop]; exact B.t) B.nm B.hd rfl
      refine ⟨_, _, _, B2.front Rch.rf rfl (fun j _ => ⟨rfl, rfl, rfl⟩) rfl rfl (by omega)⟩
theorem upd_back (f : Nat → Int32) (k : Nat) : upd (upd f k (f k + 1)) k (upd f k (f k + 1) k - 1) = f := by
  funext j
  unfold upd
  split
  · rename_i h
    subst h
    rw [if_pos rfl, Int32.add_sub_cancel]
  · rfl
theorem rT_fin {r : Int32} {u : RS} {t : Int32 × Int32 × Int32 × Bool} {x y : Int32} (h : rT r u t) : rT r (sAcc (sFin u x) y) t := h
theorem gf_name (u : RS) : gName (xForget u) = gName u ∧ gHolds (xForget u) = gHolds u ∧ gSteps (xForget u) = gSteps u := by
  unfold xForget
  rw [gName_sOwn, gName_sTa, gName_sTr, gHolds_sOwn, gHolds_sTa, gHolds_sTr, gSteps_sOwn, gSteps_sTa, gSteps_sTr]
  exact ⟨rfl, rfl, rfl⟩
theorem gk_name (u : RS) : gName (xCaught u) = gName u ∧ gHolds (xCaught u) = gHolds u ∧ gSteps (xCaught u) = gSteps u := by
  unfold xCaught
  obtain ⟨h1, h2, h3⟩ := gf_name (sAcc (sCat u (gCat u + 1)) (1000 + 16 * gTr u + (if gTr u = 10 then gOwn u else 0)))
  rw [h1, h2, h3, gName_sAcc, gName_sCat, gHolds_sAcc, gHolds_sCat, gSteps_sAcc, gSteps_sCat]
  exact ⟨rfl, rfl, rfl⟩
theorem gd_name (u : RS) : gName (sFin (xForget u) (gFin u + 1)) = gName u ∧ gHolds (sFin (xForget u) (gFin u + 1)) = gHolds u ∧ gSteps (sFin (xForget u) (gFin u + 1)) = gSteps u := by
  obtain ⟨h1, h2, h3⟩ := gf_name u
  rw [gName_sFin, gHolds_sFin, gSteps_sFin]
  exact ⟨h1, h2, h3⟩
theorem go_name (u : RS) (i n : Int32) : gName (xOwn (xCaught u) i n).2 = gName u ∧ gHolds (xOwn (xCaught u) i n).2 = gHolds u ∧ gSteps (xOwn (xCaught u) i n).2 = gSteps u := by
  obtain ⟨h1, h2, h3⟩ := gk_name u
  unfold xOwn
  rw [gName_sOwn, gName_sTa, gName_sTr, gHolds_sOwn, gHolds_sTa, gHolds_sTr, gSteps_sOwn, gSteps_sTa, gSteps_sTr]
  exact ⟨h1, h2, h3⟩
theorem cN_forget (u : RS) : cN (xForget u) := by
  unfold cN xForget
  rw [gTr_sOwn, gTr_sTa, gTr_sTr, gTa_sOwn, gTa_sTa, gOwn_sOwn]
  exact ⟨rfl, rfl, rfl⟩
theorem cN_fin (u : RS) (x : Int32) : cN (sFin (xForget u) x) := by
  have h := cN_forget u
  unfold cN at h ⊢
  rw [gTr_sFin, gTa_sFin, gOwn_sFin]
  exact h
theorem rT_own (u : RS) (i n : Int32) : rT (xOwn u i n).1 (xOwn u i n).2 (10, n, i, false) := by
  refine Or.inr (Or.inr ?_)
  unfold xOwn
  rw [gTr_sOwn, gTr_sTa, gTr_sTr, gTa_sOwn, gTa_sTa, gOwn_sOwn]
  exact ⟨rfl, rfl, rfl, rfl, rfl, ⟨10, by decide, rfl⟩, fun q => absurd rfl q⟩
set_option maxHeartbeats 2000000 in
theorem sim_blk {th : Bool} {P : PR} {c0 : Int64} {d i z : Nat} {u : RS} {m : MS} {s : Nat} {f : Nat → Nat → RS → Int32 × RS} (hi : i < z) (hz : z ≤ P.2.2) (hd15 : d ≤ 14) (H : Pr th P c0 d i z u m) (hs : gSteps u = nI s) (hs4 : s < 400) (hb1 : 10 ≤ P.1 i) (hb2 : P.1 i ≤ 14)
    (body : ∀ (u : RS) (m : MS) (s : Nat), Pr th P c0 (d + 1) (i + 1) (i + 1 + pB P i z) u m → gSteps u = nI s → s ≤ 400 → Post th c0 (d + 1) (i + 1 + pB P i z) u m s 1 (f (i + 1) (i + 1 + pB P i z) u)) : Post th c0 d (i + 1 + pB P i z) u m (s + 1) 32 (xAct f P i (i + 1 + pB P i z) (sSteps u (gSteps u + 1))) := by
  have h14 : i < 14 := by have := H.pm.ok.1; omega
  obtain ⟨hop, hag⟩ := H.pm.ok.2 i (by omega)
  have hK := pK16 hag
  have hst1 : gSteps (sSteps u (gSteps u + 1)) = nI (s + 1) := by
    show gSteps u + 1 = _
    rw [hs, nI_1]
  by_cases hno : P.1 i = 14 ∧ pK P i = 0
  · -- a REPEAT of no times
    have eO : mO m (qAt m) = P.1 i := by rw [H.pat]; exact H.pm.op i h14
    have eG : mG m (qAt m) = P.2.1 i := by rw [H.pat]; exact H.pm.ag i h14
    have eS : qSteps m = nI s := (congrArg (fun t => t.2.1) H.v).trans hs
    have hn4 : ¬ qSteps m = 400 := by rw [eS, nI400 (by omega)]; omega
    have hstep := Rch.step (th := th) H.tr H.sp (by rw [H.pat, H.lim]; exact hi) (by rw [H.lim, H.pm.sz]; exact hz)
    rw [mStep_blk hn4 (by rw [eO]; omega), eG, H.pat] at hstep
    generalize hg : zAt (zSteps m (qSteps m + 1)) (i + 1) = g at hstep
    have gS : mSame g = mSame m := by rw [← hg, mSame_zAt, mSame_zSteps]
    have gV : mV g = uV c0 (sSteps u (gSteps u + 1)) := by
      rw [← hg, mV_zAt, mV_zSteps, eS, H.v, hs]
      rfl
    have gT : mT g = mT m := by rw [← hg, mT_zAt, mT_zSteps]
    have gF : mFrm g = (qBlk m, qEnd m, qLeft m, qOpen m, i + 1) := by
      rw [← hg, mFrm_zAt, mFrm_zSteps]
      rfl
    obtain ⟨f1, f2, f3, f4, f5⟩ := fm_1 gF
    have gO : mO g i = P.1 i := (mO_same gS i).trans (H.pm.op i h14)
    have gK : mK g i = pK P i := by
      unfold mK pK
      rw [sm_Arg gS, sm_Prog gS, ← H.pm.ag i h14]
      rfl
    have gL : mLim g = z := by
      rw [← H.lim]
      unfold mLim
      rw [sm_Size gS, sm_Prog gS, f2, f4]
    have eB : min (i + 1 + P.2.1 i % 16) z = i + 1 + pB P i z := by
      rw [pB_some (by omega)]
      unfold pN
      omega
    have en : mEnter g i (P.2.1 i % 16) = zAt g (i + 1 + pB P i z) := by
      unfold mEnter
      rw [gO, gK, gL, eB, if_pos hno]
    rw [en] at hstep
    have hF : mFrm (zAt g (i + 1 + pB P i z)) = (qBlk m, qEnd m, qLeft m, qOpen m, i + 1 + pB P i z) := by
      rw [mFrm_zAt, gF]
    obtain ⟨e1, e2, e3, e4, e5⟩ := fm_1 hF
    rw [xAct_14 hno.1, hno.2]
    refine ⟨1, _, s + 1, hstep, ?_, e4.trans H.opn, fun j _ => by rw [e1, e2, e3]; exact ⟨rfl, rfl, rfl⟩, ?_, Or.inl ⟨rfl, ?_, ?_, H.n⟩, fun _ => e5, rfl, rfl, hst1, by omega, by omega, by omega⟩
    · rw [mSame_zAt, gS]
    · rw [mV_zAt, gV]; rfl
    · rw [mT_zAt, gT]; exact H.tr
    · rw [mT_zAt, gT]; exact H.sp
  · obtain ⟨m1, r1, S1, b1, e1, l1, w1, H1⟩ := sim_enter hi hz hd15 H hs hs4 hb1 hb2 hno
    generalize hu1 : sSteps u (gSteps u + 1) = u1 at H1 hst1 ⊢
    have nU : gName u1 = gName u := by rw [← hu1]; rfl
    have hU : gHolds u1 = gHolds u := by rw [← hu1]; rfl
    rcases (show P.1 i = 10 ∨ P.1 i = 11 ∨ P.1 i = 12 ∨ P.1 i = 13 ∨ P.1 i = 14 by omega) with ho | ho | ho | ho | ho
    · -- CATCH
      rw [if_neg (by omega)] at H1
      obtain ⟨c1, m2, s2, B⟩ := body u1 m1 (s + 1) H1 hst1 (by omega)
      rw [xAct_10 ho]
      generalize f (i + 1) (i + 1 + pB P i z) u1 = x at B ⊢
      have l3 := B.low d (by omega)
      have mo : mO m2 (qBlk m2 d) = 10 := by rw [l3.1, b1, mO_same B.same, mO_same S1, H.pm.op i h14, ho]
      have mk : mK m2 (qBlk m2 d) = pK P i := by
        rw [l3.1, b1, mK_same B.same, mK_same S1]
        unfold pK mK
        rw [← H.pm.ag i h14]
        rfl
      have ml := mLeave_10 mo
      rw [mk] at ml
      have qT : x.1 = 2 → qTr m2 = gTr x.2 ∧ qNum m2 = gOwn x.2 ∧ qOrg m2 = gTa x.2 ∧ qStop m2 = false ∧ ¬ qTr m2 < 0 ∧ mTakes (pK P i) (qTr m2) = xTakes (pK P i) (gTr x.2) := by
        intro h2
        rcases B.t with q | q | q
        · rw [h2] at q; exact absurd q.1 (by decide)
        · rw [h2] at q; exact absurd q.1 (by decide)
        · obtain ⟨_, q1, q2, q3, q4, ⟨j, hj, hj2⟩, _⟩ := q
          have q1' : qTr m2 = gTr x.2 := q1
          refine ⟨q1, q2, q3, q4, ?_, ?_⟩
          · rw [q1', hj2]; exact nI_pos (by omega)
          · rw [q1', hj2]; exact takes16 _ hK _ hj
      have qN : x.1 ≠ 2 → qTr m2 = -1 := by
        intro h2
        rcases B.t with q | q | q
        · exact q.2.1
        · exact q.2.1
        · exact absurd q.1 h2
      by_cases ct : x.1 = 2 ∧ xTakes (pK P i) (gTr x.2) = true
      · obtain ⟨q1, q2, q3, q4, q5, q6⟩ := qT ct.1
        have ml2 : mLeave m2 d = mCaught m2 d := ml.trans (if_pos ⟨q5, q6.trans ct.2⟩)
        have eC : qCat m2 = gCat x.2 := congrArg (fun t => t.2.2.2.1) B.v
        have ex : xCatch P i x = if pK P i = 14 then xOwn (xCaught x.2) (nI i) 14 else (0, xCaught x.2) := if_pos ct
        have cF : mFrm (mCau m2 d) = (qBlk m2, qEnd m2, qLeft m2, d, qBlk m2 d) := by
          unfold mCau
          rw [mFrm_zAt, mFrm_zTr, mFrm_zAcc, mFrm_zCat, mFrm_pop]
        have cV : mV (mCau m2 d) = uV c0 (xCaught x.2) := by
          unfold mCau
          rw [mV_zAt, mV_zTr, mV_zAcc, mV_zCat, mV_pop, B.v, eC, q1, q2]
          unfold xCaught xForget
          rw [uV_sOwn, uV_sTa, uV_sTr, uV_sAcc, uV_sCat]
        have cT : mT (mCau m2 d) = (-1, qNum m2, qOrg m2, false) := by
          unfold mCau
          rw [mT_zAt, mT_zTr, mT_zAcc, mT_zCat, mT_pop, ← q4]
          rfl
        by_cases c14 : pK P i = 14
        · have ml3 : mLeave m2 d = zAt (zOrg (zNum (zTr (mCau m2 d) 10) 14) (nI i)) (qEnd m2 d) := by
            rw [ml2]
            unfold mCaught
            rw [mk, if_pos c14, l3.1, b1]
          rw [ex, if_pos c14]
          refine ⟨_, _, _, (sim_fin (u := u) (y := xOwn (xCaught x.2) (nI i) 14) e1 B ?_ ?_ ?_ ((go_name x.2 (nI i) 14).1.trans (B.nm.trans nU)) ((go_name x.2 (nI i) 14).2.1.trans (B.hd.trans hU)) (go_name x.2 (nI i) 14).2.2).front (b2 := 32) r1 S1 w1 rfl rfl (by decide)⟩
          · rw [ml3, mFrm_zAt, mFrm_zOrg, mFrm_zNum, mFrm_zTr, cF]
          · rw [ml3, mV_zAt, mV_zOrg, mV_zNum, mV_zTr, cV]
            unfold xOwn
            rw [uV_sOwn, uV_sTa, uV_sTr]
          · rw [ml3, mT_zAt, mT_zOrg, mT_zNum, mT_zTr, cT]
            exact rT_own (xCaught x.2) (nI i) 14
        · have ml3 : mLeave m2 d = zAt (mCau m2 d) (qEnd m2 d) := by
            rw [ml2]
            unfold mCaught
            rw [mk, if_neg c14]
          rw [ex, if_neg c14]
          refine ⟨_, _, _, (sim_fin (u := u) (y := (0, xCaught x.2)) e1 B ?_ ?_ ?_ ((gk_name x.2).1.trans (B.nm.trans nU)) ((gk_name x.2).2.1.trans (B.hd.trans hU)) (gk_name x.2).2.2).front (b2 := 32) r1 S1 w1 rfl rfl (by decide)⟩
          · rw [ml3, mFrm_zAt, cF]
          · rw [ml3, mV_zAt, cV]
          · rw [ml3, mT_zAt, cT]
            exact Or.inl ⟨rfl, rfl, rfl, cN_forget _⟩
      · have ml2 : mLeave m2 d = mPop m2 d := by
          refine ml.trans (if_neg (fun q => ?_))
          by_cases h2 : x.1 = 2
          · exact ct ⟨h2, (qT h2).2.2.2.2.2.symm.trans q.2⟩
          · exact q.1 (by rw [qN h2]; decide)
        have ex : xCatch P i x = x := if_neg ct
        rw [ex]
        refine ⟨_, _, _, (sim_fin (u := u) e1 B ?_ ?_ ?_ (B.nm.trans nU) (B.hd.trans hU) rfl).front (b2 := 32) r1 S1 w1 rfl rfl (by decide)⟩
        · rw [ml2]; exact mFrm_pop m2 d
        · rw [ml2, mV_pop]; exact B.v
        · rw [ml2, mT_pop]; exact B.t
    · -- FINALLY
      rw [if_neg (by omega)] at H1
      obtain ⟨c1, m2, s2, B⟩ := body u1 m1 (s + 1) H1 hst1 (by omega)
      rw [xAct_11 ho]
      generalize f (i + 1) (i + 1 + pB P i z) u1 = x at B ⊢
      have l3 := B.low d (by omega)
      have mo : mO m2 (qBlk m2 d) = 11 := by rw [l3.1, b1, mO_same B.same, mO_same S1, H.pm.op i h14, ho]
      have ml := mLeave_11 mo
      have eF : qFin m2 = gFin x.2 := congrArg (fun t => t.2.2.1) B.v
      have eA : qAcc m2 = gAcc x.2 := congrArg (fun t => t.1) B.v
      refine ⟨_, _, _, (sim_fin (u := u) (y := xFinally x) e1 B ?_ ?_ ?_ (B.nm.trans nU) (B.hd.trans hU) rfl).front (b2 := 32) r1 S1 w1 rfl rfl (by decide)⟩
      · rw [ml, mFrm_zAcc, mFrm_zFin, mFrm_pop]
      · rw [ml, mV_zAcc, mV_zFin, mV_pop, B.v, eF, eA]; rfl
      · rw [ml, mT_zAcc, mT_zFin, mT_pop]; exact B.t
    · -- DROP
      rw [if_neg (by omega)] at H1
      obtain ⟨c1, m2, s2, B⟩ := body u1 m1 (s + 1) H1 hst1 (by omega)
      rw [xAct_12 ho]
      generalize f (i + 1) (i + 1 + pB P i z) u1 = x at B ⊢
      have l3 := B.low d (by omega)
      have mo : mO m2 (qBlk m2 d) = 12 := by rw [l3.1, b1, mO_same B.same, mO_same S1, H.pm.op i h14, ho]
      have ml := mLeave_12 mo
      have eF : qFin m2 = gFin x.2 := congrArg (fun t => t.2.2.1) B.v
      refine ⟨_, _, _, (sim_fin (u := u) (y := xDrop x) e1 B ?_ ?_ ?_ ((gd_name x.2).1.trans (B.nm.trans nU)) ((gd_name x.2).2.1.trans (B.hd.trans hU)) (gd_name x.2).2.2).front (b2 := 32) r1 S1 w1 rfl rfl (by decide)⟩
      · rw [ml, mFrm_zStop, mFrm_zTr, mFrm_zFin, mFrm_pop]
      · rw [ml, mV_zStop, mV_zTr, mV_zFin, mV_pop, B.v, eF]
        unfold xDrop xForget
        rw [uV_sFin, uV_sOwn, uV_sTa, uV_sTr]
      · rw [ml, mT_zStop, mT_zTr, mT_zFin, mT_pop]
        exact Or.inl ⟨rfl, rfl, rfl, cN_fin _ _⟩
    · -- HOLD
      rw [if_pos ho] at H1
      have hst2 : gSteps (xGrab P i u1) = nI (s + 1) := hst1
      obtain ⟨c1, m2, s2, B⟩ := body (xGrab P i u1) m1 (s + 1) H1 hst2 (by omega)
      rw [xAct_13 ho]
      generalize f (i + 1) (i + 1 + pB P i z) (xGrab P i u1) = x at B ⊢
      have l3 := B.low d (by omega)
      have mo : mO m2 (qBlk m2 d) = 13 := by rw [l3.1, b1, mO_same B.same, mO_same S1, H.pm.op i h14, ho]
      have mk : mK m2 (qBlk m2 d) = pK P i := by
        rw [l3.1, b1, mK_same B.same, mK_same S1]
        unfold pK mK
        rw [← H.pm.ag i h14]
        rfl
      have ml := mLeave_13 mo
      rw [mk] at ml
      have eH : qHeld m2 = gHolds x.2 := congrArg (fun t => t.2.2.2.2.2.2.1) B.v
      have back : gHolds (xLet P i x).2 = gHolds u := by
        show upd (gHolds x.2) (pK P i % 2) (gHolds x.2 (pK P i % 2) - 1) = gHolds u
        rw [B.hd, ← hU]
        exact upd_back (gHolds u1) (pK P i % 2)
      refine ⟨_, _, _, (sim_fin (u := u) (y := xLet P i x) e1 B ?_ ?_ ?_ (B.nm.trans nU) back rfl).front (b2 := 32) r1 S1 w1 rfl rfl (by decide)⟩
      · rw [ml, mFrm_zHeld, mFrm_pop]
      · rw [ml, mV_zHeld, mV_pop, B.v, eH]; rfl
      · rw [ml, mT_zHeld, mT_pop]; exact B.t
    · -- REPEAT
      rw [if_neg (by omega)] at H1
      rw [xAct_14 ho]
      obtain ⟨n, hn⟩ : ∃ n, pK P i = n + 1 := ⟨pK P i - 1, by omega⟩
      obtain ⟨c1, m2, s2, B⟩ := sim_rep h14 ho body n u1 m1 (s + 1) H1 hst1 (by omega) b1 e1 (l1.trans hn)
      rw [hn]
      exact ⟨_, _, _, B.front r1 S1 w1 nU hU (by omega)⟩
/-- THE SIMULATION -/
theorem sim_acts {th : Bool} {P : PR} {c0 : Int64} (k : Nat) : ∀ (d i z : Nat) (u : RS) (m : MS) (s : Nat), d + k = 15 → d ≤ i → i ≤ z → z ≤ P.2.2 → Pr th P c0 d i z u m → gSteps u = nI s → s ≤ 400 → Post th c0 d z u m s 1 (xActs P k i z u) := by
  induction k with
  | zero =>
    intro d i z u m s h1 h2 h3 h4 H
    have := H.pm.ok.1
    omega
  | succ k ih =>
    intro d i z u m s hdk hdi hiz hz H hs hs4
    have loop : ∀ (n i : Nat) (u : RS) (m : MS) (s : Nat), z - i ≤ n → d ≤ i → i ≤ z → Pr th P c0 d i z u m → gSteps u = nI s → s ≤ 400 → Post th c0 d z u m s 1 (xLoop (xAct (xActs P k) P) P z n i u) := by
      intro n
      induction n with
      | zero =>
        intro i u m s h1 h2 h3 H hs hs4
        exact ⟨0, m, s, Rch.rf, rfl, H.opn, fun j _ => ⟨rfl, rfl, rfl⟩, H.v, Or.inl ⟨rfl, H.tr, H.sp, H.n⟩, fun _ => by rw [H.pat]; omega, rfl, rfl, hs, Nat.le_refl _, hs4, by omega⟩
      | succ n ihn =>
        intro i u m s h1 h2 h3 H hs hs4
        by_cases c1 : z ≤ i
        · have ex : xLoop (xAct (xActs P k) P) P z (n + 1) i u = (0, u) := if_pos c1
          rw [ex]
          exact ⟨0, m, s, Rch.rf, rfl, H.opn, fun j _ => ⟨rfl, rfl, rfl⟩, H.v, Or.inl ⟨rfl, H.tr, H.sp, H.n⟩, fun _ => by rw [H.pat]; omega, rfl, rfl, hs, Nat.le_refl _, hs4, by omega⟩
        · by_cases c2 : 400 ≤ gSteps u
          · have ex : xLoop (xAct (xActs P k) P) P z (n + 1) i u = (1, u) := (if_neg c1).trans (if_pos c2)
            rw [ex]
            have e4 : s = 400 := by
              rw [hs, nI400le hs4] at c2
              omega
            have eS : qSteps m = nI s := (congrArg (fun t => t.2.1) H.v).trans hs
            have hstep := Rch.step (th := th) H.tr H.sp (by rw [H.pat, H.lim]; omega) (by rw [H.lim, H.pm.sz]; exact hz)
            rw [mStep_400 (by rw [eS, nI400 hs4]; exact e4)] at hstep
            have hF : mFrm (zStop m true) = (qBlk m, qEnd m, qLeft m, qOpen m, qAt m) := by rw [mFrm_zStop]; rfl
            obtain ⟨f1, f2, f3, f4, f5⟩ := fm_1 hF
            refine ⟨1, _, s, hstep, mSame_zStop m true, f4.trans H.opn, fun j _ => by rw [f1, f2, f3]; exact ⟨rfl, rfl, rfl⟩, ?_, Or.inr (Or.inl ⟨rfl, ?_, ?_, H.n⟩), fun q => absurd (show (1 : Int32) = 0 from q) (by decide), rfl, rfl, hs, Nat.le_refl _, hs4, by omega⟩
            · rw [mV_zStop]; exact H.v
            · rw [mT_zStop]; exact H.tr
            · rw [mT_zStop]
          · have hs3 : s < 400 := by
              rw [hs, nI400le hs4] at c2
              omega
            have A : Post th c0 d (i + 1 + pB P i z) u m (s + 1) 32 (xAct (xActs P k) P i (i + 1 + pB P i z) (sSteps u (gSteps u + 1))) := by
              by_cases hb : P.1 i < 10 ∨ 14 < P.1 i
              · exact sim_flat (by omega) hz (by omega) H hs hs3 hb
              · refine sim_blk (by omega) hz (by omega) H hs hs3 (by omega) (by omega) (fun u9 m9 s9 H9 hs9 hs49 => ih (d + 1) (i + 1) _ u9 m9 s9 (by omega) (by omega) (by omega) ?_ H9 hs9 hs49)
                rw [pB_some hb]
                omega
            have hex : xLoop (xAct (xActs P k) P) P z (n + 1) i u = if (xAct (xActs P k) P i (i + 1 + pB P i z) (sSteps u (gSteps u + 1))).1 = 0 then xLoop (xAct (xActs P k) P) P z n (i + pB P i z + 1) (xAct (xActs P k) P i (i + 1 + pB P i z) (sSteps u (gSteps u + 1))).2 else xAct (xActs P k) P i (i + 1 + pB P i z) (sSteps u (gSteps u + 1)) := (if_neg c1).trans (if_neg c2)
            rw [hex]
            generalize xAct (xActs P k) P i (i + 1 + pB P i z) (sSteps u (gSteps u + 1)) = x at A ⊢
            obtain ⟨c5, m2, s2, B⟩ := A
            have hpB : i + 1 + pB P i z ≤ z := by
              by_cases hb : P.1 i < 10 ∨ 14 < P.1 i
              · rw [pB_none hb]; omega
              · rw [pB_some hb]; omega
            by_cases c3 : x.1 = 0
            · rw [if_pos c3]
              have hT := B.t
              rw [c3] at hT
              obtain ⟨t1, t2, t3⟩ := rT_go hT
              have e5 : i + pB P i z + 1 = i + 1 + pB P i z := by omega
              rw [e5]
              have H2 : Pr th P c0 d (i + 1 + pB P i z) z x.2 m2 := ⟨H.pm.same B.same, B.opn, B.pat c3, (mLim_low B.same H.opn B.opn B.low).trans H.lim, B.v, t1, t2, t3, by rw [B.hd]; exact H.hd, by rw [B.nm, nmO_same B.same]; exact H.nm⟩
              obtain ⟨c6, m3, s3, B3⟩ := ihn (i + 1 + pB P i z) x.2 m2 s2 (by omega) (by omega) hpB H2 B.st B.l4
              refine ⟨c5 + c6, m3, s3, B.rch.tr B3.rch, B3.same.trans B.same, B3.opn, B.low.tr B3.low, B3.v, B3.t, B3.pat, B3.nm.trans B.nm, B3.hd.trans B.hd, B3.st, ?_, B3.l4, ?_⟩
              · have a3 := B.le
                have a4 := B3.le
                omega
              · have a1 := B.cb
                have a2 := B3.cb
                have a3 := B.le
                have a4 := B3.le
                omega
            · rw [if_neg c3]
              have a1 := B.cb
              have a3 := B.le
              exact ⟨c5, m2, s2, B.rch, B.same, B.opn, B.low, B.v, B.t, fun q => absurd q c3, B.nm, B.hd, B.st, by omega, B.l4, by omega⟩
    exact loop (z - i) i u m s (Nat.le_refl _) hdi hiz H hs hs4
-- A RUN AS A WHOLE
theorem mLoop_end {th : Bool} {m : MS} (h0 : qOpen m = 0) (h : mGo m = false ∨ qAt m = qSize m (qProg m)) (n : Nat) : mLoop th n m = m := by
  cases n with
  | zero => rfl
  | succ n => exact mLoop_stop (fun q => by have := q.1; omega) h
theorem uV_begin (c0 : Int64) (nm : Int32) (u : RS) : uV c0 (xBegin nm u) = (0, 0, 0, 0, false, (fun _ => 0), (fun _ => 0), c0) := by
  unfold xBegin xForget
  simp only [uV_sOwn, uV_sTa, uV_sTr, uV_sHolds, uV_sCells, uV_sCnt, uV_sMark, uV_sCat, uV_sFin, uV_sSteps, uV_sAcc, uV_sName, Int64.add_zero]
theorem mV_begin (m : MS) (p : Nat) : mV (mBegin m p) = (0, 0, 0, 0, false, (fun _ => 0), (fun _ => 0), qCtr m) := by
  unfold mV
  rw [qAcc_mBegin, qSteps_mBegin, qFin_mBegin, qCat_mBegin, qMark_mBegin, qCell_mBegin, qHeld_mBegin, qCtr_mBegin]
theorem gName_begin (nm : Int32) (u : RS) : gName (xBegin nm u) = nm := by
  unfold xBegin
  rw [(gf_name _).1, gName_sHolds, gName_sCells, gName_sCnt, gName_sMark, gName_sCat, gName_sFin, gName_sSteps, gName_sAcc, gName_sName]
theorem gHolds_begin (nm : Int32) (u : RS) : gHolds (xBegin nm u) = (fun _ => 0) := by
  unfold xBegin
  rw [(gf_name _).2.1, gHolds_sHolds]
theorem gSteps_begin (nm : Int32) (u : RS) : gSteps (xBegin nm u) = 0 := by
  unfold xBegin
  rw [(gf_name _).2.2, gSteps_sHolds, gSteps_sCells, gSteps_sCnt, gSteps_sMark, gSteps_sCat, gSteps_sFin, gSteps_sSteps]
theorem cN_begin (nm : Int32) (u : RS) : cN (xBegin nm u) := by
  unfold xBegin
  exact cN_forget _
theorem sim_run {th : Bool} {P : PR} {p : Nat} {m : MS} {u : RS} (hp : pM P (mBegin m p)) : mSame (mLoop th 100000 (mBegin m p)) = mSame (mBegin m p) ∧ mV (mLoop th 100000 (mBegin m p)) = uV (qCtr m) (xActs P 15 0 P.2.2 (xBegin (if th = true then 20 + nI p else 10) u)).2 ∧ rT (xActs P 15 0 P.2.2 (xBegin (if th = true then 20 + nI p else 10) u)).1 (xActs P 15 0 P.2.2 (xBegin (if th = true then 20 + nI p else 10) u)).2 (mT (mLoop th 100000 (mBegin m p))) := by
  generalize hnm : (if th = true then 20 + nI p else 10) = nm
  have H : Pr th P (qCtr m) 0 0 P.2.2 (xBegin nm u) (mBegin m p) := by
    refine ⟨hp, qOpen_mBegin m p, qAt_mBegin m p, ?_, ?_, qTr_mBegin m p, qStop_mBegin m p, cN_begin nm u, fun j _ => ⟨0, Nat.le_refl _, ?_⟩, ?_⟩
    · unfold mLim
      rw [qOpen_mBegin, if_pos rfl]
      exact hp.sz
    · rw [mV_begin, uV_begin]
    · rw [gHolds_begin]
      rfl
    · rw [gName_begin]
      unfold nmO
      rw [qProg_mBegin]
      exact hnm.symm
  have hs : gSteps (xBegin nm u) = nI 0 := gSteps_begin nm u
  obtain ⟨c, m2, s2, B⟩ := sim_acts 15 0 0 P.2.2 (xBegin nm u) (mBegin m p) 0 rfl (Nat.le_refl _) (Nat.zero_le _) (Nat.le_refl _) H hs (Nat.zero_le _)
  generalize xActs P 15 0 P.2.2 (xBegin nm u) = x at B ⊢
  have hc : c ≤ 100000 := by
    have a1 := B.cb
    have a2 := B.l4
    omega
  have hr := B.rch (100000 - c)
  rw [Nat.add_sub_cancel' hc] at hr
  have he : mLoop th (100000 - c) m2 = m2 := by
    refine mLoop_end B.opn ?_ _
    by_cases c0 : x.1 = 0
    · right
      rw [B.pat c0, sm_Size B.same, sm_Prog B.same]
      exact hp.sz.symm
    · left
      exact rT_stop B.t c0
  rw [he] at hr
  rw [hr]
  exact ⟨B.same, B.v, B.t⟩
theorem nI_nm1 {j : Nat} (h : j < 11) : nI j ≠ -1 := fun q => nI_pos (n := j) (by omega) (by rw [q]; decide)
theorem out_rel {r : Int32} {u : RS} {g : MS} (h : rT r u (mT g)) : mOut g = xOutcome u ∧ (xOutcome u = 0 ↔ qTr g < 0) ∧ (0 < xOutcome u ↔ ¬ xOutcome u = 0) := by
  rcases h with h | h | h
  · have e1 : qTr g = -1 := h.2.1
    have e2 : gTr u = -1 := h.2.2.2.1
    unfold mOut xOutcome
    rw [e1, e2]
    decide
  · have e1 : qTr g = -1 := h.2.1
    have e2 : gTr u = -1 := h.2.2.2.1
    unfold mOut xOutcome
    rw [e1, e2]
    decide
  · obtain ⟨_, h1, _, _, _, ⟨j, hj, hj2⟩, _⟩ := h
    have e1 : qTr g = nI j := h1.trans hj2
    unfold mOut xOutcome
    rw [e1, hj2, if_neg (nI_pos (by omega)), if_neg (nI_nm1 hj)]
    have e3 : (100 : Int32) + nI j = nI (100 + j) := (nI_add 100 j)
    rw [e3]
    have p1 : 0 < nI (100 + j) := nI_lt (a := 0) (by omega) (by omega)
    have p2 : ¬ nI (100 + j) = 0 := fun q => by rw [q] at p1; exact absurd p1 (by decide)
    exact ⟨rfl, ⟨fun q => absurd q p2, fun q => absurd q (nI_pos (by omega))⟩, ⟨fun _ => p2, fun _ => p1⟩⟩
theorem tell_rel {c0 : Int64} {r : Int32} {u : RS} {g : MS} (hV : mV g = uV c0 u) (h : rT r u (mT g)) (k : Nat) : mTl g k = xTell u k := by
  have eA : qAcc g = gAcc u := congrArg (fun t => t.1) hV
  have eS : qSteps g = gSteps u := congrArg (fun t => t.2.1) hV
  have eF : qFin g = gFin u := congrArg (fun t => t.2.2.1) hV
  have eC : qCat g = gCat u := congrArg (fun t => t.2.2.2.1) hV
  have eM : qMark g = gMark u := congrArg (fun t => t.2.2.2.2.1) hV
  have e5 : (if qTr g < 0 then -1 else qOrg g) = gTa u := by
    rcases h with h | h | h
    · have e1 : qTr g = -1 := h.2.1
      rw [e1, if_pos (by decide)]
      exact h.2.2.2.2.1.symm
    · have e1 : qTr g = -1 := h.2.1
      rw [e1, if_pos (by decide)]
      exact h.2.2.2.2.1.symm
    · obtain ⟨_, h1, _, h3, _, ⟨j, hj, hj2⟩, _⟩ := h
      have e1 : qTr g = nI j := h1.trans hj2
      rw [e1, if_neg (nI_pos (by omega))]
      exact h3
  have e6 : (if qTr g = 10 then qNum g else -1) = gOwn u := by
    rcases h with h | h | h
    · have e1 : qTr g = -1 := h.2.1
      rw [e1, if_neg (by decide)]
      exact h.2.2.2.2.2.symm
    · have e1 : qTr g = -1 := h.2.1
      rw [e1, if_neg (by decide)]
      exact h.2.2.2.2.2.symm
    · obtain ⟨_, h1, h2, _, _, _, h6⟩ := h
      have e1 : qTr g = gTr u := h1
      rw [e1]
      by_cases c : gTr u = 10
      · rw [if_pos c]; exact h2
      · rw [if_neg c]; exact (h6 c).symm
  match k with
  | 0 => exact (out_rel h).1
  | 1 => exact eA
  | 2 => exact eS
  | 3 => exact eF
  | 4 => exact eC
  | 5 => exact e5
  | 6 => exact e6
  | k + 7 => exact congrArg bI eM
