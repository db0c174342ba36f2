-- THE CLASS AS A FUNCTION: a program's picture, a run's picture, and what each method of Run makes of it
/-- a program: its ops, its arguments, its size -/
abbrev PR : Type := (Nat → Nat) × (Nat → Nat) × Nat
/-- a run: cells, holds, known, name, accumulator, steps, finals, catches, marked, counted, trouble, its action, its number -/
abbrev RS : Type := (Nat → Int32) × (Nat → Int32) × Bool × Int32 × Int32 × Int32 × Int32 × Int32 × Bool × Int64 × Int32 × Int32 × Int32
def bI (b : Bool) : Int32 := match b with
  | true => 1
  | false => 0
theorem bI0 {b : Bool} (h : bI b = 0) : b = false := by cases b <;> first | rfl | exact absurd h (by decide)
theorem bI1 {b : Bool} (h : ¬ bI b = 0) : b = true := by cases b <;> first | rfl | exact absurd rfl h
def gCells (u : RS) : Nat → Int32 := u.1
def gHolds (u : RS) : Nat → Int32 := u.2.1
def gKnown (u : RS) : Bool := u.2.2.1
def gName (u : RS) : Int32 := u.2.2.2.1
def gAcc (u : RS) : Int32 := u.2.2.2.2.1
def gSteps (u : RS) : Int32 := u.2.2.2.2.2.1
def gFin (u : RS) : Int32 := u.2.2.2.2.2.2.1
def gCat (u : RS) : Int32 := u.2.2.2.2.2.2.2.1
def gMark (u : RS) : Bool := u.2.2.2.2.2.2.2.2.1
def gCnt (u : RS) : Int64 := u.2.2.2.2.2.2.2.2.2.1
def gTr (u : RS) : Int32 := u.2.2.2.2.2.2.2.2.2.2.1
def gTa (u : RS) : Int32 := u.2.2.2.2.2.2.2.2.2.2.2.1
def gOwn (u : RS) : Int32 := u.2.2.2.2.2.2.2.2.2.2.2.2
def mkR (c h : Nat → Int32) (kn : Bool) (nm ac st fi ca : Int32) (mk : Bool) (cn : Int64) (tr ta ow : Int32) : RS := (c, h, kn, nm, ac, st, fi, ca, mk, cn, tr, ta, ow)
def sCells (u : RS) (x : Nat → Int32) : RS := mkR x (gHolds u) (gKnown u) (gName u) (gAcc u) (gSteps u) (gFin u) (gCat u) (gMark u) (gCnt u) (gTr u) (gTa u) (gOwn u)
def sHolds (u : RS) (x : Nat → Int32) : RS := mkR (gCells u) x (gKnown u) (gName u) (gAcc u) (gSteps u) (gFin u) (gCat u) (gMark u) (gCnt u) (gTr u) (gTa u) (gOwn u)
def sKnown (u : RS) (x : Bool) : RS := mkR (gCells u) (gHolds u) x (gName u) (gAcc u) (gSteps u) (gFin u) (gCat u) (gMark u) (gCnt u) (gTr u) (gTa u) (gOwn u)
def sName (u : RS) (x : Int32) : RS := mkR (gCells u) (gHolds u) (gKnown u) x (gAcc u) (gSteps u) (gFin u) (gCat u) (gMark u) (gCnt u) (gTr u) (gTa u) (gOwn u)
def sAcc (u : RS) (x : Int32) : RS := mkR (gCells u) (gHolds u) (gKnown u) (gName u) x (gSteps u) (gFin u) (gCat u) (gMark u) (gCnt u) (gTr u) (gTa u) (gOwn u)
def sSteps (u : RS) (x : Int32) : RS := mkR (gCells u) (gHolds u) (gKnown u) (gName u) (gAcc u) x (gFin u) (gCat u) (gMark u) (gCnt u) (gTr u) (gTa u) (gOwn u)
def sFin (u : RS) (x : Int32) : RS := mkR (gCells u) (gHolds u) (gKnown u) (gName u) (gAcc u) (gSteps u) x (gCat u) (gMark u) (gCnt u) (gTr u) (gTa u) (gOwn u)
def sCat (u : RS) (x : Int32) : RS := mkR (gCells u) (gHolds u) (gKnown u) (gName u) (gAcc u) (gSteps u) (gFin u) x (gMark u) (gCnt u) (gTr u) (gTa u) (gOwn u)
def sMark (u : RS) (x : Bool) : RS := mkR (gCells u) (gHolds u) (gKnown u) (gName u) (gAcc u) (gSteps u) (gFin u) (gCat u) x (gCnt u) (gTr u) (gTa u) (gOwn u)
def sCnt (u : RS) (x : Int64) : RS := mkR (gCells u) (gHolds u) (gKnown u) (gName u) (gAcc u) (gSteps u) (gFin u) (gCat u) (gMark u) x (gTr u) (gTa u) (gOwn u)
def sTr (u : RS) (x : Int32) : RS := mkR (gCells u) (gHolds u) (gKnown u) (gName u) (gAcc u) (gSteps u) (gFin u) (gCat u) (gMark u) (gCnt u) x (gTa u) (gOwn u)
def sTa (u : RS) (x : Int32) : RS := mkR (gCells u) (gHolds u) (gKnown u) (gName u) (gAcc u) (gSteps u) (gFin u) (gCat u) (gMark u) (gCnt u) (gTr u) x (gOwn u)
def sOwn (u : RS) (x : Int32) : RS := mkR (gCells u) (gHolds u) (gKnown u) (gName u) (gAcc u) (gSteps u) (gFin u) (gCat u) (gMark u) (gCnt u) (gTr u) (gTa u) x
-- a field of a changed run
theorem gCells_sCells (u : RS) (x : Nat → Int32) : gCells (sCells u x) = x := rfl
theorem gCells_sHolds (u : RS) (x : Nat → Int32) : gCells (sHolds u x) = gCells u := rfl
theorem gCells_sKnown (u : RS) (x : Bool) : gCells (sKnown u x) = gCells u := rfl
theorem gCells_sName (u : RS) (x : Int32) : gCells (sName u x) = gCells u := rfl
theorem gCells_sAcc (u : RS) (x : Int32) : gCells (sAcc u x) = gCells u := rfl
theorem gCells_sSteps (u : RS) (x : Int32) : gCells (sSteps u x) = gCells u := rfl
theorem gCells_sFin (u : RS) (x : Int32) : gCells (sFin u x) = gCells u := rfl
theorem gCells_sCat (u : RS) (x : Int32) : gCells (sCat u x) = gCells u := rfl
theorem gCells_sMark (u : RS) (x : Bool) : gCells (sMark u x) = gCells u := rfl
theorem gCells_sCnt (u : RS) (x : Int64) : gCells (sCnt u x) = gCells u := rfl
theorem gCells_sTr (u : RS) (x : Int32) : gCells (sTr u x) = gCells u := rfl
theorem gCells_sTa (u : RS) (x : Int32) : gCells (sTa u x) = gCells u := rfl
theorem gCells_sOwn (u : RS) (x : Int32) : gCells (sOwn u x) = gCells u := rfl
theorem gHolds_sCells (u : RS) (x : Nat → Int32) : gHolds (sCells u x) = gHolds u := rfl
theorem gHolds_sHolds (u : RS) (x : Nat → Int32) : gHolds (sHolds u x) = x := rfl
theorem gHolds_sKnown (u : RS) (x : Bool) : gHolds (sKnown u x) = gHolds u := rfl
theorem gHolds_sName (u : RS) (x : Int32) : gHolds (sName u x) = gHolds u := rfl
theorem gHolds_sAcc (u : RS) (x : Int32) : gHolds (sAcc u x) = gHolds u := rfl
theorem gHolds_sSteps (u : RS) (x : Int32) : gHolds (sSteps u x) = gHolds u := rfl
theorem gHolds_sFin (u : RS) (x : Int32) : gHolds (sFin u x) = gHolds u := rfl
theorem gHolds_sCat (u : RS) (x : Int32) : gHolds (sCat u x) = gHolds u := rfl
theorem gHolds_sMark (u : RS) (x : Bool) : gHolds (sMark u x) = gHolds u := rfl
theorem gHolds_sCnt (u : RS) (x : Int64) : gHolds (sCnt u x) = gHolds u := rfl
theorem gHolds_sTr (u : RS) (x : Int32) : gHolds (sTr u x) = gHolds u := rfl
theorem gHolds_sTa (u : RS) (x : Int32) : gHolds (sTa u x) = gHolds u := rfl
theorem gHolds_sOwn (u : RS) (x : Int32) : gHolds (sOwn u x) = gHolds u := rfl
theorem gKnown_sCells (u : RS) (x : Nat → Int32) : gKnown (sCells u x) = gKnown u := rfl
theorem gKnown_sHolds (u : RS) (x : Nat → Int32) : gKnown (sHolds u x) = gKnown u := rfl
theorem gKnown_sKnown (u : RS) (x : Bool) : gKnown (sKnown u x) = x := rfl
theorem gKnown_sName (u : RS) (x : Int32) : gKnown (sName u x) = gKnown u := rfl
theorem gKnown_sAcc (u : RS) (x : Int32) : gKnown (sAcc u x) = gKnown u := rfl
theorem gKnown_sSteps (u : RS) (x : Int32) : gKnown (sSteps u x) = gKnown u := rfl
theorem gKnown_sFin (u : RS) (x : Int32) : gKnown (sFin u x) = gKnown u := rfl
theorem gKnown_sCat (u : RS) (x : Int32) : gKnown (sCat u x) = gKnown u := rfl
theorem gKnown_sMark (u : RS) (x : Bool) : gKnown (sMark u x) = gKnown u := rfl
theorem gKnown_sCnt (u : RS) (x : Int64) : gKnown (sCnt u x) = gKnown u := rfl
theorem gKnown_sTr (u : RS) (x : Int32) : gKnown (sTr u x) = gKnown u := rfl
theorem gKnown_sTa (u : RS) (x : Int32) : gKnown (sTa u x) = gKnown u := rfl
theorem gKnown_sOwn (u : RS) (x : Int32) : gKnown (sOwn u x) = gKnown u := rfl
theorem gName_sCells (u : RS) (x : Nat → Int32) : gName (sCells u x) = gName u := rfl
theorem gName_sHolds (u : RS) (x : Nat → Int32) : gName (sHolds u x) = gName u := rfl
theorem gName_sKnown (u : RS) (x : Bool) : gName (sKnown u x) = gName u := rfl
theorem gName_sName (u : RS) (x : Int32) : gName (sName u x) = x := rfl
theorem gName_sAcc (u : RS) (x : Int32) : gName (sAcc u x) = gName u := rfl
theorem gName_sSteps (u : RS) (x : Int32) : gName (sSteps u x) = gName u := rfl
theorem gName_sFin (u : RS) (x : Int32) : gName (sFin u x) = gName u := rfl
theorem gName_sCat (u : RS) (x : Int32) : gName (sCat u x) = gName u := rfl
theorem gName_sMark (u : RS) (x : Bool) : gName (sMark u x) = gName u := rfl
theorem gName_sCnt (u : RS) (x : Int64) : gName (sCnt u x) = gName u := rfl
theorem gName_sTr (u : RS) (x : Int32) : gName (sTr u x) = gName u := rfl
theorem gName_sTa (u : RS) (x : Int32) : gName (sTa u x) = gName u := rfl
theorem gName_sOwn (u : RS) (x : Int32) : gName (sOwn u x) = gName u := rfl
theorem gAcc_sCells (u : RS) (x : Nat → Int32) : gAcc (sCells u x) = gAcc u := rfl
theorem gAcc_sHolds (u : RS) (x : Nat → Int32) : gAcc (sHolds u x) = gAcc u := rfl
theorem gAcc_sKnown (u : RS) (x : Bool) : gAcc (sKnown u x) = gAcc u := rfl
theorem gAcc_sName (u : RS) (x : Int32) : gAcc (sName u x) = gAcc u := rfl
theorem gAcc_sAcc (u : RS) (x : Int32) : gAcc (sAcc u x) = x := rfl
theorem gAcc_sSteps (u : RS) (x : Int32) : gAcc (sSteps u x) = gAcc u := rfl
theorem gAcc_sFin (u : RS) (x : Int32) : gAcc (sFin u x) = gAcc u := rfl
theorem gAcc_sCat (u : RS) (x : Int32) : gAcc (sCat u x) = gAcc u := rfl
theorem gAcc_sMark (u : RS) (x : Bool) : gAcc (sMark u x) = gAcc u := rfl
theorem gAcc_sCnt (u : RS) (x : Int64) : gAcc (sCnt u x) = gAcc u := rfl
theorem gAcc_sTr (u : RS) (x : Int32) : gAcc (sTr u x) = gAcc u := rfl
theorem gAcc_sTa (u : RS) (x : Int32) : gAcc (sTa u x) = gAcc u := rfl
theorem gAcc_sOwn (u : RS) (x : Int32) : gAcc (sOwn u x) = gAcc u := rfl
theorem gSteps_sCells (u : RS) (x : Nat → Int32) : gSteps (sCells u x) = gSteps u := rfl
theorem gSteps_sHolds (u : RS) (x : Nat → Int32) : gSteps (sHolds u x) = gSteps u := rfl
theorem gSteps_sKnown (u : RS) (x : Bool) : gSteps (sKnown u x) = gSteps u := rfl
theorem gSteps_sName (u : RS) (x : Int32) : gSteps (sName u x) = gSteps u := rfl
theorem gSteps_sAcc (u : RS) (x : Int32) : gSteps (sAcc u x) = gSteps u := rfl
theorem gSteps_sSteps (u : RS) (x : Int32) : gSteps (sSteps u x) = x := rfl
theorem gSteps_sFin (u : RS) (x : Int32) : gSteps (sFin u x) = gSteps u := rfl
theorem gSteps_sCat (u : RS) (x : Int32) : gSteps (sCat u x) = gSteps u := rfl
theorem gSteps_sMark (u : RS) (x : Bool) : gSteps (sMark u x) = gSteps u := rfl
theorem gSteps_sCnt (u : RS) (x : Int64) : gSteps (sCnt u x) = gSteps u := rfl
theorem gSteps_sTr (u : RS) (x : Int32) : gSteps (sTr u x) = gSteps u := rfl
theorem gSteps_sTa (u : RS) (x : Int32) : gSteps (sTa u x) = gSteps u := rfl
theorem gSteps_sOwn (u : RS) (x : Int32) : gSteps (sOwn u x) = gSteps u := rfl
theorem gFin_sCells (u : RS) (x : Nat → Int32) : gFin (sCells u x) = gFin u := rfl
theorem gFin_sHolds (u : RS) (x : Nat → Int32) : gFin (sHolds u x) = gFin u := rfl
theorem gFin_sKnown (u : RS) (x : Bool) : gFin (sKnown u x) = gFin u := rfl
theorem gFin_sName (u : RS) (x : Int32) : gFin (sName u x) = gFin u := rfl
theorem gFin_sAcc (u : RS) (x : Int32) : gFin (sAcc u x) = gFin u := rfl
theorem gFin_sSteps (u : RS) (x : Int32) : gFin (sSteps u x) = gFin u := rfl
theorem gFin_sFin (u : RS) (x : Int32) : gFin (sFin u x) = x := rfl
theorem gFin_sCat (u : RS) (x : Int32) : gFin (sCat u x) = gFin u := rfl
theorem gFin_sMark (u : RS) (x : Bool) : gFin (sMark u x) = gFin u := rfl
theorem gFin_sCnt (u : RS) (x : Int64) : gFin (sCnt u x) = gFin u := rfl
theorem gFin_sTr (u : RS) (x : Int32) : gFin (sTr u x) = gFin u := rfl
theorem gFin_sTa (u : RS) (x : Int32) : gFin (sTa u x) = gFin u := rfl
theorem gFin_sOwn (u : RS) (x : Int32) : gFin (sOwn u x) = gFin u := rfl
theorem gCat_sCells (u : RS) (x : Nat → Int32) : gCat (sCells u x) = gCat u := rfl
theorem gCat_sHolds (u : RS) (x : Nat → Int32) : gCat (sHolds u x) = gCat u := rfl
theorem gCat_sKnown (u : RS) (x : Bool) : gCat (sKnown u x) = gCat u := rfl
theorem gCat_sName (u : RS) (x : Int32) : gCat (sName u x) = gCat u := rfl
theorem gCat_sAcc (u : RS) (x : Int32) : gCat (sAcc u x) = gCat u := rfl
theorem gCat_sSteps (u : RS) (x : Int32) : gCat (sSteps u x) = gCat u := rfl
theorem gCat_sFin (u : RS) (x : Int32) : gCat (sFin u x) = gCat u := rfl
theorem gCat_sCat (u : RS) (x : Int32) : gCat (sCat u x) = x := rfl
theorem gCat_sMark (u : RS) (x : Bool) : gCat (sMark u x) = gCat u := rfl
theorem gCat_sCnt (u : RS) (x : Int64) : gCat (sCnt u x) = gCat u := rfl
theorem gCat_sTr (u : RS) (x : Int32) : gCat (sTr u x) = gCat u := rfl
theorem gCat_sTa (u : RS) (x : Int32) : gCat (sTa u x) = gCat u := rfl
theorem gCat_sOwn (u : RS) (x : Int32) : gCat (sOwn u x) = gCat u := rfl
theorem gMark_sCells (u : RS) (x : Nat → Int32) : gMark (sCells u x) = gMark u := rfl
theorem gMark_sHolds (u : RS) (x : Nat → Int32) : gMark (sHolds u x) = gMark u := rfl
theorem gMark_sKnown (u : RS) (x : Bool) : gMark (sKnown u x) = gMark u := rfl
theorem gMark_sName (u : RS) (x : Int32) : gMark (sName u x) = gMark u := rfl
theorem gMark_sAcc (u : RS) (x : Int32) : gMark (sAcc u x) = gMark u := rfl
theorem gMark_sSteps (u : RS) (x : Int32) : gMark (sSteps u x) = gMark u := rfl
theorem gMark_sFin (u : RS) (x : Int32) : gMark (sFin u x) = gMark u := rfl
theorem gMark_sCat (u : RS) (x : Int32) : gMark (sCat u x) = gMark u := rfl
theorem gMark_sMark (u : RS) (x : Bool) : gMark (sMark u x) = x := rfl
theorem gMark_sCnt (u : RS) (x : Int64) : gMark (sCnt u x) = gMark u := rfl
theorem gMark_sTr (u : RS) (x : Int32) : gMark (sTr u x) = gMark u := rfl
theorem gMark_sTa (u : RS) (x : Int32) : gMark (sTa u x) = gMark u := rfl
theorem gMark_sOwn (u : RS) (x : Int32) : gMark (sOwn u x) = gMark u := rfl
theorem gCnt_sCells (u : RS) (x : Nat → Int32) : gCnt (sCells u x) = gCnt u := rfl
theorem gCnt_sHolds (u : RS) (x : Nat → Int32) : gCnt (sHolds u x) = gCnt u := rfl
theorem gCnt_sKnown (u : RS) (x : Bool) : gCnt (sKnown u x) = gCnt u := rfl
theorem gCnt_sName (u : RS) (x : Int32) : gCnt (sName u x) = gCnt u := rfl
theorem gCnt_sAcc (u : RS) (x : Int32) : gCnt (sAcc u x) = gCnt u := rfl
theorem gCnt_sSteps (u : RS) (x : Int32) : gCnt (sSteps u x) = gCnt u := rfl
theorem gCnt_sFin (u : RS) (x : Int32) : gCnt (sFin u x) = gCnt u := rfl
theorem gCnt_sCat (u : RS) (x : Int32) : gCnt (sCat u x) = gCnt u := rfl
theorem gCnt_sMark (u : RS) (x : Bool) : gCnt (sMark u x) = gCnt u := rfl
theorem gCnt_sCnt (u : RS) (x : Int64) : gCnt (sCnt u x) = x := rfl
theorem gCnt_sTr (u : RS) (x : Int32) : gCnt (sTr u x) = gCnt u := rfl
theorem gCnt_sTa (u : RS) (x : Int32) : gCnt (sTa u x) = gCnt u := rfl
theorem gCnt_sOwn (u : RS) (x : Int32) : gCnt (sOwn u x) = gCnt u := rfl
theorem gTr_sCells (u : RS) (x : Nat → Int32) : gTr (sCells u x) = gTr u := rfl
theorem gTr_sHolds (u : RS) (x : Nat → Int32) : gTr (sHolds u x) = gTr u := rfl
theorem gTr_sKnown (u : RS) (x : Bool) : gTr (sKnown u x) = gTr u := rfl
theorem gTr_sName (u : RS) (x : Int32) : gTr (sName u x) = gTr u := rfl
theorem gTr_sAcc (u : RS) (x : Int32) : gTr (sAcc u x) = gTr u := rfl
theorem gTr_sSteps (u : RS) (x : Int32) : gTr (sSteps u x) = gTr u := rfl
theorem gTr_sFin (u : RS) (x : Int32) : gTr (sFin u x) = gTr u := rfl
theorem gTr_sCat (u : RS) (x : Int32) : gTr (sCat u x) = gTr u := rfl
theorem gTr_sMark (u : RS) (x : Bool) : gTr (sMark u x) = gTr u := rfl
theorem gTr_sCnt (u : RS) (x : Int64) : gTr (sCnt u x) = gTr u := rfl
theorem gTr_sTr (u : RS) (x : Int32) : gTr (sTr u x) = x := rfl
theorem gTr_sTa (u : RS) (x : Int32) : gTr (sTa u x) = gTr u := rfl
theorem gTr_sOwn (u : RS) (x : Int32) : gTr (sOwn u x) = gTr u := rfl
theorem gTa_sCells (u : RS) (x : Nat → Int32) : gTa (sCells u x) = gTa u := rfl
theorem gTa_sHolds (u : RS) (x : Nat → Int32) : gTa (sHolds u x) = gTa u := rfl
theorem gTa_sKnown (u : RS) (x : Bool) : gTa (sKnown u x) = gTa u := rfl
theorem gTa_sName (u : RS) (x : Int32) : gTa (sName u x) = gTa u := rfl
theorem gTa_sAcc (u : RS) (x : Int32) : gTa (sAcc u x) = gTa u := rfl
theorem gTa_sSteps (u : RS) (x : Int32) : gTa (sSteps u x) = gTa u := rfl
theorem gTa_sFin (u : RS) (x : Int32) : gTa (sFin u x) = gTa u := rfl
theorem gTa_sCat (u : RS) (x : Int32) : gTa (sCat u x) = gTa u := rfl
theorem gTa_sMark (u : RS) (x : Bool) : gTa (sMark u x) = gTa u := rfl
theorem gTa_sCnt (u : RS) (x : Int64) : gTa (sCnt u x) = gTa u := rfl
theorem gTa_sTr (u : RS) (x : Int32) : gTa (sTr u x) = gTa u := rfl
theorem gTa_sTa (u : RS) (x : Int32) : gTa (sTa u x) = x := rfl
theorem gTa_sOwn (u : RS) (x : Int32) : gTa (sOwn u x) = gTa u := rfl
theorem gOwn_sCells (u : RS) (x : Nat → Int32) : gOwn (sCells u x) = gOwn u := rfl
theorem gOwn_sHolds (u : RS) (x : Nat → Int32) : gOwn (sHolds u x) = gOwn u := rfl
theorem gOwn_sKnown (u : RS) (x : Bool) : gOwn (sKnown u x) = gOwn u := rfl
theorem gOwn_sName (u : RS) (x : Int32) : gOwn (sName u x) = gOwn u := rfl
theorem gOwn_sAcc (u : RS) (x : Int32) : gOwn (sAcc u x) = gOwn u := rfl
theorem gOwn_sSteps (u : RS) (x : Int32) : gOwn (sSteps u x) = gOwn u := rfl
theorem gOwn_sFin (u : RS) (x : Int32) : gOwn (sFin u x) = gOwn u := rfl
theorem gOwn_sCat (u : RS) (x : Int32) : gOwn (sCat u x) = gOwn u := rfl
theorem gOwn_sMark (u : RS) (x : Bool) : gOwn (sMark u x) = gOwn u := rfl
theorem gOwn_sCnt (u : RS) (x : Int64) : gOwn (sCnt u x) = gOwn u := rfl
theorem gOwn_sTr (u : RS) (x : Int32) : gOwn (sTr u x) = gOwn u := rfl
theorem gOwn_sTa (u : RS) (x : Int32) : gOwn (sTa u x) = gOwn u := rfl
theorem gOwn_sOwn (u : RS) (x : Int32) : gOwn (sOwn u x) = x := rfl
-- the document's V, N, K, and the length of a block
def pV (P : PR) (i : Nat) : Int32 := nI (P.2.1 i) - 100
def pN (P : PR) (i : Nat) : Nat := P.2.1 i % 16
def pK (P : PR) (i : Nat) : Nat := P.2.1 i / 16
def pB (P : PR) (i e : Nat) : Nat := if P.1 i < 10 ∨ 14 < P.1 i then 0 else min (pN P i) (e - i - 1)
/-- a program as the class keeps it -/
def pOk (P : PR) : Prop := P.2.2 ≤ 14 ∧ ∀ i, i < P.2.2 → P.1 i ≤ 21 ∧ P.2.1 i ≤ 255
def isW (x y : Int32) : Bool := decide (¬ x < 0 ∧ ¬ y < x)
-- the endings: 0 went on, 1 stopped, 2 troubled
def xComes (u : RS) (i t : Int32) : Int32 × RS := (2, sOwn (sTa (sTr u t) i) (-1))
def xOwn (u : RS) (i n : Int32) : Int32 × RS := (2, sOwn (sTa (sTr u 10) i) n)
def xForget (u : RS) : RS := sOwn (sTa (sTr u (-1)) (-1)) (-1)
def xTakes (K : Nat) (t : Int32) : Bool :=
  if K = 11 ∨ K = 14 then decide (¬ t = 7 ∧ ¬ t = 10) else if K = 12 then decide (t = 1 ∨ t = 9) else if K = 13 then decide (t = 7 ∨ t = 10) else if K = 15 then true else decide (t = nI K)
def xHeld (P : PR) (i : Nat) (u : RS) : Bool := decide (0 < gHolds u (pK P i % 2))
def xSleep (i : Int32) (u : RS) : Int32 × RS := if gMark u = true then xComes (sMark u false) i 7 else (0, u)
def xCaught (u : RS) : RS := xForget (sAcc (sCat u (gCat u + 1)) (1000 + 16 * gTr u + (if gTr u = 10 then gOwn u else 0)))
def xCatch (P : PR) (i : Nat) (r : Int32 × RS) : Int32 × RS :=
  if r.1 = 2 ∧ xTakes (pK P i) (gTr r.2) = true then (if pK P i = 14 then xOwn (xCaught r.2) (nI i) 14 else (0, xCaught r.2)) else r
def xFinally (r : Int32 × RS) : Int32 × RS := (r.1, sAcc (sFin r.2 (gFin r.2 + 1)) (-gAcc r.2))
def xDrop (r : Int32 × RS) : Int32 × RS := (0, sFin (xForget r.2) (gFin r.2 + 1))
def xGrab (P : PR) (i : Nat) (u : RS) : RS := sHolds u (upd (gHolds u) (pK P i % 2) (gHolds u (pK P i % 2) + 1))
def xLet (P : PR) (i : Nat) (r : Int32 × RS) : Int32 × RS := (r.1, sHolds r.2 (upd (gHolds r.2) (pK P i % 2) (gHolds r.2 (pK P i % 2) - 1)))
def xRep (f : RS → Int32 × RS) : Nat → RS → Int32 × RS
  | 0, u => (0, u)
  | n + 1, u => if (f u).1 = 0 then xRep f n (f u).2 else f u
def xBreak (P : PR) (i : Nat) (u : RS) : Int32 × RS := if pK P i ≤ 5 then xComes u (nI i) (nI (pK P i)) else (0, sAcc u (nI (pN P i)))
def xThrow (P : PR) (i : Nat) (u : RS) : Int32 × RS := if pK P i = 7 ∨ pK P i = 8 ∨ pK P i = 9 then xComes u (nI i) (nI (pK P i)) else if pK P i = 10 then xOwn u (nI i) (nI (pN P i)) else (0, u)
def xKeep (P : PR) (i : Nat) (u : RS) : Int32 × RS := if isW (pV P i) 7 = true then (0, sCells u (upd (gCells u) (pV P i).toNatClampNeg (gAcc u))) else xComes u (nI i) 1
def xLoad (P : PR) (i : Nat) (u : RS) : Int32 × RS := if isW (pV P i) 7 = true then (0, sAcc u (gCells u (pV P i).toNatClampNeg)) else xComes u (nI i) 1
def xDiv (P : PR) (i : Nat) (u : RS) : Int32 × RS := if pV P i = 0 then xComes u (nI i) 0 else (0, sAcc u (gAcc u / pV P i))
def xRem (P : PR) (i : Nat) (u : RS) : Int32 × RS := if pV P i = 0 then xComes u (nI i) 0 else (0, sAcc u (gAcc u - gAcc u / pV P i * pV P i))
def xAct (f : Nat → Nat → RS → Int32 × RS) (P : PR) (i e : Nat) (u : RS) : Int32 × RS := match P.1 i with
  | 0 => (0, sAcc u (gAcc u + pV P i))
  | 1 => (0, sAcc u (gAcc u * pV P i))
  | 2 => xDiv P i u
  | 3 => xRem P i u
  | 4 => xLoad P i u
  | 5 => xKeep P i u
  | 6 => xBreak P i u
  | 7 => xThrow P i u
  | 8 => (0, sMark u true)
  | 9 => (0, sMark (sAcc u (bI (gMark u))) false)
  | 10 => xCatch P i (f (i + 1) e u)
  | 11 => xFinally (f (i + 1) e u)
  | 12 => xDrop (f (i + 1) e u)
  | 13 => xLet P i (f (i + 1) e (xGrab P i u))
  | 14 => xRep (f (i + 1) e) (pK P i) u
  | 15 => if xHeld P i u = true then (0, u) else xComes u (nI i) 6
  | 16 => if xHeld P i u = true then xSleep (nI i) u else xComes u (nI i) 6
  | 17 => xSleep (nI i) u
  | 18 => (0, sAcc u (bI (xHeld P i u)))
  | 19 => (0, sCnt u (gCnt u + (pV P i).toInt64))
  | 20 => (1, u)
  | 21 => (0, sAcc u (gName u))
  | _ => (0, u)
def xLoop (g : Nat → Nat → RS → Int32 × RS) (P : PR) (e : Nat) : Nat → Nat → RS → Int32 × RS
  | 0, _, u => (0, u)
  | n + 1, i, u => if e ≤ i then (0, u) else if 400 ≤ gSteps u then (1, u) else
      (if (g i (i + 1 + pB P i e) (sSteps u (gSteps u + 1))).1 = 0 then xLoop g P e n (i + pB P i e + 1) (g i (i + 1 + pB P i e) (sSteps u (gSteps u + 1))).2 else g i (i + 1 + pB P i e) (sSteps u (gSteps u + 1)))
/-- doActions at depth 15 - k -/
def xActs (P : PR) : Nat → Nat → Nat → RS → Int32 × RS
  | 0, _, _, u => (1, u)
  | k + 1, i, e, u => xLoop (xAct (xActs P k) P) P e (e - i) i u
def xBegin (nm : Int32) (u : RS) : RS := xForget (sHolds (sCells (sCnt (sMark (sCat (sFin (sSteps (sAcc (sName u nm) 0) 0) 0) 0) false) 0) (fun _ => 0)) (fun _ => 0))
def xRun (P : PR) (nm : Int32) (u : RS) : RS := sKnown (xActs P 15 0 P.2.2 (xBegin nm u)).2 true
def xOutcome (u : RS) : Int32 := if gTr u = -1 then 0 else 100 + gTr u
