-- THE CLASS AS A FUNCTION: a program's picture, a run's picture, and what each method of Run makes of it
/-- a program: its ops, its arguments, its size -/
abbrev PR : Type := (Nat → Nat) × (Nat → Nat) × Nat
/-- a run: cells, holds, known, name, accumulator, steps, finals, catches, marked, counted, trouble, its action, its number -/
abbrev RS : Type := (Nat → Int32) × (Nat → Int32) × Bool × Int32 × Int32 × Int32 × Int32 × Int32 × Bool × Int64 × Int32 × Int32 × Int32
def bI (b : Bool) : Int32 := match b with
  | true => 1
  | false => 0
theorem bI0 {b : Bool} (h : bI b = 0) : b = false := by cases b <;> first | rfl | exact absurd h (by decide)
theorem bI1 {b : Bool} (h : ¬ bI b = 0) : b = true := by cases b <;> first | rfl | exact absurd rfl h
def gCells (u : RS) : Nat → Int32 := u.1
def gHolds (u : RS) : Nat → Int32 := u.2.1
def gKnown (u : RS) : Bool := u.2.2.1
def gName (u : RS) : Int32 := u.2.2.2.1
def gAcc (u : RS) : Int32 := u.2.2.2.2.1
def gSteps (u : RS) : Int32 := u.2.2.2.2.2.1
def gFin (u : RS) : Int32 := u.2.2.2.2.2.2.1
def gCat (u : RS) : Int32 := u.2.2.2.2.2.2.2.1
def gMark (u : RS) : Bool := u.2.2.2.2.2.2.2.2.1
def gCnt (u : RS) : Int64 := u.2.2.2.2.2.2.2.2.2.1
def gTr (u : RS) : Int32 := u.2.2.2.2.2.2.2.2.2.2.1
def gTa (u : RS) : Int32 := u.2.2.2.2.2.2.2.2.2.2.2.1
def gOwn (u : RS) : Int32 := u.2.2.2.2.2.2.2.2.2.2.2.2
def mkR (c h : Nat → Int32) (kn : Bool) (nm ac st fi ca : Int32) (mk : Bool) (cn : Int64) (tr ta ow : Int32) : RS := (c, h, kn, nm, ac, st, fi, ca, mk, cn, tr, ta, ow)
def sCells (u : RS) (x : Nat → Int32) : RS := mkR x (gHolds u) (gKnown u) (gName u) (gAcc u) (gSteps u) (gFin u) (gCat u) (gMark u) (gCnt u) (gTr u) (gTa u) (gOwn u)
def sHolds (u : RS) (x : Nat → Int32) : RS := mkR (gCells u) x (gKnown u) (gName u) (gAcc u) (gSteps u) (gFin u) (gCat u) (gMark u) (gCnt u) (gTr u) (gTa u) (gOwn u)
def sKnown (u : RS) (x : Bool) : RS := mkR (gCells u) (gHolds u) x (gName u) (gAcc u) (gSteps u) (gFin u) (gCat u) (gMark u) (gCnt u) (gTr u) (gTa u) (gOwn u)
def sName (u : RS) (x : Int32) : RS := mkR (gCells u) (gHolds u) (gKnown u) x (gAcc u) (gSteps u) (gFin u) (gCat u) (gMark u) (gCnt u) (gTr u) (gTa u) (gOwn u)
def sAcc (u : RS) (x : Int32) : RS := mkR (gCells u) (gHolds u) (gKnown u) (gName u) x (gSteps u) (gFin u) (gCat u) (gMark u) (gCnt u) (gTr u) (gTa u) (gOwn u)
def sSteps (u : RS) (x : Int32) : RS := mkR (gCells u) (gHolds u) (gKnown u) (gName u) (gAcc u) x (gFin u) (gCat u) (gMark u) (gCnt u) (gTr u) (gTa u) (gOwn u)
def sFin (u : RS) (x : Int32) : RS := mkR (gCells u) (gHolds u) (gKnown u) (gName u) (gAcc u) (gSteps u) x (gCat u) (gMark u) (gCnt u) (gTr u) (gTa u) (gOwn u)
def sCat (u : RS) (x : Int32) : RS := mkR (gCells u) (gHolds u) (gKnown u) (gName u) (gAcc u) (gSteps u) (gFin u) x (gMark u) (gCnt u) (gTr u) (gTa u) (gOwn u)
def sMark (u : RS) (x : Bool) : RS := mkR (gCells u) (gHolds u) (gKnown u) (gName u) (gAcc u) (gSteps u) (gFin u) (gCat u) x (gCnt u) (gTr u) (gTa u) (gOwn u)
def sCnt (u : RS) (x : Int64) : RS := mkR (gCells u) (gHolds u) (gKnown u) (gName u) (gAcc u) (gSteps u) (gFin u) (gCat u) (gMark u) x (gTr u) (gTa u) (gOwn u)
def sTr (u : RS) (x : Int32) : RS := mkR (gCells u) (gHolds u) (gKnown u) (gName u) (gAcc u) (gSteps u) (gFin u) (gCat u) (gMark u) (gCnt u) x (gTa u) (gOwn u)
def sTa (u : RS) (x : Int32) : RS := mkR (gCells u) (gHolds u) (gKnown u) (gName u) (gAcc u) (gSteps u) (gFin u) (gCat u) (gMark u) (gCnt u) (gTr u) x (gOwn u)
def sOwn (u : RS) (x : Int32) : RS := mkR (gCells u) (gHolds u) (gKnown u) (gName u) (gAcc u) (gSteps u) (gFin u) (gCat u) (gMark u) (gCnt u) (gTr u) (gTa u) x
-- the document's V, N, K, and the length of a block
def pV (P : PR) (i : Nat) : Int32 := nI (P.2.1 i) - 100
def pN (P : PR) (i : Nat) : Nat := P.2.1 i % 16
def pK (P : PR) (i : Nat) : Nat := P.2.1 i / 16
def pB (P : PR) (i e : Nat) : Nat := if P.1 i < 10 ∨ 14 < P.1 i then 0 else min (pN P i) (e - i - 1)
/-- a program as the class keeps it -/
def pOk (P : PR) : Prop := P.2.2 ≤ 14 ∧ ∀ i, i < P.2.2 → P.1 i ≤ 21 ∧ P.2.1 i ≤ 255
def isW (x y : Int32) : Bool := decide (¬ x < 0 ∧ ¬ y < x)
-- the endings: 0 went on, 1 stopped, 2 troubled
def xComes (u : RS) (i t : Int32) : Int32 × RS := (2, sOwn (sTa (sTr u t) i) (-1))
def xOwn (u : RS) (i n : Int32) : Int32 × RS := (2, sOwn (sTa (sTr u 10) i) n)
def xForget (u : RS) : RS := sOwn (sTa (sTr u (-1)) (-1)) (-1)
def xTakes (K : Nat) (t : Int32) : Bool :=
  if K = 11 ∨ K = 14 then decide (¬ t = 7 ∧ ¬ t = 10) else if K = 12 then decide (t = 1 ∨ t = 9) else if K = 13 then decide (t = 7 ∨ t = 10) else if K = 15 then true else decide (t = nI K)
def xHeld (P : PR) (i : Nat) (u : RS) : Bool := decide (0 < gHolds u (pK P i % 2))
def xSleep (i : Int32) (u : RS) : Int32 × RS := if gMark u = true then xComes (sMark u false) i 7 else (0, u)
def xCaught (u : RS) : RS := xForget (sAcc (sCat u (gCat u + 1)) (1000 + 16 * gTr u + (if gTr u = 10 then gOwn u else 0)))
def xCatch (P : PR) (i : Nat) (r : Int32 × RS) : Int32 × RS :=
  if r.1 = 2 ∧ xTakes (pK P i) (gTr r.2) = true then (if pK P i = 14 then xOwn (xCaught r.2) (nI i) 14 else (0, xCaught r.2)) else r
def xFinally (r : Int32 × RS) : Int32 × RS := (r.1, sAcc (sFin r.2 (gFin r.2 + 1)) (-gAcc r.2))
def xDrop (r : Int32 × RS) : Int32 × RS := (0, sFin (xForget r.2) (gFin r.2 + 1))
def xGrab (P : PR) (i : Nat) (u : RS) : RS := sHolds u (upd (gHolds u) (pK P i % 2) (gHolds u (pK P i % 2) + 1))
def xLet (P : PR) (i : Nat) (r : Int32 × RS) : Int32 × RS := (r.1, sHolds r.2 (upd (gHolds r.2) (pK P i % 2) (gHolds r.2 (pK P i % 2) - 1)))
def xRep (f : RS → Int32 × RS) : Nat → RS → Int32 × RS
  | 0, u => (0, u)
  | n + 1, u => if (f u).1 = 0 then xRep f n (f u).2 else f u
def xBreak (P : PR) (i : Nat) (u : RS) : Int32 × RS := if pK P i ≤ 5 then xComes u (nI i) (nI (pK P i)) else (0, sAcc u (nI (pN P i)))
def xThrow (P : PR) (i : Nat) (u : RS) : Int32 × RS := if pK P i = 7 ∨ pK P i = 8 ∨ pK P i = 9 then xComes u (nI i) (nI (pK P i)) else if pK P i = 10 then xOwn u (nI i) (nI (pN P i)) else (0, u)
def xKeep (P : PR) (i : Nat) (u : RS) : Int32 × RS := if isW (pV P i) 7 = true then (0, sCells u (upd (gCells u) (pV P i).toNatClampNeg (gAcc u))) else xComes u (nI i) 1
def xLoad (P : PR) (i : Nat) (u : RS) : Int32 × RS := if isW (pV P i) 7 = true then (0, sAcc u (gCells u (pV P i).toNatClampNeg)) else xComes u (nI i) 1
def xDiv (P : PR) (i : Nat) (u : RS) : Int32 × RS := if pV P i = 0 then xComes u (nI i) 0 else (0, sAcc u (gAcc u / pV P i))
def xRem (P : PR) (i : Nat) (u : RS) : Int32 × RS := if pV P i = 0 then xComes u (nI i) 0 else (0, sAcc u (gAcc u - gAcc u / pV P i * pV P i))
def xAct (f : Nat → Nat → RS → Int32 × RS) (P : PR) (i e : Nat) (u : RS) : Int32 × RS := match P.1 i with
  | 0 => (0, sAcc u (gAcc u + pV P i))
  | 1 => (0, sAcc u (gAcc u * pV P i))
  | 2 => xDiv P i u
  | 3 => xRem P i u
  | 4 => xLoad P i u
  | 5 => xKeep P i u
  | 6 => xBreak P i u
  | 7 => xThrow P i u
  | 8 => (0, sMark u true)
  | 9 => (0, sMark (sAcc u (bI (gMark u))) false)
  | 10 => xCatch P i (f (i + 1) e u)
  | 11 => xFinally (f (i + 1) e u)
  | 12 => xDrop (f (i + 1) e u)
  | 13 => xLet P i (f (i + 1) e (xGrab P i u))
  | 14 => xRep (f (i + 1) e) (pK P i) u
  | 15 => if xHeld P i u = true then (0, u) else xComes u (nI i) 6
  | 16 => if xHeld P i u = true then xSleep (nI i) u else xComes u (nI i) 6
  | 17 => xSleep (nI i) u
  | 18 => (0, sAcc u (bI (xHeld P i u)))
  | 19 => (0, sCnt u (gCnt u + (pV P i).toInt64))
  | 20 => (1, u)
  | 21 => (0, sAcc u (gName u))
  | _ => (0, u)
def xLoop (g : Nat → Nat → RS → Int32 × RS) (P : PR) (e : Nat) : Nat → Nat → RS → Int32 × RS
  | 0, _, u => (0, u)
  | n + 1, i, u => if e ≤ i then (0, u) else if 400 ≤ gSteps u then (1, u) else
      (if (g i (i + 1 + pB P i e) (sSteps u (gSteps u + 1))).1 = 0 then xLoop g P e n (i + pB P i e + 1) (g i (i + 1 + pB P i e) (sSteps u (gSteps u + 1))).2 else g i (i + 1 + pB P i e) (sSteps u (gSteps u + 1)))
/-- doActions at depth 15 - k -/
def xActs (P : PR) : Nat → Nat → Nat → RS → Int32 × RS
  | 0, _, _, u => (1, u)
  | k + 1, i, e, u => xLoop (xAct (xActs P k) P) P e (e - i) i u
def xBegin (nm : Int32) (u : RS) : RS := mkR (fun _ => 0) (fun _ => 0) (gKnown u) nm 0 0 0 0 false 0 (-1) (-1) (-1)
def xRun (P : PR) (nm : Int32) (u : RS) : RS := sKnown (xActs P 15 0 P.2.2 (xBegin nm u)).2 true
def xOutcome (u : RS) : Int32 := if gTr u = -1 then 0 else 100 + gTr u
