-- THE REFERENCE'S STATE: its arrays and numbers
abbrev MS : Type := (Nat → Nat) × (Nat → Nat) × (Nat → Nat) × (Nat → Int32) × (Nat → Int32) × (Nat → Bool) × (Int64) × (Int32) × (Int32) × (Int32) × (Nat → Nat) × (Nat → Nat) × (Nat → Nat) × (Nat) × (Nat → Int32) × (Nat → Int32) × (Nat) × (Nat) × (Int32) × (Int32) × (Int32) × (Int32) × (Int32) × (Int32) × (Int32) × (Bool) × (Bool)
def qOp (m : MS) : Nat → Nat := m.1
def qArg (m : MS) : Nat → Nat := m.2.1
def qSize (m : MS) : Nat → Nat := m.2.2.1
def qTold (m : MS) : Nat → Int32 := m.2.2.2.1
def qCls (m : MS) : Nat → Int32 := m.2.2.2.2.1
def qRan (m : MS) : Nat → Bool := m.2.2.2.2.2.1
def qCtr (m : MS) : Int64 := m.2.2.2.2.2.2.1
def qRuns (m : MS) : Int32 := m.2.2.2.2.2.2.2.1
def qThr (m : MS) : Int32 := m.2.2.2.2.2.2.2.2.1
def qTrd (m : MS) : Int32 := m.2.2.2.2.2.2.2.2.2.1
def qBlk (m : MS) : Nat → Nat := m.2.2.2.2.2.2.2.2.2.2.1
def qEnd (m : MS) : Nat → Nat := m.2.2.2.2.2.2.2.2.2.2.2.1
def qLeft (m : MS) : Nat → Nat := m.2.2.2.2.2.2.2.2.2.2.2.2.1
def qOpen (m : MS) : Nat := m.2.2.2.2.2.2.2.2.2.2.2.2.2.1
def qCell (m : MS) : Nat → Int32 := m.2.2.2.2.2.2.2.2.2.2.2.2.2.2.1
def qHeld (m : MS) : Nat → Int32 := m.2.2.2.2.2.2.2.2.2.2.2.2.2.2.2.1
def qProg (m : MS) : Nat := m.2.2.2.2.2.2.2.2.2.2.2.2.2.2.2.2.1
def qAt (m : MS) : Nat := m.2.2.2.2.2.2.2.2.2.2.2.2.2.2.2.2.2.1
def qAcc (m : MS) : Int32 := m.2.2.2.2.2.2.2.2.2.2.2.2.2.2.2.2.2.2.1
def qSteps (m : MS) : Int32 := m.2.2.2.2.2.2.2.2.2.2.2.2.2.2.2.2.2.2.2.1
def qFin (m : MS) : Int32 := m.2.2.2.2.2.2.2.2.2.2.2.2.2.2.2.2.2.2.2.2.1
def qCat (m : MS) : Int32 := m.2.2.2.2.2.2.2.2.2.2.2.2.2.2.2.2.2.2.2.2.2.1
def qTr (m : MS) : Int32 := m.2.2.2.2.2.2.2.2.2.2.2.2.2.2.2.2.2.2.2.2.2.2.1
def qNum (m : MS) : Int32 := m.2.2.2.2.2.2.2.2.2.2.2.2.2.2.2.2.2.2.2.2.2.2.2.1
def qOrg (m : MS) : Int32 := m.2.2.2.2.2.2.2.2.2.2.2.2.2.2.2.2.2.2.2.2.2.2.2.2.1
def qMark (m : MS) : Bool := m.2.2.2.2.2.2.2.2.2.2.2.2.2.2.2.2.2.2.2.2.2.2.2.2.2.1
def qStop (m : MS) : Bool := m.2.2.2.2.2.2.2.2.2.2.2.2.2.2.2.2.2.2.2.2.2.2.2.2.2.2
def mkM (x0 : Nat → Nat) (x1 : Nat → Nat) (x2 : Nat → Nat) (x3 : Nat → Int32) (x4 : Nat → Int32) (x5 : Nat → Bool) (x6 : Int64) (x7 : Int32) (x8 : Int32) (x9 : Int32) (x10 : Nat → Nat) (x11 : Nat → Nat) (x12 : Nat → Nat) (x13 : Nat) (x14 : Nat → Int32) (x15 : Nat → Int32) (x16 : Nat) (x17 : Nat) (x18 : Int32) (x19 : Int32) (x20 : Int32) (x21 : Int32) (x22 : Int32) (x23 : Int32) (x24 : Int32) (x25 : Bool) (x26 : Bool) : MS := (x0, x1, x2, x3, x4, x5, x6, x7, x8, x9, x10, x11, x12, x13, x14, x15, x16, x17, x18, x19, x20, x21, x22, x23, x24, x25, x26)
def zOp (m : MS) (x : Nat → Nat) : MS := mkM x (qArg m) (qSize m) (qTold m) (qCls m) (qRan m) (qCtr m) (qRuns m) (qThr m) (qTrd m) (qBlk m) (qEnd m) (qLeft m) (qOpen m) (qCell m) (qHeld m) (qProg m) (qAt m) (qAcc m) (qSteps m) (qFin m) (qCat m) (qTr m) (qNum m) (qOrg m) (qMark m) (qStop m)
def zArg (m : MS) (x : Nat → Nat) : MS := mkM (qOp m) x (qSize m) (qTold m) (qCls m) (qRan m) (qCtr m) (qRuns m) (qThr m) (qTrd m) (qBlk m) (qEnd m) (qLeft m) (qOpen m) (qCell m) (qHeld m) (qProg m) (qAt m) (qAcc m) (qSteps m) (qFin m) (qCat m) (qTr m) (qNum m) (qOrg m) (qMark m) (qStop m)
def zSize (m : MS) (x : Nat → Nat) : MS := mkM (qOp m) (qArg m) x (qTold m) (qCls m) (qRan m) (qCtr m) (qRuns m) (qThr m) (qTrd m) (qBlk m) (qEnd m) (qLeft m) (qOpen m) (qCell m) (qHeld m) (qProg m) (qAt m) (qAcc m) (qSteps m) (qFin m) (qCat m) (qTr m) (qNum m) (qOrg m) (qMark m) (qStop m)
def zTold (m : MS) (x : Nat → Int32) : MS := mkM (qOp m) (qArg m) (qSize m) x (qCls m) (qRan m) (qCtr m) (qRuns m) (qThr m) (qTrd m) (qBlk m) (qEnd m) (qLeft m) (qOpen m) (qCell m) (qHeld m) (qProg m) (qAt m) (qAcc m) (qSteps m) (qFin m) (qCat m) (qTr m) (qNum m) (qOrg m) (qMark m) (qStop m)
def zCls (m : MS) (x : Nat → Int32) : MS := mkM (qOp m) (qArg m) (qSize m) (qTold m) x (qRan m) (qCtr m) (qRuns m) (qThr m) (qTrd m) (qBlk m) (qEnd m) (qLeft m) (qOpen m) (qCell m) (qHeld m) (qProg m) (qAt m) (qAcc m) (qSteps m) (qFin m) (qCat m) (qTr m) (qNum m) (qOrg m) (qMark m) (qStop m)
def zRan (m : MS) (x : Nat → Bool) : MS := mkM (qOp m) (qArg m) (qSize m) (qTold m) (qCls m) x (qCtr m) (qRuns m) (qThr m) (qTrd m) (qBlk m) (qEnd m) (qLeft m) (qOpen m) (qCell m) (qHeld m) (qProg m) (qAt m) (qAcc m) (qSteps m) (qFin m) (qCat m) (qTr m) (qNum m) (qOrg m) (qMark m) (qStop m)
def zCtr (m : MS) (x : Int64) : MS := mkM (qOp m) (qArg m) (qSize m) (qTold m) (qCls m) (qRan m) x (qRuns m) (qThr m) (qTrd m) (qBlk m) (qEnd m) (qLeft m) (qOpen m) (qCell m) (qHeld m) (qProg m) (qAt m) (qAcc m) (qSteps m) (qFin m) (qCat m) (qTr m) (qNum m) (qOrg m) (qMark m) (qStop m)
def zRuns (m : MS) (x : Int32) : MS := mkM (qOp m) (qArg m) (qSize m) (qTold m) (qCls m) (qRan m) (qCtr m) x (qThr m) (qTrd m) (qBlk m) (qEnd m) (qLeft m) (qOpen m) (qCell m) (qHeld m) (qProg m) (qAt m) (qAcc m) (qSteps m) (qFin m) (qCat m) (qTr m) (qNum m) (qOrg m) (qMark m) (qStop m)
def zThr (m : MS) (x : Int32) : MS := mkM (qOp m) (qArg m) (qSize m) (qTold m) (qCls m) (qRan m) (qCtr m) (qRuns m) x (qTrd m) (qBlk m) (qEnd m) (qLeft m) (qOpen m) (qCell m) (qHeld m) (qProg m) (qAt m) (qAcc m) (qSteps m) (qFin m) (qCat m) (qTr m) (qNum m) (qOrg m) (qMark m) (qStop m)
def zTrd (m : MS) (x : Int32) : MS := mkM (qOp m) (qArg m) (qSize m) (qTold m) (qCls m) (qRan m) (qCtr m) (qRuns m) (qThr m) x (qBlk m) (qEnd m) (qLeft m) (qOpen m) (qCell m) (qHeld m) (qProg m) (qAt m) (qAcc m) (qSteps m) (qFin m) (qCat m) (qTr m) (qNum m) (qOrg m) (qMark m) (qStop m)
def zBlk (m : MS) (x : Nat → Nat) : MS := mkM (qOp m) (qArg m) (qSize m) (qTold m) (qCls m) (qRan m) (qCtr m) (qRuns m) (qThr m) (qTrd m) x (qEnd m) (qLeft m) (qOpen m) (qCell m) (qHeld m) (qProg m) (qAt m) (qAcc m) (qSteps m) (qFin m) (qCat m) (qTr m) (qNum m) (qOrg m) (qMark m) (qStop m)
def zEnd (m : MS) (x : Nat → Nat) : MS := mkM (qOp m) (qArg m) (qSize m) (qTold m) (qCls m) (qRan m) (qCtr m) (qRuns m) (qThr m) (qTrd m) (qBlk m) x (qLeft m) (qOpen m) (qCell m) (qHeld m) (qProg m) (qAt m) (qAcc m) (qSteps m) (qFin m) (qCat m) (qTr m) (qNum m) (qOrg m) (qMark m) (qStop m)
def zLeft (m : MS) (x : Nat → Nat) : MS := mkM (qOp m) (qArg m) (qSize m) (qTold m) (qCls m) (qRan m) (qCtr m) (qRuns m) (qThr m) (qTrd m) (qBlk m) (qEnd m) x (qOpen m) (qCell m) (qHeld m) (qProg m) (qAt m) (qAcc m) (qSteps m) (qFin m) (qCat m) (qTr m) (qNum m) (qOrg m) (qMark m) (qStop m)
def zOpen (m : MS) (x : Nat) : MS := mkM (qOp m) (qArg m) (qSize m) (qTold m) (qCls m) (qRan m) (qCtr m) (qRuns m) (qThr m) (qTrd m) (qBlk m) (qEnd m) (qLeft m) x (qCell m) (qHeld m) (qProg m) (qAt m) (qAcc m) (qSteps m) (qFin m) (qCat m) (qTr m) (qNum m) (qOrg m) (qMark m) (qStop m)
def zCell (m : MS) (x : Nat → Int32) : MS := mkM (qOp m) (qArg m) (qSize m) (qTold m) (qCls m) (qRan m) (qCtr m) (qRuns m) (qThr m) (qTrd m) (qBlk m) (qEnd m) (qLeft m) (qOpen m) x (qHeld m) (qProg m) (qAt m) (qAcc m) (qSteps m) (qFin m) (qCat m) (qTr m) (qNum m) (qOrg m) (qMark m) (qStop m)
def zHeld (m : MS) (x : Nat → Int32) : MS := mkM (qOp m) (qArg m) (qSize m) (qTold m) (qCls m) (qRan m) (qCtr m) (qRuns m) (qThr m) (qTrd m) (qBlk m) (qEnd m) (qLeft m) (qOpen m) (qCell m) x (qProg m) (qAt m) (qAcc m) (qSteps m) (qFin m) (qCat m) (qTr m) (qNum m) (qOrg m) (qMark m) (qStop m)
def zProg (m : MS) (x : Nat) : MS := mkM (qOp m) (qArg m) (qSize m) (qTold m) (qCls m) (qRan m) (qCtr m) (qRuns m) (qThr m) (qTrd m) (qBlk m) (qEnd m) (qLeft m) (qOpen m) (qCell m) (qHeld m) x (qAt m) (qAcc m) (qSteps m) (qFin m) (qCat m) (qTr m) (qNum m) (qOrg m) (qMark m) (qStop m)
def zAt (m : MS) (x : Nat) : MS := mkM (qOp m) (qArg m) (qSize m) (qTold m) (qCls m) (qRan m) (qCtr m) (qRuns m) (qThr m) (qTrd m) (qBlk m) (qEnd m) (qLeft m) (qOpen m) (qCell m) (qHeld m) (qProg m) x (qAcc m) (qSteps m) (qFin m) (qCat m) (qTr m) (qNum m) (qOrg m) (qMark m) (qStop m)
def zAcc (m : MS) (x : Int32) : MS := mkM (qOp m) (qArg m) (qSize m) (qTold m) (qCls m) (qRan m) (qCtr m) (qRuns m) (qThr m) (qTrd m) (qBlk m) (qEnd m) (qLeft m) (qOpen m) (qCell m) (qHeld m) (qProg m) (qAt m) x (qSteps m) (qFin m) (qCat m) (qTr m) (qNum m) (qOrg m) (qMark m) (qStop m)
def zSteps (m : MS) (x : Int32) : MS := mkM (qOp m) (qArg m) (qSize m) (qTold m) (qCls m) (qRan m) (qCtr m) (qRuns m) (qThr m) (qTrd m) (qBlk m) (qEnd m) (qLeft m) (qOpen m) (qCell m) (qHeld m) (qProg m) (qAt m) (qAcc m) x (qFin m) (qCat m) (qTr m) (qNum m) (qOrg m) (qMark m) (qStop m)
def zFin (m : MS) (x : Int32) : MS := mkM (qOp m) (qArg m) (qSize m) (qTold m) (qCls m) (qRan m) (qCtr m) (qRuns m) (qThr m) (qTrd m) (qBlk m) (qEnd m) (qLeft m) (qOpen m) (qCell m) (qHeld m) (qProg m) (qAt m) (qAcc m) (qSteps m) x (qCat m) (qTr m) (qNum m) (qOrg m) (qMark m) (qStop m)
def zCat (m : MS) (x : Int32) : MS := mkM (qOp m) (qArg m) (qSize m) (qTold m) (qCls m) (qRan m) (qCtr m) (qRuns m) (qThr m) (qTrd m) (qBlk m) (qEnd m) (qLeft m) (qOpen m) (qCell m) (qHeld m) (qProg m) (qAt m) (qAcc m) (qSteps m) (qFin m) x (qTr m) (qNum m) (qOrg m) (qMark m) (qStop m)
def zTr (m : MS) (x : Int32) : MS := mkM (qOp m) (qArg m) (qSize m) (qTold m) (qCls m) (qRan m) (qCtr m) (qRuns m) (qThr m) (qTrd m) (qBlk m) (qEnd m) (qLeft m) (qOpen m) (qCell m) (qHeld m) (qProg m) (qAt m) (qAcc m) (qSteps m) (qFin m) (qCat m) x (qNum m) (qOrg m) (qMark m) (qStop m)
def zNum (m : MS) (x : Int32) : MS := mkM (qOp m) (qArg m) (qSize m) (qTold m) (qCls m) (qRan m) (qCtr m) (qRuns m) (qThr m) (qTrd m) (qBlk m) (qEnd m) (qLeft m) (qOpen m) (qCell m) (qHeld m) (qProg m) (qAt m) (qAcc m) (qSteps m) (qFin m) (qCat m) (qTr m) x (qOrg m) (qMark m) (qStop m)
def zOrg (m : MS) (x : Int32) : MS := mkM (qOp m) (qArg m) (qSize m) (qTold m) (qCls m) (qRan m) (qCtr m) (qRuns m) (qThr m) (qTrd m) (qBlk m) (qEnd m) (qLeft m) (qOpen m) (qCell m) (qHeld m) (qProg m) (qAt m) (qAcc m) (qSteps m) (qFin m) (qCat m) (qTr m) (qNum m) x (qMark m) (qStop m)
def zMark (m : MS) (x : Bool) : MS := mkM (qOp m) (qArg m) (qSize m) (qTold m) (qCls m) (qRan m) (qCtr m) (qRuns m) (qThr m) (qTrd m) (qBlk m) (qEnd m) (qLeft m) (qOpen m) (qCell m) (qHeld m) (qProg m) (qAt m) (qAcc m) (qSteps m) (qFin m) (qCat m) (qTr m) (qNum m) (qOrg m) x (qStop m)
def zStop (m : MS) (x : Bool) : MS := mkM (qOp m) (qArg m) (qSize m) (qTold m) (qCls m) (qRan m) (qCtr m) (qRuns m) (qThr m) (qTrd m) (qBlk m) (qEnd m) (qLeft m) (qOpen m) (qCell m) (qHeld m) (qProg m) (qAt m) (qAcc m) (qSteps m) (qFin m) (qCat m) (qTr m) (qNum m) (qOrg m) (qMark m) x
theorem qOp_zOp (m : MS) (x : Nat → Nat) : qOp (zOp m x) = x := rfl
theorem qOp_zArg (m : MS) (x : Nat → Nat) : qOp (zArg m x) = qOp m := rfl
theorem qOp_zSize (m : MS) (x : Nat → Nat) : qOp (zSize m x) = qOp m := rfl
theorem qOp_zTold (m : MS) (x : Nat → Int32) : qOp (zTold m x) = qOp m := rfl
theorem qOp_zCls (m : MS) (x : Nat → Int32) : qOp (zCls m x) = qOp m := rfl
theorem qOp_zRan (m : MS) (x : Nat → Bool) : qOp (zRan m x) = qOp m := rfl
theorem qOp_zCtr (m : MS) (x : Int64) : qOp (zCtr m x) = qOp m := rfl
theorem qOp_zRuns (m : MS) (x : Int32) : qOp (zRuns m x) = qOp m := rfl
theorem qOp_zThr (m : MS) (x : Int32) : qOp (zThr m x) = qOp m := rfl
theorem qOp_zTrd (m : MS) (x : Int32) : qOp (zTrd m x) = qOp m := rfl
theorem qOp_zBlk (m : MS) (x : Nat → Nat) : qOp (zBlk m x) = qOp m := rfl
theorem qOp_zEnd (m : MS) (x : Nat → Nat) : qOp (zEnd m x) = qOp m := rfl
theorem qOp_zLeft (m : MS) (x : Nat → Nat) : qOp (zLeft m x) = qOp m := rfl
theorem qOp_zOpen (m : MS) (x : Nat) : qOp (zOpen m x) = qOp m := rfl
theorem qOp_zCell (m : MS) (x : Nat → Int32) : qOp (zCell m x) = qOp m := rfl
theorem qOp_zHeld (m : MS) (x : Nat → Int32) : qOp (zHeld m x) = qOp m := rfl
theorem qOp_zProg (m : MS) (x : Nat) : qOp (zProg m x) = qOp m := rfl
theorem qOp_zAt (m : MS) (x : Nat) : qOp (zAt m x) = qOp m := rfl
theorem qOp_zAcc (m : MS) (x : Int32) : qOp (zAcc m x) = qOp m := rfl
theorem qOp_zSteps (m : MS) (x : Int32) : qOp (zSteps m x) = qOp m := rfl
theorem qOp_zFin (m : MS) (x : Int32) : qOp (zFin m x) = qOp m := rfl
theorem qOp_zCat (m : MS) (x : Int32) : qOp (zCat m x) = qOp m := rfl
theorem qOp_zTr (m : MS) (x : Int32) : qOp (zTr m x) = qOp m := rfl
theorem qOp_zNum (m : MS) (x : Int32) : qOp (zNum m x) = qOp m := rfl
theorem qOp_zOrg (m : MS) (x : Int32) : qOp (zOrg m x) = qOp m := rfl
theorem qOp_zMark (m : MS) (x : Bool) : qOp (zMark m x) = qOp m := rfl
theorem qOp_zStop (m : MS) (x : Bool) : qOp (zStop m x) = qOp m := rfl
theorem qArg_zOp (m : MS) (x : Nat → Nat) : qArg (zOp m x) = qArg m := rfl
theorem qArg_zArg (m : MS) (x : Nat → Nat) : qArg (zArg m x) = x := rfl
theorem qArg_zSize (m : MS) (x : Nat → Nat) : qArg (zSize m x) = qArg m := rfl
theorem qArg_zTold (m : MS) (x : Nat → Int32) : qArg (zTold m x) = qArg m := rfl
theorem qArg_zCls (m : MS) (x : Nat → Int32) : qArg (zCls m x) = qArg m := rfl
theorem qArg_zRan (m : MS) (x : Nat → Bool) : qArg (zRan m x) = qArg m := rfl
theorem qArg_zCtr (m : MS) (x : Int64) : qArg (zCtr m x) = qArg m := rfl
theorem qArg_zRuns (m : MS) (x : Int32) : qArg (zRuns m x) = qArg m := rfl
theorem qArg_zThr (m : MS) (x : Int32) : qArg (zThr m x) = qArg m := rfl
theorem qArg_zTrd (m : MS) (x : Int32) : qArg (zTrd m x) = qArg m := rfl
theorem qArg_zBlk (m : MS) (x : Nat → Nat) : qArg (zBlk m x) = qArg m := rfl
theorem qArg_zEnd (m : MS) (x : Nat → Nat) : qArg (zEnd m x) = qArg m := rfl
theorem qArg_zLeft (m : MS) (x : Nat → Nat) : qArg (zLeft m x) = qArg m := rfl
theorem qArg_zOpen (m : MS) (x : Nat) : qArg (zOpen m x) = qArg m := rfl
theorem qArg_zCell (m : MS) (x : Nat → Int32) : qArg (zCell m x) = qArg m := rfl
theorem qArg_zHeld (m : MS) (x : Nat → Int32) : qArg (zHeld m x) = qArg m := rfl
theorem qArg_zProg (m : MS) (x : Nat) : qArg (zProg m x) = qArg m := rfl
theorem qArg_zAt (m : MS) (x : Nat) : qArg (zAt m x) = qArg m := rfl
theorem qArg_zAcc (m : MS) (x : Int32) : qArg (zAcc m x) = qArg m := rfl
theorem qArg_zSteps (m : MS) (x : Int32) : qArg (zSteps m x) = qArg m := rfl
theorem qArg_zFin (m : MS) (x : Int32) : qArg (zFin m x) = qArg m := rfl
theorem qArg_zCat (m : MS) (x : Int32) : qArg (zCat m x) = qArg m := rfl
theorem qArg_zTr (m : MS) (x : Int32) : qArg (zTr m x) = qArg m := rfl
theorem qArg_zNum (m : MS) (x : Int32) : qArg (zNum m x) = qArg m := rfl
theorem qArg_zOrg (m : MS) (x : Int32) : qArg (zOrg m x) = qArg m := rfl
theorem qArg_zMark (m : MS) (x : Bool) : qArg (zMark m x) = qArg m := rfl
theorem qArg_zStop (m : MS) (x : Bool) : qArg (zStop m x) = qArg m := rfl
theorem qSize_zOp (m : MS) (x : Nat → Nat) : qSize (zOp m x) = qSize m := rfl
theorem qSize_zArg (m : MS) (x : Nat → Nat) : qSize (zArg m x) = qSize m := rfl
theorem qSize_zSize (m : MS) (x : Nat → Nat) : qSize (zSize m x) = x := rfl
theorem qSize_zTold (m : MS) (x : Nat → Int32) : qSize (zTold m x) = qSize m := rfl
theorem qSize_zCls (m : MS) (x : Nat → Int32) : qSize (zCls m x) = qSize m := rfl
theorem qSize_zRan (m : MS) (x : Nat → Bool) : qSize (zRan m x) = qSize m := rfl
theorem qSize_zCtr (m : MS) (x : Int64) : qSize (zCtr m x) = qSize m := rfl
theorem qSize_zRuns (m : MS) (x : Int32) : qSize (zRuns m x) = qSize m := rfl
theorem qSize_zThr (m : MS) (x : Int32) : qSize (zThr m x) = qSize m := rfl
theorem qSize_zTrd (m : MS) (x : Int32) : qSize (zTrd m x) = qSize m := rfl
theorem qSize_zBlk (m : MS) (x : Nat → Nat) : qSize (zBlk m x) = qSize m := rfl
theorem qSize_zEnd (m : MS) (x : Nat → Nat) : qSize (zEnd m x) = qSize m := rfl
theorem qSize_zLeft (m : MS) (x : Nat → Nat) : qSize (zLeft m x) = qSize m := rfl
theorem qSize_zOpen (m : MS) (x : Nat) : qSize (zOpen m x) = qSize m := rfl
theorem qSize_zCell (m : MS) (x : Nat → Int32) : qSize (zCell m x) = qSize m := rfl
theorem qSize_zHeld (m : MS) (x : Nat → Int32) : qSize (zHeld m x) = qSize m := rfl
theorem qSize_zProg (m : MS) (x : Nat) : qSize (zProg m x) = qSize m := rfl
theorem qSize_zAt (m : MS) (x : Nat) : qSize (zAt m x) = qSize m := rfl
theorem qSize_zAcc (m : MS) (x : Int32) : qSize (zAcc m x) = qSize m := rfl
theorem qSize_zSteps (m : MS) (x : Int32) : qSize (zSteps m x) = qSize m := rfl
theorem qSize_zFin (m : MS) (x : Int32) : qSize (zFin m x) = qSize m := rfl
theorem qSize_zCat (m : MS) (x : Int32) : qSize (zCat m x) = qSize m := rfl
theorem qSize_zTr (m : MS) (x : Int32) : qSize (zTr m x) = qSize m := rfl
theorem qSize_zNum (m : MS) (x : Int32) : qSize (zNum m x) = qSize m := rfl
theorem qSize_zOrg (m : MS) (x : Int32) : qSize (zOrg m x) = qSize m := rfl
theorem qSize_zMark (m : MS) (x : Bool) : qSize (zMark m x) = qSize m := rfl
theorem qSize_zStop (m : MS) (x : Bool) : qSize (zStop m x) = qSize m := rfl
theorem qTold_zOp (m : MS) (x : Nat → Nat) : qTold (zOp m x) = qTold m := rfl
theorem qTold_zArg (m : MS) (x : Nat → Nat) : qTold (zArg m x) = qTold m := rfl
theorem qTold_zSize (m : MS) (x : Nat → Nat) : qTold (zSize m x) = qTold m := rfl
theorem qTold_zTold (m : MS) (x : Nat → Int32) : qTold (zTold m x) = x := rfl
theorem qTold_zCls (m : MS) (x : Nat → Int32) : qTold (zCls m x) = qTold m := rfl
theorem qTold_zRan (m : MS) (x : Nat → Bool) : qTold (zRan m x) = qTold m := rfl
theorem qTold_zCtr (m : MS) (x : Int64) : qTold (zCtr m x) = qTold m := rfl
theorem qTold_zRuns (m : MS) (x : Int32) : qTold (zRuns m x) = qTold m := rfl
theorem qTold_zThr (m : MS) (x : Int32) : qTold (zThr m x) = qTold m := rfl
theorem qTold_zTrd (m : MS) (x : Int32) : qTold (zTrd m x) = qTold m := rfl
theorem qTold_zBlk (m : MS) (x : Nat → Nat) : qTold (zBlk m x) = qTold m := rfl
theorem qTold_zEnd (m : MS) (x : Nat → Nat) : qTold (zEnd m x) = qTold m := rfl
theorem qTold_zLeft (m : MS) (x : Nat → Nat) : qTold (zLeft m x) = qTold m := rfl
theorem qTold_zOpen (m : MS) (x : Nat) : qTold (zOpen m x) = qTold m := rfl
theorem qTold_zCell (m : MS) (x : Nat → Int32) : qTold (zCell m x) = qTold m := rfl
theorem qTold_zHeld (m : MS) (x : Nat → Int32) : qTold (zHeld m x) = qTold m := rfl
theorem qTold_zProg (m : MS) (x : Nat) : qTold (zProg m x) = qTold m := rfl
theorem qTold_zAt (m : MS) (x : Nat) : qTold (zAt m x) = qTold m := rfl
theorem qTold_zAcc (m : MS) (x : Int32) : qTold (zAcc m x) = qTold m := rfl
theorem qTold_zSteps (m : MS) (x : Int32) : qTold (zSteps m x) = qTold m := rfl
theorem qTold_zFin (m : MS) (x : Int32) : qTold (zFin m x) = qTold m := rfl
theorem qTold_zCat (m : MS) (x : Int32) : qTold (zCat m x) = qTold m := rfl
theorem qTold_zTr (m : MS) (x : Int32) : qTold (zTr m x) = qTold m := rfl
theorem qTold_zNum (m : MS) (x : Int32) : qTold (zNum m x) = qTold m := rfl
theorem qTold_zOrg (m : MS) (x : Int32) : qTold (zOrg m x) = qTold m := rfl
theorem qTold_zMark (m : MS) (x : Bool) : qTold (zMark m x) = qTold m := rfl
theorem qTold_zStop (m : MS) (x : Bool) : qTold (zStop m x) = qTold m := rfl
theorem qCls_zOp (m : MS) (x : Nat → Nat) : qCls (zOp m x) = qCls m := rfl
theorem qCls_zArg (m : MS) (x : Nat → Nat) : qCls (zArg m x) = qCls m := rfl
theorem qCls_zSize (m : MS) (x : Nat → Nat) : qCls (zSize m x) = qCls m := rfl
theorem qCls_zTold (m : MS) (x : Nat → Int32) : qCls (zTold m x) = qCls m := rfl
theorem qCls_zCls (m : MS) (x : Nat → Int32) : qCls (zCls m x) = x := rfl
theorem qCls_zRan (m : MS) (x : Nat → Bool) : qCls (zRan m x) = qCls m := rfl
theorem qCls_zCtr (m : MS) (x : Int64) : qCls (zCtr m x) = qCls m := rfl
theorem qCls_zRuns (m : MS) (x : Int32) : qCls (zRuns m x) = qCls m := rfl
theorem qCls_zThr (m : MS) (x : Int32) : qCls (zThr m x) = qCls m := rfl
theorem qCls_zTrd (m : MS) (x : Int32) : qCls (zTrd m x) = qCls m := rfl
theorem qCls_zBlk (m : MS) (x : Nat → Nat) : qCls (zBlk m x) = qCls m := rfl
theorem qCls_zEnd (m : MS) (x : Nat → Nat) : qCls (zEnd m x) = qCls m := rfl
theorem qCls_zLeft (m : MS) (x : Nat → Nat) : qCls (zLeft m x) = qCls m := rfl
theorem qCls_zOpen (m : MS) (x : Nat) : qCls (zOpen m x) = qCls m := rfl
theorem qCls_zCell (m : MS) (x : Nat → Int32) : qCls (zCell m x) = qCls m := rfl
theorem qCls_zHeld (m : MS) (x : Nat → Int32) : qCls (zHeld m x) = qCls m := rfl
theorem qCls_zProg (m : MS) (x : Nat) : qCls (zProg m x) = qCls m := rfl
theorem qCls_zAt (m : MS) (x : Nat) : qCls (zAt m x) = qCls m := rfl
theorem qCls_zAcc (m : MS) (x : Int32) : qCls (zAcc m x) = qCls m := rfl
theorem qCls_zSteps (m : MS) (x : Int32) : qCls (zSteps m x) = qCls m := rfl
theorem qCls_zFin (m : MS) (x : Int32) : qCls (zFin m x) = qCls m := rfl
theorem qCls_zCat (m : MS) (x : Int32) : qCls (zCat m x) = qCls m := rfl
theorem qCls_zTr (m : MS) (x : Int32) : qCls (zTr m x) = qCls m := rfl
theorem qCls_zNum (m : MS) (x : Int32) : qCls (zNum m x) = qCls m := rfl
theorem qCls_zOrg (m : MS) (x : Int32) : qCls (zOrg m x) = qCls m := rfl
theorem qCls_zMark (m : MS) (x : Bool) : qCls (zMark m x) = qCls m := rfl
theorem qCls_zStop (m : MS) (x : Bool) : qCls (zStop m x) = qCls m := rfl
theorem qRan_zOp (m : MS) (x : Nat → Nat) : qRan (zOp m x) = qRan m := rfl
theorem qRan_zArg (m : MS) (x : Nat → Nat) : qRan (zArg m x) = qRan m := rfl
theorem qRan_zSize (m : MS) (x : Nat → Nat) : qRan (zSize m x) = qRan m := rfl
theorem qRan_zTold (m : MS) (x : Nat → Int32) : qRan (zTold m x) = qRan m := rfl
theorem qRan_zCls (m : MS) (x : Nat → Int32) : qRan (zCls m x) = qRan m := rfl
theorem qRan_zRan (m : MS) (x : Nat → Bool) : qRan (zRan m x) = x := rfl
theorem qRan_zCtr (m : MS) (x : Int64) : qRan (zCtr m x) = qRan m := rfl
theorem qRan_zRuns (m : MS) (x : Int32) : qRan (zRuns m x) = qRan m := rfl
theorem qRan_zThr (m : MS) (x : Int32) : qRan (zThr m x) = qRan m := rfl
theorem qRan_zTrd (m : MS) (x : Int32) : qRan (zTrd m x) = qRan m := rfl
theorem qRan_zBlk (m : MS) (x : Nat → Nat) : qRan (zBlk m x) = qRan m := rfl
theorem qRan_zEnd (m : MS) (x : Nat → Nat) : qRan (zEnd m x) = qRan m := rfl
theorem qRan_zLeft (m : MS) (x : Nat → Nat) : qRan (zLeft m x) = qRan m := rfl
theorem qRan_zOpen (m : MS) (x : Nat) : qRan (zOpen m x) = qRan m := rfl
theorem qRan_zCell (m : MS) (x : Nat → Int32) : qRan (zCell m x) = qRan m := rfl
theorem qRan_zHeld (m : MS) (x : Nat → Int32) : qRan (zHeld m x) = qRan m := rfl
theorem qRan_zProg (m : MS) (x : Nat) : qRan (zProg m x) = qRan m := rfl
theorem qRan_zAt (m : MS) (x : Nat) : qRan (zAt m x) = qRan m := rfl
theorem qRan_zAcc (m : MS) (x : Int32) : qRan (zAcc m x) = qRan m := rfl
theorem qRan_zSteps (m : MS) (x : Int32) : qRan (zSteps m x) = qRan m := rfl
theorem qRan_zFin (m : MS) (x : Int32) : qRan (zFin m x) = qRan m := rfl
theorem qRan_zCat (m : MS) (x : Int32) : qRan (zCat m x) = qRan m := rfl
theorem qRan_zTr (m : MS) (x : Int32) : qRan (zTr m x) = qRan m := rfl
theorem qRan_zNum (m : MS) (x : Int32) : qRan (zNum m x) = qRan m := rfl
theorem qRan_zOrg (m : MS) (x : Int32) : qRan (zOrg m x) = qRan m := rfl
theorem qRan_zMark (m : MS) (x : Bool) : qRan (zMark m x) = qRan m := rfl
theorem qRan_zStop (m : MS) (x : Bool) : qRan (zStop m x) = qRan m := rfl
theorem qCtr_zOp (m : MS) (x : Nat → Nat) : qCtr (zOp m x) = qCtr m := rfl
theorem qCtr_zArg (m : MS) (x : Nat → Nat) : qCtr (zArg m x) = qCtr m := rfl
theorem qCtr_zSize (m : MS) (x : Nat → Nat) : qCtr (zSize m x) = qCtr m := rfl
theorem qCtr_zTold (m : MS) (x : Nat → Int32) : qCtr (zTold m x) = qCtr m := rfl
theorem qCtr_zCls (m : MS) (x : Nat → Int32) : qCtr (zCls m x) = qCtr m := rfl
theorem qCtr_zRan (m : MS) (x : Nat → Bool) : qCtr (zRan m x) = qCtr m := rfl
theorem qCtr_zCtr (m : MS) (x : Int64) : qCtr (zCtr m x) = x := rfl
theorem qCtr_zRuns (m : MS) (x : Int32) : qCtr (zRuns m x) = qCtr m := rfl
theorem qCtr_zThr (m : MS) (x : Int32) : qCtr (zThr m x) = qCtr m := rfl
theorem qCtr_zTrd (m : MS) (x : Int32) : qCtr (zTrd m x) = qCtr m := rfl
theorem qCtr_zBlk (m : MS) (x : Nat → Nat) : qCtr (zBlk m x) = qCtr m := rfl
theorem qCtr_zEnd (m : MS) (x : Nat → Nat) : qCtr (zEnd m x) = qCtr m := rfl
theorem qCtr_zLeft (m : MS) (x : Nat → Nat) : qCtr (zLeft m x) = qCtr m := rfl
theorem qCtr_zOpen (m : MS) (x : Nat) : qCtr (zOpen m x) = qCtr m := rfl
theorem qCtr_zCell (m : MS) (x : Nat → Int32) : qCtr (zCell m x) = qCtr m := rfl
theorem qCtr_zHeld (m : MS) (x : Nat → Int32) : qCtr (zHeld m x) = qCtr m := rfl
theorem qCtr_zProg (m : MS) (x : Nat) : qCtr (zProg m x) = qCtr m := rfl
theorem qCtr_zAt (m : MS) (x : Nat) : qCtr (zAt m x) = qCtr m := rfl
theorem qCtr_zAcc (m : MS) (x : Int32) : qCtr (zAcc m x) = qCtr m := rfl
theorem qCtr_zSteps (m : MS) (x : Int32) : qCtr (zSteps m x) = qCtr m := rfl
theorem qCtr_zFin (m : MS) (x : Int32) : qCtr (zFin m x) = qCtr m := rfl
theorem qCtr_zCat (m : MS) (x : Int32) : qCtr (zCat m x) = qCtr m := rfl
theorem qCtr_zTr (m : MS) (x : Int32) : qCtr (zTr m x) = qCtr m := rfl
theorem qCtr_zNum (m : MS) (x : Int32) : qCtr (zNum m x) = qCtr m := rfl
theorem qCtr_zOrg (m : MS) (x : Int32) : qCtr (zOrg m x) = qCtr m := rfl
theorem qCtr_zMark (m : MS) (x : Bool) : qCtr (zMark m x) = qCtr m := rfl
theorem qCtr_zStop (m : MS) (x : Bool) : qCtr (zStop m x) = qCtr m := rfl
theorem qRuns_zOp (m : MS) (x : Nat → Nat) : qRuns (zOp m x) = qRuns m := rfl
theorem qRuns_zArg (m : MS) (x : Nat → Nat) : qRuns (zArg m x) = qRuns m := rfl
theorem qRuns_zSize (m : MS) (x : Nat → Nat) : qRuns (zSize m x) = qRuns m := rfl
theorem qRuns_zTold (m : MS) (x : Nat → Int32) : qRuns (zTold m x) = qRuns m := rfl
theorem qRuns_zCls (m : MS) (x : Nat → Int32) : qRuns (zCls m x) = qRuns m := rfl
theorem qRuns_zRan (m : MS) (x : Nat → Bool) : qRuns (zRan m x) = qRuns m := rfl
theorem qRuns_zCtr (m : MS) (x : Int64) : qRuns (zCtr m x) = qRuns m := rfl
theorem qRuns_zRuns (m : MS) (x : Int32) : qRuns (zRuns m x) = x := rfl
theorem qRuns_zThr (m : MS) (x : Int32) : qRuns (zThr m x) = qRuns m := rfl
theorem qRuns_zTrd (m : MS) (x : Int32) : qRuns (zTrd m x) = qRuns m := rfl
theorem qRuns_zBlk (m : MS) (x : Nat → Nat) : qRuns (zBlk m x) = qRuns m := rfl
theorem qRuns_zEnd (m : MS) (x : Nat → Nat) : qRuns (zEnd m x) = qRuns m := rfl
theorem qRuns_zLeft (m : MS) (x : Nat → Nat) : qRuns (zLeft m x) = qRuns m := rfl
theorem qRuns_zOpen (m : MS) (x : Nat) : qRuns (zOpen m x) = qRuns m := rfl
theorem qRuns_zCell (m : MS) (x : Nat → Int32) : qRuns (zCell m x) = qRuns m := rfl
theorem qRuns_zHeld (m : MS) (x : Nat → Int32) : qRuns (zHeld m x) = qRuns m := rfl
theorem qRuns_zProg (m : MS) (x : Nat) : qRuns (zProg m x) = qRuns m := rfl
theorem qRuns_zAt (m : MS) (x : Nat) : qRuns (zAt m x) = qRuns m := rfl
theorem qRuns_zAcc (m : MS) (x : Int32) : qRuns (zAcc m x) = qRuns m := rfl
theorem qRuns_zSteps (m : MS) (x : Int32) : qRuns (zSteps m x) = qRuns m := rfl
theorem qRuns_zFin (m : MS) (x : Int32) : qRuns (zFin m x) = qRuns m := rfl
theorem qRuns_zCat (m : MS) (x : Int32) : qRuns (zCat m x) = qRuns m := rfl
theorem qRuns_zTr (m : MS) (x : Int32) : qRuns (zTr m x) = qRuns m := rfl
theorem qRuns_zNum (m : MS) (x : Int32) : qRuns (zNum m x) = qRuns m := rfl
theorem qRuns_zOrg (m : MS) (x : Int32) : qRuns (zOrg m x) = qRuns m := rfl
theorem qRuns_zMark (m : MS) (x : Bool) : qRuns (zMark m x) = qRuns m := rfl
theorem qRuns_zStop (m : MS) (x : Bool) : qRuns (zStop m x) = qRuns m := rfl
theorem qThr_zOp (m : MS) (x : Nat → Nat) : qThr (zOp m x) = qThr m := rfl
theorem qThr_zArg (m : MS) (x : Nat → Nat) : qThr (zArg m x) = qThr m := rfl
theorem qThr_zSize (m : MS) (x : Nat → Nat) : qThr (zSize m x) = qThr m := rfl
theorem qThr_zTold (m : MS) (x : Nat → Int32) : qThr (zTold m x) = qThr m := rfl
theorem qThr_zCls (m : MS) (x : Nat → Int32) : qThr (zCls m x) = qThr m := rfl
theorem qThr_zRan (m : MS) (x : Nat → Bool) : qThr (zRan m x) = qThr m := rfl
theorem qThr_zCtr (m : MS) (x : Int64) : qThr (zCtr m x) = qThr m := rfl
theorem qThr_zRuns (m : MS) (x : Int32) : qThr (zRuns m x) = qThr m := rfl
theorem qThr_zThr (m : MS) (x : Int32) : qThr (zThr m x) = x := rfl
theorem qThr_zTrd (m : MS) (x : Int32) : qThr (zTrd m x) = qThr m := rfl
theorem qThr_zBlk (m : MS) (x : Nat → Nat) : qThr (zBlk m x) = qThr m := rfl
theorem qThr_zEnd (m : MS) (x : Nat → Nat) : qThr (zEnd m x) = qThr m := rfl
theorem qThr_zLeft (m : MS) (x : Nat → Nat) : qThr (zLeft m x) = qThr m := rfl
theorem qThr_zOpen (m : MS) (x : Nat) : qThr (zOpen m x) = qThr m := rfl
theorem qThr_zCell (m : MS) (x : Nat → Int32) : qThr (zCell m x) = qThr m := rfl
theorem qThr_zHeld (m : MS) (x : Nat → Int32) : qThr (zHeld m x) = qThr m := rfl
theorem qThr_zProg (m : MS) (x : Nat) : qThr (zProg m x) = qThr m := rfl
theorem qThr_zAt (m : MS) (x : Nat) : qThr (zAt m x) = qThr m := rfl
theorem qThr_zAcc (m : MS) (x : Int32) : qThr (zAcc m x) = qThr m := rfl
theorem qThr_zSteps (m : MS) (x : Int32) : qThr (zSteps m x) = qThr m := rfl
theorem qThr_zFin (m : MS) (x : Int32) : qThr (zFin m x) = qThr m := rfl
theorem qThr_zCat (m : MS) (x : Int32) : qThr (zCat m x) = qThr m := rfl
theorem qThr_zTr (m : MS) (x : Int32) : qThr (zTr m x) = qThr m := rfl
theorem qThr_zNum (m : MS) (x : Int32) : qThr (zNum m x) = qThr m := rfl
theorem qThr_zOrg (m : MS) (x : Int32) : qThr (zOrg m x) = qThr m := rfl
theorem qThr_zMark (m : MS) (x : Bool) : qThr (zMark m x) = qThr m := rfl
theorem qThr_zStop (m : MS) (x : Bool) : qThr (zStop m x) = qThr m := rfl
theorem qTrd_zOp (m : MS) (x : Nat → Nat) : qTrd (zOp m x) = qTrd m := rfl
theorem qTrd_zArg (m : MS) (x : Nat → Nat) : qTrd (zArg m x) = qTrd m := rfl
theorem qTrd_zSize (m : MS) (x : Nat → Nat) : qTrd (zSize m x) = qTrd m := rfl
theorem qTrd_zTold (m : MS) (x : Nat → Int32) : qTrd (zTold m x) = qTrd m := rfl
theorem qTrd_zCls (m : MS) (x : Nat → Int32) : qTrd (zCls m x) = qTrd m := rfl
theorem qTrd_zRan (m : MS) (x : Nat → Bool) : qTrd (zRan m x) = qTrd m := rfl
theorem qTrd_zCtr (m : MS) (x : Int64) : qTrd (zCtr m x) = qTrd m := rfl
theorem qTrd_zRuns (m : MS) (x : Int32) : qTrd (zRuns m x) = qTrd m := rfl
theorem qTrd_zThr (m : MS) (x : Int32) : qTrd (zThr m x) = qTrd m := rfl
theorem qTrd_zTrd (m : MS) (x : Int32) : qTrd (zTrd m x) = x := rfl
theorem qTrd_zBlk (m : MS) (x : Nat → Nat) : qTrd (zBlk m x) = qTrd m := rfl
theorem qTrd_zEnd (m : MS) (x : Nat → Nat) : qTrd (zEnd m x) = qTrd m := rfl
theorem qTrd_zLeft (m : MS) (x : Nat → Nat) : qTrd (zLeft m x) = qTrd m := rfl
theorem qTrd_zOpen (m : MS) (x : Nat) : qTrd (zOpen m x) = qTrd m := rfl
theorem qTrd_zCell (m : MS) (x : Nat → Int32) : qTrd (zCell m x) = qTrd m := rfl
theorem qTrd_zHeld (m : MS) (x : Nat → Int32) : qTrd (zHeld m x) = qTrd m := rfl
theorem qTrd_zProg (m : MS) (x : Nat) : qTrd (zProg m x) = qTrd m := rfl
theorem qTrd_zAt (m : MS) (x : Nat) : qTrd (zAt m x) = qTrd m := rfl
theorem qTrd_zAcc (m : MS) (x : Int32) : qTrd (zAcc m x) = qTrd m := rfl
theorem qTrd_zSteps (m : MS) (x : Int32) : qTrd (zSteps m x) = qTrd m := rfl
theorem qTrd_zFin (m : MS) (x : Int32) : qTrd (zFin m x) = qTrd m := rfl
theorem qTrd_zCat (m : MS) (x : Int32) : qTrd (zCat m x) = qTrd m := rfl
theorem qTrd_zTr (m : MS) (x : Int32) : qTrd (zTr m x) = qTrd m := rfl
theorem qTrd_zNum (m : MS) (x : Int32) : qTrd (zNum m x) = qTrd m := rfl
theorem qTrd_zOrg (m : MS) (x : Int32) : qTrd (zOrg m x) = qTrd m := rfl
theorem qTrd_zMark (m : MS) (x : Bool) : qTrd (zMark m x) = qTrd m := rfl
theorem qTrd_zStop (m : MS) (x : Bool) : qTrd (zStop m x) = qTrd m := rfl
theorem qBlk_zOp (m : MS) (x : Nat → Nat) : qBlk (zOp m x) = qBlk m := rfl
theorem qBlk_zArg (m : MS) (x : Nat → Nat) : qBlk (zArg m x) = qBlk m := rfl
theorem qBlk_zSize (m : MS) (x : Nat → Nat) : qBlk (zSize m x) = qBlk m := rfl
theorem qBlk_zTold (m : MS) (x : Nat → Int32) : qBlk (zTold m x) = qBlk m := rfl
theorem qBlk_zCls (m : MS) (x : Nat → Int32) : qBlk (zCls m x) = qBlk m := rfl
theorem qBlk_zRan (m : MS) (x : Nat → Bool) : qBlk (zRan m x) = qBlk m := rfl
theorem qBlk_zCtr (m : MS) (x : Int64) : qBlk (zCtr m x) = qBlk m := rfl
theorem qBlk_zRuns (m : MS) (x : Int32) : qBlk (zRuns m x) = qBlk m := rfl
theorem qBlk_zThr (m : MS) (x : Int32) : qBlk (zThr m x) = qBlk m := rfl
theorem qBlk_zTrd (m : MS) (x : Int32) : qBlk (zTrd m x) = qBlk m := rfl
theorem qBlk_zBlk (m : MS) (x : Nat → Nat) : qBlk (zBlk m x) = x := rfl
theorem qBlk_zEnd (m : MS) (x : Nat → Nat) : qBlk (zEnd m x) = qBlk m := rfl
theorem qBlk_zLeft (m : MS) (x : Nat → Nat) : qBlk (zLeft m x) = qBlk m := rfl
theorem qBlk_zOpen (m : MS) (x : Nat) : qBlk (zOpen m x) = qBlk m := rfl
theorem qBlk_zCell (m : MS) (x : Nat → Int32) : qBlk (zCell m x) = qBlk m := rfl
theorem qBlk_zHeld (m : MS) (x : Nat → Int32) : qBlk (zHeld m x) = qBlk m := rfl
theorem qBlk_zProg (m : MS) (x : Nat) : qBlk (zProg m x) = qBlk m := rfl
theorem qBlk_zAt (m : MS) (x : Nat) : qBlk (zAt m x) = qBlk m := rfl
theorem qBlk_zAcc (m : MS) (x : Int32) : qBlk (zAcc m x) = qBlk m := rfl
theorem qBlk_zSteps (m : MS) (x : Int32) : qBlk (zSteps m x) = qBlk m := rfl
theorem qBlk_zFin (m : MS) (x : Int32) : qBlk (zFin m x) = qBlk m := rfl
theorem qBlk_zCat (m : MS) (x : Int32) : qBlk (zCat m x) = qBlk m := rfl
theorem qBlk_zTr (m : MS) (x : Int32) : qBlk (zTr m x) = qBlk m := rfl
theorem qBlk_zNum (m : MS) (x : Int32) : qBlk (zNum m x) = qBlk m := rfl
theorem qBlk_zOrg (m : MS) (x : Int32) : qBlk (zOrg m x) = qBlk m := rfl
theorem qBlk_zMark (m : MS) (x : Bool) : qBlk (zMark m x) = qBlk m := rfl
theorem qBlk_zStop (m : MS) (x : Bool) : qBlk (zStop m x) = qBlk m := rfl
theorem qEnd_zOp (m : MS) (x : Nat → Nat) : qEnd (zOp m x) = qEnd m := rfl
theorem qEnd_zArg (m : MS) (x : Nat → Nat) : qEnd (zArg m x) = qEnd m := rfl
theorem qEnd_zSize (m : MS) (x : Nat → Nat) : qEnd (zSize m x) = qEnd m := rfl
theorem qEnd_zTold (m : MS) (x : Nat → Int32) : qEnd (zTold m x) = qEnd m := rfl
theorem qEnd_zCls (m : MS) (x : Nat → Int32) : qEnd (zCls m x) = qEnd m := rfl
theorem qEnd_zRan (m : MS) (x : Nat → Bool) : qEnd (zRan m x) = qEnd m := rfl
theorem qEnd_zCtr (m : MS) (x : Int64) : qEnd (zCtr m x) = qEnd m := rfl
theorem qEnd_zRuns (m : MS) (x : Int32) : qEnd (zRuns m x) = qEnd m := rfl
theorem qEnd_zThr (m : MS) (x : Int32) : qEnd (zThr m x) = qEnd m := rfl
theorem qEnd_zTrd (m : MS) (x : Int32) : qEnd (zTrd m x) = qEnd m := rfl
theorem qEnd_zBlk (m : MS) (x : Nat → Nat) : qEnd (zBlk m x) = qEnd m := rfl
theorem qEnd_zEnd (m : MS) (x : Nat → Nat) : qEnd (zEnd m x) = x := rfl
theorem qEnd_zLeft (m : MS) (x : Nat → Nat) : qEnd (zLeft m x) = qEnd m := rfl
theorem qEnd_zOpen (m : MS) (x : Nat) : qEnd (zOpen m x) = qEnd m := rfl
theorem qEnd_zCell (m : MS) (x : Nat → Int32) : qEnd (zCell m x) = qEnd m := rfl
theorem qEnd_zHeld (m : MS) (x : Nat → Int32) : qEnd (zHeld m x) = qEnd m := rfl
theorem qEnd_zProg (m : MS) (x : Nat) : qEnd (zProg m x) = qEnd m := rfl
theorem qEnd_zAt (m : MS) (x : Nat) : qEnd (zAt m x) = qEnd m := rfl
theorem qEnd_zAcc (m : MS) (x : Int32) : qEnd (zAcc m x) = qEnd m := rfl
theorem qEnd_zSteps (m : MS) (x : Int32) : qEnd (zSteps m x) = qEnd m := rfl
theorem qEnd_zFin (m : MS) (x : Int32) : qEnd (zFin m x) = qEnd m := rfl
theorem qEnd_zCat (m : MS) (x : Int32) : qEnd (zCat m x) = qEnd m := rfl
theorem qEnd_zTr (m : MS) (x : Int32) : qEnd (zTr m x) = qEnd m := rfl
theorem qEnd_zNum (m : MS) (x : Int32) : qEnd (zNum m x) = qEnd m := rfl
theorem qEnd_zOrg (m : MS) (x : Int32) : qEnd (zOrg m x) = qEnd m := rfl
theorem qEnd_zMark (m : MS) (x : Bool) : qEnd (zMark m x) = qEnd m := rfl
theorem qEnd_zStop (m : MS) (x : Bool) : qEnd (zStop m x) = qEnd m := rfl
theorem qLeft_zOp (m : MS) (x : Nat → Nat) : qLeft (zOp m x) = qLeft m := rfl
theorem qLeft_zArg (m : MS) (x : Nat → Nat) : qLeft (zArg m x) = qLeft m := rfl
theorem qLeft_zSize (m : MS) (x : Nat → Nat) : qLeft (zSize m x) = qLeft m := rfl
theorem qLeft_zTold (m : MS) (x : Nat → Int32) : qLeft (zTold m x) = qLeft m := rfl
theorem qLeft_zCls (m : MS) (x : Nat → Int32) : qLeft (zCls m x) = qLeft m := rfl
theorem qLeft_zRan (m : MS) (x : Nat → Bool) : qLeft (zRan m x) = qLeft m := rfl
theorem qLeft_zCtr (m : MS) (x : Int64) : qLeft (zCtr m x) = qLeft m := rfl
theorem qLeft_zRuns (m : MS) (x : Int32) : qLeft (zRuns m x) = qLeft m := rfl
theorem qLeft_zThr (m : MS) (x : Int32) : qLeft (zThr m x) = qLeft m := rfl
theorem qLeft_zTrd (m : MS) (x : Int32) : qLeft (zTrd m x) = qLeft m := rfl
theorem qLeft_zBlk (m : MS) (x : Nat → Nat) : qLeft (zBlk m x) = qLeft m := rfl
theorem qLeft_zEnd (m : MS) (x : Nat → Nat) : qLeft (zEnd m x) = qLeft m := rfl
theorem qLeft_zLeft (m : MS) (x : Nat → Nat) : qLeft (zLeft m x) = x := rfl
theorem qLeft_zOpen (m : MS) (x : Nat) : qLeft (zOpen m x) = qLeft m := rfl
theorem qLeft_zCell (m : MS) (x : Nat → Int32) : qLeft (zCell m x) = qLeft m := rfl
theorem qLeft_zHeld (m : MS) (x : Nat → Int32) : qLeft (zHeld m x) = qLeft m := rfl
theorem qLeft_zProg (m : MS) (x : Nat) : qLeft (zProg m x) = qLeft m := rfl
theorem qLeft_zAt (m : MS) (x : Nat) : qLeft (zAt m x) = qLeft m := rfl
theorem qLeft_zAcc (m : MS) (x : Int32) : qLeft (zAcc m x) = qLeft m := rfl
theorem qLeft_zSteps (m : MS) (x : Int32) : qLeft (zSteps m x) = qLeft m := rfl
theorem qLeft_zFin (m : MS) (x : Int32) : qLeft (zFin m x) = qLeft m := rfl
theorem qLeft_zCat (m : MS) (x : Int32) : qLeft (zCat m x) = qLeft m := rfl
theorem qLeft_zTr (m : MS) (x : Int32) : qLeft (zTr m x) = qLeft m := rfl
theorem qLeft_zNum (m : MS) (x : Int32) : qLeft (zNum m x) = qLeft m := rfl
theorem qLeft_zOrg (m : MS) (x : Int32) : qLeft (zOrg m x) = qLeft m := rfl
theorem qLeft_zMark (m : MS) (x : Bool) : qLeft (zMark m x) = qLeft m := rfl
theorem qLeft_zStop (m : MS) (x : Bool) : qLeft (zStop m x) = qLeft m := rfl
theorem qOpen_zOp (m : MS) (x : Nat → Nat) : qOpen (zOp m x) = qOpen m := rfl
theorem qOpen_zArg (m : MS) (x : Nat → Nat) : qOpen (zArg m x) = qOpen m := rfl
theorem qOpen_zSize (m : MS) (x : Nat → Nat) : qOpen (zSize m x) = qOpen m := rfl
theorem qOpen_zTold (m : MS) (x : Nat → Int32) : qOpen (zTold m x) = qOpen m := rfl
theorem qOpen_zCls (m : MS) (x : Nat → Int32) : qOpen (zCls m x) = qOpen m := rfl
theorem qOpen_zRan (m : MS) (x : Nat → Bool) : qOpen (zRan m x) = qOpen m := rfl
theorem qOpen_zCtr (m : MS) (x : Int64) : qOpen (zCtr m x) = qOpen m := rfl
theorem qOpen_zRuns (m : MS) (x : Int32) : qOpen (zRuns m x) = qOpen m := rfl
theorem qOpen_zThr (m : MS) (x : Int32) : qOpen (zThr m x) = qOpen m := rfl
theorem qOpen_zTrd (m : MS) (x : Int32) : qOpen (zTrd m x) = qOpen m := rfl
theorem qOpen_zBlk (m : MS) (x : Nat → Nat) : qOpen (zBlk m x) = qOpen m := rfl
theorem qOpen_zEnd (m : MS) (x : Nat → Nat) : qOpen (zEnd m x) = qOpen m := rfl
theorem qOpen_zLeft (m : MS) (x : Nat → Nat) : qOpen (zLeft m x) = qOpen m := rfl
theorem qOpen_zOpen (m : MS) (x : Nat) : qOpen (zOpen m x) = x := rfl
theorem qOpen_zCell (m : MS) (x : Nat → Int32) : qOpen (zCell m x) = qOpen m := rfl
theorem qOpen_zHeld (m : MS) (x : Nat → Int32) : qOpen (zHeld m x) = qOpen m := rfl
theorem qOpen_zProg (m : MS) (x : Nat) : qOpen (zProg m x) = qOpen m := rfl
theorem qOpen_zAt (m : MS) (x : Nat) : qOpen (zAt m x) = qOpen m := rfl
theorem qOpen_zAcc (m : MS) (x : Int32) : qOpen (zAcc m x) = qOpen m := rfl
theorem qOpen_zSteps (m : MS) (x : Int32) : qOpen (zSteps m x) = qOpen m := rfl
theorem qOpen_zFin (m : MS) (x : Int32) : qOpen (zFin m x) = qOpen m := rfl
theorem qOpen_zCat (m : MS) (x : Int32) : qOpen (zCat m x) = qOpen m := rfl
theorem qOpen_zTr (m : MS) (x : Int32) : qOpen (zTr m x) = qOpen m := rfl
theorem qOpen_zNum (m : MS) (x : Int32) : qOpen (zNum m x) = qOpen m := rfl
theorem qOpen_zOrg (m : MS) (x : Int32) : qOpen (zOrg m x) = qOpen m := rfl
theorem qOpen_zMark (m : MS) (x : Bool) : qOpen (zMark m x) = qOpen m := rfl
theorem qOpen_zStop (m : MS) (x : Bool) : qOpen (zStop m x) = qOpen m := rfl
theorem qCell_zOp (m : MS) (x : Nat → Nat) : qCell (zOp m x) = qCell m := rfl
theorem qCell_zArg (m : MS) (x : Nat → Nat) : qCell (zArg m x) = qCell m := rfl
theorem qCell_zSize (m : MS) (x : Nat → Nat) : qCell (zSize m x) = qCell m := rfl
theorem qCell_zTold (m : MS) (x : Nat → Int32) : qCell (zTold m x) = qCell m := rfl
theorem qCell_zCls (m : MS) (x : Nat → Int32) : qCell (zCls m x) = qCell m := rfl
theorem qCell_zRan (m : MS) (x : Nat → Bool) : qCell (zRan m x) = qCell m := rfl
theorem qCell_zCtr (m : MS) (x : Int64) : qCell (zCtr m x) = qCell m := rfl
theorem qCell_zRuns (m : MS) (x : Int32) : qCell (zRuns m x) = qCell m := rfl
theorem qCell_zThr (m : MS) (x : Int32) : qCell (zThr m x) = qCell m := rfl
theorem qCell_zTrd (m : MS) (x : Int32) : qCell (zTrd m x) = qCell m := rfl
theorem qCell_zBlk (m : MS) (x : Nat → Nat) : qCell (zBlk m x) = qCell m := rfl
theorem qCell_zEnd (m : MS) (x : Nat → Nat) : qCell (zEnd m x) = qCell m := rfl
theorem qCell_zLeft (m : MS) (x : Nat → Nat) : qCell (zLeft m x) = qCell m := rfl
theorem qCell_zOpen (m : MS) (x : Nat) : qCell (zOpen m x) = qCell m := rfl
theorem qCell_zCell (m : MS) (x : Nat → Int32) : qCell (zCell m x) = x := rfl
theorem qCell_zHeld (m : MS) (x : Nat → Int32) : qCell (zHeld m x) = qCell m := rfl
theorem qCell_zProg (m : MS) (x : Nat) : qCell (zProg m x) = qCell m := rfl
theorem qCell_zAt (m : MS) (x : Nat) : qCell (zAt m x) = qCell m := rfl
theorem qCell_zAcc (m : MS) (x : Int32) : qCell (zAcc m x) = qCell m := rfl
theorem qCell_zSteps (m : MS) (x : Int32) : qCell (zSteps m x) = qCell m := rfl
theorem qCell_zFin (m : MS) (x : Int32) : qCell (zFin m x) = qCell m := rfl
theorem qCell_zCat (m : MS) (x : Int32) : qCell (zCat m x) = qCell m := rfl
theorem qCell_zTr (m : MS) (x : Int32) : qCell (zTr m x) = qCell m := rfl
theorem qCell_zNum (m : MS) (x : Int32) : qCell (zNum m x) = qCell m := rfl
theorem qCell_zOrg (m : MS) (x : Int32) : qCell (zOrg m x) = qCell m := rfl
theorem qCell_zMark (m : MS) (x : Bool) : qCell (zMark m x) = qCell m := rfl
theorem qCell_zStop (m : MS) (x : Bool) : qCell (zStop m x) = qCell m := rfl
theorem qHeld_zOp (m : MS) (x : Nat → Nat) : qHeld (zOp m x) = qHeld m := rfl
theorem qHeld_zArg (m : MS) (x : Nat → Nat) : qHeld (zArg m x) = qHeld m := rfl
theorem qHeld_zSize (m : MS) (x : Nat → Nat) : qHeld (zSize m x) = qHeld m := rfl
theorem qHeld_zTold (m : MS) (x : Nat → Int32) : qHeld (zTold m x) = qHeld m := rfl
theorem qHeld_zCls (m : MS) (x : Nat → Int32) : qHeld (zCls m x) = qHeld m := rfl
theorem qHeld_zRan (m : MS) (x : Nat → Bool) : qHeld (zRan m x) = qHeld m := rfl
theorem qHeld_zCtr (m : MS) (x : Int64) : qHeld (zCtr m x) = qHeld m := rfl
theorem qHeld_zRuns (m : MS) (x : Int32) : qHeld (zRuns m x) = qHeld m := rfl
theorem qHeld_zThr (m : MS) (x : Int32) : qHeld (zThr m x) = qHeld m := rfl
theorem qHeld_zTrd (m : MS) (x : Int32) : qHeld (zTrd m x) = qHeld m := rfl
theorem qHeld_zBlk (m : MS) (x : Nat → Nat) : qHeld (zBlk m x) = qHeld m := rfl
theorem qHeld_zEnd (m : MS) (x : Nat → Nat) : qHeld (zEnd m x) = qHeld m := rfl
theorem qHeld_zLeft (m : MS) (x : Nat → Nat) : qHeld (zLeft m x) = qHeld m := rfl
theorem qHeld_zOpen (m : MS) (x : Nat) : qHeld (zOpen m x) = qHeld m := rfl
theorem qHeld_zCell (m : MS) (x : Nat → Int32) : qHeld (zCell m x) = qHeld m := rfl
theorem qHeld_zHeld (m : MS) (x : Nat → Int32) : qHeld (zHeld m x) = x := rfl
theorem qHeld_zProg (m : MS) (x : Nat) : qHeld (zProg m x) = qHeld m := rfl
theorem qHeld_zAt (m : MS) (x : Nat) : qHeld (zAt m x) = qHeld m := rfl
theorem qHeld_zAcc (m : MS) (x : Int32) : qHeld (zAcc m x) = qHeld m := rfl
theorem qHeld_zSteps (m : MS) (x : Int32) : qHeld (zSteps m x) = qHeld m := rfl
theorem qHeld_zFin (m : MS) (x : Int32) : qHeld (zFin m x) = qHeld m := rfl
theorem qHeld_zCat (m : MS) (x : Int32) : qHeld (zCat m x) = qHeld m := rfl
theorem qHeld_zTr (m : MS) (x : Int32) : qHeld (zTr m x) = qHeld m := rfl
theorem qHeld_zNum (m : MS) (x : Int32) : qHeld (zNum m x) = qHeld m := rfl
theorem qHeld_zOrg (m : MS) (x : Int32) : qHeld (zOrg m x) = qHeld m := rfl
theorem qHeld_zMark (m : MS) (x : Bool) : qHeld (zMark m x) = qHeld m := rfl
theorem qHeld_zStop (m : MS) (x : Bool) : qHeld (zStop m x) = qHeld m := rfl
theorem qProg_zOp (m : MS) (x : Nat → Nat) : qProg (zOp m x) = qProg m := rfl
theorem qProg_zArg (m : MS) (x : Nat → Nat) : qProg (zArg m x) = qProg m := rfl
theorem qProg_zSize (m : MS) (x : Nat → Nat) : qProg (zSize m x) = qProg m := rfl
theorem qProg_zTold (m : MS) (x : Nat → Int32) : qProg (zTold m x) = qProg m := rfl
theorem qProg_zCls (m : MS) (x : Nat → Int32) : qProg (zCls m x) = qProg m := rfl
theorem qProg_zRan (m : MS) (x : Nat → Bool) : qProg (zRan m x) = qProg m := rfl
theorem qProg_zCtr (m : MS) (x : Int64) : qProg (zCtr m x) = qProg m := rfl
theorem qProg_zRuns (m : MS) (x : Int32) : qProg (zRuns m x) = qProg m := rfl
theorem qProg_zThr (m : MS) (x : Int32) : qProg (zThr m x) = qProg m := rfl
theorem qProg_zTrd (m : MS) (x : Int32) : qProg (zTrd m x) = qProg m := rfl
theorem qProg_zBlk (m : MS) (x : Nat → Nat) : qProg (zBlk m x) = qProg m := rfl
theorem qProg_zEnd (m : MS) (x : Nat → Nat) : qProg (zEnd m x) = qProg m := rfl
theorem qProg_zLeft (m : MS) (x : Nat → Nat) : qProg (zLeft m x) = qProg m := rfl
theorem qProg_zOpen (m : MS) (x : Nat) : qProg (zOpen m x) = qProg m := rfl
theorem qProg_zCell (m : MS) (x : Nat → Int32) : qProg (zCell m x) = qProg m := rfl
theorem qProg_zHeld (m : MS) (x : Nat → Int32) : qProg (zHeld m x) = qProg m := rfl
theorem qProg_zProg (m : MS) (x : Nat) : qProg (zProg m x) = x := rfl
theorem qProg_zAt (m : MS) (x : Nat) : qProg (zAt m x) = qProg m := rfl
theorem qProg_zAcc (m : MS) (x : Int32) : qProg (zAcc m x) = qProg m := rfl
theorem qProg_zSteps (m : MS) (x : Int32) : qProg (zSteps m x) = qProg m := rfl
theorem qProg_zFin (m : MS) (x : Int32) : qProg (zFin m x) = qProg m := rfl
theorem qProg_zCat (m : MS) (x : Int32) : qProg (zCat m x) = qProg m := rfl
theorem qProg_zTr (m : MS) (x : Int32) : qProg (zTr m x) = qProg m := rfl
theorem qProg_zNum (m : MS) (x : Int32) : qProg (zNum m x) = qProg m := rfl
theorem qProg_zOrg (m : MS) (x : Int32) : qProg (zOrg m x) = qProg m := rfl
theorem qProg_zMark (m : MS) (x : Bool) : qProg (zMark m x) = qProg m := rfl
theorem qProg_zStop (m : MS) (x : Bool) : qProg (zStop m x) = qProg m := rfl
theorem qAt_zOp (m : MS) (x : Nat → Nat) : qAt (zOp m x) = qAt m := rfl
theorem qAt_zArg (m : MS) (x : Nat → Nat) : qAt (zArg m x) = qAt m := rfl
theorem qAt_zSize (m : MS) (x : Nat → Nat) : qAt (zSize m x) = qAt m := rfl
theorem qAt_zTold (m : MS) (x : Nat → Int32) : qAt (zTold m x) = qAt m := rfl
theorem qAt_zCls (m : MS) (x : Nat → Int32) : qAt (zCls m x) = qAt m := rfl
theorem qAt_zRan (m : MS) (x : Nat → Bool) : qAt (zRan m x) = qAt m := rfl
theorem qAt_zCtr (m : MS) (x : Int64) : qAt (zCtr m x) = qAt m := rfl
theorem qAt_zRuns (m : MS) (x : Int32) : qAt (zRuns m x) = qAt m := rfl
theorem qAt_zThr (m : MS) (x : Int32) : qAt (zThr m x) = qAt m := rfl
theorem qAt_zTrd (m : MS) (x : Int32) : qAt (zTrd m x) = qAt m := rfl
theorem qAt_zBlk (m : MS) (x : Nat → Nat) : qAt (zBlk m x) = qAt m := rfl
theorem qAt_zEnd (m : MS) (x : Nat → Nat) : qAt (zEnd m x) = qAt m := rfl
theorem qAt_zLeft (m : MS) (x : Nat → Nat) : qAt (zLeft m x) = qAt m := rfl
theorem qAt_zOpen (m : MS) (x : Nat) : qAt (zOpen m x) = qAt m := rfl
theorem qAt_zCell (m : MS) (x : Nat → Int32) : qAt (zCell m x) = qAt m := rfl
theorem qAt_zHeld (m : MS) (x : Nat → Int32) : qAt (zHeld m x) = qAt m := rfl
theorem qAt_zProg (m : MS) (x : Nat) : qAt (zProg m x) = qAt m := rfl
theorem qAt_zAt (m : MS) (x : Nat) : qAt (zAt m x) = x := rfl
theorem qAt_zAcc (m : MS) (x : Int32) : qAt (zAcc m x) = qAt m := rfl
theorem qAt_zSteps (m : MS) (x : Int32) : qAt (zSteps m x) = qAt m := rfl
theorem qAt_zFin (m : MS) (x : Int32) : qAt (zFin m x) = qAt m := rfl
theorem qAt_zCat (m : MS) (x : Int32) : qAt (zCat m x) = qAt m := rfl
theorem qAt_zTr (m : MS) (x : Int32) : qAt (zTr m x) = qAt m := rfl
theorem qAt_zNum (m : MS) (x : Int32) : qAt (zNum m x) = qAt m := rfl
theorem qAt_zOrg (m : MS) (x : Int32) : qAt (zOrg m x) = qAt m := rfl
theorem qAt_zMark (m : MS) (x : Bool) : qAt (zMark m x) = qAt m := rfl
theorem qAt_zStop (m : MS) (x : Bool) : qAt (zStop m x) = qAt m := rfl
theorem qAcc_zOp (m : MS) (x : Nat → Nat) : qAcc (zOp m x) = qAcc m := rfl
theorem qAcc_zArg (m : MS) (x : Nat → Nat) : qAcc (zArg m x) = qAcc m := rfl
theorem qAcc_zSize (m : MS) (x : Nat → Nat) : qAcc (zSize m x) = qAcc m := rfl
theorem qAcc_zTold (m : MS) (x : Nat → Int32) : qAcc (zTold m x) = qAcc m := rfl
theorem qAcc_zCls (m : MS) (x : Nat → Int32) : qAcc (zCls m x) = qAcc m := rfl
theorem qAcc_zRan (m : MS) (x : Nat → Bool) : qAcc (zRan m x) = qAcc m := rfl
theorem qAcc_zCtr (m : MS) (x : Int64) : qAcc (zCtr m x) = qAcc m := rfl
theorem qAcc_zRuns (m : MS) (x : Int32) : qAcc (zRuns m x) = qAcc m := rfl
theorem qAcc_zThr (m : MS) (x : Int32) : qAcc (zThr m x) = qAcc m := rfl
theorem qAcc_zTrd (m : MS) (x : Int32) : qAcc (zTrd m x) = qAcc m := rfl
theorem qAcc_zBlk (m : MS) (x : Nat → Nat) : qAcc (zBlk m x) = qAcc m := rfl
theorem qAcc_zEnd (m : MS) (x : Nat → Nat) : qAcc (zEnd m x) = qAcc m := rfl
theorem qAcc_zLeft (m : MS) (x : Nat → Nat) : qAcc (zLeft m x) = qAcc m := rfl
theorem qAcc_zOpen (m : MS) (x : Nat) : qAcc (zOpen m x) = qAcc m := rfl
theorem qAcc_zCell (m : MS) (x : Nat → Int32) : qAcc (zCell m x) = qAcc m := rfl
theorem qAcc_zHeld (m : MS) (x : Nat → Int32) : qAcc (zHeld m x) = qAcc m := rfl
theorem qAcc_zProg (m : MS) (x : Nat) : qAcc (zProg m x) = qAcc m := rfl
theorem qAcc_zAt (m : MS) (x : Nat) : qAcc (zAt m x) = qAcc m := rfl
theorem qAcc_zAcc (m : MS) (x : Int32) : qAcc (zAcc m x) = x := rfl
theorem qAcc_zSteps (m : MS) (x : Int32) : qAcc (zSteps m x) = qAcc m := rfl
theorem qAcc_zFin (m : MS) (x : Int32) : qAcc (zFin m x) = qAcc m := rfl
theorem qAcc_zCat (m : MS) (x : Int32) : qAcc (zCat m x) = qAcc m := rfl
theorem qAcc_zTr (m : MS) (x : Int32) : qAcc (zTr m x) = qAcc m := rfl
theorem qAcc_zNum (m : MS) (x : Int32) : qAcc (zNum m x) = qAcc m := rfl
theorem qAcc_zOrg (m : MS) (x : Int32) : qAcc (zOrg m x) = qAcc m := rfl
theorem qAcc_zMark (m : MS) (x : Bool) : qAcc (zMark m x) = qAcc m := rfl
theorem qAcc_zStop (m : MS) (x : Bool) : qAcc (zStop m x) = qAcc m := rfl
theorem qSteps_zOp (m : MS) (x : Nat → Nat) : qSteps (zOp m x) = qSteps m := rfl
theorem qSteps_zArg (m : MS) (x : Nat → Nat) : qSteps (zArg m x) = qSteps m := rfl
theorem qSteps_zSize (m : MS) (x : Nat → Nat) : qSteps (zSize m x) = qSteps m := rfl
theorem qSteps_zTold (m : MS) (x : Nat → Int32) : qSteps (zTold m x) = qSteps m := rfl
theorem qSteps_zCls (m : MS) (x : Nat → Int32) : qSteps (zCls m x) = qSteps m := rfl
theorem qSteps_zRan (m : MS) (x : Nat → Bool) : qSteps (zRan m x) = qSteps m := rfl
theorem qSteps_zCtr (m : MS) (x : Int64) : qSteps (zCtr m x) = qSteps m := rfl
theorem qSteps_zRuns (m : MS) (x : Int32) : qSteps (zRuns m x) = qSteps m := rfl
theorem qSteps_zThr (m : MS) (x : Int32) : qSteps (zThr m x) = qSteps m := rfl
theorem qSteps_zTrd (m : MS) (x : Int32) : qSteps (zTrd m x) = qSteps m := rfl
theorem qSteps_zBlk (m : MS) (x : Nat → Nat) : qSteps (zBlk m x) = qSteps m := rfl
theorem qSteps_zEnd (m : MS) (x : Nat → Nat) : qSteps (zEnd m x) = qSteps m := rfl
theorem qSteps_zLeft (m : MS) (x : Nat → Nat) : qSteps (zLeft m x) = qSteps m := rfl
theorem qSteps_zOpen (m : MS) (x : Nat) : qSteps (zOpen m x) = qSteps m := rfl
theorem qSteps_zCell (m : MS) (x : Nat → Int32) : qSteps (zCell m x) = qSteps m := rfl
theorem qSteps_zHeld (m : MS) (x : Nat → Int32) : qSteps (zHeld m x) = qSteps m := rfl
theorem qSteps_zProg (m : MS) (x : Nat) : qSteps (zProg m x) = qSteps m := rfl
theorem qSteps_zAt (m : MS) (x : Nat) : qSteps (zAt m x) = qSteps m := rfl
theorem qSteps_zAcc (m : MS) (x : Int32) : qSteps (zAcc m x) = qSteps m := rfl
theorem qSteps_zSteps (m : MS) (x : Int32) : qSteps (zSteps m x) = x := rfl
theorem qSteps_zFin (m : MS) (x : Int32) : qSteps (zFin m x) = qSteps m := rfl
theorem qSteps_zCat (m : MS) (x : Int32) : qSteps (zCat m x) = qSteps m := rfl
theorem qSteps_zTr (m : MS) (x : Int32) : qSteps (zTr m x) = qSteps m := rfl
theorem qSteps_zNum (m : MS) (x : Int32) : qSteps (zNum m x) = qSteps m := rfl
theorem qSteps_zOrg (m : MS) (x : Int32) : qSteps (zOrg m x) = qSteps m := rfl
theorem qSteps_zMark (m : MS) (x : Bool) : qSteps (zMark m x) = qSteps m := rfl
theorem qSteps_zStop (m : MS) (x : Bool) : qSteps (zStop m x) = qSteps m := rfl
theorem qFin_zOp (m : MS) (x : Nat → Nat) : qFin (zOp m x) = qFin m := rfl
theorem qFin_zArg (m : MS) (x : Nat → Nat) : qFin (zArg m x) = qFin m := rfl
theorem qFin_zSize (m : MS) (x : Nat → Nat) : qFin (zSize m x) = qFin m := rfl
theorem qFin_zTold (m : MS) (x : Nat → Int32) : qFin (zTold m x) = qFin m := rfl
theorem qFin_zCls (m : MS) (x : Nat → Int32) : qFin (zCls m x) = qFin m := rfl
theorem qFin_zRan (m : MS) (x : Nat → Bool) : qFin (zRan m x) = qFin m := rfl
theorem qFin_zCtr (m : MS) (x : Int64) : qFin (zCtr m x) = qFin m := rfl
theorem qFin_zRuns (m : MS) (x : Int32) : qFin (zRuns m x) = qFin m := rfl
theorem qFin_zThr (m : MS) (x : Int32) : qFin (zThr m x) = qFin m := rfl
theorem qFin_zTrd (m : MS) (x : Int32) : qFin (zTrd m x) = qFin m := rfl
theorem qFin_zBlk (m : MS) (x : Nat → Nat) : qFin (zBlk m x) = qFin m := rfl
theorem qFin_zEnd (m : MS) (x : Nat → Nat) : qFin (zEnd m x) = qFin m := rfl
theorem qFin_zLeft (m : MS) (x : Nat → Nat) : qFin (zLeft m x) = qFin m := rfl
theorem qFin_zOpen (m : MS) (x : Nat) : qFin (zOpen m x) = qFin m := rfl
theorem qFin_zCell (m : MS) (x : Nat → Int32) : qFin (zCell m x) = qFin m := rfl
theorem qFin_zHeld (m : MS) (x : Nat → Int32) : qFin (zHeld m x) = qFin m := rfl
theorem qFin_zProg (m : MS) (x : Nat) : qFin (zProg m x) = qFin m := rfl
theorem qFin_zAt (m : MS) (x : Nat) : qFin (zAt m x) = qFin m := rfl
theorem qFin_zAcc (m : MS) (x : Int32) : qFin (zAcc m x) = qFin m := rfl
theorem qFin_zSteps (m : MS) (x : Int32) : qFin (zSteps m x) = qFin m := rfl
theorem qFin_zFin (m : MS) (x : Int32) : qFin (zFin m x) = x := rfl
theorem qFin_zCat (m : MS) (x : Int32) : qFin (zCat m x) = qFin m := rfl
theorem qFin_zTr (m : MS) (x : Int32) : qFin (zTr m x) = qFin m := rfl
theorem qFin_zNum (m : MS) (x : Int32) : qFin (zNum m x) = qFin m := rfl
theorem qFin_zOrg (m : MS) (x : Int32) : qFin (zOrg m x) = qFin m := rfl
theorem qFin_zMark (m : MS) (x : Bool) : qFin (zMark m x) = qFin m := rfl
theorem qFin_zStop (m : MS) (x : Bool) : qFin (zStop m x) = qFin m := rfl
theorem qCat_zOp (m : MS) (x : Nat → Nat) : qCat (zOp m x) = qCat m := rfl
theorem qCat_zArg (m : MS) (x : Nat → Nat) : qCat (zArg m x) = qCat m := rfl
theorem qCat_zSize (m : MS) (x : Nat → Nat) : qCat (zSize m x) = qCat m := rfl
theorem qCat_zTold (m : MS) (x : Nat → Int32) : qCat (zTold m x) = qCat m := rfl
theorem qCat_zCls (m : MS) (x : Nat → Int32) : qCat (zCls m x) = qCat m := rfl
theorem qCat_zRan (m : MS) (x : Nat → Bool) : qCat (zRan m x) = qCat m := rfl
theorem qCat_zCtr (m : MS) (x : Int64) : qCat (zCtr m x) = qCat m := rfl
theorem qCat_zRuns (m : MS) (x : Int32) : qCat (zRuns m x) = qCat m := rfl
theorem qCat_zThr (m : MS) (x : Int32) : qCat (zThr m x) = qCat m := rfl
theorem qCat_zTrd (m : MS) (x : Int32) : qCat (zTrd m x) = qCat m := rfl
theorem qCat_zBlk (m : MS) (x : Nat → Nat) : qCat (zBlk m x) = qCat m := rfl
theorem qCat_zEnd (m : MS) (x : Nat → Nat) : qCat (zEnd m x) = qCat m := rfl
theorem qCat_zLeft (m : MS) (x : Nat → Nat) : qCat (zLeft m x) = qCat m := rfl
theorem qCat_zOpen (m : MS) (x : Nat) : qCat (zOpen m x) = qCat m := rfl
theorem qCat_zCell (m : MS) (x : Nat → Int32) : qCat (zCell m x) = qCat m := rfl
theorem qCat_zHeld (m : MS) (x : Nat → Int32) : qCat (zHeld m x) = qCat m := rfl
theorem qCat_zProg (m : MS) (x : Nat) : qCat (zProg m x) = qCat m := rfl
theorem qCat_zAt (m : MS) (x : Nat) : qCat (zAt m x) = qCat m := rfl
theorem qCat_zAcc (m : MS) (x : Int32) : qCat (zAcc m x) = qCat m := rfl
theorem qCat_zSteps (m : MS) (x : Int32) : qCat (zSteps m x) = qCat m := rfl
theorem qCat_zFin (m : MS) (x : Int32) : qCat (zFin m x) = qCat m := rfl
theorem qCat_zCat (m : MS) (x : Int32) : qCat (zCat m x) = x := rfl
theorem qCat_zTr (m : MS) (x : Int32) : qCat (zTr m x) = qCat m := rfl
theorem qCat_zNum (m : MS) (x : Int32) : qCat (zNum m x) = qCat m := rfl
theorem qCat_zOrg (m : MS) (x : Int32) : qCat (zOrg m x) = qCat m := rfl
theorem qCat_zMark (m : MS) (x : Bool) : qCat (zMark m x) = qCat m := rfl
theorem qCat_zStop (m : MS) (x : Bool) : qCat (zStop m x) = qCat m := rfl
theorem qTr_zOp (m : MS) (x : Nat → Nat) : qTr (zOp m x) = qTr m := rfl
theorem qTr_zArg (m : MS) (x : Nat → Nat) : qTr (zArg m x) = qTr m := rfl
theorem qTr_zSize (m : MS) (x : Nat → Nat) : qTr (zSize m x) = qTr m := rfl
theorem qTr_zTold (m : MS) (x : Nat → Int32) : qTr (zTold m x) = qTr m := rfl
theorem qTr_zCls (m : MS) (x : Nat → Int32) : qTr (zCls m x) = qTr m := rfl
theorem qTr_zRan (m : MS) (x : Nat → Bool) : qTr (zRan m x) = qTr m := rfl
theorem qTr_zCtr (m : MS) (x : Int64) : qTr (zCtr m x) = qTr m := rfl
theorem qTr_zRuns (m : MS) (x : Int32) : qTr (zRuns m x) = qTr m := rfl
theorem qTr_zThr (m : MS) (x : Int32) : qTr (zThr m x) = qTr m := rfl
theorem qTr_zTrd (m : MS) (x : Int32) : qTr (zTrd m x) = qTr m := rfl
theorem qTr_zBlk (m : MS) (x : Nat → Nat) : qTr (zBlk m x) = qTr m := rfl
theorem qTr_zEnd (m : MS) (x : Nat → Nat) : qTr (zEnd m x) = qTr m := rfl
theorem qTr_zLeft (m : MS) (x : Nat → Nat) : qTr (zLeft m x) = qTr m := rfl
theorem qTr_zOpen (m : MS) (x : Nat) : qTr (zOpen m x) = qTr m := rfl
theorem qTr_zCell (m : MS) (x : Nat → Int32) : qTr (zCell m x) = qTr m := rfl
theorem qTr_zHeld (m : MS) (x : Nat → Int32) : qTr (zHeld m x) = qTr m := rfl
theorem qTr_zProg (m : MS) (x : Nat) : qTr (zProg m x) = qTr m := rfl
theorem qTr_zAt (m : MS) (x : Nat) : qTr (zAt m x) = qTr m := rfl
theorem qTr_zAcc (m : MS) (x : Int32) : qTr (zAcc m x) = qTr m := rfl
theorem qTr_zSteps (m : MS) (x : Int32) : qTr (zSteps m x) = qTr m := rfl
theorem qTr_zFin (m : MS) (x : Int32) : qTr (zFin m x) = qTr m := rfl
theorem qTr_zCat (m : MS) (x : Int32) : qTr (zCat m x) = qTr m := rfl
theorem qTr_zTr (m : MS) (x : Int32) : qTr (zTr m x) = x := rfl
theorem qTr_zNum (m : MS) (x : Int32) : qTr (zNum m x) = qTr m := rfl
theorem qTr_zOrg (m : MS) (x : Int32) : qTr (zOrg m x) = qTr m := rfl
theorem qTr_zMark (m : MS) (x : Bool) : qTr (zMark m x) = qTr m := rfl
theorem qTr_zStop (m : MS) (x : Bool) : qTr (zStop m x) = qTr m := rfl
theorem qNum_zOp (m : MS) (x : Nat → Nat) : qNum (zOp m x) = qNum m := rfl
theorem qNum_zArg (m : MS) (x : Nat → Nat) : qNum (zArg m x) = qNum m := rfl
theorem qNum_zSize (m : MS) (x : Nat → Nat) : qNum (zSize m x) = qNum m := rfl
theorem qNum_zTold (m : MS) (x : Nat → Int32) : qNum (zTold m x) = qNum m := rfl
theorem qNum_zCls (m : MS) (x : Nat → Int32) : qNum (zCls m x) = qNum m := rfl
theorem qNum_zRan (m : MS) (x : Nat → Bool) : qNum (zRan m x) = qNum m := rfl
theorem qNum_zCtr (m : MS) (x : Int64) : qNum (zCtr m x) = qNum m := rfl
theorem qNum_zRuns (m : MS) (x : Int32) : qNum (zRuns m x) = qNum m := rfl
theorem qNum_zThr (m : MS) (x : Int32) : qNum (zThr m x) = qNum m := rfl
theorem qNum_zTrd (m : MS) (x : Int32) : qNum (zTrd m x) = qNum m := rfl
theorem qNum_zBlk (m : MS) (x : Nat → Nat) : qNum (zBlk m x) = qNum m := rfl
theorem qNum_zEnd (m : MS) (x : Nat → Nat) : qNum (zEnd m x) = qNum m := rfl
theorem qNum_zLeft (m : MS) (x : Nat → Nat) : qNum (zLeft m x) = qNum m := rfl
theorem qNum_zOpen (m : MS) (x : Nat) : qNum (zOpen m x) = qNum m := rfl
theorem qNum_zCell (m : MS) (x : Nat → Int32) : qNum (zCell m x) = qNum m := rfl
theorem qNum_zHeld (m : MS) (x : Nat → Int32) : qNum (zHeld m x) = qNum m := rfl
theorem qNum_zProg (m : MS) (x : Nat) : qNum (zProg m x) = qNum m := rfl
theorem qNum_zAt (m : MS) (x : Nat) : qNum (zAt m x) = qNum m := rfl
theorem qNum_zAcc (m : MS) (x : Int32) : qNum (zAcc m x) = qNum m := rfl
theorem qNum_zSteps (m : MS) (x : Int32) : qNum (zSteps m x) = qNum m := rfl
theorem qNum_zFin (m : MS) (x : Int32) : qNum (zFin m x) = qNum m := rfl
theorem qNum_zCat (m : MS) (x : Int32) : qNum (zCat m x) = qNum m := rfl
theorem qNum_zTr (m : MS) (x : Int32) : qNum (zTr m x) = qNum m := rfl
theorem qNum_zNum (m : MS) (x : Int32) : qNum (zNum m x) = x := rfl
theorem qNum_zOrg (m : MS) (x : Int32) : qNum (zOrg m x) = qNum m := rfl
theorem qNum_zMark (m : MS) (x : Bool) : qNum (zMark m x) = qNum m := rfl
theorem qNum_zStop (m : MS) (x : Bool) : qNum (zStop m x) = qNum m := rfl
theorem qOrg_zOp (m : MS) (x : Nat → Nat) : qOrg (zOp m x) = qOrg m := rfl
theorem qOrg_zArg (m : MS) (x : Nat → Nat) : qOrg (zArg m x) = qOrg m := rfl
theorem qOrg_zSize (m : MS) (x : Nat → Nat) : qOrg (zSize m x) = qOrg m := rfl
theorem qOrg_zTold (m : MS) (x : Nat → Int32) : qOrg (zTold m x) = qOrg m := rfl
theorem qOrg_zCls (m : MS) (x : Nat → Int32) : qOrg (zCls m x) = qOrg m := rfl
theorem qOrg_zRan (m : MS) (x : Nat → Bool) : qOrg (zRan m x) = qOrg m := rfl
theorem qOrg_zCtr (m : MS) (x : Int64) : qOrg (zCtr m x) = qOrg m := rfl
theorem qOrg_zRuns (m : MS) (x : Int32) : qOrg (zRuns m x) = qOrg m := rfl
theorem qOrg_zThr (m : MS) (x : Int32) : qOrg (zThr m x) = qOrg m := rfl
theorem qOrg_zTrd (m : MS) (x : Int32) : qOrg (zTrd m x) = qOrg m := rfl
theorem qOrg_zBlk (m : MS) (x : Nat → Nat) : qOrg (zBlk m x) = qOrg m := rfl
theorem qOrg_zEnd (m : MS) (x : Nat → Nat) : qOrg (zEnd m x) = qOrg m := rfl
theorem qOrg_zLeft (m : MS) (x : Nat → Nat) : qOrg (zLeft m x) = qOrg m := rfl
theorem qOrg_zOpen (m : MS) (x : Nat) : qOrg (zOpen m x) = qOrg m := rfl
theorem qOrg_zCell (m : MS) (x : Nat → Int32) : qOrg (zCell m x) = qOrg m := rfl
theorem qOrg_zHeld (m : MS) (x : Nat → Int32) : qOrg (zHeld m x) = qOrg m := rfl
theorem qOrg_zProg (m : MS) (x : Nat) : qOrg (zProg m x) = qOrg m := rfl
theorem qOrg_zAt (m : MS) (x : Nat) : qOrg (zAt m x) = qOrg m := rfl
theorem qOrg_zAcc (m : MS) (x : Int32) : qOrg (zAcc m x) = qOrg m := rfl
theorem qOrg_zSteps (m : MS) (x : Int32) : qOrg (zSteps m x) = qOrg m := rfl
theorem qOrg_zFin (m : MS) (x : Int32) : qOrg (zFin m x) = qOrg m := rfl
theorem qOrg_zCat (m : MS) (x : Int32) : qOrg (zCat m x) = qOrg m := rfl
theorem qOrg_zTr (m : MS) (x : Int32) : qOrg (zTr m x) = qOrg m := rfl
theorem qOrg_zNum (m : MS) (x : Int32) : qOrg (zNum m x) = qOrg m := rfl
theorem qOrg_zOrg (m : MS) (x : Int32) : qOrg (zOrg m x) = x := rfl
theorem qOrg_zMark (m : MS) (x : Bool) : qOrg (zMark m x) = qOrg m := rfl
theorem qOrg_zStop (m : MS) (x : Bool) : qOrg (zStop m x) = qOrg m := rfl
theorem qMark_zOp (m : MS) (x : Nat → Nat) : qMark (zOp m x) = qMark m := rfl
theorem qMark_zArg (m : MS) (x : Nat → Nat) : qMark (zArg m x) = qMark m := rfl
theorem qMark_zSize (m : MS) (x : Nat → Nat) : qMark (zSize m x) = qMark m := rfl
theorem qMark_zTold (m : MS) (x : Nat → Int32) : qMark (zTold m x) = qMark m := rfl
theorem qMark_zCls (m : MS) (x : Nat → Int32) : qMark (zCls m x) = qMark m := rfl
theorem qMark_zRan (m : MS) (x : Nat → Bool) : qMark (zRan m x) = qMark m := rfl
theorem qMark_zCtr (m : MS) (x : Int64) : qMark (zCtr m x) = qMark m := rfl
theorem qMark_zRuns (m : MS) (x : Int32) : qMark (zRuns m x) = qMark m := rfl
theorem qMark_zThr (m : MS) (x : Int32) : qMark (zThr m x) = qMark m := rfl
theorem qMark_zTrd (m : MS) (x : Int32) : qMark (zTrd m x) = qMark m := rfl
theorem qMark_zBlk (m : MS) (x : Nat → Nat) : qMark (zBlk m x) = qMark m := rfl
theorem qMark_zEnd (m : MS) (x : Nat → Nat) : qMark (zEnd m x) = qMark m := rfl
theorem qMark_zLeft (m : MS) (x : Nat → Nat) : qMark (zLeft m x) = qMark m := rfl
theorem qMark_zOpen (m : MS) (x : Nat) : qMark (zOpen m x) = qMark m := rfl
theorem qMark_zCell (m : MS) (x : Nat → Int32) : qMark (zCell m x) = qMark m := rfl
theorem qMark_zHeld (m : MS) (x : Nat → Int32) : qMark (zHeld m x) = qMark m := rfl
theorem qMark_zProg (m : MS) (x : Nat) : qMark (zProg m x) = qMark m := rfl
theorem qMark_zAt (m : MS) (x : Nat) : qMark (zAt m x) = qMark m := rfl
theorem qMark_zAcc (m : MS) (x : Int32) : qMark (zAcc m x) = qMark m := rfl
theorem qMark_zSteps (m : MS) (x : Int32) : qMark (zSteps m x) = qMark m := rfl
theorem qMark_zFin (m : MS) (x : Int32) : qMark (zFin m x) = qMark m := rfl
theorem qMark_zCat (m : MS) (x : Int32) : qMark (zCat m x) = qMark m := rfl
theorem qMark_zTr (m : MS) (x : Int32) : qMark (zTr m x) = qMark m := rfl
theorem qMark_zNum (m : MS) (x : Int32) : qMark (zNum m x) = qMark m := rfl
theorem qMark_zOrg (m : MS) (x : Int32) : qMark (zOrg m x) = qMark m := rfl
theorem qMark_zMark (m : MS) (x : Bool) : qMark (zMark m x) = x := rfl
theorem qMark_zStop (m : MS) (x : Bool) : qMark (zStop m x) = qMark m := rfl
theorem qStop_zOp (m : MS) (x : Nat → Nat) : qStop (zOp m x) = qStop m := rfl
theorem qStop_zArg (m : MS) (x : Nat → Nat) : qStop (zArg m x) = qStop m := rfl
theorem qStop_zSize (m : MS) (x : Nat → Nat) : qStop (zSize m x) = qStop m := rfl
theorem qStop_zTold (m : MS) (x : Nat → Int32) : qStop (zTold m x) = qStop m := rfl
theorem qStop_zCls (m : MS) (x : Nat → Int32) : qStop (zCls m x) = qStop m := rfl
theorem qStop_zRan (m : MS) (x : Nat → Bool) : qStop (zRan m x) = qStop m := rfl
theorem qStop_zCtr (m : MS) (x : Int64) : qStop (zCtr m x) = qStop m := rfl
theorem qStop_zRuns (m : MS) (x : Int32) : qStop (zRuns m x) = qStop m := rfl
theorem qStop_zThr (m : MS) (x : Int32) : qStop (zThr m x) = qStop m := rfl
theorem qStop_zTrd (m : MS) (x : Int32) : qStop (zTrd m x) = qStop m := rfl
theorem qStop_zBlk (m : MS) (x : Nat → Nat) : qStop (zBlk m x) = qStop m := rfl
theorem qStop_zEnd (m : MS) (x : Nat → Nat) : qStop (zEnd m x) = qStop m := rfl
theorem qStop_zLeft (m : MS) (x : Nat → Nat) : qStop (zLeft m x) = qStop m := rfl
theorem qStop_zOpen (m : MS) (x : Nat) : qStop (zOpen m x) = qStop m := rfl
theorem qStop_zCell (m : MS) (x : Nat → Int32) : qStop (zCell m x) = qStop m := rfl
theorem qStop_zHeld (m : MS) (x : Nat → Int32) : qStop (zHeld m x) = qStop m := rfl
theorem qStop_zProg (m : MS) (x : Nat) : qStop (zProg m x) = qStop m := rfl
theorem qStop_zAt (m : MS) (x : Nat) : qStop (zAt m x) = qStop m := rfl
theorem qStop_zAcc (m : MS) (x : Int32) : qStop (zAcc m x) = qStop m := rfl
theorem qStop_zSteps (m : MS) (x : Int32) : qStop (zSteps m x) = qStop m := rfl
theorem qStop_zFin (m : MS) (x : Int32) : qStop (zFin m x) = qStop m := rfl
theorem qStop_zCat (m : MS) (x : Int32) : qStop (zCat m x) = qStop m := rfl
theorem qStop_zTr (m : MS) (x : Int32) : qStop (zTr m x) = qStop m := rfl
theorem qStop_zNum (m : MS) (x : Int32) : qStop (zNum m x) = qStop m := rfl
theorem qStop_zOrg (m : MS) (x : Int32) : qStop (zOrg m x) = qStop m := rfl
theorem qStop_zMark (m : MS) (x : Bool) : qStop (zMark m x) = qStop m := rfl
theorem qStop_zStop (m : MS) (x : Bool) : qStop (zStop m x) = x := rfl
theorem zOp_zOp (m : MS) (x y : Nat → Nat) : zOp (zOp m x) y = zOp m y := rfl
theorem zArg_zArg (m : MS) (x y : Nat → Nat) : zArg (zArg m x) y = zArg m y := rfl
theorem zSize_zSize (m : MS) (x y : Nat → Nat) : zSize (zSize m x) y = zSize m y := rfl
theorem zTold_zTold (m : MS) (x y : Nat → Int32) : zTold (zTold m x) y = zTold m y := rfl
theorem zCls_zCls (m : MS) (x y : Nat → Int32) : zCls (zCls m x) y = zCls m y := rfl
theorem zRan_zRan (m : MS) (x y : Nat → Bool) : zRan (zRan m x) y = zRan m y := rfl
theorem zCtr_zCtr (m : MS) (x y : Int64) : zCtr (zCtr m x) y = zCtr m y := rfl
theorem zRuns_zRuns (m : MS) (x y : Int32) : zRuns (zRuns m x) y = zRuns m y := rfl
theorem zThr_zThr (m : MS) (x y : Int32) : zThr (zThr m x) y = zThr m y := rfl
theorem zTrd_zTrd (m : MS) (x y : Int32) : zTrd (zTrd m x) y = zTrd m y := rfl
theorem zBlk_zBlk (m : MS) (x y : Nat → Nat) : zBlk (zBlk m x) y = zBlk m y := rfl
theorem zEnd_zEnd (m : MS) (x y : Nat → Nat) : zEnd (zEnd m x) y = zEnd m y := rfl
theorem zLeft_zLeft (m : MS) (x y : Nat → Nat) : zLeft (zLeft m x) y = zLeft m y := rfl
theorem zOpen_zOpen (m : MS) (x y : Nat) : zOpen (zOpen m x) y = zOpen m y := rfl
theorem zCell_zCell (m : MS) (x y : Nat → Int32) : zCell (zCell m x) y = zCell m y := rfl
theorem zHeld_zHeld (m : MS) (x y : Nat → Int32) : zHeld (zHeld m x) y = zHeld m y := rfl
theorem zProg_zProg (m : MS) (x y : Nat) : zProg (zProg m x) y = zProg m y := rfl
theorem zAt_zAt (m : MS) (x y : Nat) : zAt (zAt m x) y = zAt m y := rfl
theorem zAcc_zAcc (m : MS) (x y : Int32) : zAcc (zAcc m x) y = zAcc m y := rfl
theorem zSteps_zSteps (m : MS) (x y : Int32) : zSteps (zSteps m x) y = zSteps m y := rfl
theorem zFin_zFin (m : MS) (x y : Int32) : zFin (zFin m x) y = zFin m y := rfl
theorem zCat_zCat (m : MS) (x y : Int32) : zCat (zCat m x) y = zCat m y := rfl
theorem zTr_zTr (m : MS) (x y : Int32) : zTr (zTr m x) y = zTr m y := rfl
theorem zNum_zNum (m : MS) (x y : Int32) : zNum (zNum m x) y = zNum m y := rfl
theorem zOrg_zOrg (m : MS) (x y : Int32) : zOrg (zOrg m x) y = zOrg m y := rfl
theorem zMark_zMark (m : MS) (x y : Bool) : zMark (zMark m x) y = zMark m y := rfl
theorem zStop_zStop (m : MS) (x y : Bool) : zStop (zStop m x) y = zStop m y := rfl
