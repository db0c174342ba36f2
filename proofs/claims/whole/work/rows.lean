section
-- ===== PART A: goes FIRST, ahead of the names: the tables' words, and 'selects' of the private methods out of them =====
/-- a private method of a class that the tables say can be made, by its rows of tables_1 -/
def lw_okq (q : MethodName × Nat) : Prop := (q.1.cls ≠ "java/lang/invoke/MethodHandle" ∧ q.1.cls ≠ "java/lang/invoke/VarHandle") ∧ Cond.instantiable q.1.cls q.2 ∈ tables_1 ∧ Cond.privateMethod q.1 ∈ tables_1 ∧ Cond.instanceMethod q.1 ∈ tables_1
theorem lw_p0 : lw_okq (⟨"CaseExecutor", "perform", "(IZ)I"⟩, 6) := ⟨⟨by decide +kernel, by decide +kernel⟩, List.mem_of_getElem? (i := 7) (by decide +kernel), List.mem_of_getElem? (i := 132) (by decide +kernel), List.mem_of_getElem? (i := 133) (by decide +kernel)⟩
theorem lw_p1 : lw_okq (⟨"CaseExecutor$Run", "begin", "(I)V"⟩, 14) := ⟨⟨by decide +kernel, by decide +kernel⟩, List.mem_of_getElem? (i := 34) (by decide +kernel), List.mem_of_getElem? (i := 140) (by decide +kernel), List.mem_of_getElem? (i := 141) (by decide +kernel)⟩
theorem lw_p2 : lw_okq (⟨"CaseExecutor$Run", "forgetTrouble", "()V"⟩, 14) := ⟨⟨by decide +kernel, by decide +kernel⟩, List.mem_of_getElem? (i := 34) (by decide +kernel), List.mem_of_getElem? (i := 144) (by decide +kernel), List.mem_of_getElem? (i := 145) (by decide +kernel)⟩
theorem lw_p3 : lw_okq (⟨"CaseExecutor$Run", "doActions", "(III)I"⟩, 14) := ⟨⟨by decide +kernel, by decide +kernel⟩, List.mem_of_getElem? (i := 34) (by decide +kernel), List.mem_of_getElem? (i := 152) (by decide +kernel), List.mem_of_getElem? (i := 153) (by decide +kernel)⟩
theorem lw_p4 : lw_okq (⟨"CaseExecutor$Run", "doAction", "(III)I"⟩, 14) := ⟨⟨by decide +kernel, by decide +kernel⟩, List.mem_of_getElem? (i := 34) (by decide +kernel), List.mem_of_getElem? (i := 167) (by decide +kernel), List.mem_of_getElem? (i := 168) (by decide +kernel)⟩
theorem lw_p5 : lw_okq (⟨"CaseExecutor$Run", "become", "(I)I"⟩, 14) := ⟨⟨by decide +kernel, by decide +kernel⟩, List.mem_of_getElem? (i := 34) (by decide +kernel), List.mem_of_getElem? (i := 179) (by decide +kernel), List.mem_of_getElem? (i := 180) (by decide +kernel)⟩
theorem lw_p6 : lw_okq (⟨"CaseExecutor$Run", "comesUp", "(II)I"⟩, 14) := ⟨⟨by decide +kernel, by decide +kernel⟩, List.mem_of_getElem? (i := 34) (by decide +kernel), List.mem_of_getElem? (i := 183) (by decide +kernel), List.mem_of_getElem? (i := 184) (by decide +kernel)⟩
theorem lw_p7 : lw_okq (⟨"CaseExecutor$Run", "doKeep", "(I)I"⟩, 14) := ⟨⟨by decide +kernel, by decide +kernel⟩, List.mem_of_getElem? (i := 34) (by decide +kernel), List.mem_of_getElem? (i := 191) (by decide +kernel), List.mem_of_getElem? (i := 192) (by decide +kernel)⟩
theorem lw_p8 : lw_okq (⟨"CaseExecutor$Run", "doBreak", "(I)I"⟩, 14) := ⟨⟨by decide +kernel, by decide +kernel⟩, List.mem_of_getElem? (i := 34) (by decide +kernel), List.mem_of_getElem? (i := 195) (by decide +kernel), List.mem_of_getElem? (i := 196) (by decide +kernel)⟩
theorem lw_p9 : lw_okq (⟨"CaseExecutor$Run", "doThrow", "(I)I"⟩, 14) := ⟨⟨by decide +kernel, by decide +kernel⟩, List.mem_of_getElem? (i := 34) (by decide +kernel), List.mem_of_getElem? (i := 204) (by decide +kernel), List.mem_of_getElem? (i := 205) (by decide +kernel)⟩
theorem lw_p10 : lw_okq (⟨"CaseExecutor$Run", "ownComesUp", "(II)I"⟩, 14) := ⟨⟨by decide +kernel, by decide +kernel⟩, List.mem_of_getElem? (i := 34) (by decide +kernel), List.mem_of_getElem? (i := 208) (by decide +kernel), List.mem_of_getElem? (i := 209) (by decide +kernel)⟩
theorem lw_p11 : lw_okq (⟨"CaseExecutor$Run", "doInterrupt", "()I"⟩, 14) := ⟨⟨by decide +kernel, by decide +kernel⟩, List.mem_of_getElem? (i := 34) (by decide +kernel), List.mem_of_getElem? (i := 212) (by decide +kernel), List.mem_of_getElem? (i := 213) (by decide +kernel)⟩
theorem lw_p12 : lw_okq (⟨"CaseExecutor$Run", "doLook", "()I"⟩, 14) := ⟨⟨by decide +kernel, by decide +kernel⟩, List.mem_of_getElem? (i := 34) (by decide +kernel), List.mem_of_getElem? (i := 216) (by decide +kernel), List.mem_of_getElem? (i := 217) (by decide +kernel)⟩
theorem lw_p13 : lw_okq (⟨"CaseExecutor$Run", "doCatch", "(III)I"⟩, 14) := ⟨⟨by decide +kernel, by decide +kernel⟩, List.mem_of_getElem? (i := 34) (by decide +kernel), List.mem_of_getElem? (i := 220) (by decide +kernel), List.mem_of_getElem? (i := 221) (by decide +kernel)⟩
theorem lw_p14 : lw_okq (⟨"CaseExecutor$Run", "doFinally", "(III)I"⟩, 14) := ⟨⟨by decide +kernel, by decide +kernel⟩, List.mem_of_getElem? (i := 34) (by decide +kernel), List.mem_of_getElem? (i := 227) (by decide +kernel), List.mem_of_getElem? (i := 228) (by decide +kernel)⟩
theorem lw_p15 : lw_okq (⟨"CaseExecutor$Run", "doDrop", "(III)I"⟩, 14) := ⟨⟨by decide +kernel, by decide +kernel⟩, List.mem_of_getElem? (i := 34) (by decide +kernel), List.mem_of_getElem? (i := 231) (by decide +kernel), List.mem_of_getElem? (i := 232) (by decide +kernel)⟩
def lw_privs_1 : List (MethodName × Nat) := [(⟨"CaseExecutor", "perform", "(IZ)I"⟩, 6), (⟨"CaseExecutor$Run", "begin", "(I)V"⟩, 14), (⟨"CaseExecutor$Run", "forgetTrouble", "()V"⟩, 14), (⟨"CaseExecutor$Run", "doActions", "(III)I"⟩, 14), (⟨"CaseExecutor$Run", "doAction", "(III)I"⟩, 14), (⟨"CaseExecutor$Run", "become", "(I)I"⟩, 14), (⟨"CaseExecutor$Run", "comesUp", "(II)I"⟩, 14), (⟨"CaseExecutor$Run", "doKeep", "(I)I"⟩, 14), (⟨"CaseExecutor$Run", "doBreak", "(I)I"⟩, 14), (⟨"CaseExecutor$Run", "doThrow", "(I)I"⟩, 14), (⟨"CaseExecutor$Run", "ownComesUp", "(II)I"⟩, 14), (⟨"CaseExecutor$Run", "doInterrupt", "()I"⟩, 14), (⟨"CaseExecutor$Run", "doLook", "()I"⟩, 14), (⟨"CaseExecutor$Run", "doCatch", "(III)I"⟩, 14), (⟨"CaseExecutor$Run", "doFinally", "(III)I"⟩, 14), (⟨"CaseExecutor$Run", "doDrop", "(III)I"⟩, 14)]
theorem lw_r1 : ∀ q ∈ lw_privs_1, lw_okq q := List.forall_mem_cons.mpr ⟨lw_p0, List.forall_mem_cons.mpr ⟨lw_p1, List.forall_mem_cons.mpr ⟨lw_p2, List.forall_mem_cons.mpr ⟨lw_p3, List.forall_mem_cons.mpr ⟨lw_p4, List.forall_mem_cons.mpr ⟨lw_p5, List.forall_mem_cons.mpr ⟨lw_p6, List.forall_mem_cons.mpr ⟨lw_p7, List.forall_mem_cons.mpr ⟨lw_p8, List.forall_mem_cons.mpr ⟨lw_p9, List.forall_mem_cons.mpr ⟨lw_p10, List.forall_mem_cons.mpr ⟨lw_p11, List.forall_mem_cons.mpr ⟨lw_p12, List.forall_mem_cons.mpr ⟨lw_p13, List.forall_mem_cons.mpr ⟨lw_p14, List.forall_mem_cons.mpr ⟨lw_p15, fun _ h => absurd h List.not_mem_nil⟩⟩⟩⟩⟩⟩⟩⟩⟩⟩⟩⟩⟩⟩⟩⟩
theorem lw_p16 : lw_okq (⟨"CaseExecutor$Run", "doHold", "(III)I"⟩, 14) := ⟨⟨by decide +kernel, by decide +kernel⟩, List.mem_of_getElem? (i := 34) (by decide +kernel), List.mem_of_getElem? (i := 235) (by decide +kernel), List.mem_of_getElem? (i := 236) (by decide +kernel)⟩
theorem lw_p17 : lw_okq (⟨"CaseExecutor$Run", "doRepeat", "(III)I"⟩, 14) := ⟨⟨by decide +kernel, by decide +kernel⟩, List.mem_of_getElem? (i := 34) (by decide +kernel), List.mem_of_getElem? (i := 239) (by decide +kernel), List.mem_of_getElem? (i := 240) (by decide +kernel)⟩
theorem lw_p18 : lw_okq (⟨"CaseExecutor$Run", "isHeld", "(I)Z"⟩, 14) := ⟨⟨by decide +kernel, by decide +kernel⟩, List.mem_of_getElem? (i := 34) (by decide +kernel), List.mem_of_getElem? (i := 243) (by decide +kernel), List.mem_of_getElem? (i := 244) (by decide +kernel)⟩
theorem lw_p19 : lw_okq (⟨"CaseExecutor$Run", "doSleep", "(I)I"⟩, 14) := ⟨⟨by decide +kernel, by decide +kernel⟩, List.mem_of_getElem? (i := 34) (by decide +kernel), List.mem_of_getElem? (i := 247) (by decide +kernel), List.mem_of_getElem? (i := 248) (by decide +kernel)⟩
theorem lw_p20 : lw_okq (⟨"CaseExecutor$Run", "doCount", "(I)I"⟩, 14) := ⟨⟨by decide +kernel, by decide +kernel⟩, List.mem_of_getElem? (i := 34) (by decide +kernel), List.mem_of_getElem? (i := 251) (by decide +kernel), List.mem_of_getElem? (i := 252) (by decide +kernel)⟩
theorem lw_p21 : lw_okq (⟨"CaseExecutorModel", "forget", "(I)V"⟩, 27) := ⟨⟨by decide +kernel, by decide +kernel⟩, List.mem_of_getElem? (i := 298) (by decide +kernel), List.mem_of_getElem? (i := 394) (by decide +kernel), List.mem_of_getElem? (i := 395) (by decide +kernel)⟩
theorem lw_p22 : lw_okq (⟨"CaseExecutorModel", "perform", "(IZ)I"⟩, 27) := ⟨⟨by decide +kernel, by decide +kernel⟩, List.mem_of_getElem? (i := 298) (by decide +kernel), List.mem_of_getElem? (i := 406) (by decide +kernel), List.mem_of_getElem? (i := 407) (by decide +kernel)⟩
theorem lw_p23 : lw_okq (⟨"CaseExecutorModel", "leave", "()V"⟩, 27) := ⟨⟨by decide +kernel, by decide +kernel⟩, List.mem_of_getElem? (i := 298) (by decide +kernel), List.mem_of_getElem? (i := 411) (by decide +kernel), List.mem_of_getElem? (i := 412) (by decide +kernel)⟩
theorem lw_p24 : lw_okq (⟨"CaseExecutorModel", "kOf", "(I)I"⟩, 27) := ⟨⟨by decide +kernel, by decide +kernel⟩, List.mem_of_getElem? (i := 298) (by decide +kernel), List.mem_of_getElem? (i := 415) (by decide +kernel), List.mem_of_getElem? (i := 416) (by decide +kernel)⟩
theorem lw_p25 : lw_okq (⟨"CaseExecutorModel", "raise", "(II)V"⟩, 27) := ⟨⟨by decide +kernel, by decide +kernel⟩, List.mem_of_getElem? (i := 298) (by decide +kernel), List.mem_of_getElem? (i := 422) (by decide +kernel), List.mem_of_getElem? (i := 423) (by decide +kernel)⟩
theorem lw_p26 : lw_okq (⟨"CaseExecutorModel", "step", "(Z)V"⟩, 27) := ⟨⟨by decide +kernel, by decide +kernel⟩, List.mem_of_getElem? (i := 298) (by decide +kernel), List.mem_of_getElem? (i := 426) (by decide +kernel), List.mem_of_getElem? (i := 427) (by decide +kernel)⟩
theorem lw_p27 : lw_okq (⟨"CaseExecutorModel", "enter", "(II)V"⟩, 27) := ⟨⟨by decide +kernel, by decide +kernel⟩, List.mem_of_getElem? (i := 298) (by decide +kernel), List.mem_of_getElem? (i := 430) (by decide +kernel), List.mem_of_getElem? (i := 431) (by decide +kernel)⟩
theorem lw_p28 : lw_okq (⟨"CaseExecutorModel", "act", "(IIII)V"⟩, 27) := ⟨⟨by decide +kernel, by decide +kernel⟩, List.mem_of_getElem? (i := 298) (by decide +kernel), List.mem_of_getElem? (i := 434) (by decide +kernel), List.mem_of_getElem? (i := 435) (by decide +kernel)⟩
theorem lw_p29 : lw_okq (⟨"CaseExecutorModel", "divide", "(IZ)V"⟩, 27) := ⟨⟨by decide +kernel, by decide +kernel⟩, List.mem_of_getElem? (i := 298) (by decide +kernel), List.mem_of_getElem? (i := 438) (by decide +kernel), List.mem_of_getElem? (i := 439) (by decide +kernel)⟩
theorem lw_p30 : lw_okq (⟨"CaseExecutorModel", "touch", "(IZ)V"⟩, 27) := ⟨⟨by decide +kernel, by decide +kernel⟩, List.mem_of_getElem? (i := 298) (by decide +kernel), List.mem_of_getElem? (i := 442) (by decide +kernel), List.mem_of_getElem? (i := 443) (by decide +kernel)⟩
theorem lw_p31 : lw_okq (⟨"CaseExecutorModel", "interrupted", "()V"⟩, 27) := ⟨⟨by decide +kernel, by decide +kernel⟩, List.mem_of_getElem? (i := 298) (by decide +kernel), List.mem_of_getElem? (i := 446) (by decide +kernel), List.mem_of_getElem? (i := 447) (by decide +kernel)⟩
def lw_privs_2 : List (MethodName × Nat) := [(⟨"CaseExecutor$Run", "doHold", "(III)I"⟩, 14), (⟨"CaseExecutor$Run", "doRepeat", "(III)I"⟩, 14), (⟨"CaseExecutor$Run", "isHeld", "(I)Z"⟩, 14), (⟨"CaseExecutor$Run", "doSleep", "(I)I"⟩, 14), (⟨"CaseExecutor$Run", "doCount", "(I)I"⟩, 14), (⟨"CaseExecutorModel", "forget", "(I)V"⟩, 27), (⟨"CaseExecutorModel", "perform", "(IZ)I"⟩, 27), (⟨"CaseExecutorModel", "leave", "()V"⟩, 27), (⟨"CaseExecutorModel", "kOf", "(I)I"⟩, 27), (⟨"CaseExecutorModel", "raise", "(II)V"⟩, 27), (⟨"CaseExecutorModel", "step", "(Z)V"⟩, 27), (⟨"CaseExecutorModel", "enter", "(II)V"⟩, 27), (⟨"CaseExecutorModel", "act", "(IIII)V"⟩, 27), (⟨"CaseExecutorModel", "divide", "(IZ)V"⟩, 27), (⟨"CaseExecutorModel", "touch", "(IZ)V"⟩, 27), (⟨"CaseExecutorModel", "interrupted", "()V"⟩, 27)]
theorem lw_r2 : ∀ q ∈ lw_privs_2, lw_okq q := List.forall_mem_cons.mpr ⟨lw_p16, List.forall_mem_cons.mpr ⟨lw_p17, List.forall_mem_cons.mpr ⟨lw_p18, List.forall_mem_cons.mpr ⟨lw_p19, List.forall_mem_cons.mpr ⟨lw_p20, List.forall_mem_cons.mpr ⟨lw_p21, List.forall_mem_cons.mpr ⟨lw_p22, List.forall_mem_cons.mpr ⟨lw_p23, List.forall_mem_cons.mpr ⟨lw_p24, List.forall_mem_cons.mpr ⟨lw_p25, List.forall_mem_cons.mpr ⟨lw_p26, List.forall_mem_cons.mpr ⟨lw_p27, List.forall_mem_cons.mpr ⟨lw_p28, List.forall_mem_cons.mpr ⟨lw_p29, List.forall_mem_cons.mpr ⟨lw_p30, List.forall_mem_cons.mpr ⟨lw_p31, fun _ h => absurd h List.not_mem_nil⟩⟩⟩⟩⟩⟩⟩⟩⟩⟩⟩⟩⟩⟩⟩⟩
def lw_privs : List (MethodName × Nat) := lw_privs_1 ++ (lw_privs_2)
def lw_tbl : List Cond := k2_sels lw_privs ++ tables_1
theorem lw_privs_ok : ∀ q ∈ lw_privs, lw_okq q := by
  show ∀ q ∈ lw_privs_1 ++ (lw_privs_2), lw_okq q
  exact List.forall_mem_append.mpr ⟨lw_r1, lw_r2⟩
-- NAMES, by wip/gen/names.py out of the printed listing and tables: R class, T fields, ty types, c code, y method, d decode rows
def REx : String := "CaseExecutor"
def TEx : u_T := fun k => match k with
  | 0 => ("CaseExecutor", "programs", "[LCaseExecutor$Program;", true)
  | 1 => ("CaseExecutor", "latest", "[LCaseExecutor$Run;", true)
  | 2 => ("CaseExecutor", "theCounter", "J", false)
  | 3 => ("CaseExecutor", "runs", "I", false)
  | 4 => ("CaseExecutor", "threadRuns", "I", false)
  | _ => ("CaseExecutor", "troubledRuns", "I", false)
def tyEx : Nat → FieldType := fun k => match k with
  | 0 => .array (.object "CaseExecutor$Program")
  | 1 => .array (.object "CaseExecutor$Run")
  | 2 => .long
  | 3 => .int
  | 4 => .int
  | _ => .int
theorem nmEx : ∀ a, a < 6 → ∀ b, b < 6 → a ≠ b → (TEx a).2.1 ≠ (TEx b).2.1 := by decide +kernel
theorem tyEx_ok : ∀ k, k < 6 → parseFieldDescriptor (TEx k).2.2.1 = some (tyEx k) := by decide +kernel
def RPg : String := "CaseExecutor$Program"
def TPg : u_T := fun k => match k with
  | 0 => ("CaseExecutor$Program", "ops", "[I", true)
  | 1 => ("CaseExecutor$Program", "arguments", "[I", true)
  | _ => ("CaseExecutor$Program", "size", "I", false)
def tyPg : Nat → FieldType := fun k => match k with
  | 0 => .array .int
  | 1 => .array .int
  | _ => .int
theorem nmPg : ∀ a, a < 3 → ∀ b, b < 3 → a ≠ b → (TPg a).2.1 ≠ (TPg b).2.1 := by decide +kernel
theorem tyPg_ok : ∀ k, k < 3 → parseFieldDescriptor (TPg k).2.2.1 = some (tyPg k) := by decide +kernel
def RRn : String := "CaseExecutor$Run"
def TRn : u_T := fun k => match k with
  | 0 => ("CaseExecutor$Run", "program", "LCaseExecutor$Program;", true)
  | 1 => ("CaseExecutor$Run", "cells", "[I", true)
  | 2 => ("CaseExecutor$Run", "holds", "[I", true)
  | 3 => ("CaseExecutor$Run", "known", "Z", false)
  | 4 => ("CaseExecutor$Run", "name", "I", false)
  | 5 => ("CaseExecutor$Run", "accumulator", "I", false)
  | 6 => ("CaseExecutor$Run", "steps", "I", false)
  | 7 => ("CaseExecutor$Run", "finals", "I", false)
  | 8 => ("CaseExecutor$Run", "catches", "I", false)
  | 9 => ("CaseExecutor$Run", "marked", "Z", false)
  | 10 => ("CaseExecutor$Run", "counted", "J", false)
  | 11 => ("CaseExecutor$Run", "trouble", "I", false)
  | 12 => ("CaseExecutor$Run", "troubleAction", "I", false)
  | _ => ("CaseExecutor$Run", "ownNumber", "I", false)
def tyRn : Nat → FieldType := fun k => match k with
  | 0 => .object "CaseExecutor$Program"
  | 1 => .array .int
  | 2 => .array .int
  | 3 => .boolean
  | 4 => .int
  | 5 => .int
  | 6 => .int
  | 7 => .int
  | 8 => .int
  | 9 => .boolean
  | 10 => .long
  | 11 => .int
  | 12 => .int
  | _ => .int
theorem nmRn : ∀ a, a < 14 → ∀ b, b < 14 → a ≠ b → (TRn a).2.1 ≠ (TRn b).2.1 := by decide +kernel
theorem tyRn_ok : ∀ k, k < 14 → parseFieldDescriptor (TRn k).2.2.1 = some (tyRn k) := by decide +kernel
def RMd : String := "CaseExecutorModel"
def TMd : u_T := fun k => match k with
  | 0 => ("CaseExecutorModel", "op", "[I", true)
  | 1 => ("CaseExecutorModel", "argument", "[I", true)
  | 2 => ("CaseExecutorModel", "size", "[I", true)
  | 3 => ("CaseExecutorModel", "told", "[I", true)
  | 4 => ("CaseExecutorModel", "cells", "[I", true)
  | 5 => ("CaseExecutorModel", "ran", "[Z", true)
  | 6 => ("CaseExecutorModel", "counter", "J", false)
  | 7 => ("CaseExecutorModel", "runs", "I", false)
  | 8 => ("CaseExecutorModel", "threads", "I", false)
  | 9 => ("CaseExecutorModel", "troubled", "I", false)
  | 10 => ("CaseExecutorModel", "block", "[I", true)
  | 11 => ("CaseExecutorModel", "end", "[I", true)
  | 12 => ("CaseExecutorModel", "left", "[I", true)
  | 13 => ("CaseExecutorModel", "open", "I", false)
  | 14 => ("CaseExecutorModel", "cell", "[I", true)
  | 15 => ("CaseExecutorModel", "held", "[I", true)
  | 16 => ("CaseExecutorModel", "program", "I", false)
  | 17 => ("CaseExecutorModel", "at", "I", false)
  | 18 => ("CaseExecutorModel", "accumulator", "I", false)
  | 19 => ("CaseExecutorModel", "steps", "I", false)
  | 20 => ("CaseExecutorModel", "finals", "I", false)
  | 21 => ("CaseExecutorModel", "catches", "I", false)
  | 22 => ("CaseExecutorModel", "trouble", "I", false)
  | 23 => ("CaseExecutorModel", "number", "I", false)
  | 24 => ("CaseExecutorModel", "origin", "I", false)
  | 25 => ("CaseExecutorModel", "mark", "Z", false)
  | _ => ("CaseExecutorModel", "stopping", "Z", false)
def tyMd : Nat → FieldType := fun k => match k with
  | 0 => .array .int
  | 1 => .array .int
  | 2 => .array .int
  | 3 => .array .int
  | 4 => .array .int
  | 5 => .array .boolean
  | 6 => .long
  | 7 => .int
  | 8 => .int
  | 9 => .int
  | 10 => .array .int
  | 11 => .array .int
  | 12 => .array .int
  | 13 => .int
  | 14 => .array .int
  | 15 => .array .int
  | 16 => .int
  | 17 => .int
  | 18 => .int
  | 19 => .int
  | 20 => .int
  | 21 => .int
  | 22 => .int
  | 23 => .int
  | 24 => .int
  | 25 => .boolean
  | _ => .boolean
theorem nmMd : ∀ a, a < 27 → ∀ b, b < 27 → a ≠ b → (TMd a).2.1 ≠ (TMd b).2.1 := by decide +kernel
theorem tyMd_ok : ∀ k, k < 27 → parseFieldDescriptor (TMd k).2.2.1 = some (tyMd k) := by decide +kernel
def RLw : String := "CaseExecutorLaw"
abbrev vwCl : List vw_C := [(RPg, TPg, 3), (RRn, TRn, 14), (REx, TEx, 6), (RMd, TMd, 27)]
abbrev cEx_init : ByteArray := prog_1_method_1_code
def yEx_init : MethodName := ⟨REx, "<init>", "()V"⟩
abbrev cPg_init : ByteArray := prog_2_method_1_code
def yPg_init : MethodName := ⟨RPg, "<init>", "()V"⟩
abbrev cRn_init : ByteArray := prog_3_method_1_code
def yRn_init : MethodName := ⟨RRn, "<init>", "(LCaseExecutor$Program;)V"⟩
abbrev cEx_add : ByteArray := prog_1_method_2_code
def yEx_add : MethodName := ⟨REx, "add", "(III)I"⟩
abbrev cEx_isProgram : ByteArray := prog_1_method_11_code
def yEx_isProgram : MethodName := ⟨REx, "isProgram", "(I)Z"⟩
abbrev cEx_isWithin : ByteArray := prog_1_method_12_code
def yEx_isWithin : MethodName := ⟨REx, "isWithin", "(II)Z"⟩
abbrev cPg_append : ByteArray := prog_2_method_3_code
def yPg_append : MethodName := ⟨RPg, "append", "(II)I"⟩
abbrev cRn_forget : ByteArray := prog_3_method_4_code
def yRn_forget : MethodName := ⟨RRn, "forget", "()V"⟩
abbrev cEx_clear : ByteArray := prog_1_method_3_code
def yEx_clear : MethodName := ⟨REx, "clear", "(I)I"⟩
abbrev cPg_empty : ByteArray := prog_2_method_4_code
def yPg_empty : MethodName := ⟨RPg, "empty", "()V"⟩
abbrev cEx_run : ByteArray := prog_1_method_4_code
def yEx_run : MethodName := ⟨REx, "run", "(IZ)I"⟩
abbrev cEx_perform : ByteArray := prog_1_method_10_code
def yEx_perform : MethodName := ⟨REx, "perform", "(IZ)I"⟩
abbrev cRn_perform : ByteArray := prog_3_method_9_code
def yRn_perform : MethodName := ⟨RRn, "perform", "(I)V"⟩
abbrev cRn_begin : ByteArray := prog_3_method_10_code
def yRn_begin : MethodName := ⟨RRn, "begin", "(I)V"⟩
abbrev cRn_forgetTrouble : ByteArray := prog_3_method_14_code
def yRn_forgetTrouble : MethodName := ⟨RRn, "forgetTrouble", "()V"⟩
abbrev cPg_size : ByteArray := prog_2_method_2_code
def yPg_size : MethodName := ⟨RPg, "size", "()I"⟩
abbrev cRn_doActions : ByteArray := prog_3_method_15_code
def yRn_doActions : MethodName := ⟨RRn, "doActions", "(III)I"⟩
abbrev cPg_blockLength : ByteArray := prog_2_method_9_code
def yPg_blockLength : MethodName := ⟨RPg, "blockLength", "(II)I"⟩
abbrev cPg_low : ByteArray := prog_2_method_7_code
def yPg_low : MethodName := ⟨RPg, "low", "(I)I"⟩
abbrev cRn_doAction : ByteArray := prog_3_method_16_code
def yRn_doAction : MethodName := ⟨RRn, "doAction", "(III)I"⟩
abbrev cPg_value : ByteArray := prog_2_method_6_code
def yPg_value : MethodName := ⟨RPg, "value", "(I)I"⟩
abbrev cPg_op : ByteArray := prog_2_method_5_code
def yPg_op : MethodName := ⟨RPg, "op", "(I)I"⟩
abbrev cRn_become : ByteArray := prog_3_method_11_code
def yRn_become : MethodName := ⟨RRn, "become", "(I)I"⟩
abbrev cRn_comesUp : ByteArray := prog_3_method_12_code
def yRn_comesUp : MethodName := ⟨RRn, "comesUp", "(II)I"⟩
abbrev cRn_isCell : ByteArray := prog_3_method_2_code
def yRn_isCell : MethodName := ⟨RRn, "isCell", "(I)Z"⟩
abbrev cRn_doKeep : ByteArray := prog_3_method_23_code
def yRn_doKeep : MethodName := ⟨RRn, "doKeep", "(I)I"⟩
abbrev cRn_doBreak : ByteArray := prog_3_method_24_code
def yRn_doBreak : MethodName := ⟨RRn, "doBreak", "(I)I"⟩
abbrev cPg_high : ByteArray := prog_2_method_8_code
def yPg_high : MethodName := ⟨RPg, "high", "(I)I"⟩
abbrev cRn_doThrow : ByteArray := prog_3_method_25_code
def yRn_doThrow : MethodName := ⟨RRn, "doThrow", "(I)I"⟩
abbrev cRn_ownComesUp : ByteArray := prog_3_method_13_code
def yRn_ownComesUp : MethodName := ⟨RRn, "ownComesUp", "(II)I"⟩
abbrev cRn_doInterrupt : ByteArray := prog_3_method_26_code
def yRn_doInterrupt : MethodName := ⟨RRn, "doInterrupt", "()I"⟩
abbrev cRn_doLook : ByteArray := prog_3_method_27_code
def yRn_doLook : MethodName := ⟨RRn, "doLook", "()I"⟩
abbrev cRn_doCatch : ByteArray := prog_3_method_17_code
def yRn_doCatch : MethodName := ⟨RRn, "doCatch", "(III)I"⟩
abbrev cRn_takes : ByteArray := prog_3_method_18_code
def yRn_takes : MethodName := ⟨RRn, "takes", "(II)Z"⟩
abbrev cRn_doFinally : ByteArray := prog_3_method_19_code
def yRn_doFinally : MethodName := ⟨RRn, "doFinally", "(III)I"⟩
abbrev cRn_doDrop : ByteArray := prog_3_method_20_code
def yRn_doDrop : MethodName := ⟨RRn, "doDrop", "(III)I"⟩
abbrev cRn_doHold : ByteArray := prog_3_method_21_code
def yRn_doHold : MethodName := ⟨RRn, "doHold", "(III)I"⟩
abbrev cRn_doRepeat : ByteArray := prog_3_method_22_code
def yRn_doRepeat : MethodName := ⟨RRn, "doRepeat", "(III)I"⟩
abbrev cRn_isHeld : ByteArray := prog_3_method_30_code
def yRn_isHeld : MethodName := ⟨RRn, "isHeld", "(I)Z"⟩
abbrev cRn_doSleep : ByteArray := prog_3_method_29_code
def yRn_doSleep : MethodName := ⟨RRn, "doSleep", "(I)I"⟩
abbrev cRn_doCount : ByteArray := prog_3_method_28_code
def yRn_doCount : MethodName := ⟨RRn, "doCount", "(I)I"⟩
abbrev cRn_outcome : ByteArray := prog_3_method_5_code
def yRn_outcome : MethodName := ⟨RRn, "outcome", "()I"⟩
abbrev cRn_counted : ByteArray := prog_3_method_6_code
def yRn_counted : MethodName := ⟨RRn, "counted", "()J"⟩
abbrev cEx_runAll : ByteArray := prog_1_method_5_code
def yEx_runAll : MethodName := ⟨REx, "runAll", "(I)I"⟩
abbrev cEx_told : ByteArray := prog_1_method_6_code
def yEx_told : MethodName := ⟨REx, "told", "(II)I"⟩
abbrev cRn_isKnown : ByteArray := prog_3_method_3_code
def yRn_isKnown : MethodName := ⟨RRn, "isKnown", "()Z"⟩
abbrev cRn_tell : ByteArray := prog_3_method_8_code
def yRn_tell : MethodName := ⟨RRn, "tell", "(I)I"⟩
abbrev cEx_cell : ByteArray := prog_1_method_7_code
def yEx_cell : MethodName := ⟨REx, "cell", "(II)I"⟩
abbrev cRn_cellAtEnd : ByteArray := prog_3_method_7_code
def yRn_cellAtEnd : MethodName := ⟨RRn, "cellAtEnd", "(I)I"⟩
abbrev cEx_counter : ByteArray := prog_1_method_8_code
def yEx_counter : MethodName := ⟨REx, "counter", "()J"⟩
abbrev cEx_count : ByteArray := prog_1_method_9_code
def yEx_count : MethodName := ⟨REx, "count", "(I)I"⟩
abbrev cMd_init : ByteArray := prog_5_method_1_code
def yMd_init : MethodName := ⟨RMd, "<init>", "()V"⟩
abbrev cMd_add : ByteArray := prog_5_method_4_code
def yMd_add : MethodName := ⟨RMd, "add", "(III)I"⟩
abbrev cMd_in : ByteArray := prog_5_method_2_code
def yMd_in : MethodName := ⟨RMd, "in", "(II)Z"⟩
abbrev cMd_forget : ByteArray := prog_5_method_3_code
def yMd_forget : MethodName := ⟨RMd, "forget", "(I)V"⟩
abbrev cMd_clear : ByteArray := prog_5_method_5_code
def yMd_clear : MethodName := ⟨RMd, "clear", "(I)I"⟩
abbrev cMd_run : ByteArray := prog_5_method_17_code
def yMd_run : MethodName := ⟨RMd, "run", "(IZ)I"⟩
abbrev cMd_perform : ByteArray := prog_5_method_16_code
def yMd_perform : MethodName := ⟨RMd, "perform", "(IZ)I"⟩
abbrev cMd_leave : ByteArray := prog_5_method_9_code
def yMd_leave : MethodName := ⟨RMd, "leave", "()V"⟩
abbrev cMd_kOf : ByteArray := prog_5_method_8_code
def yMd_kOf : MethodName := ⟨RMd, "kOf", "(I)I"⟩
abbrev cMd_takes : ByteArray := prog_5_method_7_code
def yMd_takes : MethodName := ⟨RMd, "takes", "(II)Z"⟩
abbrev cMd_raise : ByteArray := prog_5_method_6_code
def yMd_raise : MethodName := ⟨RMd, "raise", "(II)V"⟩
abbrev cMd_step : ByteArray := prog_5_method_15_code
def yMd_step : MethodName := ⟨RMd, "step", "(Z)V"⟩
abbrev cMd_enter : ByteArray := prog_5_method_10_code
def yMd_enter : MethodName := ⟨RMd, "enter", "(II)V"⟩
abbrev cMd_act : ByteArray := prog_5_method_14_code
def yMd_act : MethodName := ⟨RMd, "act", "(IIII)V"⟩
abbrev cMd_divide : ByteArray := prog_5_method_11_code
def yMd_divide : MethodName := ⟨RMd, "divide", "(IZ)V"⟩
abbrev cMd_touch : ByteArray := prog_5_method_12_code
def yMd_touch : MethodName := ⟨RMd, "touch", "(IZ)V"⟩
abbrev cMd_interrupted : ByteArray := prog_5_method_13_code
def yMd_interrupted : MethodName := ⟨RMd, "interrupted", "()V"⟩
abbrev cMd_runAll : ByteArray := prog_5_method_18_code
def yMd_runAll : MethodName := ⟨RMd, "runAll", "(I)I"⟩
abbrev cMd_told : ByteArray := prog_5_method_19_code
def yMd_told : MethodName := ⟨RMd, "told", "(II)I"⟩
abbrev cMd_cell : ByteArray := prog_5_method_20_code
def yMd_cell : MethodName := ⟨RMd, "cell", "(II)I"⟩
abbrev cMd_counter : ByteArray := prog_5_method_21_code
def yMd_counter : MethodName := ⟨RMd, "counter", "()J"⟩
abbrev cMd_count : ByteArray := prog_5_method_22_code
def yMd_count : MethodName := ⟨RMd, "count", "(I)I"⟩
end
section
theorem dEx_init_0 : decode cEx_init 0 = .ok (.aload_n 0, 1) := by decide +kernel
theorem dEx_init_1 : decode cEx_init 1 = .ok (.invokespecial 1, 3) := by decide +kernel
theorem dEx_init_4 : decode cEx_init 4 = .ok (.aload_n 0, 1) := by decide +kernel
theorem dEx_init_5 : decode cEx_init 5 = .ok (.bipush 6, 2) := by decide +kernel
theorem dEx_init_7 : decode cEx_init 7 = .ok (.anewarray 9, 3) := by decide +kernel
theorem dEx_init_10 : decode cEx_init 10 = .ok (.putfield 11, 3) := by decide +kernel
theorem dEx_init_13 : decode cEx_init 13 = .ok (.aload_n 0, 1) := by decide +kernel
theorem dEx_init_14 : decode cEx_init 14 = .ok (.bipush 6, 2) := by decide +kernel
theorem dEx_init_16 : decode cEx_init 16 = .ok (.anewarray 15, 3) := by decide +kernel
theorem dEx_init_19 : decode cEx_init 19 = .ok (.putfield 17, 3) := by decide +kernel
theorem dEx_init_22 : decode cEx_init 22 = .ok (.iconst 0, 1) := by decide +kernel
theorem dEx_init_23 : decode cEx_init 23 = .ok (.istore_n 1, 1) := by decide +kernel
theorem dEx_init_24 : decode cEx_init 24 = .ok (.iload_n 1, 1) := by decide +kernel
theorem dEx_init_25 : decode cEx_init 25 = .ok (.bipush 6, 2) := by decide +kernel
theorem dEx_init_27 : decode cEx_init 27 = .ok (.if_icmp .ge 41, 3) := by decide +kernel
theorem dEx_init_30 : decode cEx_init 30 = .ok (.aload_n 0, 1) := by decide +kernel
theorem dEx_init_31 : decode cEx_init 31 = .ok (.getfield 11, 3) := by decide +kernel
theorem dEx_init_34 : decode cEx_init 34 = .ok (.iload_n 1, 1) := by decide +kernel
theorem dEx_init_35 : decode cEx_init 35 = .ok (.new 9, 3) := by decide +kernel
theorem dEx_init_38 : decode cEx_init 38 = .ok (.dup, 1) := by decide +kernel
theorem dEx_init_39 : decode cEx_init 39 = .ok (.invokespecial 21, 3) := by decide +kernel
theorem dEx_init_42 : decode cEx_init 42 = .ok (.aastore, 1) := by decide +kernel
theorem dEx_init_43 : decode cEx_init 43 = .ok (.aload_n 0, 1) := by decide +kernel
theorem dEx_init_44 : decode cEx_init 44 = .ok (.getfield 17, 3) := by decide +kernel
theorem dEx_init_47 : decode cEx_init 47 = .ok (.iload_n 1, 1) := by decide +kernel
theorem dEx_init_48 : decode cEx_init 48 = .ok (.new 15, 3) := by decide +kernel
theorem dEx_init_51 : decode cEx_init 51 = .ok (.dup, 1) := by decide +kernel
theorem dEx_init_52 : decode cEx_init 52 = .ok (.aload_n 0, 1) := by decide +kernel
theorem dEx_init_53 : decode cEx_init 53 = .ok (.getfield 11, 3) := by decide +kernel
theorem dEx_init_56 : decode cEx_init 56 = .ok (.iload_n 1, 1) := by decide +kernel
theorem dEx_init_57 : decode cEx_init 57 = .ok (.aaload, 1) := by decide +kernel
theorem dEx_init_58 : decode cEx_init 58 = .ok (.invokespecial 22, 3) := by decide +kernel
theorem dEx_init_61 : decode cEx_init 61 = .ok (.aastore, 1) := by decide +kernel
theorem dEx_init_62 : decode cEx_init 62 = .ok (.iinc 1 1, 3) := by decide +kernel
theorem dEx_init_65 : decode cEx_init 65 = .ok (.goto (-41), 3) := by decide +kernel
theorem dEx_init_68 : decode cEx_init 68 = .ok (.return_, 1) := by decide +kernel
theorem dPg_init_0 : decode cPg_init 0 = .ok (.aload_n 0, 1) := by decide +kernel
theorem dPg_init_1 : decode cPg_init 1 = .ok (.invokespecial 3, 3) := by decide +kernel
theorem dPg_init_4 : decode cPg_init 4 = .ok (.aload_n 0, 1) := by decide +kernel
theorem dPg_init_5 : decode cPg_init 5 = .ok (.bipush 14, 2) := by decide +kernel
theorem dPg_init_7 : decode cPg_init 7 = .ok (.newarray .int, 2) := by decide +kernel
theorem dPg_init_9 : decode cPg_init 9 = .ok (.putfield 9, 3) := by decide +kernel
theorem dPg_init_12 : decode cPg_init 12 = .ok (.aload_n 0, 1) := by decide +kernel
theorem dPg_init_13 : decode cPg_init 13 = .ok (.bipush 14, 2) := by decide +kernel
theorem dPg_init_15 : decode cPg_init 15 = .ok (.newarray .int, 2) := by decide +kernel
theorem dPg_init_17 : decode cPg_init 17 = .ok (.putfield 15, 3) := by decide +kernel
theorem dPg_init_20 : decode cPg_init 20 = .ok (.return_, 1) := by decide +kernel
theorem dRn_init_0 : decode cRn_init 0 = .ok (.aload_n 0, 1) := by decide +kernel
theorem dRn_init_1 : decode cRn_init 1 = .ok (.invokespecial 3, 3) := by decide +kernel
theorem dRn_init_4 : decode cRn_init 4 = .ok (.aload_n 0, 1) := by decide +kernel
theorem dRn_init_5 : decode cRn_init 5 = .ok (.bipush 8, 2) := by decide +kernel
theorem dRn_init_7 : decode cRn_init 7 = .ok (.newarray .int, 2) := by decide +kernel
theorem dRn_init_9 : decode cRn_init 9 = .ok (.putfield 11, 3) := by decide +kernel
theorem dRn_init_12 : decode cRn_init 12 = .ok (.aload_n 0, 1) := by decide +kernel
theorem dRn_init_13 : decode cRn_init 13 = .ok (.iconst 2, 1) := by decide +kernel
theorem dRn_init_14 : decode cRn_init 14 = .ok (.newarray .int, 2) := by decide +kernel
theorem dRn_init_16 : decode cRn_init 16 = .ok (.putfield 15, 3) := by decide +kernel
theorem dRn_init_19 : decode cRn_init 19 = .ok (.aload_n 0, 1) := by decide +kernel
theorem dRn_init_20 : decode cRn_init 20 = .ok (.aload_n 1, 1) := by decide +kernel
theorem dRn_init_21 : decode cRn_init 21 = .ok (.putfield 18, 3) := by decide +kernel
theorem dRn_init_24 : decode cRn_init 24 = .ok (.return_, 1) := by decide +kernel
theorem dEx_add_0 : decode cEx_add 0 = .ok (.iload_n 1, 1) := by decide +kernel
theorem dEx_add_1 : decode cEx_add 1 = .ok (.invokestatic 25, 3) := by decide +kernel
theorem dEx_add_4 : decode cEx_add 4 = .ok (.ifCond .eq 22, 3) := by decide +kernel
theorem dEx_add_7 : decode cEx_add 7 = .ok (.iload_n 2, 1) := by decide +kernel
theorem dEx_add_8 : decode cEx_add 8 = .ok (.bipush 21, 2) := by decide +kernel
theorem dEx_add_10 : decode cEx_add 10 = .ok (.invokestatic 29, 3) := by decide +kernel
theorem dEx_add_13 : decode cEx_add 13 = .ok (.ifCond .eq 13, 3) := by decide +kernel
theorem dEx_add_16 : decode cEx_add 16 = .ok (.iload_n 3, 1) := by decide +kernel
theorem dEx_add_17 : decode cEx_add 17 = .ok (.sipush 255, 3) := by decide +kernel
theorem dEx_add_20 : decode cEx_add 20 = .ok (.invokestatic 29, 3) := by decide +kernel
theorem dEx_add_23 : decode cEx_add 23 = .ok (.ifCond .ne 5, 3) := by decide +kernel
theorem dEx_add_26 : decode cEx_add 26 = .ok (.iconst (-1), 1) := by decide +kernel
theorem dEx_add_27 : decode cEx_add 27 = .ok (.ireturn, 1) := by decide +kernel
theorem dEx_add_28 : decode cEx_add 28 = .ok (.aload_n 0, 1) := by decide +kernel
theorem dEx_add_29 : decode cEx_add 29 = .ok (.getfield 11, 3) := by decide +kernel
theorem dEx_add_32 : decode cEx_add 32 = .ok (.iload_n 1, 1) := by decide +kernel
theorem dEx_add_33 : decode cEx_add 33 = .ok (.aaload, 1) := by decide +kernel
theorem dEx_add_34 : decode cEx_add 34 = .ok (.iload_n 2, 1) := by decide +kernel
theorem dEx_add_35 : decode cEx_add 35 = .ok (.iload_n 3, 1) := by decide +kernel
theorem dEx_add_36 : decode cEx_add 36 = .ok (.invokevirtual 33, 3) := by decide +kernel
theorem dEx_add_39 : decode cEx_add 39 = .ok (.istore 4, 2) := by decide +kernel
theorem dEx_add_41 : decode cEx_add 41 = .ok (.iload 4, 2) := by decide +kernel
theorem dEx_add_43 : decode cEx_add 43 = .ok (.bipush (-2), 2) := by decide +kernel
theorem dEx_add_45 : decode cEx_add 45 = .ok (.if_icmp .eq 12, 3) := by decide +kernel
theorem dEx_add_48 : decode cEx_add 48 = .ok (.aload_n 0, 1) := by decide +kernel
theorem dEx_add_49 : decode cEx_add 49 = .ok (.getfield 17, 3) := by decide +kernel
theorem dEx_add_52 : decode cEx_add 52 = .ok (.iload_n 1, 1) := by decide +kernel
theorem dEx_add_53 : decode cEx_add 53 = .ok (.aaload, 1) := by decide +kernel
theorem dEx_add_54 : decode cEx_add 54 = .ok (.invokevirtual 37, 3) := by decide +kernel
theorem dEx_add_57 : decode cEx_add 57 = .ok (.iload 4, 2) := by decide +kernel
theorem dEx_add_59 : decode cEx_add 59 = .ok (.ireturn, 1) := by decide +kernel
theorem dEx_isProgram_0 : decode cEx_isProgram 0 = .ok (.iload_n 0, 1) := by decide +kernel
theorem dEx_isProgram_1 : decode cEx_isProgram 1 = .ok (.iconst 5, 1) := by decide +kernel
theorem dEx_isProgram_2 : decode cEx_isProgram 2 = .ok (.invokestatic 29, 3) := by decide +kernel
theorem dEx_isProgram_5 : decode cEx_isProgram 5 = .ok (.ireturn, 1) := by decide +kernel
theorem dEx_isWithin_0 : decode cEx_isWithin 0 = .ok (.iload_n 0, 1) := by decide +kernel
theorem dEx_isWithin_1 : decode cEx_isWithin 1 = .ok (.ifCond .lt 12, 3) := by decide +kernel
theorem dEx_isWithin_4 : decode cEx_isWithin 4 = .ok (.iload_n 0, 1) := by decide +kernel
theorem dEx_isWithin_5 : decode cEx_isWithin 5 = .ok (.iload_n 1, 1) := by decide +kernel
theorem dEx_isWithin_6 : decode cEx_isWithin 6 = .ok (.if_icmp .gt 7, 3) := by decide +kernel
theorem dEx_isWithin_9 : decode cEx_isWithin 9 = .ok (.iconst 1, 1) := by decide +kernel
theorem dEx_isWithin_10 : decode cEx_isWithin 10 = .ok (.goto 4, 3) := by decide +kernel
theorem dEx_isWithin_13 : decode cEx_isWithin 13 = .ok (.iconst 0, 1) := by decide +kernel
theorem dEx_isWithin_14 : decode cEx_isWithin 14 = .ok (.ireturn, 1) := by decide +kernel
theorem dPg_append_0 : decode cPg_append 0 = .ok (.aload_n 0, 1) := by decide +kernel
theorem dPg_append_1 : decode cPg_append 1 = .ok (.getfield 18, 3) := by decide +kernel
theorem dPg_append_4 : decode cPg_append 4 = .ok (.bipush 14, 2) := by decide +kernel
theorem dPg_append_6 : decode cPg_append 6 = .ok (.if_icmp .lt 6, 3) := by decide +kernel
theorem dPg_append_9 : decode cPg_append 9 = .ok (.bipush (-2), 2) := by decide +kernel
theorem dPg_append_11 : decode cPg_append 11 = .ok (.ireturn, 1) := by decide +kernel
theorem dPg_append_12 : decode cPg_append 12 = .ok (.aload_n 0, 1) := by decide +kernel
theorem dPg_append_13 : decode cPg_append 13 = .ok (.getfield 9, 3) := by decide +kernel
theorem dPg_append_16 : decode cPg_append 16 = .ok (.aload_n 0, 1) := by decide +kernel
theorem dPg_append_17 : decode cPg_append 17 = .ok (.getfield 18, 3) := by decide +kernel
theorem dPg_append_20 : decode cPg_append 20 = .ok (.iload_n 1, 1) := by decide +kernel
theorem dPg_append_21 : decode cPg_append 21 = .ok (.iastore, 1) := by decide +kernel
theorem dPg_append_22 : decode cPg_append 22 = .ok (.aload_n 0, 1) := by decide +kernel
theorem dPg_append_23 : decode cPg_append 23 = .ok (.getfield 15, 3) := by decide +kernel
theorem dPg_append_26 : decode cPg_append 26 = .ok (.aload_n 0, 1) := by decide +kernel
theorem dPg_append_27 : decode cPg_append 27 = .ok (.getfield 18, 3) := by decide +kernel
theorem dPg_append_30 : decode cPg_append 30 = .ok (.iload_n 2, 1) := by decide +kernel
theorem dPg_append_31 : decode cPg_append 31 = .ok (.iastore, 1) := by decide +kernel
theorem dPg_append_32 : decode cPg_append 32 = .ok (.aload_n 0, 1) := by decide +kernel
theorem dPg_append_33 : decode cPg_append 33 = .ok (.dup, 1) := by decide +kernel
theorem dPg_append_34 : decode cPg_append 34 = .ok (.getfield 18, 3) := by decide +kernel
theorem dPg_append_37 : decode cPg_append 37 = .ok (.iconst 1, 1) := by decide +kernel
theorem dPg_append_38 : decode cPg_append 38 = .ok (.iadd, 1) := by decide +kernel
theorem dPg_append_39 : decode cPg_append 39 = .ok (.putfield 18, 3) := by decide +kernel
theorem dPg_append_42 : decode cPg_append 42 = .ok (.aload_n 0, 1) := by decide +kernel
theorem dPg_append_43 : decode cPg_append 43 = .ok (.getfield 18, 3) := by decide +kernel
theorem dPg_append_46 : decode cPg_append 46 = .ok (.iconst 1, 1) := by decide +kernel
theorem dPg_append_47 : decode cPg_append 47 = .ok (.isub, 1) := by decide +kernel
theorem dPg_append_48 : decode cPg_append 48 = .ok (.ireturn, 1) := by decide +kernel
theorem dRn_forget_0 : decode cRn_forget 0 = .ok (.aload_n 0, 1) := by decide +kernel
theorem dRn_forget_1 : decode cRn_forget 1 = .ok (.iconst 0, 1) := by decide +kernel
theorem dRn_forget_2 : decode cRn_forget 2 = .ok (.putfield 26, 3) := by decide +kernel
theorem dRn_forget_5 : decode cRn_forget 5 = .ok (.return_, 1) := by decide +kernel
theorem dEx_clear_0 : decode cEx_clear 0 = .ok (.iload_n 1, 1) := by decide +kernel
theorem dEx_clear_1 : decode cEx_clear 1 = .ok (.invokestatic 25, 3) := by decide +kernel
theorem dEx_clear_4 : decode cEx_clear 4 = .ok (.ifCond .ne 5, 3) := by decide +kernel
theorem dEx_clear_7 : decode cEx_clear 7 = .ok (.iconst (-1), 1) := by decide +kernel
theorem dEx_clear_8 : decode cEx_clear 8 = .ok (.ireturn, 1) := by decide +kernel
theorem dEx_clear_9 : decode cEx_clear 9 = .ok (.aload_n 0, 1) := by decide +kernel
theorem dEx_clear_10 : decode cEx_clear 10 = .ok (.getfield 17, 3) := by decide +kernel
theorem dEx_clear_13 : decode cEx_clear 13 = .ok (.iload_n 1, 1) := by decide +kernel
theorem dEx_clear_14 : decode cEx_clear 14 = .ok (.aaload, 1) := by decide +kernel
theorem dEx_clear_15 : decode cEx_clear 15 = .ok (.invokevirtual 37, 3) := by decide +kernel
theorem dEx_clear_18 : decode cEx_clear 18 = .ok (.aload_n 0, 1) := by decide +kernel
theorem dEx_clear_19 : decode cEx_clear 19 = .ok (.getfield 11, 3) := by decide +kernel
theorem dEx_clear_22 : decode cEx_clear 22 = .ok (.iload_n 1, 1) := by decide +kernel
theorem dEx_clear_23 : decode cEx_clear 23 = .ok (.aaload, 1) := by decide +kernel
theorem dEx_clear_24 : decode cEx_clear 24 = .ok (.invokevirtual 40, 3) := by decide +kernel
theorem dEx_clear_27 : decode cEx_clear 27 = .ok (.iconst 0, 1) := by decide +kernel
theorem dEx_clear_28 : decode cEx_clear 28 = .ok (.ireturn, 1) := by decide +kernel
theorem dPg_empty_0 : decode cPg_empty 0 = .ok (.aload_n 0, 1) := by decide +kernel
theorem dPg_empty_1 : decode cPg_empty 1 = .ok (.iconst 0, 1) := by decide +kernel
theorem dPg_empty_2 : decode cPg_empty 2 = .ok (.putfield 18, 3) := by decide +kernel
theorem dPg_empty_5 : decode cPg_empty 5 = .ok (.return_, 1) := by decide +kernel
theorem dEx_run_0 : decode cEx_run 0 = .ok (.iload_n 1, 1) := by decide +kernel
theorem dEx_run_1 : decode cEx_run 1 = .ok (.invokestatic 25, 3) := by decide +kernel
theorem dEx_run_4 : decode cEx_run 4 = .ok (.ifCond .ne 5, 3) := by decide +kernel
theorem dEx_run_7 : decode cEx_run 7 = .ok (.iconst (-1), 1) := by decide +kernel
theorem dEx_run_8 : decode cEx_run 8 = .ok (.ireturn, 1) := by decide +kernel
theorem dEx_run_9 : decode cEx_run 9 = .ok (.aload_n 0, 1) := by decide +kernel
theorem dEx_run_10 : decode cEx_run 10 = .ok (.iload_n 1, 1) := by decide +kernel
theorem dEx_run_11 : decode cEx_run 11 = .ok (.iload_n 2, 1) := by decide +kernel
theorem dEx_run_12 : decode cEx_run 12 = .ok (.invokevirtual 43, 3) := by decide +kernel
theorem dEx_run_15 : decode cEx_run 15 = .ok (.ireturn, 1) := by decide +kernel
theorem dEx_perform_0 : decode cEx_perform 0 = .ok (.aload_n 0, 1) := by decide +kernel
theorem dEx_perform_1 : decode cEx_perform 1 = .ok (.getfield 17, 3) := by decide +kernel
theorem dEx_perform_4 : decode cEx_perform 4 = .ok (.iload_n 1, 1) := by decide +kernel
theorem dEx_perform_5 : decode cEx_perform 5 = .ok (.aaload, 1) := by decide +kernel
theorem dEx_perform_6 : decode cEx_perform 6 = .ok (.astore_n 3, 1) := by decide +kernel
theorem dEx_perform_7 : decode cEx_perform 7 = .ok (.aload_n 3, 1) := by decide +kernel
theorem dEx_perform_8 : decode cEx_perform 8 = .ok (.iload_n 2, 1) := by decide +kernel
theorem dEx_perform_9 : decode cEx_perform 9 = .ok (.ifCond .eq 10, 3) := by decide +kernel
theorem dEx_perform_12 : decode cEx_perform 12 = .ok (.bipush 20, 2) := by decide +kernel
theorem dEx_perform_14 : decode cEx_perform 14 = .ok (.iload_n 1, 1) := by decide +kernel
theorem dEx_perform_15 : decode cEx_perform 15 = .ok (.iadd, 1) := by decide +kernel
theorem dEx_perform_16 : decode cEx_perform 16 = .ok (.goto 5, 3) := by decide +kernel
theorem dEx_perform_19 : decode cEx_perform 19 = .ok (.bipush 10, 2) := by decide +kernel
theorem dEx_perform_21 : decode cEx_perform 21 = .ok (.invokevirtual 79, 3) := by decide +kernel
theorem dEx_perform_24 : decode cEx_perform 24 = .ok (.aload_n 0, 1) := by decide +kernel
theorem dEx_perform_25 : decode cEx_perform 25 = .ok (.dup, 1) := by decide +kernel
theorem dEx_perform_26 : decode cEx_perform 26 = .ok (.getfield 65, 3) := by decide +kernel
theorem dEx_perform_29 : decode cEx_perform 29 = .ok (.iconst 1, 1) := by decide +kernel
theorem dEx_perform_30 : decode cEx_perform 30 = .ok (.iadd, 1) := by decide +kernel
theorem dEx_perform_31 : decode cEx_perform 31 = .ok (.putfield 65, 3) := by decide +kernel
theorem dEx_perform_34 : decode cEx_perform 34 = .ok (.iload_n 2, 1) := by decide +kernel
theorem dEx_perform_35 : decode cEx_perform 35 = .ok (.ifCond .eq 13, 3) := by decide +kernel
theorem dEx_perform_38 : decode cEx_perform 38 = .ok (.aload_n 0, 1) := by decide +kernel
theorem dEx_perform_39 : decode cEx_perform 39 = .ok (.dup, 1) := by decide +kernel
theorem dEx_perform_40 : decode cEx_perform 40 = .ok (.getfield 69, 3) := by decide +kernel
theorem dEx_perform_43 : decode cEx_perform 43 = .ok (.iconst 1, 1) := by decide +kernel
theorem dEx_perform_44 : decode cEx_perform 44 = .ok (.iadd, 1) := by decide +kernel
theorem dEx_perform_45 : decode cEx_perform 45 = .ok (.putfield 69, 3) := by decide +kernel
theorem dEx_perform_48 : decode cEx_perform 48 = .ok (.aload_n 3, 1) := by decide +kernel
theorem dEx_perform_49 : decode cEx_perform 49 = .ok (.invokevirtual 82, 3) := by decide +kernel
theorem dEx_perform_52 : decode cEx_perform 52 = .ok (.ifCond .eq 13, 3) := by decide +kernel
theorem dEx_perform_55 : decode cEx_perform 55 = .ok (.aload_n 0, 1) := by decide +kernel
theorem dEx_perform_56 : decode cEx_perform 56 = .ok (.dup, 1) := by decide +kernel
theorem dEx_perform_57 : decode cEx_perform 57 = .ok (.getfield 72, 3) := by decide +kernel
theorem dEx_perform_60 : decode cEx_perform 60 = .ok (.iconst 1, 1) := by decide +kernel
theorem dEx_perform_61 : decode cEx_perform 61 = .ok (.iadd, 1) := by decide +kernel
theorem dEx_perform_62 : decode cEx_perform 62 = .ok (.putfield 72, 3) := by decide +kernel
theorem dEx_perform_65 : decode cEx_perform 65 = .ok (.aload_n 0, 1) := by decide +kernel
theorem dEx_perform_66 : decode cEx_perform 66 = .ok (.dup, 1) := by decide +kernel
theorem dEx_perform_67 : decode cEx_perform 67 = .ok (.getfield 61, 3) := by decide +kernel
theorem dEx_perform_70 : decode cEx_perform 70 = .ok (.aload_n 3, 1) := by decide +kernel
theorem dEx_perform_71 : decode cEx_perform 71 = .ok (.invokevirtual 85, 3) := by decide +kernel
theorem dEx_perform_74 : decode cEx_perform 74 = .ok (.ladd, 1) := by decide +kernel
theorem dEx_perform_75 : decode cEx_perform 75 = .ok (.putfield 61, 3) := by decide +kernel
theorem dEx_perform_78 : decode cEx_perform 78 = .ok (.aload_n 3, 1) := by decide +kernel
theorem dEx_perform_79 : decode cEx_perform 79 = .ok (.invokevirtual 82, 3) := by decide +kernel
theorem dEx_perform_82 : decode cEx_perform 82 = .ok (.ireturn, 1) := by decide +kernel
theorem dRn_perform_0 : decode cRn_perform 0 = .ok (.aload_n 0, 1) := by decide +kernel
theorem dRn_perform_1 : decode cRn_perform 1 = .ok (.iload_n 1, 1) := by decide +kernel
theorem dRn_perform_2 : decode cRn_perform 2 = .ok (.invokevirtual 63, 3) := by decide +kernel
theorem dRn_perform_5 : decode cRn_perform 5 = .ok (.aload_n 0, 1) := by decide +kernel
theorem dRn_perform_6 : decode cRn_perform 6 = .ok (.iconst 0, 1) := by decide +kernel
theorem dRn_perform_7 : decode cRn_perform 7 = .ok (.aload_n 0, 1) := by decide +kernel
theorem dRn_perform_8 : decode cRn_perform 8 = .ok (.getfield 18, 3) := by decide +kernel
theorem dRn_perform_11 : decode cRn_perform 11 = .ok (.invokevirtual 67, 3) := by decide +kernel
theorem dRn_perform_14 : decode cRn_perform 14 = .ok (.iconst 0, 1) := by decide +kernel
theorem dRn_perform_15 : decode cRn_perform 15 = .ok (.invokevirtual 72, 3) := by decide +kernel
theorem dRn_perform_18 : decode cRn_perform 18 = .ok (.pop, 1) := by decide +kernel
theorem dRn_perform_19 : decode cRn_perform 19 = .ok (.aload_n 0, 1) := by decide +kernel
theorem dRn_perform_20 : decode cRn_perform 20 = .ok (.iconst 1, 1) := by decide +kernel
theorem dRn_perform_21 : decode cRn_perform 21 = .ok (.putfield 26, 3) := by decide +kernel
theorem dRn_perform_24 : decode cRn_perform 24 = .ok (.return_, 1) := by decide +kernel
theorem dRn_begin_0 : decode cRn_begin 0 = .ok (.aload_n 0, 1) := by decide +kernel
theorem dRn_begin_1 : decode cRn_begin 1 = .ok (.iload_n 1, 1) := by decide +kernel
theorem dRn_begin_2 : decode cRn_begin 2 = .ok (.putfield 76, 3) := by decide +kernel
theorem dRn_begin_5 : decode cRn_begin 5 = .ok (.aload_n 0, 1) := by decide +kernel
theorem dRn_begin_6 : decode cRn_begin 6 = .ok (.iconst 0, 1) := by decide +kernel
theorem dRn_begin_7 : decode cRn_begin 7 = .ok (.putfield 42, 3) := by decide +kernel
theorem dRn_begin_10 : decode cRn_begin 10 = .ok (.aload_n 0, 1) := by decide +kernel
theorem dRn_begin_11 : decode cRn_begin 11 = .ok (.iconst 0, 1) := by decide +kernel
theorem dRn_begin_12 : decode cRn_begin 12 = .ok (.putfield 45, 3) := by decide +kernel
theorem dRn_begin_15 : decode cRn_begin 15 = .ok (.aload_n 0, 1) := by decide +kernel
theorem dRn_begin_16 : decode cRn_begin 16 = .ok (.iconst 0, 1) := by decide +kernel
theorem dRn_begin_17 : decode cRn_begin 17 = .ok (.putfield 48, 3) := by decide +kernel
theorem dRn_begin_20 : decode cRn_begin 20 = .ok (.aload_n 0, 1) := by decide +kernel
theorem dRn_begin_21 : decode cRn_begin 21 = .ok (.iconst 0, 1) := by decide +kernel
theorem dRn_begin_22 : decode cRn_begin 22 = .ok (.putfield 51, 3) := by decide +kernel
theorem dRn_begin_25 : decode cRn_begin 25 = .ok (.aload_n 0, 1) := by decide +kernel
theorem dRn_begin_26 : decode cRn_begin 26 = .ok (.iconst 0, 1) := by decide +kernel
theorem dRn_begin_27 : decode cRn_begin 27 = .ok (.putfield 60, 3) := by decide +kernel
theorem dRn_begin_30 : decode cRn_begin 30 = .ok (.aload_n 0, 1) := by decide +kernel
theorem dRn_begin_31 : decode cRn_begin 31 = .ok (.lconst 0, 1) := by decide +kernel
theorem dRn_begin_32 : decode cRn_begin 32 = .ok (.putfield 34, 3) := by decide +kernel
theorem dRn_begin_35 : decode cRn_begin 35 = .ok (.iconst 0, 1) := by decide +kernel
theorem dRn_begin_36 : decode cRn_begin 36 = .ok (.istore_n 2, 1) := by decide +kernel
theorem dRn_begin_37 : decode cRn_begin 37 = .ok (.iload_n 2, 1) := by decide +kernel
theorem dRn_begin_38 : decode cRn_begin 38 = .ok (.bipush 8, 2) := by decide +kernel
theorem dRn_begin_40 : decode cRn_begin 40 = .ok (.if_icmp .ge 16, 3) := by decide +kernel
theorem dRn_begin_43 : decode cRn_begin 43 = .ok (.aload_n 0, 1) := by decide +kernel
theorem dRn_begin_44 : decode cRn_begin 44 = .ok (.getfield 11, 3) := by decide +kernel
theorem dRn_begin_47 : decode cRn_begin 47 = .ok (.iload_n 2, 1) := by decide +kernel
theorem dRn_begin_48 : decode cRn_begin 48 = .ok (.iconst 0, 1) := by decide +kernel
theorem dRn_begin_49 : decode cRn_begin 49 = .ok (.iastore, 1) := by decide +kernel
theorem dRn_begin_50 : decode cRn_begin 50 = .ok (.iinc 2 1, 3) := by decide +kernel
theorem dRn_begin_53 : decode cRn_begin 53 = .ok (.goto (-16), 3) := by decide +kernel
theorem dRn_begin_56 : decode cRn_begin 56 = .ok (.iconst 0, 1) := by decide +kernel
theorem dRn_begin_57 : decode cRn_begin 57 = .ok (.istore_n 2, 1) := by decide +kernel
theorem dRn_begin_58 : decode cRn_begin 58 = .ok (.iload_n 2, 1) := by decide +kernel
theorem dRn_begin_59 : decode cRn_begin 59 = .ok (.iconst 2, 1) := by decide +kernel
theorem dRn_begin_60 : decode cRn_begin 60 = .ok (.if_icmp .ge 16, 3) := by decide +kernel
theorem dRn_begin_63 : decode cRn_begin 63 = .ok (.aload_n 0, 1) := by decide +kernel
theorem dRn_begin_64 : decode cRn_begin 64 = .ok (.getfield 15, 3) := by decide +kernel
theorem dRn_begin_67 : decode cRn_begin 67 = .ok (.iload_n 2, 1) := by decide +kernel
theorem dRn_begin_68 : decode cRn_begin 68 = .ok (.iconst 0, 1) := by decide +kernel
theorem dRn_begin_69 : decode cRn_begin 69 = .ok (.iastore, 1) := by decide +kernel
theorem dRn_begin_70 : decode cRn_begin 70 = .ok (.iinc 2 1, 3) := by decide +kernel
theorem dRn_begin_73 : decode cRn_begin 73 = .ok (.goto (-15), 3) := by decide +kernel
theorem dRn_begin_76 : decode cRn_begin 76 = .ok (.aload_n 0, 1) := by decide +kernel
theorem dRn_begin_77 : decode cRn_begin 77 = .ok (.invokevirtual 79, 3) := by decide +kernel
theorem dRn_begin_80 : decode cRn_begin 80 = .ok (.return_, 1) := by decide +kernel
theorem dRn_forgetTrouble_0 : decode cRn_forgetTrouble 0 = .ok (.aload_n 0, 1) := by decide +kernel
theorem dRn_forgetTrouble_1 : decode cRn_forgetTrouble 1 = .ok (.iconst (-1), 1) := by decide +kernel
theorem dRn_forgetTrouble_2 : decode cRn_forgetTrouble 2 = .ok (.putfield 30, 3) := by decide +kernel
theorem dRn_forgetTrouble_5 : decode cRn_forgetTrouble 5 = .ok (.aload_n 0, 1) := by decide +kernel
theorem dRn_forgetTrouble_6 : decode cRn_forgetTrouble 6 = .ok (.iconst (-1), 1) := by decide +kernel
theorem dRn_forgetTrouble_7 : decode cRn_forgetTrouble 7 = .ok (.putfield 54, 3) := by decide +kernel
theorem dRn_forgetTrouble_10 : decode cRn_forgetTrouble 10 = .ok (.aload_n 0, 1) := by decide +kernel
theorem dRn_forgetTrouble_11 : decode cRn_forgetTrouble 11 = .ok (.iconst (-1), 1) := by decide +kernel
theorem dRn_forgetTrouble_12 : decode cRn_forgetTrouble 12 = .ok (.putfield 57, 3) := by decide +kernel
theorem dRn_forgetTrouble_15 : decode cRn_forgetTrouble 15 = .ok (.return_, 1) := by decide +kernel
theorem dPg_size_0 : decode cPg_size 0 = .ok (.aload_n 0, 1) := by decide +kernel
theorem dPg_size_1 : decode cPg_size 1 = .ok (.getfield 18, 3) := by decide +kernel
theorem dPg_size_4 : decode cPg_size 4 = .ok (.ireturn, 1) := by decide +kernel
theorem dRn_doActions_0 : decode cRn_doActions 0 = .ok (.iload_n 3, 1) := by decide +kernel
theorem dRn_doActions_1 : decode cRn_doActions 1 = .ok (.bipush 14, 2) := by decide +kernel
theorem dRn_doActions_3 : decode cRn_doActions 3 = .ok (.if_icmp .le 5, 3) := by decide +kernel
theorem dRn_doActions_6 : decode cRn_doActions 6 = .ok (.iconst 1, 1) := by decide +kernel
theorem dRn_doActions_7 : decode cRn_doActions 7 = .ok (.ireturn, 1) := by decide +kernel
theorem dRn_doActions_8 : decode cRn_doActions 8 = .ok (.iload_n 1, 1) := by decide +kernel
theorem dRn_doActions_9 : decode cRn_doActions 9 = .ok (.istore 4, 2) := by decide +kernel
theorem dRn_doActions_11 : decode cRn_doActions 11 = .ok (.iload 4, 2) := by decide +kernel
theorem dRn_doActions_13 : decode cRn_doActions 13 = .ok (.iload_n 2, 1) := by decide +kernel
theorem dRn_doActions_14 : decode cRn_doActions 14 = .ok (.if_icmp .ge 74, 3) := by decide +kernel
theorem dRn_doActions_17 : decode cRn_doActions 17 = .ok (.aload_n 0, 1) := by decide +kernel
theorem dRn_doActions_18 : decode cRn_doActions 18 = .ok (.getfield 45, 3) := by decide +kernel
theorem dRn_doActions_21 : decode cRn_doActions 21 = .ok (.sipush 400, 3) := by decide +kernel
theorem dRn_doActions_24 : decode cRn_doActions 24 = .ok (.if_icmp .lt 5, 3) := by decide +kernel
theorem dRn_doActions_27 : decode cRn_doActions 27 = .ok (.iconst 1, 1) := by decide +kernel
theorem dRn_doActions_28 : decode cRn_doActions 28 = .ok (.ireturn, 1) := by decide +kernel
theorem dRn_doActions_29 : decode cRn_doActions 29 = .ok (.aload_n 0, 1) := by decide +kernel
theorem dRn_doActions_30 : decode cRn_doActions 30 = .ok (.dup, 1) := by decide +kernel
theorem dRn_doActions_31 : decode cRn_doActions 31 = .ok (.getfield 45, 3) := by decide +kernel
theorem dRn_doActions_34 : decode cRn_doActions 34 = .ok (.iconst 1, 1) := by decide +kernel
theorem dRn_doActions_35 : decode cRn_doActions 35 = .ok (.iadd, 1) := by decide +kernel
theorem dRn_doActions_36 : decode cRn_doActions 36 = .ok (.putfield 45, 3) := by decide +kernel
theorem dRn_doActions_39 : decode cRn_doActions 39 = .ok (.aload_n 0, 1) := by decide +kernel
theorem dRn_doActions_40 : decode cRn_doActions 40 = .ok (.getfield 18, 3) := by decide +kernel
theorem dRn_doActions_43 : decode cRn_doActions 43 = .ok (.iload 4, 2) := by decide +kernel
theorem dRn_doActions_45 : decode cRn_doActions 45 = .ok (.iload_n 2, 1) := by decide +kernel
theorem dRn_doActions_46 : decode cRn_doActions 46 = .ok (.invokevirtual 82, 3) := by decide +kernel
theorem dRn_doActions_49 : decode cRn_doActions 49 = .ok (.istore 5, 2) := by decide +kernel
theorem dRn_doActions_51 : decode cRn_doActions 51 = .ok (.aload_n 0, 1) := by decide +kernel
theorem dRn_doActions_52 : decode cRn_doActions 52 = .ok (.iload 4, 2) := by decide +kernel
theorem dRn_doActions_54 : decode cRn_doActions 54 = .ok (.iload 4, 2) := by decide +kernel
theorem dRn_doActions_56 : decode cRn_doActions 56 = .ok (.iconst 1, 1) := by decide +kernel
theorem dRn_doActions_57 : decode cRn_doActions 57 = .ok (.iadd, 1) := by decide +kernel
theorem dRn_doActions_58 : decode cRn_doActions 58 = .ok (.iload 5, 2) := by decide +kernel
theorem dRn_doActions_60 : decode cRn_doActions 60 = .ok (.iadd, 1) := by decide +kernel
theorem dRn_doActions_61 : decode cRn_doActions 61 = .ok (.iload_n 3, 1) := by decide +kernel
theorem dRn_doActions_62 : decode cRn_doActions 62 = .ok (.invokevirtual 86, 3) := by decide +kernel
theorem dRn_doActions_65 : decode cRn_doActions 65 = .ok (.istore 6, 2) := by decide +kernel
theorem dRn_doActions_67 : decode cRn_doActions 67 = .ok (.iload 6, 2) := by decide +kernel
theorem dRn_doActions_69 : decode cRn_doActions 69 = .ok (.ifCond .eq 6, 3) := by decide +kernel
theorem dRn_doActions_72 : decode cRn_doActions 72 = .ok (.iload 6, 2) := by decide +kernel
theorem dRn_doActions_74 : decode cRn_doActions 74 = .ok (.ireturn, 1) := by decide +kernel
theorem dRn_doActions_75 : decode cRn_doActions 75 = .ok (.iload 4, 2) := by decide +kernel
theorem dRn_doActions_77 : decode cRn_doActions 77 = .ok (.iload 5, 2) := by decide +kernel
theorem dRn_doActions_79 : decode cRn_doActions 79 = .ok (.iadd, 1) := by decide +kernel
theorem dRn_doActions_80 : decode cRn_doActions 80 = .ok (.istore 4, 2) := by decide +kernel
theorem dRn_doActions_82 : decode cRn_doActions 82 = .ok (.iinc 4 1, 3) := by decide +kernel
theorem dRn_doActions_85 : decode cRn_doActions 85 = .ok (.goto (-74), 3) := by decide +kernel
theorem dRn_doActions_88 : decode cRn_doActions 88 = .ok (.iconst 0, 1) := by decide +kernel
theorem dRn_doActions_89 : decode cRn_doActions 89 = .ok (.ireturn, 1) := by decide +kernel
theorem dPg_blockLength_0 : decode cPg_blockLength 0 = .ok (.aload_n 0, 1) := by decide +kernel
theorem dPg_blockLength_1 : decode cPg_blockLength 1 = .ok (.getfield 9, 3) := by decide +kernel
theorem dPg_blockLength_4 : decode cPg_blockLength 4 = .ok (.iload_n 1, 1) := by decide +kernel
theorem dPg_blockLength_5 : decode cPg_blockLength 5 = .ok (.iaload, 1) := by decide +kernel
theorem dPg_blockLength_6 : decode cPg_blockLength 6 = .ok (.bipush 10, 2) := by decide +kernel
theorem dPg_blockLength_8 : decode cPg_blockLength 8 = .ok (.if_icmp .lt 14, 3) := by decide +kernel
theorem dPg_blockLength_11 : decode cPg_blockLength 11 = .ok (.aload_n 0, 1) := by decide +kernel
theorem dPg_blockLength_12 : decode cPg_blockLength 12 = .ok (.getfield 9, 3) := by decide +kernel
theorem dPg_blockLength_15 : decode cPg_blockLength 15 = .ok (.iload_n 1, 1) := by decide +kernel
theorem dPg_blockLength_16 : decode cPg_blockLength 16 = .ok (.iaload, 1) := by decide +kernel
theorem dPg_blockLength_17 : decode cPg_blockLength 17 = .ok (.bipush 14, 2) := by decide +kernel
theorem dPg_blockLength_19 : decode cPg_blockLength 19 = .ok (.if_icmp .le 5, 3) := by decide +kernel
theorem dPg_blockLength_22 : decode cPg_blockLength 22 = .ok (.iconst 0, 1) := by decide +kernel
theorem dPg_blockLength_23 : decode cPg_blockLength 23 = .ok (.ireturn, 1) := by decide +kernel
theorem dPg_blockLength_24 : decode cPg_blockLength 24 = .ok (.aload_n 0, 1) := by decide +kernel
theorem dPg_blockLength_25 : decode cPg_blockLength 25 = .ok (.iload_n 1, 1) := by decide +kernel
theorem dPg_blockLength_26 : decode cPg_blockLength 26 = .ok (.invokevirtual 24, 3) := by decide +kernel
theorem dPg_blockLength_29 : decode cPg_blockLength 29 = .ok (.iload_n 2, 1) := by decide +kernel
theorem dPg_blockLength_30 : decode cPg_blockLength 30 = .ok (.iload_n 1, 1) := by decide +kernel
theorem dPg_blockLength_31 : decode cPg_blockLength 31 = .ok (.isub, 1) := by decide +kernel
theorem dPg_blockLength_32 : decode cPg_blockLength 32 = .ok (.iconst 1, 1) := by decide +kernel
theorem dPg_blockLength_33 : decode cPg_blockLength 33 = .ok (.isub, 1) := by decide +kernel
theorem dPg_blockLength_34 : decode cPg_blockLength 34 = .ok (.invokestatic 28, 3) := by decide +kernel
theorem dPg_blockLength_37 : decode cPg_blockLength 37 = .ok (.ireturn, 1) := by decide +kernel
theorem dPg_low_0 : decode cPg_low 0 = .ok (.aload_n 0, 1) := by decide +kernel
theorem dPg_low_1 : decode cPg_low 1 = .ok (.getfield 15, 3) := by decide +kernel
theorem dPg_low_4 : decode cPg_low 4 = .ok (.iload_n 1, 1) := by decide +kernel
theorem dPg_low_5 : decode cPg_low 5 = .ok (.iaload, 1) := by decide +kernel
theorem dPg_low_6 : decode cPg_low 6 = .ok (.bipush 16, 2) := by decide +kernel
theorem dPg_low_8 : decode cPg_low 8 = .ok (.irem, 1) := by decide +kernel
theorem dPg_low_9 : decode cPg_low 9 = .ok (.ireturn, 1) := by decide +kernel
theorem dRn_doAction_0 : decode cRn_doAction 0 = .ok (.aload_n 0, 1) := by decide +kernel
theorem dRn_doAction_1 : decode cRn_doAction 1 = .ok (.getfield 18, 3) := by decide +kernel
theorem dRn_doAction_4 : decode cRn_doAction 4 = .ok (.iload_n 1, 1) := by decide +kernel
theorem dRn_doAction_5 : decode cRn_doAction 5 = .ok (.invokevirtual 89, 3) := by decide +kernel
theorem dRn_doAction_8 : decode cRn_doAction 8 = .ok (.istore 4, 2) := by decide +kernel
theorem dRn_doAction_10 : decode cRn_doAction 10 = .ok (.aload_n 0, 1) := by decide +kernel
theorem dRn_doAction_11 : decode cRn_doAction 11 = .ok (.getfield 18, 3) := by decide +kernel
theorem dRn_doAction_14 : decode cRn_doAction 14 = .ok (.iload_n 1, 1) := by decide +kernel
theorem dRn_doAction_15 : decode cRn_doAction 15 = .ok (.invokevirtual 93, 3) := by decide +kernel
theorem dRn_doAction_18 : decode cRn_doAction 18 = .ok (.tableswitch 360 0 21 #[102, 114, 126, 152, 178, 207, 213, 219, 225, 230, 235, 243, 251, 259, 267, 275, 295, 319, 325, 343, 349, 351], 102) := by decide +kernel
theorem dRn_doAction_120 : decode cRn_doAction 120 = .ok (.aload_n 0, 1) := by decide +kernel
theorem dRn_doAction_121 : decode cRn_doAction 121 = .ok (.aload_n 0, 1) := by decide +kernel
theorem dRn_doAction_122 : decode cRn_doAction 122 = .ok (.getfield 42, 3) := by decide +kernel
theorem dRn_doAction_125 : decode cRn_doAction 125 = .ok (.iload 4, 2) := by decide +kernel
theorem dRn_doAction_127 : decode cRn_doAction 127 = .ok (.iadd, 1) := by decide +kernel
theorem dRn_doAction_128 : decode cRn_doAction 128 = .ok (.invokevirtual 96, 3) := by decide +kernel
theorem dRn_doAction_131 : decode cRn_doAction 131 = .ok (.ireturn, 1) := by decide +kernel
theorem dRn_doAction_132 : decode cRn_doAction 132 = .ok (.aload_n 0, 1) := by decide +kernel
theorem dRn_doAction_133 : decode cRn_doAction 133 = .ok (.aload_n 0, 1) := by decide +kernel
theorem dRn_doAction_134 : decode cRn_doAction 134 = .ok (.getfield 42, 3) := by decide +kernel
theorem dRn_doAction_137 : decode cRn_doAction 137 = .ok (.iload 4, 2) := by decide +kernel
theorem dRn_doAction_139 : decode cRn_doAction 139 = .ok (.imul, 1) := by decide +kernel
theorem dRn_doAction_140 : decode cRn_doAction 140 = .ok (.invokevirtual 96, 3) := by decide +kernel
theorem dRn_doAction_143 : decode cRn_doAction 143 = .ok (.ireturn, 1) := by decide +kernel
theorem dRn_doAction_144 : decode cRn_doAction 144 = .ok (.iload 4, 2) := by decide +kernel
theorem dRn_doAction_146 : decode cRn_doAction 146 = .ok (.ifCond .ne 12, 3) := by decide +kernel
theorem dRn_doAction_149 : decode cRn_doAction 149 = .ok (.aload_n 0, 1) := by decide +kernel
theorem dRn_doAction_150 : decode cRn_doAction 150 = .ok (.iload_n 1, 1) := by decide +kernel
theorem dRn_doAction_151 : decode cRn_doAction 151 = .ok (.iconst 0, 1) := by decide +kernel
theorem dRn_doAction_152 : decode cRn_doAction 152 = .ok (.invokevirtual 99, 3) := by decide +kernel
theorem dRn_doAction_155 : decode cRn_doAction 155 = .ok (.goto 14, 3) := by decide +kernel
theorem dRn_doAction_158 : decode cRn_doAction 158 = .ok (.aload_n 0, 1) := by decide +kernel
theorem dRn_doAction_159 : decode cRn_doAction 159 = .ok (.aload_n 0, 1) := by decide +kernel
theorem dRn_doAction_160 : decode cRn_doAction 160 = .ok (.getfield 42, 3) := by decide +kernel
theorem dRn_doAction_163 : decode cRn_doAction 163 = .ok (.iload 4, 2) := by decide +kernel
theorem dRn_doAction_165 : decode cRn_doAction 165 = .ok (.idiv, 1) := by decide +kernel
theorem dRn_doAction_166 : decode cRn_doAction 166 = .ok (.invokevirtual 96, 3) := by decide +kernel
theorem dRn_doAction_169 : decode cRn_doAction 169 = .ok (.ireturn, 1) := by decide +kernel
theorem dRn_doAction_170 : decode cRn_doAction 170 = .ok (.iload 4, 2) := by decide +kernel
theorem dRn_doAction_172 : decode cRn_doAction 172 = .ok (.ifCond .ne 12, 3) := by decide +kernel
theorem dRn_doAction_175 : decode cRn_doAction 175 = .ok (.aload_n 0, 1) := by decide +kernel
theorem dRn_doAction_176 : decode cRn_doAction 176 = .ok (.iload_n 1, 1) := by decide +kernel
theorem dRn_doAction_177 : decode cRn_doAction 177 = .ok (.iconst 0, 1) := by decide +kernel
theorem dRn_doAction_178 : decode cRn_doAction 178 = .ok (.invokevirtual 99, 3) := by decide +kernel
theorem dRn_doAction_181 : decode cRn_doAction 181 = .ok (.goto 14, 3) := by decide +kernel
theorem dRn_doAction_184 : decode cRn_doAction 184 = .ok (.aload_n 0, 1) := by decide +kernel
theorem dRn_doAction_185 : decode cRn_doAction 185 = .ok (.aload_n 0, 1) := by decide +kernel
theorem dRn_doAction_186 : decode cRn_doAction 186 = .ok (.getfield 42, 3) := by decide +kernel
theorem dRn_doAction_189 : decode cRn_doAction 189 = .ok (.iload 4, 2) := by decide +kernel
theorem dRn_doAction_191 : decode cRn_doAction 191 = .ok (.irem, 1) := by decide +kernel
theorem dRn_doAction_192 : decode cRn_doAction 192 = .ok (.invokevirtual 96, 3) := by decide +kernel
theorem dRn_doAction_195 : decode cRn_doAction 195 = .ok (.ireturn, 1) := by decide +kernel
theorem dRn_doAction_196 : decode cRn_doAction 196 = .ok (.iload 4, 2) := by decide +kernel
theorem dRn_doAction_198 : decode cRn_doAction 198 = .ok (.invokestatic 102, 3) := by decide +kernel
theorem dRn_doAction_201 : decode cRn_doAction 201 = .ok (.ifCond .eq 17, 3) := by decide +kernel
theorem dRn_doAction_204 : decode cRn_doAction 204 = .ok (.aload_n 0, 1) := by decide +kernel
theorem dRn_doAction_205 : decode cRn_doAction 205 = .ok (.aload_n 0, 1) := by decide +kernel
theorem dRn_doAction_206 : decode cRn_doAction 206 = .ok (.getfield 11, 3) := by decide +kernel
theorem dRn_doAction_209 : decode cRn_doAction 209 = .ok (.iload 4, 2) := by decide +kernel
theorem dRn_doAction_211 : decode cRn_doAction 211 = .ok (.iaload, 1) := by decide +kernel
theorem dRn_doAction_212 : decode cRn_doAction 212 = .ok (.invokevirtual 96, 3) := by decide +kernel
theorem dRn_doAction_215 : decode cRn_doAction 215 = .ok (.goto 9, 3) := by decide +kernel
theorem dRn_doAction_218 : decode cRn_doAction 218 = .ok (.aload_n 0, 1) := by decide +kernel
theorem dRn_doAction_219 : decode cRn_doAction 219 = .ok (.iload_n 1, 1) := by decide +kernel
theorem dRn_doAction_220 : decode cRn_doAction 220 = .ok (.iconst 1, 1) := by decide +kernel
theorem dRn_doAction_221 : decode cRn_doAction 221 = .ok (.invokevirtual 99, 3) := by decide +kernel
theorem dRn_doAction_224 : decode cRn_doAction 224 = .ok (.ireturn, 1) := by decide +kernel
theorem dRn_doAction_225 : decode cRn_doAction 225 = .ok (.aload_n 0, 1) := by decide +kernel
theorem dRn_doAction_226 : decode cRn_doAction 226 = .ok (.iload_n 1, 1) := by decide +kernel
theorem dRn_doAction_227 : decode cRn_doAction 227 = .ok (.invokevirtual 106, 3) := by decide +kernel
theorem dRn_doAction_230 : decode cRn_doAction 230 = .ok (.ireturn, 1) := by decide +kernel
theorem dRn_doAction_231 : decode cRn_doAction 231 = .ok (.aload_n 0, 1) := by decide +kernel
theorem dRn_doAction_232 : decode cRn_doAction 232 = .ok (.iload_n 1, 1) := by decide +kernel
theorem dRn_doAction_233 : decode cRn_doAction 233 = .ok (.invokevirtual 109, 3) := by decide +kernel
theorem dRn_doAction_236 : decode cRn_doAction 236 = .ok (.ireturn, 1) := by decide +kernel
theorem dRn_doAction_237 : decode cRn_doAction 237 = .ok (.aload_n 0, 1) := by decide +kernel
theorem dRn_doAction_238 : decode cRn_doAction 238 = .ok (.iload_n 1, 1) := by decide +kernel
theorem dRn_doAction_239 : decode cRn_doAction 239 = .ok (.invokevirtual 112, 3) := by decide +kernel
theorem dRn_doAction_242 : decode cRn_doAction 242 = .ok (.ireturn, 1) := by decide +kernel
theorem dRn_doAction_243 : decode cRn_doAction 243 = .ok (.aload_n 0, 1) := by decide +kernel
theorem dRn_doAction_244 : decode cRn_doAction 244 = .ok (.invokevirtual 115, 3) := by decide +kernel
theorem dRn_doAction_247 : decode cRn_doAction 247 = .ok (.ireturn, 1) := by decide +kernel
theorem dRn_doAction_248 : decode cRn_doAction 248 = .ok (.aload_n 0, 1) := by decide +kernel
theorem dRn_doAction_249 : decode cRn_doAction 249 = .ok (.invokevirtual 118, 3) := by decide +kernel
theorem dRn_doAction_252 : decode cRn_doAction 252 = .ok (.ireturn, 1) := by decide +kernel
theorem dRn_doAction_253 : decode cRn_doAction 253 = .ok (.aload_n 0, 1) := by decide +kernel
theorem dRn_doAction_254 : decode cRn_doAction 254 = .ok (.iload_n 1, 1) := by decide +kernel
theorem dRn_doAction_255 : decode cRn_doAction 255 = .ok (.iload_n 2, 1) := by decide +kernel
theorem dRn_doAction_256 : decode cRn_doAction 256 = .ok (.iload_n 3, 1) := by decide +kernel
theorem dRn_doAction_257 : decode cRn_doAction 257 = .ok (.invokevirtual 121, 3) := by decide +kernel
theorem dRn_doAction_260 : decode cRn_doAction 260 = .ok (.ireturn, 1) := by decide +kernel
theorem dRn_doAction_261 : decode cRn_doAction 261 = .ok (.aload_n 0, 1) := by decide +kernel
theorem dRn_doAction_262 : decode cRn_doAction 262 = .ok (.iload_n 1, 1) := by decide +kernel
theorem dRn_doAction_263 : decode cRn_doAction 263 = .ok (.iload_n 2, 1) := by decide +kernel
theorem dRn_doAction_264 : decode cRn_doAction 264 = .ok (.iload_n 3, 1) := by decide +kernel
theorem dRn_doAction_265 : decode cRn_doAction 265 = .ok (.invokevirtual 124, 3) := by decide +kernel
theorem dRn_doAction_268 : decode cRn_doAction 268 = .ok (.ireturn, 1) := by decide +kernel
theorem dRn_doAction_269 : decode cRn_doAction 269 = .ok (.aload_n 0, 1) := by decide +kernel
theorem dRn_doAction_270 : decode cRn_doAction 270 = .ok (.iload_n 1, 1) := by decide +kernel
theorem dRn_doAction_271 : decode cRn_doAction 271 = .ok (.iload_n 2, 1) := by decide +kernel
theorem dRn_doAction_272 : decode cRn_doAction 272 = .ok (.iload_n 3, 1) := by decide +kernel
theorem dRn_doAction_273 : decode cRn_doAction 273 = .ok (.invokevirtual 127, 3) := by decide +kernel
theorem dRn_doAction_276 : decode cRn_doAction 276 = .ok (.ireturn, 1) := by decide +kernel
theorem dRn_doAction_277 : decode cRn_doAction 277 = .ok (.aload_n 0, 1) := by decide +kernel
theorem dRn_doAction_278 : decode cRn_doAction 278 = .ok (.iload_n 1, 1) := by decide +kernel
theorem dRn_doAction_279 : decode cRn_doAction 279 = .ok (.iload_n 2, 1) := by decide +kernel
theorem dRn_doAction_280 : decode cRn_doAction 280 = .ok (.iload_n 3, 1) := by decide +kernel
theorem dRn_doAction_281 : decode cRn_doAction 281 = .ok (.invokevirtual 130, 3) := by decide +kernel
theorem dRn_doAction_284 : decode cRn_doAction 284 = .ok (.ireturn, 1) := by decide +kernel
theorem dRn_doAction_285 : decode cRn_doAction 285 = .ok (.aload_n 0, 1) := by decide +kernel
theorem dRn_doAction_286 : decode cRn_doAction 286 = .ok (.iload_n 1, 1) := by decide +kernel
theorem dRn_doAction_287 : decode cRn_doAction 287 = .ok (.iload_n 2, 1) := by decide +kernel
theorem dRn_doAction_288 : decode cRn_doAction 288 = .ok (.iload_n 3, 1) := by decide +kernel
theorem dRn_doAction_289 : decode cRn_doAction 289 = .ok (.invokevirtual 133, 3) := by decide +kernel
theorem dRn_doAction_292 : decode cRn_doAction 292 = .ok (.ireturn, 1) := by decide +kernel
theorem dRn_doAction_293 : decode cRn_doAction 293 = .ok (.aload_n 0, 1) := by decide +kernel
theorem dRn_doAction_294 : decode cRn_doAction 294 = .ok (.iload_n 1, 1) := by decide +kernel
theorem dRn_doAction_295 : decode cRn_doAction 295 = .ok (.invokevirtual 136, 3) := by decide +kernel
theorem dRn_doAction_298 : decode cRn_doAction 298 = .ok (.ifCond .eq 7, 3) := by decide +kernel
theorem dRn_doAction_301 : decode cRn_doAction 301 = .ok (.iconst 0, 1) := by decide +kernel
theorem dRn_doAction_302 : decode cRn_doAction 302 = .ok (.goto 10, 3) := by decide +kernel
theorem dRn_doAction_305 : decode cRn_doAction 305 = .ok (.aload_n 0, 1) := by decide +kernel
theorem dRn_doAction_306 : decode cRn_doAction 306 = .ok (.iload_n 1, 1) := by decide +kernel
theorem dRn_doAction_307 : decode cRn_doAction 307 = .ok (.bipush 6, 2) := by decide +kernel
theorem dRn_doAction_309 : decode cRn_doAction 309 = .ok (.invokevirtual 99, 3) := by decide +kernel
theorem dRn_doAction_312 : decode cRn_doAction 312 = .ok (.ireturn, 1) := by decide +kernel
theorem dRn_doAction_313 : decode cRn_doAction 313 = .ok (.aload_n 0, 1) := by decide +kernel
theorem dRn_doAction_314 : decode cRn_doAction 314 = .ok (.iload_n 1, 1) := by decide +kernel
theorem dRn_doAction_315 : decode cRn_doAction 315 = .ok (.invokevirtual 136, 3) := by decide +kernel
theorem dRn_doAction_318 : decode cRn_doAction 318 = .ok (.ifCond .eq 11, 3) := by decide +kernel
theorem dRn_doAction_321 : decode cRn_doAction 321 = .ok (.aload_n 0, 1) := by decide +kernel
theorem dRn_doAction_322 : decode cRn_doAction 322 = .ok (.iload_n 1, 1) := by decide +kernel
theorem dRn_doAction_323 : decode cRn_doAction 323 = .ok (.invokevirtual 139, 3) := by decide +kernel
theorem dRn_doAction_326 : decode cRn_doAction 326 = .ok (.goto 10, 3) := by decide +kernel
theorem dRn_doAction_329 : decode cRn_doAction 329 = .ok (.aload_n 0, 1) := by decide +kernel
theorem dRn_doAction_330 : decode cRn_doAction 330 = .ok (.iload_n 1, 1) := by decide +kernel
theorem dRn_doAction_331 : decode cRn_doAction 331 = .ok (.bipush 6, 2) := by decide +kernel
theorem dRn_doAction_333 : decode cRn_doAction 333 = .ok (.invokevirtual 99, 3) := by decide +kernel
theorem dRn_doAction_336 : decode cRn_doAction 336 = .ok (.ireturn, 1) := by decide +kernel
theorem dRn_doAction_337 : decode cRn_doAction 337 = .ok (.aload_n 0, 1) := by decide +kernel
theorem dRn_doAction_338 : decode cRn_doAction 338 = .ok (.iload_n 1, 1) := by decide +kernel
theorem dRn_doAction_339 : decode cRn_doAction 339 = .ok (.invokevirtual 139, 3) := by decide +kernel
theorem dRn_doAction_342 : decode cRn_doAction 342 = .ok (.ireturn, 1) := by decide +kernel
theorem dRn_doAction_343 : decode cRn_doAction 343 = .ok (.aload_n 0, 1) := by decide +kernel
theorem dRn_doAction_344 : decode cRn_doAction 344 = .ok (.aload_n 0, 1) := by decide +kernel
theorem dRn_doAction_345 : decode cRn_doAction 345 = .ok (.iload_n 1, 1) := by decide +kernel
theorem dRn_doAction_346 : decode cRn_doAction 346 = .ok (.invokevirtual 136, 3) := by decide +kernel
theorem dRn_doAction_349 : decode cRn_doAction 349 = .ok (.ifCond .eq 7, 3) := by decide +kernel
theorem dRn_doAction_352 : decode cRn_doAction 352 = .ok (.iconst 1, 1) := by decide +kernel
theorem dRn_doAction_353 : decode cRn_doAction 353 = .ok (.goto 4, 3) := by decide +kernel
theorem dRn_doAction_356 : decode cRn_doAction 356 = .ok (.iconst 0, 1) := by decide +kernel
theorem dRn_doAction_357 : decode cRn_doAction 357 = .ok (.invokevirtual 96, 3) := by decide +kernel
theorem dRn_doAction_360 : decode cRn_doAction 360 = .ok (.ireturn, 1) := by decide +kernel
theorem dRn_doAction_361 : decode cRn_doAction 361 = .ok (.aload_n 0, 1) := by decide +kernel
theorem dRn_doAction_362 : decode cRn_doAction 362 = .ok (.iload_n 1, 1) := by decide +kernel
theorem dRn_doAction_363 : decode cRn_doAction 363 = .ok (.invokevirtual 142, 3) := by decide +kernel
theorem dRn_doAction_366 : decode cRn_doAction 366 = .ok (.ireturn, 1) := by decide +kernel
theorem dRn_doAction_367 : decode cRn_doAction 367 = .ok (.iconst 1, 1) := by decide +kernel
theorem dRn_doAction_368 : decode cRn_doAction 368 = .ok (.ireturn, 1) := by decide +kernel
theorem dRn_doAction_369 : decode cRn_doAction 369 = .ok (.aload_n 0, 1) := by decide +kernel
theorem dRn_doAction_370 : decode cRn_doAction 370 = .ok (.aload_n 0, 1) := by decide +kernel
theorem dRn_doAction_371 : decode cRn_doAction 371 = .ok (.getfield 76, 3) := by decide +kernel
theorem dRn_doAction_374 : decode cRn_doAction 374 = .ok (.invokevirtual 96, 3) := by decide +kernel
theorem dRn_doAction_377 : decode cRn_doAction 377 = .ok (.ireturn, 1) := by decide +kernel
theorem dRn_doAction_378 : decode cRn_doAction 378 = .ok (.iconst 0, 1) := by decide +kernel
theorem dRn_doAction_379 : decode cRn_doAction 379 = .ok (.ireturn, 1) := by decide +kernel
end
section
theorem dPg_value_0 : decode cPg_value 0 = .ok (.aload_n 0, 1) := by decide +kernel
theorem dPg_value_1 : decode cPg_value 1 = .ok (.getfield 15, 3) := by decide +kernel
theorem dPg_value_4 : decode cPg_value 4 = .ok (.iload_n 1, 1) := by decide +kernel
theorem dPg_value_5 : decode cPg_value 5 = .ok (.iaload, 1) := by decide +kernel
theorem dPg_value_6 : decode cPg_value 6 = .ok (.bipush 100, 2) := by decide +kernel
theorem dPg_value_8 : decode cPg_value 8 = .ok (.isub, 1) := by decide +kernel
theorem dPg_value_9 : decode cPg_value 9 = .ok (.ireturn, 1) := by decide +kernel
theorem dPg_op_0 : decode cPg_op 0 = .ok (.aload_n 0, 1) := by decide +kernel
theorem dPg_op_1 : decode cPg_op 1 = .ok (.getfield 9, 3) := by decide +kernel
theorem dPg_op_4 : decode cPg_op 4 = .ok (.iload_n 1, 1) := by decide +kernel
theorem dPg_op_5 : decode cPg_op 5 = .ok (.iaload, 1) := by decide +kernel
theorem dPg_op_6 : decode cPg_op 6 = .ok (.ireturn, 1) := by decide +kernel
theorem dRn_become_0 : decode cRn_become 0 = .ok (.aload_n 0, 1) := by decide +kernel
theorem dRn_become_1 : decode cRn_become 1 = .ok (.iload_n 1, 1) := by decide +kernel
theorem dRn_become_2 : decode cRn_become 2 = .ok (.putfield 42, 3) := by decide +kernel
theorem dRn_become_5 : decode cRn_become 5 = .ok (.iconst 0, 1) := by decide +kernel
theorem dRn_become_6 : decode cRn_become 6 = .ok (.ireturn, 1) := by decide +kernel
theorem dRn_comesUp_0 : decode cRn_comesUp 0 = .ok (.aload_n 0, 1) := by decide +kernel
theorem dRn_comesUp_1 : decode cRn_comesUp 1 = .ok (.iload_n 2, 1) := by decide +kernel
theorem dRn_comesUp_2 : decode cRn_comesUp 2 = .ok (.putfield 30, 3) := by decide +kernel
theorem dRn_comesUp_5 : decode cRn_comesUp 5 = .ok (.aload_n 0, 1) := by decide +kernel
theorem dRn_comesUp_6 : decode cRn_comesUp 6 = .ok (.iload_n 1, 1) := by decide +kernel
theorem dRn_comesUp_7 : decode cRn_comesUp 7 = .ok (.putfield 54, 3) := by decide +kernel
theorem dRn_comesUp_10 : decode cRn_comesUp 10 = .ok (.aload_n 0, 1) := by decide +kernel
theorem dRn_comesUp_11 : decode cRn_comesUp 11 = .ok (.iconst (-1), 1) := by decide +kernel
theorem dRn_comesUp_12 : decode cRn_comesUp 12 = .ok (.putfield 57, 3) := by decide +kernel
theorem dRn_comesUp_15 : decode cRn_comesUp 15 = .ok (.iconst 2, 1) := by decide +kernel
theorem dRn_comesUp_16 : decode cRn_comesUp 16 = .ok (.ireturn, 1) := by decide +kernel
theorem dRn_isCell_0 : decode cRn_isCell 0 = .ok (.iload_n 0, 1) := by decide +kernel
theorem dRn_isCell_1 : decode cRn_isCell 1 = .ok (.bipush 7, 2) := by decide +kernel
theorem dRn_isCell_3 : decode cRn_isCell 3 = .ok (.invokestatic 22, 3) := by decide +kernel
theorem dRn_isCell_6 : decode cRn_isCell 6 = .ok (.ireturn, 1) := by decide +kernel
theorem dRn_doKeep_0 : decode cRn_doKeep 0 = .ok (.aload_n 0, 1) := by decide +kernel
theorem dRn_doKeep_1 : decode cRn_doKeep 1 = .ok (.getfield 18, 3) := by decide +kernel
theorem dRn_doKeep_4 : decode cRn_doKeep 4 = .ok (.iload_n 1, 1) := by decide +kernel
theorem dRn_doKeep_5 : decode cRn_doKeep 5 = .ok (.invokevirtual 89, 3) := by decide +kernel
theorem dRn_doKeep_8 : decode cRn_doKeep 8 = .ok (.istore_n 2, 1) := by decide +kernel
theorem dRn_doKeep_9 : decode cRn_doKeep 9 = .ok (.iload_n 2, 1) := by decide +kernel
theorem dRn_doKeep_10 : decode cRn_doKeep 10 = .ok (.invokestatic 102, 3) := by decide +kernel
theorem dRn_doKeep_13 : decode cRn_doKeep 13 = .ok (.ifCond .ne 10, 3) := by decide +kernel
theorem dRn_doKeep_16 : decode cRn_doKeep 16 = .ok (.aload_n 0, 1) := by decide +kernel
theorem dRn_doKeep_17 : decode cRn_doKeep 17 = .ok (.iload_n 1, 1) := by decide +kernel
theorem dRn_doKeep_18 : decode cRn_doKeep 18 = .ok (.iconst 1, 1) := by decide +kernel
theorem dRn_doKeep_19 : decode cRn_doKeep 19 = .ok (.invokevirtual 99, 3) := by decide +kernel
theorem dRn_doKeep_22 : decode cRn_doKeep 22 = .ok (.ireturn, 1) := by decide +kernel
theorem dRn_doKeep_23 : decode cRn_doKeep 23 = .ok (.aload_n 0, 1) := by decide +kernel
theorem dRn_doKeep_24 : decode cRn_doKeep 24 = .ok (.getfield 11, 3) := by decide +kernel
theorem dRn_doKeep_27 : decode cRn_doKeep 27 = .ok (.iload_n 2, 1) := by decide +kernel
theorem dRn_doKeep_28 : decode cRn_doKeep 28 = .ok (.aload_n 0, 1) := by decide +kernel
theorem dRn_doKeep_29 : decode cRn_doKeep 29 = .ok (.getfield 42, 3) := by decide +kernel
theorem dRn_doKeep_32 : decode cRn_doKeep 32 = .ok (.iastore, 1) := by decide +kernel
theorem dRn_doKeep_33 : decode cRn_doKeep 33 = .ok (.iconst 0, 1) := by decide +kernel
theorem dRn_doKeep_34 : decode cRn_doKeep 34 = .ok (.ireturn, 1) := by decide +kernel
theorem dRn_doBreak_0 : decode cRn_doBreak 0 = .ok (.aload_n 0, 1) := by decide +kernel
theorem dRn_doBreak_1 : decode cRn_doBreak 1 = .ok (.getfield 18, 3) := by decide +kernel
theorem dRn_doBreak_4 : decode cRn_doBreak 4 = .ok (.iload_n 1, 1) := by decide +kernel
theorem dRn_doBreak_5 : decode cRn_doBreak 5 = .ok (.invokevirtual 145, 3) := by decide +kernel
theorem dRn_doBreak_8 : decode cRn_doBreak 8 = .ok (.iconst 5, 1) := by decide +kernel
theorem dRn_doBreak_9 : decode cRn_doBreak 9 = .ok (.if_icmp .gt 17, 3) := by decide +kernel
theorem dRn_doBreak_12 : decode cRn_doBreak 12 = .ok (.aload_n 0, 1) := by decide +kernel
theorem dRn_doBreak_13 : decode cRn_doBreak 13 = .ok (.iload_n 1, 1) := by decide +kernel
theorem dRn_doBreak_14 : decode cRn_doBreak 14 = .ok (.aload_n 0, 1) := by decide +kernel
theorem dRn_doBreak_15 : decode cRn_doBreak 15 = .ok (.getfield 18, 3) := by decide +kernel
theorem dRn_doBreak_18 : decode cRn_doBreak 18 = .ok (.iload_n 1, 1) := by decide +kernel
theorem dRn_doBreak_19 : decode cRn_doBreak 19 = .ok (.invokevirtual 145, 3) := by decide +kernel
theorem dRn_doBreak_22 : decode cRn_doBreak 22 = .ok (.invokevirtual 99, 3) := by decide +kernel
theorem dRn_doBreak_25 : decode cRn_doBreak 25 = .ok (.ireturn, 1) := by decide +kernel
theorem dRn_doBreak_26 : decode cRn_doBreak 26 = .ok (.aload_n 0, 1) := by decide +kernel
theorem dRn_doBreak_27 : decode cRn_doBreak 27 = .ok (.aload_n 0, 1) := by decide +kernel
theorem dRn_doBreak_28 : decode cRn_doBreak 28 = .ok (.getfield 18, 3) := by decide +kernel
theorem dRn_doBreak_31 : decode cRn_doBreak 31 = .ok (.iload_n 1, 1) := by decide +kernel
theorem dRn_doBreak_32 : decode cRn_doBreak 32 = .ok (.invokevirtual 154, 3) := by decide +kernel
theorem dRn_doBreak_35 : decode cRn_doBreak 35 = .ok (.invokevirtual 96, 3) := by decide +kernel
theorem dRn_doBreak_38 : decode cRn_doBreak 38 = .ok (.ireturn, 1) := by decide +kernel
theorem dPg_high_0 : decode cPg_high 0 = .ok (.aload_n 0, 1) := by decide +kernel
theorem dPg_high_1 : decode cPg_high 1 = .ok (.getfield 15, 3) := by decide +kernel
theorem dPg_high_4 : decode cPg_high 4 = .ok (.iload_n 1, 1) := by decide +kernel
theorem dPg_high_5 : decode cPg_high 5 = .ok (.iaload, 1) := by decide +kernel
theorem dPg_high_6 : decode cPg_high 6 = .ok (.bipush 16, 2) := by decide +kernel
theorem dPg_high_8 : decode cPg_high 8 = .ok (.idiv, 1) := by decide +kernel
theorem dPg_high_9 : decode cPg_high 9 = .ok (.ireturn, 1) := by decide +kernel
theorem dRn_doThrow_0 : decode cRn_doThrow 0 = .ok (.aload_n 0, 1) := by decide +kernel
theorem dRn_doThrow_1 : decode cRn_doThrow 1 = .ok (.getfield 18, 3) := by decide +kernel
theorem dRn_doThrow_4 : decode cRn_doThrow 4 = .ok (.iload_n 1, 1) := by decide +kernel
theorem dRn_doThrow_5 : decode cRn_doThrow 5 = .ok (.invokevirtual 145, 3) := by decide +kernel
theorem dRn_doThrow_8 : decode cRn_doThrow 8 = .ok (.tableswitch 60 7 10 #[32, 32, 32, 46], 32) := by decide +kernel
theorem dRn_doThrow_40 : decode cRn_doThrow 40 = .ok (.aload_n 0, 1) := by decide +kernel
theorem dRn_doThrow_41 : decode cRn_doThrow 41 = .ok (.iload_n 1, 1) := by decide +kernel
theorem dRn_doThrow_42 : decode cRn_doThrow 42 = .ok (.aload_n 0, 1) := by decide +kernel
theorem dRn_doThrow_43 : decode cRn_doThrow 43 = .ok (.getfield 18, 3) := by decide +kernel
theorem dRn_doThrow_46 : decode cRn_doThrow 46 = .ok (.iload_n 1, 1) := by decide +kernel
theorem dRn_doThrow_47 : decode cRn_doThrow 47 = .ok (.invokevirtual 145, 3) := by decide +kernel
theorem dRn_doThrow_50 : decode cRn_doThrow 50 = .ok (.invokevirtual 99, 3) := by decide +kernel
theorem dRn_doThrow_53 : decode cRn_doThrow 53 = .ok (.ireturn, 1) := by decide +kernel
theorem dRn_doThrow_54 : decode cRn_doThrow 54 = .ok (.aload_n 0, 1) := by decide +kernel
theorem dRn_doThrow_55 : decode cRn_doThrow 55 = .ok (.iload_n 1, 1) := by decide +kernel
theorem dRn_doThrow_56 : decode cRn_doThrow 56 = .ok (.aload_n 0, 1) := by decide +kernel
theorem dRn_doThrow_57 : decode cRn_doThrow 57 = .ok (.getfield 18, 3) := by decide +kernel
theorem dRn_doThrow_60 : decode cRn_doThrow 60 = .ok (.iload_n 1, 1) := by decide +kernel
theorem dRn_doThrow_61 : decode cRn_doThrow 61 = .ok (.invokevirtual 154, 3) := by decide +kernel
theorem dRn_doThrow_64 : decode cRn_doThrow 64 = .ok (.invokevirtual 151, 3) := by decide +kernel
theorem dRn_doThrow_67 : decode cRn_doThrow 67 = .ok (.ireturn, 1) := by decide +kernel
theorem dRn_doThrow_68 : decode cRn_doThrow 68 = .ok (.iconst 0, 1) := by decide +kernel
theorem dRn_doThrow_69 : decode cRn_doThrow 69 = .ok (.ireturn, 1) := by decide +kernel
theorem dRn_ownComesUp_0 : decode cRn_ownComesUp 0 = .ok (.aload_n 0, 1) := by decide +kernel
theorem dRn_ownComesUp_1 : decode cRn_ownComesUp 1 = .ok (.bipush 10, 2) := by decide +kernel
theorem dRn_ownComesUp_3 : decode cRn_ownComesUp 3 = .ok (.putfield 30, 3) := by decide +kernel
theorem dRn_ownComesUp_6 : decode cRn_ownComesUp 6 = .ok (.aload_n 0, 1) := by decide +kernel
theorem dRn_ownComesUp_7 : decode cRn_ownComesUp 7 = .ok (.iload_n 1, 1) := by decide +kernel
theorem dRn_ownComesUp_8 : decode cRn_ownComesUp 8 = .ok (.putfield 54, 3) := by decide +kernel
theorem dRn_ownComesUp_11 : decode cRn_ownComesUp 11 = .ok (.aload_n 0, 1) := by decide +kernel
theorem dRn_ownComesUp_12 : decode cRn_ownComesUp 12 = .ok (.iload_n 2, 1) := by decide +kernel
theorem dRn_ownComesUp_13 : decode cRn_ownComesUp 13 = .ok (.putfield 57, 3) := by decide +kernel
theorem dRn_ownComesUp_16 : decode cRn_ownComesUp 16 = .ok (.iconst 2, 1) := by decide +kernel
theorem dRn_ownComesUp_17 : decode cRn_ownComesUp 17 = .ok (.ireturn, 1) := by decide +kernel
theorem dRn_doInterrupt_0 : decode cRn_doInterrupt 0 = .ok (.aload_n 0, 1) := by decide +kernel
theorem dRn_doInterrupt_1 : decode cRn_doInterrupt 1 = .ok (.iconst 1, 1) := by decide +kernel
theorem dRn_doInterrupt_2 : decode cRn_doInterrupt 2 = .ok (.putfield 60, 3) := by decide +kernel
theorem dRn_doInterrupt_5 : decode cRn_doInterrupt 5 = .ok (.iconst 0, 1) := by decide +kernel
theorem dRn_doInterrupt_6 : decode cRn_doInterrupt 6 = .ok (.ireturn, 1) := by decide +kernel
theorem dRn_doLook_0 : decode cRn_doLook 0 = .ok (.aload_n 0, 1) := by decide +kernel
theorem dRn_doLook_1 : decode cRn_doLook 1 = .ok (.aload_n 0, 1) := by decide +kernel
theorem dRn_doLook_2 : decode cRn_doLook 2 = .ok (.getfield 60, 3) := by decide +kernel
theorem dRn_doLook_5 : decode cRn_doLook 5 = .ok (.ifCond .eq 7, 3) := by decide +kernel
theorem dRn_doLook_8 : decode cRn_doLook 8 = .ok (.iconst 1, 1) := by decide +kernel
theorem dRn_doLook_9 : decode cRn_doLook 9 = .ok (.goto 4, 3) := by decide +kernel
theorem dRn_doLook_12 : decode cRn_doLook 12 = .ok (.iconst 0, 1) := by decide +kernel
theorem dRn_doLook_13 : decode cRn_doLook 13 = .ok (.putfield 42, 3) := by decide +kernel
theorem dRn_doLook_16 : decode cRn_doLook 16 = .ok (.aload_n 0, 1) := by decide +kernel
theorem dRn_doLook_17 : decode cRn_doLook 17 = .ok (.iconst 0, 1) := by decide +kernel
theorem dRn_doLook_18 : decode cRn_doLook 18 = .ok (.putfield 60, 3) := by decide +kernel
theorem dRn_doLook_21 : decode cRn_doLook 21 = .ok (.iconst 0, 1) := by decide +kernel
theorem dRn_doLook_22 : decode cRn_doLook 22 = .ok (.ireturn, 1) := by decide +kernel
theorem dRn_doCatch_0 : decode cRn_doCatch 0 = .ok (.aload_n 0, 1) := by decide +kernel
theorem dRn_doCatch_1 : decode cRn_doCatch 1 = .ok (.iload_n 1, 1) := by decide +kernel
theorem dRn_doCatch_2 : decode cRn_doCatch 2 = .ok (.iconst 1, 1) := by decide +kernel
theorem dRn_doCatch_3 : decode cRn_doCatch 3 = .ok (.iadd, 1) := by decide +kernel
theorem dRn_doCatch_4 : decode cRn_doCatch 4 = .ok (.iload_n 2, 1) := by decide +kernel
theorem dRn_doCatch_5 : decode cRn_doCatch 5 = .ok (.iload_n 3, 1) := by decide +kernel
theorem dRn_doCatch_6 : decode cRn_doCatch 6 = .ok (.iconst 1, 1) := by decide +kernel
theorem dRn_doCatch_7 : decode cRn_doCatch 7 = .ok (.iadd, 1) := by decide +kernel
theorem dRn_doCatch_8 : decode cRn_doCatch 8 = .ok (.invokevirtual 72, 3) := by decide +kernel
theorem dRn_doCatch_11 : decode cRn_doCatch 11 = .ok (.istore 4, 2) := by decide +kernel
theorem dRn_doCatch_13 : decode cRn_doCatch 13 = .ok (.aload_n 0, 1) := by decide +kernel
theorem dRn_doCatch_14 : decode cRn_doCatch 14 = .ok (.getfield 18, 3) := by decide +kernel
theorem dRn_doCatch_17 : decode cRn_doCatch 17 = .ok (.iload_n 1, 1) := by decide +kernel
theorem dRn_doCatch_18 : decode cRn_doCatch 18 = .ok (.invokevirtual 145, 3) := by decide +kernel
theorem dRn_doCatch_21 : decode cRn_doCatch 21 = .ok (.istore 5, 2) := by decide +kernel
theorem dRn_doCatch_23 : decode cRn_doCatch 23 = .ok (.iload 4, 2) := by decide +kernel
theorem dRn_doCatch_25 : decode cRn_doCatch 25 = .ok (.iconst 2, 1) := by decide +kernel
theorem dRn_doCatch_26 : decode cRn_doCatch 26 = .ok (.if_icmp .ne 15, 3) := by decide +kernel
theorem dRn_doCatch_29 : decode cRn_doCatch 29 = .ok (.iload 5, 2) := by decide +kernel
theorem dRn_doCatch_31 : decode cRn_doCatch 31 = .ok (.aload_n 0, 1) := by decide +kernel
theorem dRn_doCatch_32 : decode cRn_doCatch 32 = .ok (.getfield 30, 3) := by decide +kernel
theorem dRn_doCatch_35 : decode cRn_doCatch 35 = .ok (.invokestatic 148, 3) := by decide +kernel
theorem dRn_doCatch_38 : decode cRn_doCatch 38 = .ok (.ifCond .ne 6, 3) := by decide +kernel
theorem dRn_doCatch_41 : decode cRn_doCatch 41 = .ok (.iload 4, 2) := by decide +kernel
theorem dRn_doCatch_43 : decode cRn_doCatch 43 = .ok (.ireturn, 1) := by decide +kernel
theorem dRn_doCatch_44 : decode cRn_doCatch 44 = .ok (.aload_n 0, 1) := by decide +kernel
theorem dRn_doCatch_45 : decode cRn_doCatch 45 = .ok (.dup, 1) := by decide +kernel
theorem dRn_doCatch_46 : decode cRn_doCatch 46 = .ok (.getfield 51, 3) := by decide +kernel
theorem dRn_doCatch_49 : decode cRn_doCatch 49 = .ok (.iconst 1, 1) := by decide +kernel
theorem dRn_doCatch_50 : decode cRn_doCatch 50 = .ok (.iadd, 1) := by decide +kernel
theorem dRn_doCatch_51 : decode cRn_doCatch 51 = .ok (.putfield 51, 3) := by decide +kernel
theorem dRn_doCatch_54 : decode cRn_doCatch 54 = .ok (.aload_n 0, 1) := by decide +kernel
theorem dRn_doCatch_55 : decode cRn_doCatch 55 = .ok (.sipush 1000, 3) := by decide +kernel
theorem dRn_doCatch_58 : decode cRn_doCatch 58 = .ok (.bipush 16, 2) := by decide +kernel
theorem dRn_doCatch_60 : decode cRn_doCatch 60 = .ok (.aload_n 0, 1) := by decide +kernel
theorem dRn_doCatch_61 : decode cRn_doCatch 61 = .ok (.getfield 30, 3) := by decide +kernel
theorem dRn_doCatch_64 : decode cRn_doCatch 64 = .ok (.imul, 1) := by decide +kernel
theorem dRn_doCatch_65 : decode cRn_doCatch 65 = .ok (.iadd, 1) := by decide +kernel
theorem dRn_doCatch_66 : decode cRn_doCatch 66 = .ok (.aload_n 0, 1) := by decide +kernel
theorem dRn_doCatch_67 : decode cRn_doCatch 67 = .ok (.getfield 30, 3) := by decide +kernel
theorem dRn_doCatch_70 : decode cRn_doCatch 70 = .ok (.bipush 10, 2) := by decide +kernel
theorem dRn_doCatch_72 : decode cRn_doCatch 72 = .ok (.if_icmp .ne 10, 3) := by decide +kernel
theorem dRn_doCatch_75 : decode cRn_doCatch 75 = .ok (.aload_n 0, 1) := by decide +kernel
theorem dRn_doCatch_76 : decode cRn_doCatch 76 = .ok (.getfield 57, 3) := by decide +kernel
theorem dRn_doCatch_79 : decode cRn_doCatch 79 = .ok (.goto 4, 3) := by decide +kernel
theorem dRn_doCatch_82 : decode cRn_doCatch 82 = .ok (.iconst 0, 1) := by decide +kernel
theorem dRn_doCatch_83 : decode cRn_doCatch 83 = .ok (.iadd, 1) := by decide +kernel
theorem dRn_doCatch_84 : decode cRn_doCatch 84 = .ok (.putfield 42, 3) := by decide +kernel
theorem dRn_doCatch_87 : decode cRn_doCatch 87 = .ok (.aload_n 0, 1) := by decide +kernel
theorem dRn_doCatch_88 : decode cRn_doCatch 88 = .ok (.invokevirtual 79, 3) := by decide +kernel
theorem dRn_doCatch_91 : decode cRn_doCatch 91 = .ok (.iload 5, 2) := by decide +kernel
theorem dRn_doCatch_93 : decode cRn_doCatch 93 = .ok (.bipush 14, 2) := by decide +kernel
theorem dRn_doCatch_95 : decode cRn_doCatch 95 = .ok (.if_icmp .ne 13, 3) := by decide +kernel
theorem dRn_doCatch_98 : decode cRn_doCatch 98 = .ok (.aload_n 0, 1) := by decide +kernel
theorem dRn_doCatch_99 : decode cRn_doCatch 99 = .ok (.iload_n 1, 1) := by decide +kernel
theorem dRn_doCatch_100 : decode cRn_doCatch 100 = .ok (.bipush 14, 2) := by decide +kernel
theorem dRn_doCatch_102 : decode cRn_doCatch 102 = .ok (.invokevirtual 151, 3) := by decide +kernel
theorem dRn_doCatch_105 : decode cRn_doCatch 105 = .ok (.goto 4, 3) := by decide +kernel
theorem dRn_doCatch_108 : decode cRn_doCatch 108 = .ok (.iconst 0, 1) := by decide +kernel
theorem dRn_doCatch_109 : decode cRn_doCatch 109 = .ok (.ireturn, 1) := by decide +kernel
theorem dRn_takes_0 : decode cRn_takes 0 = .ok (.iload_n 0, 1) := by decide +kernel
theorem dRn_takes_1 : decode cRn_takes 1 = .ok (.tableswitch 90 11 15 #[35, 53, 70, 35, 88], 35) := by decide +kernel
theorem dRn_takes_36 : decode cRn_takes 36 = .ok (.iload_n 1, 1) := by decide +kernel
theorem dRn_takes_37 : decode cRn_takes 37 = .ok (.bipush 7, 2) := by decide +kernel
theorem dRn_takes_39 : decode cRn_takes 39 = .ok (.if_icmp .eq 13, 3) := by decide +kernel
theorem dRn_takes_42 : decode cRn_takes 42 = .ok (.iload_n 1, 1) := by decide +kernel
theorem dRn_takes_43 : decode cRn_takes 43 = .ok (.bipush 10, 2) := by decide +kernel
theorem dRn_takes_45 : decode cRn_takes 45 = .ok (.if_icmp .eq 7, 3) := by decide +kernel
theorem dRn_takes_48 : decode cRn_takes 48 = .ok (.iconst 1, 1) := by decide +kernel
theorem dRn_takes_49 : decode cRn_takes 49 = .ok (.goto 4, 3) := by decide +kernel
theorem dRn_takes_52 : decode cRn_takes 52 = .ok (.iconst 0, 1) := by decide +kernel
theorem dRn_takes_53 : decode cRn_takes 53 = .ok (.ireturn, 1) := by decide +kernel
theorem dRn_takes_54 : decode cRn_takes 54 = .ok (.iload_n 1, 1) := by decide +kernel
theorem dRn_takes_55 : decode cRn_takes 55 = .ok (.iconst 1, 1) := by decide +kernel
theorem dRn_takes_56 : decode cRn_takes 56 = .ok (.if_icmp .eq 9, 3) := by decide +kernel
theorem dRn_takes_59 : decode cRn_takes 59 = .ok (.iload_n 1, 1) := by decide +kernel
theorem dRn_takes_60 : decode cRn_takes 60 = .ok (.bipush 9, 2) := by decide +kernel
theorem dRn_takes_62 : decode cRn_takes 62 = .ok (.if_icmp .ne 7, 3) := by decide +kernel
theorem dRn_takes_65 : decode cRn_takes 65 = .ok (.iconst 1, 1) := by decide +kernel
theorem dRn_takes_66 : decode cRn_takes 66 = .ok (.goto 4, 3) := by decide +kernel
theorem dRn_takes_69 : decode cRn_takes 69 = .ok (.iconst 0, 1) := by decide +kernel
theorem dRn_takes_70 : decode cRn_takes 70 = .ok (.ireturn, 1) := by decide +kernel
theorem dRn_takes_71 : decode cRn_takes 71 = .ok (.iload_n 1, 1) := by decide +kernel
theorem dRn_takes_72 : decode cRn_takes 72 = .ok (.bipush 7, 2) := by decide +kernel
theorem dRn_takes_74 : decode cRn_takes 74 = .ok (.if_icmp .eq 9, 3) := by decide +kernel
theorem dRn_takes_77 : decode cRn_takes 77 = .ok (.iload_n 1, 1) := by decide +kernel
theorem dRn_takes_78 : decode cRn_takes 78 = .ok (.bipush 10, 2) := by decide +kernel
theorem dRn_takes_80 : decode cRn_takes 80 = .ok (.if_icmp .ne 7, 3) := by decide +kernel
theorem dRn_takes_83 : decode cRn_takes 83 = .ok (.iconst 1, 1) := by decide +kernel
theorem dRn_takes_84 : decode cRn_takes 84 = .ok (.goto 4, 3) := by decide +kernel
theorem dRn_takes_87 : decode cRn_takes 87 = .ok (.iconst 0, 1) := by decide +kernel
theorem dRn_takes_88 : decode cRn_takes 88 = .ok (.ireturn, 1) := by decide +kernel
theorem dRn_takes_89 : decode cRn_takes 89 = .ok (.iconst 1, 1) := by decide +kernel
theorem dRn_takes_90 : decode cRn_takes 90 = .ok (.ireturn, 1) := by decide +kernel
theorem dRn_takes_91 : decode cRn_takes 91 = .ok (.iload_n 1, 1) := by decide +kernel
theorem dRn_takes_92 : decode cRn_takes 92 = .ok (.iload_n 0, 1) := by decide +kernel
theorem dRn_takes_93 : decode cRn_takes 93 = .ok (.if_icmp .ne 7, 3) := by decide +kernel
theorem dRn_takes_96 : decode cRn_takes 96 = .ok (.iconst 1, 1) := by decide +kernel
theorem dRn_takes_97 : decode cRn_takes 97 = .ok (.goto 4, 3) := by decide +kernel
theorem dRn_takes_100 : decode cRn_takes 100 = .ok (.iconst 0, 1) := by decide +kernel
theorem dRn_takes_101 : decode cRn_takes 101 = .ok (.ireturn, 1) := by decide +kernel
theorem dRn_doFinally_0 : decode cRn_doFinally 0 = .ok (.aload_n 0, 1) := by decide +kernel
theorem dRn_doFinally_1 : decode cRn_doFinally 1 = .ok (.iload_n 1, 1) := by decide +kernel
theorem dRn_doFinally_2 : decode cRn_doFinally 2 = .ok (.iconst 1, 1) := by decide +kernel
theorem dRn_doFinally_3 : decode cRn_doFinally 3 = .ok (.iadd, 1) := by decide +kernel
theorem dRn_doFinally_4 : decode cRn_doFinally 4 = .ok (.iload_n 2, 1) := by decide +kernel
theorem dRn_doFinally_5 : decode cRn_doFinally 5 = .ok (.iload_n 3, 1) := by decide +kernel
theorem dRn_doFinally_6 : decode cRn_doFinally 6 = .ok (.iconst 1, 1) := by decide +kernel
theorem dRn_doFinally_7 : decode cRn_doFinally 7 = .ok (.iadd, 1) := by decide +kernel
theorem dRn_doFinally_8 : decode cRn_doFinally 8 = .ok (.invokevirtual 72, 3) := by decide +kernel
theorem dRn_doFinally_11 : decode cRn_doFinally 11 = .ok (.istore 4, 2) := by decide +kernel
theorem dRn_doFinally_13 : decode cRn_doFinally 13 = .ok (.aload_n 0, 1) := by decide +kernel
theorem dRn_doFinally_14 : decode cRn_doFinally 14 = .ok (.dup, 1) := by decide +kernel
theorem dRn_doFinally_15 : decode cRn_doFinally 15 = .ok (.getfield 48, 3) := by decide +kernel
theorem dRn_doFinally_18 : decode cRn_doFinally 18 = .ok (.iconst 1, 1) := by decide +kernel
theorem dRn_doFinally_19 : decode cRn_doFinally 19 = .ok (.iadd, 1) := by decide +kernel
theorem dRn_doFinally_20 : decode cRn_doFinally 20 = .ok (.putfield 48, 3) := by decide +kernel
theorem dRn_doFinally_23 : decode cRn_doFinally 23 = .ok (.aload_n 0, 1) := by decide +kernel
theorem dRn_doFinally_24 : decode cRn_doFinally 24 = .ok (.aload_n 0, 1) := by decide +kernel
theorem dRn_doFinally_25 : decode cRn_doFinally 25 = .ok (.getfield 42, 3) := by decide +kernel
theorem dRn_doFinally_28 : decode cRn_doFinally 28 = .ok (.ineg, 1) := by decide +kernel
theorem dRn_doFinally_29 : decode cRn_doFinally 29 = .ok (.putfield 42, 3) := by decide +kernel
theorem dRn_doFinally_32 : decode cRn_doFinally 32 = .ok (.iload 4, 2) := by decide +kernel
theorem dRn_doFinally_34 : decode cRn_doFinally 34 = .ok (.ireturn, 1) := by decide +kernel
theorem dRn_doDrop_0 : decode cRn_doDrop 0 = .ok (.aload_n 0, 1) := by decide +kernel
theorem dRn_doDrop_1 : decode cRn_doDrop 1 = .ok (.iload_n 1, 1) := by decide +kernel
theorem dRn_doDrop_2 : decode cRn_doDrop 2 = .ok (.iconst 1, 1) := by decide +kernel
theorem dRn_doDrop_3 : decode cRn_doDrop 3 = .ok (.iadd, 1) := by decide +kernel
theorem dRn_doDrop_4 : decode cRn_doDrop 4 = .ok (.iload_n 2, 1) := by decide +kernel
theorem dRn_doDrop_5 : decode cRn_doDrop 5 = .ok (.iload_n 3, 1) := by decide +kernel
theorem dRn_doDrop_6 : decode cRn_doDrop 6 = .ok (.iconst 1, 1) := by decide +kernel
theorem dRn_doDrop_7 : decode cRn_doDrop 7 = .ok (.iadd, 1) := by decide +kernel
theorem dRn_doDrop_8 : decode cRn_doDrop 8 = .ok (.invokevirtual 72, 3) := by decide +kernel
theorem dRn_doDrop_11 : decode cRn_doDrop 11 = .ok (.pop, 1) := by decide +kernel
theorem dRn_doDrop_12 : decode cRn_doDrop 12 = .ok (.aload_n 0, 1) := by decide +kernel
theorem dRn_doDrop_13 : decode cRn_doDrop 13 = .ok (.invokevirtual 79, 3) := by decide +kernel
theorem dRn_doDrop_16 : decode cRn_doDrop 16 = .ok (.aload_n 0, 1) := by decide +kernel
theorem dRn_doDrop_17 : decode cRn_doDrop 17 = .ok (.dup, 1) := by decide +kernel
theorem dRn_doDrop_18 : decode cRn_doDrop 18 = .ok (.getfield 48, 3) := by decide +kernel
theorem dRn_doDrop_21 : decode cRn_doDrop 21 = .ok (.iconst 1, 1) := by decide +kernel
theorem dRn_doDrop_22 : decode cRn_doDrop 22 = .ok (.iadd, 1) := by decide +kernel
theorem dRn_doDrop_23 : decode cRn_doDrop 23 = .ok (.putfield 48, 3) := by decide +kernel
theorem dRn_doDrop_26 : decode cRn_doDrop 26 = .ok (.iconst 0, 1) := by decide +kernel
theorem dRn_doDrop_27 : decode cRn_doDrop 27 = .ok (.ireturn, 1) := by decide +kernel
theorem dRn_doHold_0 : decode cRn_doHold 0 = .ok (.aload_n 0, 1) := by decide +kernel
theorem dRn_doHold_1 : decode cRn_doHold 1 = .ok (.getfield 18, 3) := by decide +kernel
theorem dRn_doHold_4 : decode cRn_doHold 4 = .ok (.iload_n 1, 1) := by decide +kernel
theorem dRn_doHold_5 : decode cRn_doHold 5 = .ok (.invokevirtual 145, 3) := by decide +kernel
theorem dRn_doHold_8 : decode cRn_doHold 8 = .ok (.iconst 2, 1) := by decide +kernel
theorem dRn_doHold_9 : decode cRn_doHold 9 = .ok (.irem, 1) := by decide +kernel
theorem dRn_doHold_10 : decode cRn_doHold 10 = .ok (.istore 4, 2) := by decide +kernel
theorem dRn_doHold_12 : decode cRn_doHold 12 = .ok (.aload_n 0, 1) := by decide +kernel
theorem dRn_doHold_13 : decode cRn_doHold 13 = .ok (.getfield 15, 3) := by decide +kernel
theorem dRn_doHold_16 : decode cRn_doHold 16 = .ok (.iload 4, 2) := by decide +kernel
theorem dRn_doHold_18 : decode cRn_doHold 18 = .ok (.dup2, 1) := by decide +kernel
theorem dRn_doHold_19 : decode cRn_doHold 19 = .ok (.iaload, 1) := by decide +kernel
theorem dRn_doHold_20 : decode cRn_doHold 20 = .ok (.iconst 1, 1) := by decide +kernel
theorem dRn_doHold_21 : decode cRn_doHold 21 = .ok (.iadd, 1) := by decide +kernel
theorem dRn_doHold_22 : decode cRn_doHold 22 = .ok (.iastore, 1) := by decide +kernel
theorem dRn_doHold_23 : decode cRn_doHold 23 = .ok (.aload_n 0, 1) := by decide +kernel
theorem dRn_doHold_24 : decode cRn_doHold 24 = .ok (.iload_n 1, 1) := by decide +kernel
theorem dRn_doHold_25 : decode cRn_doHold 25 = .ok (.iconst 1, 1) := by decide +kernel
theorem dRn_doHold_26 : decode cRn_doHold 26 = .ok (.iadd, 1) := by decide +kernel
theorem dRn_doHold_27 : decode cRn_doHold 27 = .ok (.iload_n 2, 1) := by decide +kernel
theorem dRn_doHold_28 : decode cRn_doHold 28 = .ok (.iload_n 3, 1) := by decide +kernel
theorem dRn_doHold_29 : decode cRn_doHold 29 = .ok (.iconst 1, 1) := by decide +kernel
theorem dRn_doHold_30 : decode cRn_doHold 30 = .ok (.iadd, 1) := by decide +kernel
theorem dRn_doHold_31 : decode cRn_doHold 31 = .ok (.invokevirtual 72, 3) := by decide +kernel
theorem dRn_doHold_34 : decode cRn_doHold 34 = .ok (.istore 5, 2) := by decide +kernel
theorem dRn_doHold_36 : decode cRn_doHold 36 = .ok (.aload_n 0, 1) := by decide +kernel
theorem dRn_doHold_37 : decode cRn_doHold 37 = .ok (.getfield 15, 3) := by decide +kernel
theorem dRn_doHold_40 : decode cRn_doHold 40 = .ok (.iload 4, 2) := by decide +kernel
theorem dRn_doHold_42 : decode cRn_doHold 42 = .ok (.dup2, 1) := by decide +kernel
theorem dRn_doHold_43 : decode cRn_doHold 43 = .ok (.iaload, 1) := by decide +kernel
theorem dRn_doHold_44 : decode cRn_doHold 44 = .ok (.iconst 1, 1) := by decide +kernel
theorem dRn_doHold_45 : decode cRn_doHold 45 = .ok (.isub, 1) := by decide +kernel
theorem dRn_doHold_46 : decode cRn_doHold 46 = .ok (.iastore, 1) := by decide +kernel
theorem dRn_doHold_47 : decode cRn_doHold 47 = .ok (.iload 5, 2) := by decide +kernel
theorem dRn_doHold_49 : decode cRn_doHold 49 = .ok (.ireturn, 1) := by decide +kernel
theorem dRn_doRepeat_0 : decode cRn_doRepeat 0 = .ok (.aload_n 0, 1) := by decide +kernel
theorem dRn_doRepeat_1 : decode cRn_doRepeat 1 = .ok (.getfield 18, 3) := by decide +kernel
theorem dRn_doRepeat_4 : decode cRn_doRepeat 4 = .ok (.iload_n 1, 1) := by decide +kernel
theorem dRn_doRepeat_5 : decode cRn_doRepeat 5 = .ok (.invokevirtual 145, 3) := by decide +kernel
theorem dRn_doRepeat_8 : decode cRn_doRepeat 8 = .ok (.istore 4, 2) := by decide +kernel
theorem dRn_doRepeat_10 : decode cRn_doRepeat 10 = .ok (.iconst 0, 1) := by decide +kernel
theorem dRn_doRepeat_11 : decode cRn_doRepeat 11 = .ok (.istore 5, 2) := by decide +kernel
theorem dRn_doRepeat_13 : decode cRn_doRepeat 13 = .ok (.iload 5, 2) := by decide +kernel
theorem dRn_doRepeat_15 : decode cRn_doRepeat 15 = .ok (.iload 4, 2) := by decide +kernel
theorem dRn_doRepeat_17 : decode cRn_doRepeat 17 = .ok (.if_icmp .ge 30, 3) := by decide +kernel
theorem dRn_doRepeat_20 : decode cRn_doRepeat 20 = .ok (.aload_n 0, 1) := by decide +kernel
theorem dRn_doRepeat_21 : decode cRn_doRepeat 21 = .ok (.iload_n 1, 1) := by decide +kernel
theorem dRn_doRepeat_22 : decode cRn_doRepeat 22 = .ok (.iconst 1, 1) := by decide +kernel
theorem dRn_doRepeat_23 : decode cRn_doRepeat 23 = .ok (.iadd, 1) := by decide +kernel
theorem dRn_doRepeat_24 : decode cRn_doRepeat 24 = .ok (.iload_n 2, 1) := by decide +kernel
theorem dRn_doRepeat_25 : decode cRn_doRepeat 25 = .ok (.iload_n 3, 1) := by decide +kernel
theorem dRn_doRepeat_26 : decode cRn_doRepeat 26 = .ok (.iconst 1, 1) := by decide +kernel
theorem dRn_doRepeat_27 : decode cRn_doRepeat 27 = .ok (.iadd, 1) := by decide +kernel
theorem dRn_doRepeat_28 : decode cRn_doRepeat 28 = .ok (.invokevirtual 72, 3) := by decide +kernel
theorem dRn_doRepeat_31 : decode cRn_doRepeat 31 = .ok (.istore 6, 2) := by decide +kernel
theorem dRn_doRepeat_33 : decode cRn_doRepeat 33 = .ok (.iload 6, 2) := by decide +kernel
theorem dRn_doRepeat_35 : decode cRn_doRepeat 35 = .ok (.ifCond .eq 6, 3) := by decide +kernel
theorem dRn_doRepeat_38 : decode cRn_doRepeat 38 = .ok (.iload 6, 2) := by decide +kernel
theorem dRn_doRepeat_40 : decode cRn_doRepeat 40 = .ok (.ireturn, 1) := by decide +kernel
theorem dRn_doRepeat_41 : decode cRn_doRepeat 41 = .ok (.iinc 5 1, 3) := by decide +kernel
theorem dRn_doRepeat_44 : decode cRn_doRepeat 44 = .ok (.goto (-31), 3) := by decide +kernel
theorem dRn_doRepeat_47 : decode cRn_doRepeat 47 = .ok (.iconst 0, 1) := by decide +kernel
theorem dRn_doRepeat_48 : decode cRn_doRepeat 48 = .ok (.ireturn, 1) := by decide +kernel
theorem dRn_isHeld_0 : decode cRn_isHeld 0 = .ok (.aload_n 0, 1) := by decide +kernel
theorem dRn_isHeld_1 : decode cRn_isHeld 1 = .ok (.getfield 15, 3) := by decide +kernel
theorem dRn_isHeld_4 : decode cRn_isHeld 4 = .ok (.aload_n 0, 1) := by decide +kernel
theorem dRn_isHeld_5 : decode cRn_isHeld 5 = .ok (.getfield 18, 3) := by decide +kernel
theorem dRn_isHeld_8 : decode cRn_isHeld 8 = .ok (.iload_n 1, 1) := by decide +kernel
theorem dRn_isHeld_9 : decode cRn_isHeld 9 = .ok (.invokevirtual 145, 3) := by decide +kernel
theorem dRn_isHeld_12 : decode cRn_isHeld 12 = .ok (.iconst 2, 1) := by decide +kernel
theorem dRn_isHeld_13 : decode cRn_isHeld 13 = .ok (.irem, 1) := by decide +kernel
theorem dRn_isHeld_14 : decode cRn_isHeld 14 = .ok (.iaload, 1) := by decide +kernel
theorem dRn_isHeld_15 : decode cRn_isHeld 15 = .ok (.ifCond .le 7, 3) := by decide +kernel
theorem dRn_isHeld_18 : decode cRn_isHeld 18 = .ok (.iconst 1, 1) := by decide +kernel
theorem dRn_isHeld_19 : decode cRn_isHeld 19 = .ok (.goto 4, 3) := by decide +kernel
theorem dRn_isHeld_22 : decode cRn_isHeld 22 = .ok (.iconst 0, 1) := by decide +kernel
theorem dRn_isHeld_23 : decode cRn_isHeld 23 = .ok (.ireturn, 1) := by decide +kernel
theorem dRn_doSleep_0 : decode cRn_doSleep 0 = .ok (.aload_n 0, 1) := by decide +kernel
theorem dRn_doSleep_1 : decode cRn_doSleep 1 = .ok (.getfield 60, 3) := by decide +kernel
theorem dRn_doSleep_4 : decode cRn_doSleep 4 = .ok (.ifCond .ne 5, 3) := by decide +kernel
theorem dRn_doSleep_7 : decode cRn_doSleep 7 = .ok (.iconst 0, 1) := by decide +kernel
theorem dRn_doSleep_8 : decode cRn_doSleep 8 = .ok (.ireturn, 1) := by decide +kernel
theorem dRn_doSleep_9 : decode cRn_doSleep 9 = .ok (.aload_n 0, 1) := by decide +kernel
theorem dRn_doSleep_10 : decode cRn_doSleep 10 = .ok (.iconst 0, 1) := by decide +kernel
theorem dRn_doSleep_11 : decode cRn_doSleep 11 = .ok (.putfield 60, 3) := by decide +kernel
theorem dRn_doSleep_14 : decode cRn_doSleep 14 = .ok (.aload_n 0, 1) := by decide +kernel
theorem dRn_doSleep_15 : decode cRn_doSleep 15 = .ok (.iload_n 1, 1) := by decide +kernel
theorem dRn_doSleep_16 : decode cRn_doSleep 16 = .ok (.bipush 7, 2) := by decide +kernel
theorem dRn_doSleep_18 : decode cRn_doSleep 18 = .ok (.invokevirtual 99, 3) := by decide +kernel
theorem dRn_doSleep_21 : decode cRn_doSleep 21 = .ok (.ireturn, 1) := by decide +kernel
theorem dRn_doCount_0 : decode cRn_doCount 0 = .ok (.aload_n 0, 1) := by decide +kernel
theorem dRn_doCount_1 : decode cRn_doCount 1 = .ok (.dup, 1) := by decide +kernel
theorem dRn_doCount_2 : decode cRn_doCount 2 = .ok (.getfield 34, 3) := by decide +kernel
theorem dRn_doCount_5 : decode cRn_doCount 5 = .ok (.aload_n 0, 1) := by decide +kernel
theorem dRn_doCount_6 : decode cRn_doCount 6 = .ok (.getfield 18, 3) := by decide +kernel
theorem dRn_doCount_9 : decode cRn_doCount 9 = .ok (.iload_n 1, 1) := by decide +kernel
theorem dRn_doCount_10 : decode cRn_doCount 10 = .ok (.invokevirtual 89, 3) := by decide +kernel
theorem dRn_doCount_13 : decode cRn_doCount 13 = .ok (.i2l, 1) := by decide +kernel
theorem dRn_doCount_14 : decode cRn_doCount 14 = .ok (.ladd, 1) := by decide +kernel
theorem dRn_doCount_15 : decode cRn_doCount 15 = .ok (.putfield 34, 3) := by decide +kernel
theorem dRn_doCount_18 : decode cRn_doCount 18 = .ok (.iconst 0, 1) := by decide +kernel
theorem dRn_doCount_19 : decode cRn_doCount 19 = .ok (.ireturn, 1) := by decide +kernel
theorem dRn_outcome_0 : decode cRn_outcome 0 = .ok (.aload_n 0, 1) := by decide +kernel
theorem dRn_outcome_1 : decode cRn_outcome 1 = .ok (.getfield 30, 3) := by decide +kernel
theorem dRn_outcome_4 : decode cRn_outcome 4 = .ok (.iconst (-1), 1) := by decide +kernel
theorem dRn_outcome_5 : decode cRn_outcome 5 = .ok (.if_icmp .ne 7, 3) := by decide +kernel
theorem dRn_outcome_8 : decode cRn_outcome 8 = .ok (.iconst 0, 1) := by decide +kernel
theorem dRn_outcome_9 : decode cRn_outcome 9 = .ok (.goto 10, 3) := by decide +kernel
theorem dRn_outcome_12 : decode cRn_outcome 12 = .ok (.bipush 100, 2) := by decide +kernel
theorem dRn_outcome_14 : decode cRn_outcome 14 = .ok (.aload_n 0, 1) := by decide +kernel
theorem dRn_outcome_15 : decode cRn_outcome 15 = .ok (.getfield 30, 3) := by decide +kernel
theorem dRn_outcome_18 : decode cRn_outcome 18 = .ok (.iadd, 1) := by decide +kernel
theorem dRn_outcome_19 : decode cRn_outcome 19 = .ok (.ireturn, 1) := by decide +kernel
theorem dRn_counted_0 : decode cRn_counted 0 = .ok (.aload_n 0, 1) := by decide +kernel
theorem dRn_counted_1 : decode cRn_counted 1 = .ok (.getfield 34, 3) := by decide +kernel
theorem dRn_counted_4 : decode cRn_counted 4 = .ok (.lreturn, 1) := by decide +kernel
theorem dEx_runAll_0 : decode cEx_runAll 0 = .ok (.iload_n 1, 1) := by decide +kernel
theorem dEx_runAll_1 : decode cEx_runAll 1 = .ok (.bipush 63, 2) := by decide +kernel
theorem dEx_runAll_3 : decode cEx_runAll 3 = .ok (.invokestatic 29, 3) := by decide +kernel
theorem dEx_runAll_6 : decode cEx_runAll 6 = .ok (.ifCond .ne 5, 3) := by decide +kernel
theorem dEx_runAll_9 : decode cEx_runAll 9 = .ok (.iconst (-1), 1) := by decide +kernel
theorem dEx_runAll_10 : decode cEx_runAll 10 = .ok (.ireturn, 1) := by decide +kernel
theorem dEx_runAll_11 : decode cEx_runAll 11 = .ok (.iconst 0, 1) := by decide +kernel
theorem dEx_runAll_12 : decode cEx_runAll 12 = .ok (.istore_n 2, 1) := by decide +kernel
theorem dEx_runAll_13 : decode cEx_runAll 13 = .ok (.iconst 0, 1) := by decide +kernel
theorem dEx_runAll_14 : decode cEx_runAll 14 = .ok (.istore_n 3, 1) := by decide +kernel
theorem dEx_runAll_15 : decode cEx_runAll 15 = .ok (.iload_n 3, 1) := by decide +kernel
theorem dEx_runAll_16 : decode cEx_runAll 16 = .ok (.bipush 6, 2) := by decide +kernel
theorem dEx_runAll_18 : decode cEx_runAll 18 = .ok (.if_icmp .ge 30, 3) := by decide +kernel
theorem dEx_runAll_21 : decode cEx_runAll 21 = .ok (.iload_n 1, 1) := by decide +kernel
theorem dEx_runAll_22 : decode cEx_runAll 22 = .ok (.iload_n 3, 1) := by decide +kernel
theorem dEx_runAll_23 : decode cEx_runAll 23 = .ok (.ishr, 1) := by decide +kernel
theorem dEx_runAll_24 : decode cEx_runAll 24 = .ok (.iconst 1, 1) := by decide +kernel
theorem dEx_runAll_25 : decode cEx_runAll 25 = .ok (.iand, 1) := by decide +kernel
theorem dEx_runAll_26 : decode cEx_runAll 26 = .ok (.iconst 1, 1) := by decide +kernel
theorem dEx_runAll_27 : decode cEx_runAll 27 = .ok (.if_icmp .ne 15, 3) := by decide +kernel
theorem dEx_runAll_30 : decode cEx_runAll 30 = .ok (.aload_n 0, 1) := by decide +kernel
theorem dEx_runAll_31 : decode cEx_runAll 31 = .ok (.iload_n 3, 1) := by decide +kernel
theorem dEx_runAll_32 : decode cEx_runAll 32 = .ok (.iconst 1, 1) := by decide +kernel
theorem dEx_runAll_33 : decode cEx_runAll 33 = .ok (.invokevirtual 43, 3) := by decide +kernel
theorem dEx_runAll_36 : decode cEx_runAll 36 = .ok (.ifCond .eq 6, 3) := by decide +kernel
theorem dEx_runAll_39 : decode cEx_runAll 39 = .ok (.iinc 2 1, 3) := by decide +kernel
theorem dEx_runAll_42 : decode cEx_runAll 42 = .ok (.iinc 3 1, 3) := by decide +kernel
theorem dEx_runAll_45 : decode cEx_runAll 45 = .ok (.goto (-30), 3) := by decide +kernel
theorem dEx_runAll_48 : decode cEx_runAll 48 = .ok (.iload_n 2, 1) := by decide +kernel
theorem dEx_runAll_49 : decode cEx_runAll 49 = .ok (.ireturn, 1) := by decide +kernel
theorem dEx_told_0 : decode cEx_told 0 = .ok (.iload_n 1, 1) := by decide +kernel
theorem dEx_told_1 : decode cEx_told 1 = .ok (.invokestatic 25, 3) := by decide +kernel
theorem dEx_told_4 : decode cEx_told 4 = .ok (.ifCond .eq 12, 3) := by decide +kernel
theorem dEx_told_7 : decode cEx_told 7 = .ok (.iload_n 2, 1) := by decide +kernel
theorem dEx_told_8 : decode cEx_told 8 = .ok (.bipush 7, 2) := by decide +kernel
theorem dEx_told_10 : decode cEx_told 10 = .ok (.invokestatic 29, 3) := by decide +kernel
theorem dEx_told_13 : decode cEx_told 13 = .ok (.ifCond .ne 5, 3) := by decide +kernel
theorem dEx_told_16 : decode cEx_told 16 = .ok (.iconst (-1), 1) := by decide +kernel
theorem dEx_told_17 : decode cEx_told 17 = .ok (.ireturn, 1) := by decide +kernel
theorem dEx_told_18 : decode cEx_told 18 = .ok (.aload_n 0, 1) := by decide +kernel
theorem dEx_told_19 : decode cEx_told 19 = .ok (.getfield 17, 3) := by decide +kernel
theorem dEx_told_22 : decode cEx_told 22 = .ok (.iload_n 1, 1) := by decide +kernel
theorem dEx_told_23 : decode cEx_told 23 = .ok (.aaload, 1) := by decide +kernel
theorem dEx_told_24 : decode cEx_told 24 = .ok (.invokevirtual 47, 3) := by decide +kernel
theorem dEx_told_27 : decode cEx_told 27 = .ok (.ifCond .eq 16, 3) := by decide +kernel
theorem dEx_told_30 : decode cEx_told 30 = .ok (.aload_n 0, 1) := by decide +kernel
theorem dEx_told_31 : decode cEx_told 31 = .ok (.getfield 17, 3) := by decide +kernel
theorem dEx_told_34 : decode cEx_told 34 = .ok (.iload_n 1, 1) := by decide +kernel
theorem dEx_told_35 : decode cEx_told 35 = .ok (.aaload, 1) := by decide +kernel
theorem dEx_told_36 : decode cEx_told 36 = .ok (.iload_n 2, 1) := by decide +kernel
theorem dEx_told_37 : decode cEx_told 37 = .ok (.invokevirtual 51, 3) := by decide +kernel
theorem dEx_told_40 : decode cEx_told 40 = .ok (.goto 5, 3) := by decide +kernel
theorem dEx_told_43 : decode cEx_told 43 = .ok (.bipush (-3), 2) := by decide +kernel
theorem dEx_told_45 : decode cEx_told 45 = .ok (.ireturn, 1) := by decide +kernel
theorem dRn_isKnown_0 : decode cRn_isKnown 0 = .ok (.aload_n 0, 1) := by decide +kernel
theorem dRn_isKnown_1 : decode cRn_isKnown 1 = .ok (.getfield 26, 3) := by decide +kernel
theorem dRn_isKnown_4 : decode cRn_isKnown 4 = .ok (.ireturn, 1) := by decide +kernel
theorem dRn_tell_0 : decode cRn_tell 0 = .ok (.iload_n 1, 1) := by decide +kernel
theorem dRn_tell_1 : decode cRn_tell 1 = .ok (.tableswitch 78 0 6 #[43, 48, 53, 58, 63, 68, 73], 43) := by decide +kernel
theorem dRn_tell_44 : decode cRn_tell 44 = .ok (.aload_n 0, 1) := by decide +kernel
theorem dRn_tell_45 : decode cRn_tell 45 = .ok (.invokevirtual 38, 3) := by decide +kernel
theorem dRn_tell_48 : decode cRn_tell 48 = .ok (.ireturn, 1) := by decide +kernel
theorem dRn_tell_49 : decode cRn_tell 49 = .ok (.aload_n 0, 1) := by decide +kernel
theorem dRn_tell_50 : decode cRn_tell 50 = .ok (.getfield 42, 3) := by decide +kernel
theorem dRn_tell_53 : decode cRn_tell 53 = .ok (.ireturn, 1) := by decide +kernel
theorem dRn_tell_54 : decode cRn_tell 54 = .ok (.aload_n 0, 1) := by decide +kernel
theorem dRn_tell_55 : decode cRn_tell 55 = .ok (.getfield 45, 3) := by decide +kernel
theorem dRn_tell_58 : decode cRn_tell 58 = .ok (.ireturn, 1) := by decide +kernel
theorem dRn_tell_59 : decode cRn_tell 59 = .ok (.aload_n 0, 1) := by decide +kernel
theorem dRn_tell_60 : decode cRn_tell 60 = .ok (.getfield 48, 3) := by decide +kernel
theorem dRn_tell_63 : decode cRn_tell 63 = .ok (.ireturn, 1) := by decide +kernel
theorem dRn_tell_64 : decode cRn_tell 64 = .ok (.aload_n 0, 1) := by decide +kernel
theorem dRn_tell_65 : decode cRn_tell 65 = .ok (.getfield 51, 3) := by decide +kernel
theorem dRn_tell_68 : decode cRn_tell 68 = .ok (.ireturn, 1) := by decide +kernel
theorem dRn_tell_69 : decode cRn_tell 69 = .ok (.aload_n 0, 1) := by decide +kernel
theorem dRn_tell_70 : decode cRn_tell 70 = .ok (.getfield 54, 3) := by decide +kernel
theorem dRn_tell_73 : decode cRn_tell 73 = .ok (.ireturn, 1) := by decide +kernel
theorem dRn_tell_74 : decode cRn_tell 74 = .ok (.aload_n 0, 1) := by decide +kernel
theorem dRn_tell_75 : decode cRn_tell 75 = .ok (.getfield 57, 3) := by decide +kernel
theorem dRn_tell_78 : decode cRn_tell 78 = .ok (.ireturn, 1) := by decide +kernel
theorem dRn_tell_79 : decode cRn_tell 79 = .ok (.aload_n 0, 1) := by decide +kernel
theorem dRn_tell_80 : decode cRn_tell 80 = .ok (.getfield 60, 3) := by decide +kernel
theorem dRn_tell_83 : decode cRn_tell 83 = .ok (.ifCond .eq 7, 3) := by decide +kernel
theorem dRn_tell_86 : decode cRn_tell 86 = .ok (.iconst 1, 1) := by decide +kernel
theorem dRn_tell_87 : decode cRn_tell 87 = .ok (.goto 4, 3) := by decide +kernel
theorem dRn_tell_90 : decode cRn_tell 90 = .ok (.iconst 0, 1) := by decide +kernel
theorem dRn_tell_91 : decode cRn_tell 91 = .ok (.ireturn, 1) := by decide +kernel
theorem dEx_cell_0 : decode cEx_cell 0 = .ok (.iload_n 1, 1) := by decide +kernel
theorem dEx_cell_1 : decode cEx_cell 1 = .ok (.invokestatic 25, 3) := by decide +kernel
theorem dEx_cell_4 : decode cEx_cell 4 = .ok (.ifCond .eq 10, 3) := by decide +kernel
theorem dEx_cell_7 : decode cEx_cell 7 = .ok (.iload_n 2, 1) := by decide +kernel
theorem dEx_cell_8 : decode cEx_cell 8 = .ok (.invokestatic 55, 3) := by decide +kernel
theorem dEx_cell_11 : decode cEx_cell 11 = .ok (.ifCond .ne 5, 3) := by decide +kernel
theorem dEx_cell_14 : decode cEx_cell 14 = .ok (.iconst (-1), 1) := by decide +kernel
theorem dEx_cell_15 : decode cEx_cell 15 = .ok (.ireturn, 1) := by decide +kernel
theorem dEx_cell_16 : decode cEx_cell 16 = .ok (.aload_n 0, 1) := by decide +kernel
theorem dEx_cell_17 : decode cEx_cell 17 = .ok (.getfield 17, 3) := by decide +kernel
theorem dEx_cell_20 : decode cEx_cell 20 = .ok (.iload_n 1, 1) := by decide +kernel
theorem dEx_cell_21 : decode cEx_cell 21 = .ok (.aaload, 1) := by decide +kernel
theorem dEx_cell_22 : decode cEx_cell 22 = .ok (.invokevirtual 47, 3) := by decide +kernel
theorem dEx_cell_25 : decode cEx_cell 25 = .ok (.ifCond .eq 16, 3) := by decide +kernel
theorem dEx_cell_28 : decode cEx_cell 28 = .ok (.aload_n 0, 1) := by decide +kernel
theorem dEx_cell_29 : decode cEx_cell 29 = .ok (.getfield 17, 3) := by decide +kernel
theorem dEx_cell_32 : decode cEx_cell 32 = .ok (.iload_n 1, 1) := by decide +kernel
theorem dEx_cell_33 : decode cEx_cell 33 = .ok (.aaload, 1) := by decide +kernel
theorem dEx_cell_34 : decode cEx_cell 34 = .ok (.iload_n 2, 1) := by decide +kernel
theorem dEx_cell_35 : decode cEx_cell 35 = .ok (.invokevirtual 58, 3) := by decide +kernel
theorem dEx_cell_38 : decode cEx_cell 38 = .ok (.goto 4, 3) := by decide +kernel
theorem dEx_cell_41 : decode cEx_cell 41 = .ok (.iconst 0, 1) := by decide +kernel
theorem dEx_cell_42 : decode cEx_cell 42 = .ok (.ireturn, 1) := by decide +kernel
end
section
theorem dRn_cellAtEnd_0 : decode cRn_cellAtEnd 0 = .ok (.aload_n 0, 1) := by decide +kernel
theorem dRn_cellAtEnd_1 : decode cRn_cellAtEnd 1 = .ok (.getfield 11, 3) := by decide +kernel
theorem dRn_cellAtEnd_4 : decode cRn_cellAtEnd 4 = .ok (.iload_n 1, 1) := by decide +kernel
theorem dRn_cellAtEnd_5 : decode cRn_cellAtEnd 5 = .ok (.iaload, 1) := by decide +kernel
theorem dRn_cellAtEnd_6 : decode cRn_cellAtEnd 6 = .ok (.ireturn, 1) := by decide +kernel
theorem dEx_counter_0 : decode cEx_counter 0 = .ok (.aload_n 0, 1) := by decide +kernel
theorem dEx_counter_1 : decode cEx_counter 1 = .ok (.getfield 61, 3) := by decide +kernel
theorem dEx_counter_4 : decode cEx_counter 4 = .ok (.lreturn, 1) := by decide +kernel
theorem dEx_count_0 : decode cEx_count 0 = .ok (.iload_n 1, 1) := by decide +kernel
theorem dEx_count_1 : decode cEx_count 1 = .ok (.tableswitch 42 0 2 #[27, 32, 37], 27) := by decide +kernel
theorem dEx_count_28 : decode cEx_count 28 = .ok (.aload_n 0, 1) := by decide +kernel
theorem dEx_count_29 : decode cEx_count 29 = .ok (.getfield 65, 3) := by decide +kernel
theorem dEx_count_32 : decode cEx_count 32 = .ok (.ireturn, 1) := by decide +kernel
theorem dEx_count_33 : decode cEx_count 33 = .ok (.aload_n 0, 1) := by decide +kernel
theorem dEx_count_34 : decode cEx_count 34 = .ok (.getfield 69, 3) := by decide +kernel
theorem dEx_count_37 : decode cEx_count 37 = .ok (.ireturn, 1) := by decide +kernel
theorem dEx_count_38 : decode cEx_count 38 = .ok (.aload_n 0, 1) := by decide +kernel
theorem dEx_count_39 : decode cEx_count 39 = .ok (.getfield 72, 3) := by decide +kernel
theorem dEx_count_42 : decode cEx_count 42 = .ok (.ireturn, 1) := by decide +kernel
theorem dEx_count_43 : decode cEx_count 43 = .ok (.iload_n 1, 1) := by decide +kernel
theorem dEx_count_44 : decode cEx_count 44 = .ok (.iconst 3, 1) := by decide +kernel
theorem dEx_count_45 : decode cEx_count 45 = .ok (.isub, 1) := by decide +kernel
theorem dEx_count_46 : decode cEx_count 46 = .ok (.invokestatic 25, 3) := by decide +kernel
theorem dEx_count_49 : decode cEx_count 49 = .ok (.ifCond .eq 17, 3) := by decide +kernel
theorem dEx_count_52 : decode cEx_count 52 = .ok (.aload_n 0, 1) := by decide +kernel
theorem dEx_count_53 : decode cEx_count 53 = .ok (.getfield 11, 3) := by decide +kernel
theorem dEx_count_56 : decode cEx_count 56 = .ok (.iload_n 1, 1) := by decide +kernel
theorem dEx_count_57 : decode cEx_count 57 = .ok (.iconst 3, 1) := by decide +kernel
theorem dEx_count_58 : decode cEx_count 58 = .ok (.isub, 1) := by decide +kernel
theorem dEx_count_59 : decode cEx_count 59 = .ok (.aaload, 1) := by decide +kernel
theorem dEx_count_60 : decode cEx_count 60 = .ok (.invokevirtual 75, 3) := by decide +kernel
theorem dEx_count_63 : decode cEx_count 63 = .ok (.goto 4, 3) := by decide +kernel
theorem dEx_count_66 : decode cEx_count 66 = .ok (.iconst (-1), 1) := by decide +kernel
theorem dEx_count_67 : decode cEx_count 67 = .ok (.ireturn, 1) := by decide +kernel
theorem dMd_init_0 : decode cMd_init 0 = .ok (.aload_n 0, 1) := by decide +kernel
theorem dMd_init_1 : decode cMd_init 1 = .ok (.invokespecial 1, 3) := by decide +kernel
theorem dMd_init_4 : decode cMd_init 4 = .ok (.aload_n 0, 1) := by decide +kernel
theorem dMd_init_5 : decode cMd_init 5 = .ok (.bipush 84, 2) := by decide +kernel
theorem dMd_init_7 : decode cMd_init 7 = .ok (.newarray .int, 2) := by decide +kernel
theorem dMd_init_9 : decode cMd_init 9 = .ok (.putfield 7, 3) := by decide +kernel
theorem dMd_init_12 : decode cMd_init 12 = .ok (.aload_n 0, 1) := by decide +kernel
theorem dMd_init_13 : decode cMd_init 13 = .ok (.bipush 84, 2) := by decide +kernel
theorem dMd_init_15 : decode cMd_init 15 = .ok (.newarray .int, 2) := by decide +kernel
theorem dMd_init_17 : decode cMd_init 17 = .ok (.putfield 13, 3) := by decide +kernel
theorem dMd_init_20 : decode cMd_init 20 = .ok (.aload_n 0, 1) := by decide +kernel
theorem dMd_init_21 : decode cMd_init 21 = .ok (.bipush 6, 2) := by decide +kernel
theorem dMd_init_23 : decode cMd_init 23 = .ok (.newarray .int, 2) := by decide +kernel
theorem dMd_init_25 : decode cMd_init 25 = .ok (.putfield 16, 3) := by decide +kernel
theorem dMd_init_28 : decode cMd_init 28 = .ok (.aload_n 0, 1) := by decide +kernel
theorem dMd_init_29 : decode cMd_init 29 = .ok (.bipush 48, 2) := by decide +kernel
theorem dMd_init_31 : decode cMd_init 31 = .ok (.newarray .int, 2) := by decide +kernel
theorem dMd_init_33 : decode cMd_init 33 = .ok (.putfield 19, 3) := by decide +kernel
theorem dMd_init_36 : decode cMd_init 36 = .ok (.aload_n 0, 1) := by decide +kernel
theorem dMd_init_37 : decode cMd_init 37 = .ok (.bipush 48, 2) := by decide +kernel
theorem dMd_init_39 : decode cMd_init 39 = .ok (.newarray .int, 2) := by decide +kernel
theorem dMd_init_41 : decode cMd_init 41 = .ok (.putfield 22, 3) := by decide +kernel
theorem dMd_init_44 : decode cMd_init 44 = .ok (.aload_n 0, 1) := by decide +kernel
theorem dMd_init_45 : decode cMd_init 45 = .ok (.bipush 6, 2) := by decide +kernel
theorem dMd_init_47 : decode cMd_init 47 = .ok (.newarray .boolean, 2) := by decide +kernel
theorem dMd_init_49 : decode cMd_init 49 = .ok (.putfield 25, 3) := by decide +kernel
theorem dMd_init_52 : decode cMd_init 52 = .ok (.aload_n 0, 1) := by decide +kernel
theorem dMd_init_53 : decode cMd_init 53 = .ok (.bipush 15, 2) := by decide +kernel
theorem dMd_init_55 : decode cMd_init 55 = .ok (.newarray .int, 2) := by decide +kernel
theorem dMd_init_57 : decode cMd_init 57 = .ok (.putfield 29, 3) := by decide +kernel
theorem dMd_init_60 : decode cMd_init 60 = .ok (.aload_n 0, 1) := by decide +kernel
theorem dMd_init_61 : decode cMd_init 61 = .ok (.bipush 15, 2) := by decide +kernel
theorem dMd_init_63 : decode cMd_init 63 = .ok (.newarray .int, 2) := by decide +kernel
theorem dMd_init_65 : decode cMd_init 65 = .ok (.putfield 32, 3) := by decide +kernel
theorem dMd_init_68 : decode cMd_init 68 = .ok (.aload_n 0, 1) := by decide +kernel
theorem dMd_init_69 : decode cMd_init 69 = .ok (.bipush 15, 2) := by decide +kernel
theorem dMd_init_71 : decode cMd_init 71 = .ok (.newarray .int, 2) := by decide +kernel
theorem dMd_init_73 : decode cMd_init 73 = .ok (.putfield 35, 3) := by decide +kernel
theorem dMd_init_76 : decode cMd_init 76 = .ok (.aload_n 0, 1) := by decide +kernel
theorem dMd_init_77 : decode cMd_init 77 = .ok (.bipush 8, 2) := by decide +kernel
theorem dMd_init_79 : decode cMd_init 79 = .ok (.newarray .int, 2) := by decide +kernel
theorem dMd_init_81 : decode cMd_init 81 = .ok (.putfield 38, 3) := by decide +kernel
theorem dMd_init_84 : decode cMd_init 84 = .ok (.aload_n 0, 1) := by decide +kernel
theorem dMd_init_85 : decode cMd_init 85 = .ok (.iconst 2, 1) := by decide +kernel
theorem dMd_init_86 : decode cMd_init 86 = .ok (.newarray .int, 2) := by decide +kernel
theorem dMd_init_88 : decode cMd_init 88 = .ok (.putfield 41, 3) := by decide +kernel
theorem dMd_init_91 : decode cMd_init 91 = .ok (.return_, 1) := by decide +kernel
theorem dMd_add_0 : decode cMd_add 0 = .ok (.iload_n 1, 1) := by decide +kernel
theorem dMd_add_1 : decode cMd_add 1 = .ok (.bipush 6, 2) := by decide +kernel
theorem dMd_add_3 : decode cMd_add 3 = .ok (.invokestatic 44, 3) := by decide +kernel
theorem dMd_add_6 : decode cMd_add 6 = .ok (.ifCond .eq 22, 3) := by decide +kernel
theorem dMd_add_9 : decode cMd_add 9 = .ok (.iload_n 2, 1) := by decide +kernel
theorem dMd_add_10 : decode cMd_add 10 = .ok (.bipush 22, 2) := by decide +kernel
theorem dMd_add_12 : decode cMd_add 12 = .ok (.invokestatic 44, 3) := by decide +kernel
theorem dMd_add_15 : decode cMd_add 15 = .ok (.ifCond .eq 13, 3) := by decide +kernel
theorem dMd_add_18 : decode cMd_add 18 = .ok (.iload_n 3, 1) := by decide +kernel
theorem dMd_add_19 : decode cMd_add 19 = .ok (.sipush 256, 3) := by decide +kernel
theorem dMd_add_22 : decode cMd_add 22 = .ok (.invokestatic 44, 3) := by decide +kernel
theorem dMd_add_25 : decode cMd_add 25 = .ok (.ifCond .ne 5, 3) := by decide +kernel
theorem dMd_add_28 : decode cMd_add 28 = .ok (.iconst (-1), 1) := by decide +kernel
theorem dMd_add_29 : decode cMd_add 29 = .ok (.ireturn, 1) := by decide +kernel
theorem dMd_add_30 : decode cMd_add 30 = .ok (.aload_n 0, 1) := by decide +kernel
theorem dMd_add_31 : decode cMd_add 31 = .ok (.getfield 16, 3) := by decide +kernel
theorem dMd_add_34 : decode cMd_add 34 = .ok (.iload_n 1, 1) := by decide +kernel
theorem dMd_add_35 : decode cMd_add 35 = .ok (.iaload, 1) := by decide +kernel
theorem dMd_add_36 : decode cMd_add 36 = .ok (.bipush 14, 2) := by decide +kernel
theorem dMd_add_38 : decode cMd_add 38 = .ok (.if_icmp .ne 6, 3) := by decide +kernel
theorem dMd_add_41 : decode cMd_add 41 = .ok (.bipush (-2), 2) := by decide +kernel
theorem dMd_add_43 : decode cMd_add 43 = .ok (.ireturn, 1) := by decide +kernel
theorem dMd_add_44 : decode cMd_add 44 = .ok (.aload_n 0, 1) := by decide +kernel
theorem dMd_add_45 : decode cMd_add 45 = .ok (.getfield 7, 3) := by decide +kernel
theorem dMd_add_48 : decode cMd_add 48 = .ok (.iload_n 1, 1) := by decide +kernel
theorem dMd_add_49 : decode cMd_add 49 = .ok (.bipush 14, 2) := by decide +kernel
theorem dMd_add_51 : decode cMd_add 51 = .ok (.imul, 1) := by decide +kernel
theorem dMd_add_52 : decode cMd_add 52 = .ok (.aload_n 0, 1) := by decide +kernel
theorem dMd_add_53 : decode cMd_add 53 = .ok (.getfield 16, 3) := by decide +kernel
theorem dMd_add_56 : decode cMd_add 56 = .ok (.iload_n 1, 1) := by decide +kernel
theorem dMd_add_57 : decode cMd_add 57 = .ok (.iaload, 1) := by decide +kernel
theorem dMd_add_58 : decode cMd_add 58 = .ok (.iadd, 1) := by decide +kernel
theorem dMd_add_59 : decode cMd_add 59 = .ok (.iload_n 2, 1) := by decide +kernel
theorem dMd_add_60 : decode cMd_add 60 = .ok (.iastore, 1) := by decide +kernel
theorem dMd_add_61 : decode cMd_add 61 = .ok (.aload_n 0, 1) := by decide +kernel
theorem dMd_add_62 : decode cMd_add 62 = .ok (.getfield 13, 3) := by decide +kernel
theorem dMd_add_65 : decode cMd_add 65 = .ok (.iload_n 1, 1) := by decide +kernel
theorem dMd_add_66 : decode cMd_add 66 = .ok (.bipush 14, 2) := by decide +kernel
theorem dMd_add_68 : decode cMd_add 68 = .ok (.imul, 1) := by decide +kernel
theorem dMd_add_69 : decode cMd_add 69 = .ok (.aload_n 0, 1) := by decide +kernel
theorem dMd_add_70 : decode cMd_add 70 = .ok (.getfield 16, 3) := by decide +kernel
theorem dMd_add_73 : decode cMd_add 73 = .ok (.iload_n 1, 1) := by decide +kernel
theorem dMd_add_74 : decode cMd_add 74 = .ok (.iaload, 1) := by decide +kernel
theorem dMd_add_75 : decode cMd_add 75 = .ok (.iadd, 1) := by decide +kernel
theorem dMd_add_76 : decode cMd_add 76 = .ok (.iload_n 3, 1) := by decide +kernel
theorem dMd_add_77 : decode cMd_add 77 = .ok (.iastore, 1) := by decide +kernel
theorem dMd_add_78 : decode cMd_add 78 = .ok (.aload_n 0, 1) := by decide +kernel
theorem dMd_add_79 : decode cMd_add 79 = .ok (.getfield 16, 3) := by decide +kernel
theorem dMd_add_82 : decode cMd_add 82 = .ok (.iload_n 1, 1) := by decide +kernel
theorem dMd_add_83 : decode cMd_add 83 = .ok (.dup2, 1) := by decide +kernel
theorem dMd_add_84 : decode cMd_add 84 = .ok (.iaload, 1) := by decide +kernel
theorem dMd_add_85 : decode cMd_add 85 = .ok (.iconst 1, 1) := by decide +kernel
theorem dMd_add_86 : decode cMd_add 86 = .ok (.iadd, 1) := by decide +kernel
theorem dMd_add_87 : decode cMd_add 87 = .ok (.iastore, 1) := by decide +kernel
theorem dMd_add_88 : decode cMd_add 88 = .ok (.aload_n 0, 1) := by decide +kernel
theorem dMd_add_89 : decode cMd_add 89 = .ok (.iload_n 1, 1) := by decide +kernel
theorem dMd_add_90 : decode cMd_add 90 = .ok (.invokevirtual 48, 3) := by decide +kernel
theorem dMd_add_93 : decode cMd_add 93 = .ok (.aload_n 0, 1) := by decide +kernel
theorem dMd_add_94 : decode cMd_add 94 = .ok (.getfield 16, 3) := by decide +kernel
theorem dMd_add_97 : decode cMd_add 97 = .ok (.iload_n 1, 1) := by decide +kernel
theorem dMd_add_98 : decode cMd_add 98 = .ok (.iaload, 1) := by decide +kernel
theorem dMd_add_99 : decode cMd_add 99 = .ok (.iconst 1, 1) := by decide +kernel
theorem dMd_add_100 : decode cMd_add 100 = .ok (.isub, 1) := by decide +kernel
theorem dMd_add_101 : decode cMd_add 101 = .ok (.ireturn, 1) := by decide +kernel
theorem dMd_in_0 : decode cMd_in 0 = .ok (.iload_n 0, 1) := by decide +kernel
theorem dMd_in_1 : decode cMd_in 1 = .ok (.ifCond .lt 12, 3) := by decide +kernel
theorem dMd_in_4 : decode cMd_in 4 = .ok (.iload_n 0, 1) := by decide +kernel
theorem dMd_in_5 : decode cMd_in 5 = .ok (.iload_n 1, 1) := by decide +kernel
theorem dMd_in_6 : decode cMd_in 6 = .ok (.if_icmp .ge 7, 3) := by decide +kernel
theorem dMd_in_9 : decode cMd_in 9 = .ok (.iconst 1, 1) := by decide +kernel
theorem dMd_in_10 : decode cMd_in 10 = .ok (.goto 4, 3) := by decide +kernel
theorem dMd_in_13 : decode cMd_in 13 = .ok (.iconst 0, 1) := by decide +kernel
theorem dMd_in_14 : decode cMd_in 14 = .ok (.ireturn, 1) := by decide +kernel
theorem dMd_forget_0 : decode cMd_forget 0 = .ok (.aload_n 0, 1) := by decide +kernel
theorem dMd_forget_1 : decode cMd_forget 1 = .ok (.getfield 25, 3) := by decide +kernel
theorem dMd_forget_4 : decode cMd_forget 4 = .ok (.iload_n 1, 1) := by decide +kernel
theorem dMd_forget_5 : decode cMd_forget 5 = .ok (.iconst 0, 1) := by decide +kernel
theorem dMd_forget_6 : decode cMd_forget 6 = .ok (.bastore, 1) := by decide +kernel
theorem dMd_forget_7 : decode cMd_forget 7 = .ok (.iconst 0, 1) := by decide +kernel
theorem dMd_forget_8 : decode cMd_forget 8 = .ok (.istore_n 2, 1) := by decide +kernel
theorem dMd_forget_9 : decode cMd_forget 9 = .ok (.iload_n 2, 1) := by decide +kernel
theorem dMd_forget_10 : decode cMd_forget 10 = .ok (.bipush 8, 2) := by decide +kernel
theorem dMd_forget_12 : decode cMd_forget 12 = .ok (.if_icmp .ge 21, 3) := by decide +kernel
theorem dMd_forget_15 : decode cMd_forget 15 = .ok (.aload_n 0, 1) := by decide +kernel
theorem dMd_forget_16 : decode cMd_forget 16 = .ok (.getfield 22, 3) := by decide +kernel
theorem dMd_forget_19 : decode cMd_forget 19 = .ok (.iload_n 1, 1) := by decide +kernel
theorem dMd_forget_20 : decode cMd_forget 20 = .ok (.bipush 8, 2) := by decide +kernel
theorem dMd_forget_22 : decode cMd_forget 22 = .ok (.imul, 1) := by decide +kernel
theorem dMd_forget_23 : decode cMd_forget 23 = .ok (.iload_n 2, 1) := by decide +kernel
theorem dMd_forget_24 : decode cMd_forget 24 = .ok (.iadd, 1) := by decide +kernel
theorem dMd_forget_25 : decode cMd_forget 25 = .ok (.iconst 0, 1) := by decide +kernel
theorem dMd_forget_26 : decode cMd_forget 26 = .ok (.iastore, 1) := by decide +kernel
theorem dMd_forget_27 : decode cMd_forget 27 = .ok (.iinc 2 1, 3) := by decide +kernel
theorem dMd_forget_30 : decode cMd_forget 30 = .ok (.goto (-21), 3) := by decide +kernel
theorem dMd_forget_33 : decode cMd_forget 33 = .ok (.return_, 1) := by decide +kernel
theorem dMd_clear_0 : decode cMd_clear 0 = .ok (.iload_n 1, 1) := by decide +kernel
theorem dMd_clear_1 : decode cMd_clear 1 = .ok (.bipush 6, 2) := by decide +kernel
theorem dMd_clear_3 : decode cMd_clear 3 = .ok (.invokestatic 44, 3) := by decide +kernel
theorem dMd_clear_6 : decode cMd_clear 6 = .ok (.ifCond .ne 5, 3) := by decide +kernel
theorem dMd_clear_9 : decode cMd_clear 9 = .ok (.iconst (-1), 1) := by decide +kernel
theorem dMd_clear_10 : decode cMd_clear 10 = .ok (.ireturn, 1) := by decide +kernel
theorem dMd_clear_11 : decode cMd_clear 11 = .ok (.aload_n 0, 1) := by decide +kernel
theorem dMd_clear_12 : decode cMd_clear 12 = .ok (.getfield 16, 3) := by decide +kernel
theorem dMd_clear_15 : decode cMd_clear 15 = .ok (.iload_n 1, 1) := by decide +kernel
theorem dMd_clear_16 : decode cMd_clear 16 = .ok (.iconst 0, 1) := by decide +kernel
theorem dMd_clear_17 : decode cMd_clear 17 = .ok (.iastore, 1) := by decide +kernel
theorem dMd_clear_18 : decode cMd_clear 18 = .ok (.aload_n 0, 1) := by decide +kernel
theorem dMd_clear_19 : decode cMd_clear 19 = .ok (.iload_n 1, 1) := by decide +kernel
theorem dMd_clear_20 : decode cMd_clear 20 = .ok (.invokevirtual 48, 3) := by decide +kernel
theorem dMd_clear_23 : decode cMd_clear 23 = .ok (.iconst 0, 1) := by decide +kernel
theorem dMd_clear_24 : decode cMd_clear 24 = .ok (.ireturn, 1) := by decide +kernel
theorem dMd_run_0 : decode cMd_run 0 = .ok (.iload_n 1, 1) := by decide +kernel
theorem dMd_run_1 : decode cMd_run 1 = .ok (.bipush 6, 2) := by decide +kernel
theorem dMd_run_3 : decode cMd_run 3 = .ok (.invokestatic 44, 3) := by decide +kernel
theorem dMd_run_6 : decode cMd_run 6 = .ok (.ifCond .eq 12, 3) := by decide +kernel
theorem dMd_run_9 : decode cMd_run 9 = .ok (.aload_n 0, 1) := by decide +kernel
theorem dMd_run_10 : decode cMd_run 10 = .ok (.iload_n 1, 1) := by decide +kernel
theorem dMd_run_11 : decode cMd_run 11 = .ok (.iload_n 2, 1) := by decide +kernel
theorem dMd_run_12 : decode cMd_run 12 = .ok (.invokevirtual 139, 3) := by decide +kernel
theorem dMd_run_15 : decode cMd_run 15 = .ok (.goto 4, 3) := by decide +kernel
theorem dMd_run_18 : decode cMd_run 18 = .ok (.iconst (-1), 1) := by decide +kernel
theorem dMd_run_19 : decode cMd_run 19 = .ok (.ireturn, 1) := by decide +kernel
theorem dMd_perform_0 : decode cMd_perform 0 = .ok (.aload_n 0, 1) := by decide +kernel
theorem dMd_perform_1 : decode cMd_perform 1 = .ok (.iload_n 1, 1) := by decide +kernel
theorem dMd_perform_2 : decode cMd_perform 2 = .ok (.putfield 65, 3) := by decide +kernel
theorem dMd_perform_5 : decode cMd_perform 5 = .ok (.aload_n 0, 1) := by decide +kernel
theorem dMd_perform_6 : decode cMd_perform 6 = .ok (.aload_n 0, 1) := by decide +kernel
theorem dMd_perform_7 : decode cMd_perform 7 = .ok (.aload_n 0, 1) := by decide +kernel
theorem dMd_perform_8 : decode cMd_perform 8 = .ok (.aload_n 0, 1) := by decide +kernel
theorem dMd_perform_9 : decode cMd_perform 9 = .ok (.aload_n 0, 1) := by decide +kernel
theorem dMd_perform_10 : decode cMd_perform 10 = .ok (.aload_n 0, 1) := by decide +kernel
theorem dMd_perform_11 : decode cMd_perform 11 = .ok (.iconst 0, 1) := by decide +kernel
theorem dMd_perform_12 : decode cMd_perform 12 = .ok (.dup_x1, 1) := by decide +kernel
theorem dMd_perform_13 : decode cMd_perform 13 = .ok (.putfield 88, 3) := by decide +kernel
theorem dMd_perform_16 : decode cMd_perform 16 = .ok (.dup_x1, 1) := by decide +kernel
theorem dMd_perform_17 : decode cMd_perform 17 = .ok (.putfield 75, 3) := by decide +kernel
theorem dMd_perform_20 : decode cMd_perform 20 = .ok (.dup_x1, 1) := by decide +kernel
theorem dMd_perform_21 : decode cMd_perform 21 = .ok (.putfield 112, 3) := by decide +kernel
theorem dMd_perform_24 : decode cMd_perform 24 = .ok (.dup_x1, 1) := by decide +kernel
theorem dMd_perform_25 : decode cMd_perform 25 = .ok (.putfield 78, 3) := by decide +kernel
theorem dMd_perform_28 : decode cMd_perform 28 = .ok (.dup_x1, 1) := by decide +kernel
theorem dMd_perform_29 : decode cMd_perform 29 = .ok (.putfield 68, 3) := by decide +kernel
theorem dMd_perform_32 : decode cMd_perform 32 = .ok (.putfield 59, 3) := by decide +kernel
theorem dMd_perform_35 : decode cMd_perform 35 = .ok (.aload_n 0, 1) := by decide +kernel
theorem dMd_perform_36 : decode cMd_perform 36 = .ok (.iconst (-1), 1) := by decide +kernel
theorem dMd_perform_37 : decode cMd_perform 37 = .ok (.putfield 52, 3) := by decide +kernel
theorem dMd_perform_40 : decode cMd_perform 40 = .ok (.aload_n 0, 1) := by decide +kernel
theorem dMd_perform_41 : decode cMd_perform 41 = .ok (.aload_n 0, 1) := by decide +kernel
theorem dMd_perform_42 : decode cMd_perform 42 = .ok (.iconst (-1), 1) := by decide +kernel
theorem dMd_perform_43 : decode cMd_perform 43 = .ok (.dup_x1, 1) := by decide +kernel
theorem dMd_perform_44 : decode cMd_perform 44 = .ok (.putfield 62, 3) := by decide +kernel
theorem dMd_perform_47 : decode cMd_perform 47 = .ok (.putfield 56, 3) := by decide +kernel
theorem dMd_perform_50 : decode cMd_perform 50 = .ok (.aload_n 0, 1) := by decide +kernel
theorem dMd_perform_51 : decode cMd_perform 51 = .ok (.aload_n 0, 1) := by decide +kernel
theorem dMd_perform_52 : decode cMd_perform 52 = .ok (.iconst 0, 1) := by decide +kernel
theorem dMd_perform_53 : decode cMd_perform 53 = .ok (.dup_x1, 1) := by decide +kernel
theorem dMd_perform_54 : decode cMd_perform 54 = .ok (.putfield 81, 3) := by decide +kernel
theorem dMd_perform_57 : decode cMd_perform 57 = .ok (.putfield 95, 3) := by decide +kernel
theorem dMd_perform_60 : decode cMd_perform 60 = .ok (.iconst 0, 1) := by decide +kernel
theorem dMd_perform_61 : decode cMd_perform 61 = .ok (.istore_n 3, 1) := by decide +kernel
theorem dMd_perform_62 : decode cMd_perform 62 = .ok (.iload_n 3, 1) := by decide +kernel
theorem dMd_perform_63 : decode cMd_perform 63 = .ok (.bipush 8, 2) := by decide +kernel
theorem dMd_perform_65 : decode cMd_perform 65 = .ok (.if_icmp .ge 16, 3) := by decide +kernel
theorem dMd_perform_68 : decode cMd_perform 68 = .ok (.aload_n 0, 1) := by decide +kernel
theorem dMd_perform_69 : decode cMd_perform 69 = .ok (.getfield 38, 3) := by decide +kernel
theorem dMd_perform_72 : decode cMd_perform 72 = .ok (.iload_n 3, 1) := by decide +kernel
theorem dMd_perform_73 : decode cMd_perform 73 = .ok (.iconst 0, 1) := by decide +kernel
theorem dMd_perform_74 : decode cMd_perform 74 = .ok (.iastore, 1) := by decide +kernel
theorem dMd_perform_75 : decode cMd_perform 75 = .ok (.iinc 3 1, 3) := by decide +kernel
theorem dMd_perform_78 : decode cMd_perform 78 = .ok (.goto (-16), 3) := by decide +kernel
theorem dMd_perform_81 : decode cMd_perform 81 = .ok (.aload_n 0, 1) := by decide +kernel
theorem dMd_perform_82 : decode cMd_perform 82 = .ok (.getfield 41, 3) := by decide +kernel
theorem dMd_perform_85 : decode cMd_perform 85 = .ok (.iconst 0, 1) := by decide +kernel
theorem dMd_perform_86 : decode cMd_perform 86 = .ok (.aload_n 0, 1) := by decide +kernel
theorem dMd_perform_87 : decode cMd_perform 87 = .ok (.getfield 41, 3) := by decide +kernel
theorem dMd_perform_90 : decode cMd_perform 90 = .ok (.iconst 1, 1) := by decide +kernel
theorem dMd_perform_91 : decode cMd_perform 91 = .ok (.iconst 0, 1) := by decide +kernel
theorem dMd_perform_92 : decode cMd_perform 92 = .ok (.dup_x2, 1) := by decide +kernel
theorem dMd_perform_93 : decode cMd_perform 93 = .ok (.iastore, 1) := by decide +kernel
theorem dMd_perform_94 : decode cMd_perform 94 = .ok (.iastore, 1) := by decide +kernel
theorem dMd_perform_95 : decode cMd_perform 95 = .ok (.iconst 0, 1) := by decide +kernel
theorem dMd_perform_96 : decode cMd_perform 96 = .ok (.istore_n 3, 1) := by decide +kernel
theorem dMd_perform_97 : decode cMd_perform 97 = .ok (.iload_n 3, 1) := by decide +kernel
theorem dMd_perform_98 : decode cMd_perform 98 = .ok (.ldc 122, 2) := by decide +kernel
theorem dMd_perform_100 : decode cMd_perform 100 = .ok (.if_icmp .ge 93, 3) := by decide +kernel
theorem dMd_perform_103 : decode cMd_perform 103 = .ok (.aload_n 0, 1) := by decide +kernel
theorem dMd_perform_104 : decode cMd_perform 104 = .ok (.getfield 52, 3) := by decide +kernel
theorem dMd_perform_107 : decode cMd_perform 107 = .ok (.ifCond .ge 14, 3) := by decide +kernel
theorem dMd_perform_110 : decode cMd_perform 110 = .ok (.aload_n 0, 1) := by decide +kernel
theorem dMd_perform_111 : decode cMd_perform 111 = .ok (.getfield 81, 3) := by decide +kernel
theorem dMd_perform_114 : decode cMd_perform 114 = .ok (.ifCond .ne 7, 3) := by decide +kernel
theorem dMd_perform_117 : decode cMd_perform 117 = .ok (.iconst 1, 1) := by decide +kernel
theorem dMd_perform_118 : decode cMd_perform 118 = .ok (.goto 4, 3) := by decide +kernel
theorem dMd_perform_121 : decode cMd_perform 121 = .ok (.iconst 0, 1) := by decide +kernel
theorem dMd_perform_122 : decode cMd_perform 122 = .ok (.istore 4, 2) := by decide +kernel
theorem dMd_perform_124 : decode cMd_perform 124 = .ok (.aload_n 0, 1) := by decide +kernel
theorem dMd_perform_125 : decode cMd_perform 125 = .ok (.getfield 68, 3) := by decide +kernel
theorem dMd_perform_128 : decode cMd_perform 128 = .ok (.ifCond .le 33, 3) := by decide +kernel
theorem dMd_perform_131 : decode cMd_perform 131 = .ok (.iload 4, 2) := by decide +kernel
theorem dMd_perform_133 : decode cMd_perform 133 = .ok (.ifCond .eq 21, 3) := by decide +kernel
theorem dMd_perform_136 : decode cMd_perform 136 = .ok (.aload_n 0, 1) := by decide +kernel
theorem dMd_perform_137 : decode cMd_perform 137 = .ok (.getfield 59, 3) := by decide +kernel
theorem dMd_perform_140 : decode cMd_perform 140 = .ok (.aload_n 0, 1) := by decide +kernel
theorem dMd_perform_141 : decode cMd_perform 141 = .ok (.getfield 32, 3) := by decide +kernel
theorem dMd_perform_144 : decode cMd_perform 144 = .ok (.aload_n 0, 1) := by decide +kernel
theorem dMd_perform_145 : decode cMd_perform 145 = .ok (.getfield 68, 3) := by decide +kernel
theorem dMd_perform_148 : decode cMd_perform 148 = .ok (.iconst 1, 1) := by decide +kernel
theorem dMd_perform_149 : decode cMd_perform 149 = .ok (.isub, 1) := by decide +kernel
theorem dMd_perform_150 : decode cMd_perform 150 = .ok (.iaload, 1) := by decide +kernel
theorem dMd_perform_151 : decode cMd_perform 151 = .ok (.if_icmp .ne 10, 3) := by decide +kernel
theorem dMd_perform_154 : decode cMd_perform 154 = .ok (.aload_n 0, 1) := by decide +kernel
theorem dMd_perform_155 : decode cMd_perform 155 = .ok (.invokevirtual 123, 3) := by decide +kernel
theorem dMd_perform_158 : decode cMd_perform 158 = .ok (.goto 29, 3) := by decide +kernel
theorem dMd_perform_161 : decode cMd_perform 161 = .ok (.iload 4, 2) := by decide +kernel
theorem dMd_perform_163 : decode cMd_perform 163 = .ok (.ifCond .eq 30, 3) := by decide +kernel
theorem dMd_perform_166 : decode cMd_perform 166 = .ok (.aload_n 0, 1) := by decide +kernel
theorem dMd_perform_167 : decode cMd_perform 167 = .ok (.getfield 59, 3) := by decide +kernel
theorem dMd_perform_170 : decode cMd_perform 170 = .ok (.aload_n 0, 1) := by decide +kernel
theorem dMd_perform_171 : decode cMd_perform 171 = .ok (.getfield 16, 3) := by decide +kernel
theorem dMd_perform_174 : decode cMd_perform 174 = .ok (.iload_n 1, 1) := by decide +kernel
theorem dMd_perform_175 : decode cMd_perform 175 = .ok (.iaload, 1) := by decide +kernel
theorem dMd_perform_176 : decode cMd_perform 176 = .ok (.if_icmp .ne 6, 3) := by decide +kernel
theorem dMd_perform_179 : decode cMd_perform 179 = .ok (.goto 14, 3) := by decide +kernel
theorem dMd_perform_182 : decode cMd_perform 182 = .ok (.aload_n 0, 1) := by decide +kernel
theorem dMd_perform_183 : decode cMd_perform 183 = .ok (.iload_n 2, 1) := by decide +kernel
theorem dMd_perform_184 : decode cMd_perform 184 = .ok (.invokevirtual 126, 3) := by decide +kernel
theorem dMd_perform_187 : decode cMd_perform 187 = .ok (.iinc 3 1, 3) := by decide +kernel
theorem dMd_perform_190 : decode cMd_perform 190 = .ok (.goto (-93), 3) := by decide +kernel
theorem dMd_perform_193 : decode cMd_perform 193 = .ok (.aload_n 0, 1) := by decide +kernel
theorem dMd_perform_194 : decode cMd_perform 194 = .ok (.dup, 1) := by decide +kernel
theorem dMd_perform_195 : decode cMd_perform 195 = .ok (.getfield 130, 3) := by decide +kernel
theorem dMd_perform_198 : decode cMd_perform 198 = .ok (.iconst 1, 1) := by decide +kernel
theorem dMd_perform_199 : decode cMd_perform 199 = .ok (.iadd, 1) := by decide +kernel
theorem dMd_perform_200 : decode cMd_perform 200 = .ok (.putfield 130, 3) := by decide +kernel
theorem dMd_perform_203 : decode cMd_perform 203 = .ok (.iload_n 2, 1) := by decide +kernel
theorem dMd_perform_204 : decode cMd_perform 204 = .ok (.ifCond .eq 13, 3) := by decide +kernel
theorem dMd_perform_207 : decode cMd_perform 207 = .ok (.aload_n 0, 1) := by decide +kernel
theorem dMd_perform_208 : decode cMd_perform 208 = .ok (.dup, 1) := by decide +kernel
theorem dMd_perform_209 : decode cMd_perform 209 = .ok (.getfield 133, 3) := by decide +kernel
theorem dMd_perform_212 : decode cMd_perform 212 = .ok (.iconst 1, 1) := by decide +kernel
theorem dMd_perform_213 : decode cMd_perform 213 = .ok (.iadd, 1) := by decide +kernel
theorem dMd_perform_214 : decode cMd_perform 214 = .ok (.putfield 133, 3) := by decide +kernel
theorem dMd_perform_217 : decode cMd_perform 217 = .ok (.aload_n 0, 1) := by decide +kernel
theorem dMd_perform_218 : decode cMd_perform 218 = .ok (.getfield 52, 3) := by decide +kernel
theorem dMd_perform_221 : decode cMd_perform 221 = .ok (.ifCond .lt 13, 3) := by decide +kernel
theorem dMd_perform_224 : decode cMd_perform 224 = .ok (.aload_n 0, 1) := by decide +kernel
theorem dMd_perform_225 : decode cMd_perform 225 = .ok (.dup, 1) := by decide +kernel
theorem dMd_perform_226 : decode cMd_perform 226 = .ok (.getfield 136, 3) := by decide +kernel
theorem dMd_perform_229 : decode cMd_perform 229 = .ok (.iconst 1, 1) := by decide +kernel
theorem dMd_perform_230 : decode cMd_perform 230 = .ok (.iadd, 1) := by decide +kernel
theorem dMd_perform_231 : decode cMd_perform 231 = .ok (.putfield 136, 3) := by decide +kernel
theorem dMd_perform_234 : decode cMd_perform 234 = .ok (.aload_n 0, 1) := by decide +kernel
theorem dMd_perform_235 : decode cMd_perform 235 = .ok (.getfield 52, 3) := by decide +kernel
theorem dMd_perform_238 : decode cMd_perform 238 = .ok (.ifCond .lt 13, 3) := by decide +kernel
theorem dMd_perform_241 : decode cMd_perform 241 = .ok (.bipush 100, 2) := by decide +kernel
theorem dMd_perform_243 : decode cMd_perform 243 = .ok (.aload_n 0, 1) := by decide +kernel
theorem dMd_perform_244 : decode cMd_perform 244 = .ok (.getfield 52, 3) := by decide +kernel
theorem dMd_perform_247 : decode cMd_perform 247 = .ok (.iadd, 1) := by decide +kernel
theorem dMd_perform_248 : decode cMd_perform 248 = .ok (.goto 4, 3) := by decide +kernel
theorem dMd_perform_251 : decode cMd_perform 251 = .ok (.iconst 0, 1) := by decide +kernel
theorem dMd_perform_252 : decode cMd_perform 252 = .ok (.istore_n 3, 1) := by decide +kernel
theorem dMd_perform_253 : decode cMd_perform 253 = .ok (.iload_n 1, 1) := by decide +kernel
theorem dMd_perform_254 : decode cMd_perform 254 = .ok (.bipush 8, 2) := by decide +kernel
theorem dMd_perform_256 : decode cMd_perform 256 = .ok (.imul, 1) := by decide +kernel
theorem dMd_perform_257 : decode cMd_perform 257 = .ok (.istore 4, 2) := by decide +kernel
theorem dMd_perform_259 : decode cMd_perform 259 = .ok (.aload_n 0, 1) := by decide +kernel
theorem dMd_perform_260 : decode cMd_perform 260 = .ok (.getfield 19, 3) := by decide +kernel
theorem dMd_perform_263 : decode cMd_perform 263 = .ok (.iload 4, 2) := by decide +kernel
theorem dMd_perform_265 : decode cMd_perform 265 = .ok (.iload_n 3, 1) := by decide +kernel
theorem dMd_perform_266 : decode cMd_perform 266 = .ok (.iastore, 1) := by decide +kernel
theorem dMd_perform_267 : decode cMd_perform 267 = .ok (.aload_n 0, 1) := by decide +kernel
theorem dMd_perform_268 : decode cMd_perform 268 = .ok (.getfield 19, 3) := by decide +kernel
theorem dMd_perform_271 : decode cMd_perform 271 = .ok (.iload 4, 2) := by decide +kernel
theorem dMd_perform_273 : decode cMd_perform 273 = .ok (.iconst 1, 1) := by decide +kernel
theorem dMd_perform_274 : decode cMd_perform 274 = .ok (.iadd, 1) := by decide +kernel
theorem dMd_perform_275 : decode cMd_perform 275 = .ok (.aload_n 0, 1) := by decide +kernel
theorem dMd_perform_276 : decode cMd_perform 276 = .ok (.getfield 78, 3) := by decide +kernel
theorem dMd_perform_279 : decode cMd_perform 279 = .ok (.iastore, 1) := by decide +kernel
theorem dMd_perform_280 : decode cMd_perform 280 = .ok (.aload_n 0, 1) := by decide +kernel
theorem dMd_perform_281 : decode cMd_perform 281 = .ok (.getfield 19, 3) := by decide +kernel
theorem dMd_perform_284 : decode cMd_perform 284 = .ok (.iload 4, 2) := by decide +kernel
theorem dMd_perform_286 : decode cMd_perform 286 = .ok (.iconst 2, 1) := by decide +kernel
theorem dMd_perform_287 : decode cMd_perform 287 = .ok (.iadd, 1) := by decide +kernel
theorem dMd_perform_288 : decode cMd_perform 288 = .ok (.aload_n 0, 1) := by decide +kernel
theorem dMd_perform_289 : decode cMd_perform 289 = .ok (.getfield 112, 3) := by decide +kernel
theorem dMd_perform_292 : decode cMd_perform 292 = .ok (.iastore, 1) := by decide +kernel
theorem dMd_perform_293 : decode cMd_perform 293 = .ok (.aload_n 0, 1) := by decide +kernel
theorem dMd_perform_294 : decode cMd_perform 294 = .ok (.getfield 19, 3) := by decide +kernel
theorem dMd_perform_297 : decode cMd_perform 297 = .ok (.iload 4, 2) := by decide +kernel
theorem dMd_perform_299 : decode cMd_perform 299 = .ok (.iconst 3, 1) := by decide +kernel
theorem dMd_perform_300 : decode cMd_perform 300 = .ok (.iadd, 1) := by decide +kernel
theorem dMd_perform_301 : decode cMd_perform 301 = .ok (.aload_n 0, 1) := by decide +kernel
theorem dMd_perform_302 : decode cMd_perform 302 = .ok (.getfield 75, 3) := by decide +kernel
theorem dMd_perform_305 : decode cMd_perform 305 = .ok (.iastore, 1) := by decide +kernel
theorem dMd_perform_306 : decode cMd_perform 306 = .ok (.aload_n 0, 1) := by decide +kernel
theorem dMd_perform_307 : decode cMd_perform 307 = .ok (.getfield 19, 3) := by decide +kernel
theorem dMd_perform_310 : decode cMd_perform 310 = .ok (.iload 4, 2) := by decide +kernel
theorem dMd_perform_312 : decode cMd_perform 312 = .ok (.iconst 4, 1) := by decide +kernel
theorem dMd_perform_313 : decode cMd_perform 313 = .ok (.iadd, 1) := by decide +kernel
theorem dMd_perform_314 : decode cMd_perform 314 = .ok (.aload_n 0, 1) := by decide +kernel
theorem dMd_perform_315 : decode cMd_perform 315 = .ok (.getfield 88, 3) := by decide +kernel
theorem dMd_perform_318 : decode cMd_perform 318 = .ok (.iastore, 1) := by decide +kernel
theorem dMd_perform_319 : decode cMd_perform 319 = .ok (.aload_n 0, 1) := by decide +kernel
theorem dMd_perform_320 : decode cMd_perform 320 = .ok (.getfield 19, 3) := by decide +kernel
theorem dMd_perform_323 : decode cMd_perform 323 = .ok (.iload 4, 2) := by decide +kernel
theorem dMd_perform_325 : decode cMd_perform 325 = .ok (.iconst 5, 1) := by decide +kernel
theorem dMd_perform_326 : decode cMd_perform 326 = .ok (.iadd, 1) := by decide +kernel
theorem dMd_perform_327 : decode cMd_perform 327 = .ok (.aload_n 0, 1) := by decide +kernel
theorem dMd_perform_328 : decode cMd_perform 328 = .ok (.getfield 52, 3) := by decide +kernel
theorem dMd_perform_331 : decode cMd_perform 331 = .ok (.ifCond .lt 10, 3) := by decide +kernel
theorem dMd_perform_334 : decode cMd_perform 334 = .ok (.aload_n 0, 1) := by decide +kernel
theorem dMd_perform_335 : decode cMd_perform 335 = .ok (.getfield 62, 3) := by decide +kernel
theorem dMd_perform_338 : decode cMd_perform 338 = .ok (.goto 4, 3) := by decide +kernel
theorem dMd_perform_341 : decode cMd_perform 341 = .ok (.iconst (-1), 1) := by decide +kernel
theorem dMd_perform_342 : decode cMd_perform 342 = .ok (.iastore, 1) := by decide +kernel
theorem dMd_perform_343 : decode cMd_perform 343 = .ok (.aload_n 0, 1) := by decide +kernel
theorem dMd_perform_344 : decode cMd_perform 344 = .ok (.getfield 19, 3) := by decide +kernel
theorem dMd_perform_347 : decode cMd_perform 347 = .ok (.iload 4, 2) := by decide +kernel
theorem dMd_perform_349 : decode cMd_perform 349 = .ok (.bipush 6, 2) := by decide +kernel
theorem dMd_perform_351 : decode cMd_perform 351 = .ok (.iadd, 1) := by decide +kernel
theorem dMd_perform_352 : decode cMd_perform 352 = .ok (.aload_n 0, 1) := by decide +kernel
theorem dMd_perform_353 : decode cMd_perform 353 = .ok (.getfield 52, 3) := by decide +kernel
theorem dMd_perform_356 : decode cMd_perform 356 = .ok (.bipush 10, 2) := by decide +kernel
theorem dMd_perform_358 : decode cMd_perform 358 = .ok (.if_icmp .ne 10, 3) := by decide +kernel
theorem dMd_perform_361 : decode cMd_perform 361 = .ok (.aload_n 0, 1) := by decide +kernel
theorem dMd_perform_362 : decode cMd_perform 362 = .ok (.getfield 56, 3) := by decide +kernel
theorem dMd_perform_365 : decode cMd_perform 365 = .ok (.goto 4, 3) := by decide +kernel
theorem dMd_perform_368 : decode cMd_perform 368 = .ok (.iconst (-1), 1) := by decide +kernel
theorem dMd_perform_369 : decode cMd_perform 369 = .ok (.iastore, 1) := by decide +kernel
theorem dMd_perform_370 : decode cMd_perform 370 = .ok (.aload_n 0, 1) := by decide +kernel
theorem dMd_perform_371 : decode cMd_perform 371 = .ok (.getfield 19, 3) := by decide +kernel
theorem dMd_perform_374 : decode cMd_perform 374 = .ok (.iload 4, 2) := by decide +kernel
theorem dMd_perform_376 : decode cMd_perform 376 = .ok (.bipush 7, 2) := by decide +kernel
theorem dMd_perform_378 : decode cMd_perform 378 = .ok (.iadd, 1) := by decide +kernel
theorem dMd_perform_379 : decode cMd_perform 379 = .ok (.aload_n 0, 1) := by decide +kernel
theorem dMd_perform_380 : decode cMd_perform 380 = .ok (.getfield 95, 3) := by decide +kernel
theorem dMd_perform_383 : decode cMd_perform 383 = .ok (.ifCond .eq 7, 3) := by decide +kernel
theorem dMd_perform_386 : decode cMd_perform 386 = .ok (.iconst 1, 1) := by decide +kernel
theorem dMd_perform_387 : decode cMd_perform 387 = .ok (.goto 4, 3) := by decide +kernel
theorem dMd_perform_390 : decode cMd_perform 390 = .ok (.iconst 0, 1) := by decide +kernel
theorem dMd_perform_391 : decode cMd_perform 391 = .ok (.iastore, 1) := by decide +kernel
theorem dMd_perform_392 : decode cMd_perform 392 = .ok (.iconst 0, 1) := by decide +kernel
theorem dMd_perform_393 : decode cMd_perform 393 = .ok (.istore 5, 2) := by decide +kernel
theorem dMd_perform_395 : decode cMd_perform 395 = .ok (.iload 5, 2) := by decide +kernel
theorem dMd_perform_397 : decode cMd_perform 397 = .ok (.bipush 8, 2) := by decide +kernel
theorem dMd_perform_399 : decode cMd_perform 399 = .ok (.if_icmp .ge 26, 3) := by decide +kernel
theorem dMd_perform_402 : decode cMd_perform 402 = .ok (.aload_n 0, 1) := by decide +kernel
theorem dMd_perform_403 : decode cMd_perform 403 = .ok (.getfield 22, 3) := by decide +kernel
theorem dMd_perform_406 : decode cMd_perform 406 = .ok (.iload 4, 2) := by decide +kernel
theorem dMd_perform_408 : decode cMd_perform 408 = .ok (.iload 5, 2) := by decide +kernel
theorem dMd_perform_410 : decode cMd_perform 410 = .ok (.iadd, 1) := by decide +kernel
theorem dMd_perform_411 : decode cMd_perform 411 = .ok (.aload_n 0, 1) := by decide +kernel
theorem dMd_perform_412 : decode cMd_perform 412 = .ok (.getfield 38, 3) := by decide +kernel
theorem dMd_perform_415 : decode cMd_perform 415 = .ok (.iload 5, 2) := by decide +kernel
theorem dMd_perform_417 : decode cMd_perform 417 = .ok (.iaload, 1) := by decide +kernel
theorem dMd_perform_418 : decode cMd_perform 418 = .ok (.iastore, 1) := by decide +kernel
theorem dMd_perform_419 : decode cMd_perform 419 = .ok (.iinc 5 1, 3) := by decide +kernel
theorem dMd_perform_422 : decode cMd_perform 422 = .ok (.goto (-27), 3) := by decide +kernel
theorem dMd_perform_425 : decode cMd_perform 425 = .ok (.aload_n 0, 1) := by decide +kernel
theorem dMd_perform_426 : decode cMd_perform 426 = .ok (.getfield 25, 3) := by decide +kernel
theorem dMd_perform_429 : decode cMd_perform 429 = .ok (.iload_n 1, 1) := by decide +kernel
theorem dMd_perform_430 : decode cMd_perform 430 = .ok (.iconst 1, 1) := by decide +kernel
theorem dMd_perform_431 : decode cMd_perform 431 = .ok (.bastore, 1) := by decide +kernel
theorem dMd_perform_432 : decode cMd_perform 432 = .ok (.iload_n 3, 1) := by decide +kernel
theorem dMd_perform_433 : decode cMd_perform 433 = .ok (.ireturn, 1) := by decide +kernel
theorem dMd_leave_0 : decode cMd_leave 0 = .ok (.aload_n 0, 1) := by decide +kernel
theorem dMd_leave_1 : decode cMd_leave 1 = .ok (.dup, 1) := by decide +kernel
theorem dMd_leave_2 : decode cMd_leave 2 = .ok (.getfield 68, 3) := by decide +kernel
theorem dMd_leave_5 : decode cMd_leave 5 = .ok (.iconst 1, 1) := by decide +kernel
theorem dMd_leave_6 : decode cMd_leave 6 = .ok (.isub, 1) := by decide +kernel
theorem dMd_leave_7 : decode cMd_leave 7 = .ok (.putfield 68, 3) := by decide +kernel
theorem dMd_leave_10 : decode cMd_leave 10 = .ok (.aload_n 0, 1) := by decide +kernel
theorem dMd_leave_11 : decode cMd_leave 11 = .ok (.getfield 29, 3) := by decide +kernel
theorem dMd_leave_14 : decode cMd_leave 14 = .ok (.aload_n 0, 1) := by decide +kernel
theorem dMd_leave_15 : decode cMd_leave 15 = .ok (.getfield 68, 3) := by decide +kernel
theorem dMd_leave_18 : decode cMd_leave 18 = .ok (.iaload, 1) := by decide +kernel
theorem dMd_leave_19 : decode cMd_leave 19 = .ok (.istore_n 1, 1) := by decide +kernel
theorem dMd_leave_20 : decode cMd_leave 20 = .ok (.aload_n 0, 1) := by decide +kernel
theorem dMd_leave_21 : decode cMd_leave 21 = .ok (.getfield 7, 3) := by decide +kernel
theorem dMd_leave_24 : decode cMd_leave 24 = .ok (.aload_n 0, 1) := by decide +kernel
theorem dMd_leave_25 : decode cMd_leave 25 = .ok (.getfield 65, 3) := by decide +kernel
theorem dMd_leave_28 : decode cMd_leave 28 = .ok (.bipush 14, 2) := by decide +kernel
theorem dMd_leave_30 : decode cMd_leave 30 = .ok (.imul, 1) := by decide +kernel
theorem dMd_leave_31 : decode cMd_leave 31 = .ok (.iload_n 1, 1) := by decide +kernel
theorem dMd_leave_32 : decode cMd_leave 32 = .ok (.iadd, 1) := by decide +kernel
theorem dMd_leave_33 : decode cMd_leave 33 = .ok (.iaload, 1) := by decide +kernel
theorem dMd_leave_34 : decode cMd_leave 34 = .ok (.istore_n 2, 1) := by decide +kernel
theorem dMd_leave_35 : decode cMd_leave 35 = .ok (.aload_n 0, 1) := by decide +kernel
theorem dMd_leave_36 : decode cMd_leave 36 = .ok (.iload_n 1, 1) := by decide +kernel
theorem dMd_leave_37 : decode cMd_leave 37 = .ok (.invokevirtual 71, 3) := by decide +kernel
theorem dMd_leave_40 : decode cMd_leave 40 = .ok (.istore_n 3, 1) := by decide +kernel
theorem dMd_leave_41 : decode cMd_leave 41 = .ok (.aload_n 0, 1) := by decide +kernel
theorem dMd_leave_42 : decode cMd_leave 42 = .ok (.aload_n 0, 1) := by decide +kernel
theorem dMd_leave_43 : decode cMd_leave 43 = .ok (.getfield 32, 3) := by decide +kernel
theorem dMd_leave_46 : decode cMd_leave 46 = .ok (.aload_n 0, 1) := by decide +kernel
theorem dMd_leave_47 : decode cMd_leave 47 = .ok (.getfield 68, 3) := by decide +kernel
theorem dMd_leave_50 : decode cMd_leave 50 = .ok (.iaload, 1) := by decide +kernel
theorem dMd_leave_51 : decode cMd_leave 51 = .ok (.putfield 59, 3) := by decide +kernel
theorem dMd_leave_54 : decode cMd_leave 54 = .ok (.iload_n 2, 1) := by decide +kernel
theorem dMd_leave_55 : decode cMd_leave 55 = .ok (.bipush 11, 2) := by decide +kernel
theorem dMd_leave_57 : decode cMd_leave 57 = .ok (.if_icmp .eq 9, 3) := by decide +kernel
theorem dMd_leave_60 : decode cMd_leave 60 = .ok (.iload_n 2, 1) := by decide +kernel
theorem dMd_leave_61 : decode cMd_leave 61 = .ok (.bipush 12, 2) := by decide +kernel
theorem dMd_leave_63 : decode cMd_leave 63 = .ok (.if_icmp .ne 13, 3) := by decide +kernel
theorem dMd_leave_66 : decode cMd_leave 66 = .ok (.aload_n 0, 1) := by decide +kernel
theorem dMd_leave_67 : decode cMd_leave 67 = .ok (.dup, 1) := by decide +kernel
theorem dMd_leave_68 : decode cMd_leave 68 = .ok (.getfield 75, 3) := by decide +kernel
theorem dMd_leave_71 : decode cMd_leave 71 = .ok (.iconst 1, 1) := by decide +kernel
theorem dMd_leave_72 : decode cMd_leave 72 = .ok (.iadd, 1) := by decide +kernel
theorem dMd_leave_73 : decode cMd_leave 73 = .ok (.putfield 75, 3) := by decide +kernel
theorem dMd_leave_76 : decode cMd_leave 76 = .ok (.iload_n 2, 1) := by decide +kernel
theorem dMd_leave_77 : decode cMd_leave 77 = .ok (.bipush 11, 2) := by decide +kernel
theorem dMd_leave_79 : decode cMd_leave 79 = .ok (.if_icmp .ne 12, 3) := by decide +kernel
theorem dMd_leave_82 : decode cMd_leave 82 = .ok (.aload_n 0, 1) := by decide +kernel
theorem dMd_leave_83 : decode cMd_leave 83 = .ok (.aload_n 0, 1) := by decide +kernel
theorem dMd_leave_84 : decode cMd_leave 84 = .ok (.getfield 78, 3) := by decide +kernel
theorem dMd_leave_87 : decode cMd_leave 87 = .ok (.ineg, 1) := by decide +kernel
theorem dMd_leave_88 : decode cMd_leave 88 = .ok (.putfield 78, 3) := by decide +kernel
theorem dMd_leave_91 : decode cMd_leave 91 = .ok (.iload_n 2, 1) := by decide +kernel
theorem dMd_leave_92 : decode cMd_leave 92 = .ok (.bipush 13, 2) := by decide +kernel
theorem dMd_leave_94 : decode cMd_leave 94 = .ok (.if_icmp .ne 15, 3) := by decide +kernel
theorem dMd_leave_97 : decode cMd_leave 97 = .ok (.aload_n 0, 1) := by decide +kernel
theorem dMd_leave_98 : decode cMd_leave 98 = .ok (.getfield 41, 3) := by decide +kernel
theorem dMd_leave_101 : decode cMd_leave 101 = .ok (.iload_n 3, 1) := by decide +kernel
theorem dMd_leave_102 : decode cMd_leave 102 = .ok (.iconst 2, 1) := by decide +kernel
theorem dMd_leave_103 : decode cMd_leave 103 = .ok (.irem, 1) := by decide +kernel
theorem dMd_leave_104 : decode cMd_leave 104 = .ok (.dup2, 1) := by decide +kernel
theorem dMd_leave_105 : decode cMd_leave 105 = .ok (.iaload, 1) := by decide +kernel
theorem dMd_leave_106 : decode cMd_leave 106 = .ok (.iconst 1, 1) := by decide +kernel
theorem dMd_leave_107 : decode cMd_leave 107 = .ok (.isub, 1) := by decide +kernel
theorem dMd_leave_108 : decode cMd_leave 108 = .ok (.iastore, 1) := by decide +kernel
theorem dMd_leave_109 : decode cMd_leave 109 = .ok (.iload_n 2, 1) := by decide +kernel
theorem dMd_leave_110 : decode cMd_leave 110 = .ok (.bipush 12, 2) := by decide +kernel
theorem dMd_leave_112 : decode cMd_leave 112 = .ok (.if_icmp .ne 13, 3) := by decide +kernel
theorem dMd_leave_115 : decode cMd_leave 115 = .ok (.aload_n 0, 1) := by decide +kernel
theorem dMd_leave_116 : decode cMd_leave 116 = .ok (.iconst (-1), 1) := by decide +kernel
theorem dMd_leave_117 : decode cMd_leave 117 = .ok (.putfield 52, 3) := by decide +kernel
theorem dMd_leave_120 : decode cMd_leave 120 = .ok (.aload_n 0, 1) := by decide +kernel
theorem dMd_leave_121 : decode cMd_leave 121 = .ok (.iconst 0, 1) := by decide +kernel
theorem dMd_leave_122 : decode cMd_leave 122 = .ok (.putfield 81, 3) := by decide +kernel
theorem dMd_leave_125 : decode cMd_leave 125 = .ok (.iload_n 2, 1) := by decide +kernel
theorem dMd_leave_126 : decode cMd_leave 126 = .ok (.bipush 10, 2) := by decide +kernel
theorem dMd_leave_128 : decode cMd_leave 128 = .ok (.if_icmp .ne 101, 3) := by decide +kernel
theorem dMd_leave_131 : decode cMd_leave 131 = .ok (.aload_n 0, 1) := by decide +kernel
theorem dMd_leave_132 : decode cMd_leave 132 = .ok (.getfield 52, 3) := by decide +kernel
theorem dMd_leave_135 : decode cMd_leave 135 = .ok (.ifCond .lt 94, 3) := by decide +kernel
theorem dMd_leave_138 : decode cMd_leave 138 = .ok (.iload_n 3, 1) := by decide +kernel
theorem dMd_leave_139 : decode cMd_leave 139 = .ok (.aload_n 0, 1) := by decide +kernel
theorem dMd_leave_140 : decode cMd_leave 140 = .ok (.getfield 52, 3) := by decide +kernel
theorem dMd_leave_143 : decode cMd_leave 143 = .ok (.invokestatic 85, 3) := by decide +kernel
theorem dMd_leave_146 : decode cMd_leave 146 = .ok (.ifCond .eq 83, 3) := by decide +kernel
theorem dMd_leave_149 : decode cMd_leave 149 = .ok (.aload_n 0, 1) := by decide +kernel
theorem dMd_leave_150 : decode cMd_leave 150 = .ok (.dup, 1) := by decide +kernel
theorem dMd_leave_151 : decode cMd_leave 151 = .ok (.getfield 88, 3) := by decide +kernel
theorem dMd_leave_154 : decode cMd_leave 154 = .ok (.iconst 1, 1) := by decide +kernel
theorem dMd_leave_155 : decode cMd_leave 155 = .ok (.iadd, 1) := by decide +kernel
theorem dMd_leave_156 : decode cMd_leave 156 = .ok (.putfield 88, 3) := by decide +kernel
theorem dMd_leave_159 : decode cMd_leave 159 = .ok (.aload_n 0, 1) := by decide +kernel
theorem dMd_leave_160 : decode cMd_leave 160 = .ok (.sipush 1000, 3) := by decide +kernel
theorem dMd_leave_163 : decode cMd_leave 163 = .ok (.bipush 16, 2) := by decide +kernel
theorem dMd_leave_165 : decode cMd_leave 165 = .ok (.aload_n 0, 1) := by decide +kernel
theorem dMd_leave_166 : decode cMd_leave 166 = .ok (.getfield 52, 3) := by decide +kernel
theorem dMd_leave_169 : decode cMd_leave 169 = .ok (.imul, 1) := by decide +kernel
theorem dMd_leave_170 : decode cMd_leave 170 = .ok (.iadd, 1) := by decide +kernel
theorem dMd_leave_171 : decode cMd_leave 171 = .ok (.aload_n 0, 1) := by decide +kernel
theorem dMd_leave_172 : decode cMd_leave 172 = .ok (.getfield 52, 3) := by decide +kernel
theorem dMd_leave_175 : decode cMd_leave 175 = .ok (.bipush 10, 2) := by decide +kernel
theorem dMd_leave_177 : decode cMd_leave 177 = .ok (.if_icmp .ne 10, 3) := by decide +kernel
theorem dMd_leave_180 : decode cMd_leave 180 = .ok (.aload_n 0, 1) := by decide +kernel
theorem dMd_leave_181 : decode cMd_leave 181 = .ok (.getfield 56, 3) := by decide +kernel
theorem dMd_leave_184 : decode cMd_leave 184 = .ok (.goto 4, 3) := by decide +kernel
theorem dMd_leave_187 : decode cMd_leave 187 = .ok (.iconst 0, 1) := by decide +kernel
theorem dMd_leave_188 : decode cMd_leave 188 = .ok (.iadd, 1) := by decide +kernel
theorem dMd_leave_189 : decode cMd_leave 189 = .ok (.putfield 78, 3) := by decide +kernel
theorem dMd_leave_192 : decode cMd_leave 192 = .ok (.aload_n 0, 1) := by decide +kernel
theorem dMd_leave_193 : decode cMd_leave 193 = .ok (.iconst (-1), 1) := by decide +kernel
theorem dMd_leave_194 : decode cMd_leave 194 = .ok (.putfield 52, 3) := by decide +kernel
theorem dMd_leave_197 : decode cMd_leave 197 = .ok (.aload_n 0, 1) := by decide +kernel
theorem dMd_leave_198 : decode cMd_leave 198 = .ok (.iload_n 1, 1) := by decide +kernel
theorem dMd_leave_199 : decode cMd_leave 199 = .ok (.putfield 59, 3) := by decide +kernel
theorem dMd_leave_202 : decode cMd_leave 202 = .ok (.iload_n 3, 1) := by decide +kernel
theorem dMd_leave_203 : decode cMd_leave 203 = .ok (.bipush 14, 2) := by decide +kernel
theorem dMd_leave_205 : decode cMd_leave 205 = .ok (.if_icmp .ne 11, 3) := by decide +kernel
theorem dMd_leave_208 : decode cMd_leave 208 = .ok (.aload_n 0, 1) := by decide +kernel
theorem dMd_leave_209 : decode cMd_leave 209 = .ok (.bipush 10, 2) := by decide +kernel
theorem dMd_leave_211 : decode cMd_leave 211 = .ok (.bipush 14, 2) := by decide +kernel
theorem dMd_leave_213 : decode cMd_leave 213 = .ok (.invokevirtual 91, 3) := by decide +kernel
theorem dMd_leave_216 : decode cMd_leave 216 = .ok (.aload_n 0, 1) := by decide +kernel
theorem dMd_leave_217 : decode cMd_leave 217 = .ok (.aload_n 0, 1) := by decide +kernel
theorem dMd_leave_218 : decode cMd_leave 218 = .ok (.getfield 32, 3) := by decide +kernel
theorem dMd_leave_221 : decode cMd_leave 221 = .ok (.aload_n 0, 1) := by decide +kernel
theorem dMd_leave_222 : decode cMd_leave 222 = .ok (.getfield 68, 3) := by decide +kernel
theorem dMd_leave_225 : decode cMd_leave 225 = .ok (.iaload, 1) := by decide +kernel
theorem dMd_leave_226 : decode cMd_leave 226 = .ok (.putfield 59, 3) := by decide +kernel
theorem dMd_leave_229 : decode cMd_leave 229 = .ok (.iload_n 2, 1) := by decide +kernel
theorem dMd_leave_230 : decode cMd_leave 230 = .ok (.bipush 14, 2) := by decide +kernel
theorem dMd_leave_232 : decode cMd_leave 232 = .ok (.if_icmp .ne 30, 3) := by decide +kernel
theorem dMd_leave_235 : decode cMd_leave 235 = .ok (.aload_n 0, 1) := by decide +kernel
theorem dMd_leave_236 : decode cMd_leave 236 = .ok (.getfield 52, 3) := by decide +kernel
theorem dMd_leave_239 : decode cMd_leave 239 = .ok (.ifCond .ge 23, 3) := by decide +kernel
theorem dMd_leave_242 : decode cMd_leave 242 = .ok (.aload_n 0, 1) := by decide +kernel
theorem dMd_leave_243 : decode cMd_leave 243 = .ok (.getfield 81, 3) := by decide +kernel
theorem dMd_leave_246 : decode cMd_leave 246 = .ok (.ifCond .ne 16, 3) := by decide +kernel
theorem dMd_leave_249 : decode cMd_leave 249 = .ok (.aload_n 0, 1) := by decide +kernel
theorem dMd_leave_250 : decode cMd_leave 250 = .ok (.getfield 35, 3) := by decide +kernel
theorem dMd_leave_253 : decode cMd_leave 253 = .ok (.aload_n 0, 1) := by decide +kernel
theorem dMd_leave_254 : decode cMd_leave 254 = .ok (.getfield 68, 3) := by decide +kernel
theorem dMd_leave_257 : decode cMd_leave 257 = .ok (.iaload, 1) := by decide +kernel
theorem dMd_leave_258 : decode cMd_leave 258 = .ok (.iconst 1, 1) := by decide +kernel
theorem dMd_leave_259 : decode cMd_leave 259 = .ok (.if_icmp .gt 4, 3) := by decide +kernel
theorem dMd_leave_262 : decode cMd_leave 262 = .ok (.return_, 1) := by decide +kernel
theorem dMd_leave_263 : decode cMd_leave 263 = .ok (.aload_n 0, 1) := by decide +kernel
theorem dMd_leave_264 : decode cMd_leave 264 = .ok (.getfield 35, 3) := by decide +kernel
theorem dMd_leave_267 : decode cMd_leave 267 = .ok (.aload_n 0, 1) := by decide +kernel
theorem dMd_leave_268 : decode cMd_leave 268 = .ok (.getfield 68, 3) := by decide +kernel
theorem dMd_leave_271 : decode cMd_leave 271 = .ok (.dup2, 1) := by decide +kernel
theorem dMd_leave_272 : decode cMd_leave 272 = .ok (.iaload, 1) := by decide +kernel
theorem dMd_leave_273 : decode cMd_leave 273 = .ok (.iconst 1, 1) := by decide +kernel
theorem dMd_leave_274 : decode cMd_leave 274 = .ok (.isub, 1) := by decide +kernel
theorem dMd_leave_275 : decode cMd_leave 275 = .ok (.iastore, 1) := by decide +kernel
theorem dMd_leave_276 : decode cMd_leave 276 = .ok (.aload_n 0, 1) := by decide +kernel
theorem dMd_leave_277 : decode cMd_leave 277 = .ok (.iload_n 1, 1) := by decide +kernel
theorem dMd_leave_278 : decode cMd_leave 278 = .ok (.iconst 1, 1) := by decide +kernel
theorem dMd_leave_279 : decode cMd_leave 279 = .ok (.iadd, 1) := by decide +kernel
theorem dMd_leave_280 : decode cMd_leave 280 = .ok (.putfield 59, 3) := by decide +kernel
theorem dMd_leave_283 : decode cMd_leave 283 = .ok (.aload_n 0, 1) := by decide +kernel
theorem dMd_leave_284 : decode cMd_leave 284 = .ok (.dup, 1) := by decide +kernel
theorem dMd_leave_285 : decode cMd_leave 285 = .ok (.getfield 68, 3) := by decide +kernel
theorem dMd_leave_288 : decode cMd_leave 288 = .ok (.iconst 1, 1) := by decide +kernel
theorem dMd_leave_289 : decode cMd_leave 289 = .ok (.iadd, 1) := by decide +kernel
theorem dMd_leave_290 : decode cMd_leave 290 = .ok (.putfield 68, 3) := by decide +kernel
theorem dMd_leave_293 : decode cMd_leave 293 = .ok (.return_, 1) := by decide +kernel
end
section
theorem dMd_kOf_0 : decode cMd_kOf 0 = .ok (.aload_n 0, 1) := by decide +kernel
theorem dMd_kOf_1 : decode cMd_kOf 1 = .ok (.getfield 13, 3) := by decide +kernel
theorem dMd_kOf_4 : decode cMd_kOf 4 = .ok (.aload_n 0, 1) := by decide +kernel
theorem dMd_kOf_5 : decode cMd_kOf 5 = .ok (.getfield 65, 3) := by decide +kernel
theorem dMd_kOf_8 : decode cMd_kOf 8 = .ok (.bipush 14, 2) := by decide +kernel
theorem dMd_kOf_10 : decode cMd_kOf 10 = .ok (.imul, 1) := by decide +kernel
theorem dMd_kOf_11 : decode cMd_kOf 11 = .ok (.iload_n 1, 1) := by decide +kernel
theorem dMd_kOf_12 : decode cMd_kOf 12 = .ok (.iadd, 1) := by decide +kernel
theorem dMd_kOf_13 : decode cMd_kOf 13 = .ok (.iaload, 1) := by decide +kernel
theorem dMd_kOf_14 : decode cMd_kOf 14 = .ok (.bipush 16, 2) := by decide +kernel
theorem dMd_kOf_16 : decode cMd_kOf 16 = .ok (.idiv, 1) := by decide +kernel
theorem dMd_kOf_17 : decode cMd_kOf 17 = .ok (.ireturn, 1) := by decide +kernel
theorem dMd_takes_0 : decode cMd_takes 0 = .ok (.iload_n 0, 1) := by decide +kernel
theorem dMd_takes_1 : decode cMd_takes 1 = .ok (.bipush 11, 2) := by decide +kernel
theorem dMd_takes_3 : decode cMd_takes 3 = .ok (.if_icmp .ge 14, 3) := by decide +kernel
theorem dMd_takes_6 : decode cMd_takes 6 = .ok (.iload_n 0, 1) := by decide +kernel
theorem dMd_takes_7 : decode cMd_takes 7 = .ok (.iload_n 1, 1) := by decide +kernel
theorem dMd_takes_8 : decode cMd_takes 8 = .ok (.if_icmp .ne 7, 3) := by decide +kernel
theorem dMd_takes_11 : decode cMd_takes 11 = .ok (.iconst 1, 1) := by decide +kernel
theorem dMd_takes_12 : decode cMd_takes 12 = .ok (.goto 4, 3) := by decide +kernel
theorem dMd_takes_15 : decode cMd_takes 15 = .ok (.iconst 0, 1) := by decide +kernel
theorem dMd_takes_16 : decode cMd_takes 16 = .ok (.ireturn, 1) := by decide +kernel
theorem dMd_takes_17 : decode cMd_takes 17 = .ok (.iload_n 0, 1) := by decide +kernel
theorem dMd_takes_18 : decode cMd_takes 18 = .ok (.bipush 11, 2) := by decide +kernel
theorem dMd_takes_20 : decode cMd_takes 20 = .ok (.if_icmp .eq 9, 3) := by decide +kernel
theorem dMd_takes_23 : decode cMd_takes 23 = .ok (.iload_n 0, 1) := by decide +kernel
theorem dMd_takes_24 : decode cMd_takes 24 = .ok (.bipush 14, 2) := by decide +kernel
theorem dMd_takes_26 : decode cMd_takes 26 = .ok (.if_icmp .ne 27, 3) := by decide +kernel
theorem dMd_takes_29 : decode cMd_takes 29 = .ok (.iload_n 1, 1) := by decide +kernel
theorem dMd_takes_30 : decode cMd_takes 30 = .ok (.bipush 7, 2) := by decide +kernel
theorem dMd_takes_32 : decode cMd_takes 32 = .ok (.if_icmp .lt 15, 3) := by decide +kernel
theorem dMd_takes_35 : decode cMd_takes 35 = .ok (.iload_n 1, 1) := by decide +kernel
theorem dMd_takes_36 : decode cMd_takes 36 = .ok (.bipush 8, 2) := by decide +kernel
theorem dMd_takes_38 : decode cMd_takes 38 = .ok (.if_icmp .eq 9, 3) := by decide +kernel
theorem dMd_takes_41 : decode cMd_takes 41 = .ok (.iload_n 1, 1) := by decide +kernel
theorem dMd_takes_42 : decode cMd_takes 42 = .ok (.bipush 9, 2) := by decide +kernel
theorem dMd_takes_44 : decode cMd_takes 44 = .ok (.if_icmp .ne 7, 3) := by decide +kernel
theorem dMd_takes_47 : decode cMd_takes 47 = .ok (.iconst 1, 1) := by decide +kernel
theorem dMd_takes_48 : decode cMd_takes 48 = .ok (.goto 4, 3) := by decide +kernel
theorem dMd_takes_51 : decode cMd_takes 51 = .ok (.iconst 0, 1) := by decide +kernel
theorem dMd_takes_52 : decode cMd_takes 52 = .ok (.ireturn, 1) := by decide +kernel
theorem dMd_takes_53 : decode cMd_takes 53 = .ok (.iload_n 0, 1) := by decide +kernel
theorem dMd_takes_54 : decode cMd_takes 54 = .ok (.bipush 12, 2) := by decide +kernel
theorem dMd_takes_56 : decode cMd_takes 56 = .ok (.if_icmp .ne 20, 3) := by decide +kernel
theorem dMd_takes_59 : decode cMd_takes 59 = .ok (.iload_n 1, 1) := by decide +kernel
theorem dMd_takes_60 : decode cMd_takes 60 = .ok (.iconst 1, 1) := by decide +kernel
theorem dMd_takes_61 : decode cMd_takes 61 = .ok (.if_icmp .eq 9, 3) := by decide +kernel
theorem dMd_takes_64 : decode cMd_takes 64 = .ok (.iload_n 1, 1) := by decide +kernel
theorem dMd_takes_65 : decode cMd_takes 65 = .ok (.bipush 9, 2) := by decide +kernel
theorem dMd_takes_67 : decode cMd_takes 67 = .ok (.if_icmp .ne 7, 3) := by decide +kernel
theorem dMd_takes_70 : decode cMd_takes 70 = .ok (.iconst 1, 1) := by decide +kernel
theorem dMd_takes_71 : decode cMd_takes 71 = .ok (.goto 4, 3) := by decide +kernel
theorem dMd_takes_74 : decode cMd_takes 74 = .ok (.iconst 0, 1) := by decide +kernel
theorem dMd_takes_75 : decode cMd_takes 75 = .ok (.ireturn, 1) := by decide +kernel
theorem dMd_takes_76 : decode cMd_takes 76 = .ok (.iload_n 0, 1) := by decide +kernel
theorem dMd_takes_77 : decode cMd_takes 77 = .ok (.bipush 15, 2) := by decide +kernel
theorem dMd_takes_79 : decode cMd_takes 79 = .ok (.if_icmp .eq 15, 3) := by decide +kernel
theorem dMd_takes_82 : decode cMd_takes 82 = .ok (.iload_n 1, 1) := by decide +kernel
theorem dMd_takes_83 : decode cMd_takes 83 = .ok (.bipush 7, 2) := by decide +kernel
theorem dMd_takes_85 : decode cMd_takes 85 = .ok (.if_icmp .eq 9, 3) := by decide +kernel
theorem dMd_takes_88 : decode cMd_takes 88 = .ok (.iload_n 1, 1) := by decide +kernel
theorem dMd_takes_89 : decode cMd_takes 89 = .ok (.bipush 10, 2) := by decide +kernel
theorem dMd_takes_91 : decode cMd_takes 91 = .ok (.if_icmp .ne 7, 3) := by decide +kernel
theorem dMd_takes_94 : decode cMd_takes 94 = .ok (.iconst 1, 1) := by decide +kernel
theorem dMd_takes_95 : decode cMd_takes 95 = .ok (.goto 4, 3) := by decide +kernel
theorem dMd_takes_98 : decode cMd_takes 98 = .ok (.iconst 0, 1) := by decide +kernel
theorem dMd_takes_99 : decode cMd_takes 99 = .ok (.ireturn, 1) := by decide +kernel
theorem dMd_raise_0 : decode cMd_raise 0 = .ok (.aload_n 0, 1) := by decide +kernel
theorem dMd_raise_1 : decode cMd_raise 1 = .ok (.iload_n 1, 1) := by decide +kernel
theorem dMd_raise_2 : decode cMd_raise 2 = .ok (.putfield 52, 3) := by decide +kernel
theorem dMd_raise_5 : decode cMd_raise 5 = .ok (.aload_n 0, 1) := by decide +kernel
theorem dMd_raise_6 : decode cMd_raise 6 = .ok (.iload_n 2, 1) := by decide +kernel
theorem dMd_raise_7 : decode cMd_raise 7 = .ok (.putfield 56, 3) := by decide +kernel
theorem dMd_raise_10 : decode cMd_raise 10 = .ok (.aload_n 0, 1) := by decide +kernel
theorem dMd_raise_11 : decode cMd_raise 11 = .ok (.aload_n 0, 1) := by decide +kernel
theorem dMd_raise_12 : decode cMd_raise 12 = .ok (.getfield 59, 3) := by decide +kernel
theorem dMd_raise_15 : decode cMd_raise 15 = .ok (.putfield 62, 3) := by decide +kernel
theorem dMd_raise_18 : decode cMd_raise 18 = .ok (.return_, 1) := by decide +kernel
theorem dMd_step_0 : decode cMd_step 0 = .ok (.aload_n 0, 1) := by decide +kernel
theorem dMd_step_1 : decode cMd_step 1 = .ok (.getfield 112, 3) := by decide +kernel
theorem dMd_step_4 : decode cMd_step 4 = .ok (.sipush 400, 3) := by decide +kernel
theorem dMd_step_7 : decode cMd_step 7 = .ok (.if_icmp .ne 9, 3) := by decide +kernel
theorem dMd_step_10 : decode cMd_step 10 = .ok (.aload_n 0, 1) := by decide +kernel
theorem dMd_step_11 : decode cMd_step 11 = .ok (.iconst 1, 1) := by decide +kernel
theorem dMd_step_12 : decode cMd_step 12 = .ok (.putfield 81, 3) := by decide +kernel
theorem dMd_step_15 : decode cMd_step 15 = .ok (.return_, 1) := by decide +kernel
theorem dMd_step_16 : decode cMd_step 16 = .ok (.aload_n 0, 1) := by decide +kernel
theorem dMd_step_17 : decode cMd_step 17 = .ok (.dup, 1) := by decide +kernel
theorem dMd_step_18 : decode cMd_step 18 = .ok (.getfield 112, 3) := by decide +kernel
theorem dMd_step_21 : decode cMd_step 21 = .ok (.iconst 1, 1) := by decide +kernel
theorem dMd_step_22 : decode cMd_step 22 = .ok (.iadd, 1) := by decide +kernel
theorem dMd_step_23 : decode cMd_step 23 = .ok (.putfield 112, 3) := by decide +kernel
theorem dMd_step_26 : decode cMd_step 26 = .ok (.aload_n 0, 1) := by decide +kernel
theorem dMd_step_27 : decode cMd_step 27 = .ok (.getfield 59, 3) := by decide +kernel
theorem dMd_step_30 : decode cMd_step 30 = .ok (.istore_n 2, 1) := by decide +kernel
theorem dMd_step_31 : decode cMd_step 31 = .ok (.aload_n 0, 1) := by decide +kernel
theorem dMd_step_32 : decode cMd_step 32 = .ok (.getfield 7, 3) := by decide +kernel
theorem dMd_step_35 : decode cMd_step 35 = .ok (.aload_n 0, 1) := by decide +kernel
theorem dMd_step_36 : decode cMd_step 36 = .ok (.getfield 65, 3) := by decide +kernel
theorem dMd_step_39 : decode cMd_step 39 = .ok (.bipush 14, 2) := by decide +kernel
theorem dMd_step_41 : decode cMd_step 41 = .ok (.imul, 1) := by decide +kernel
theorem dMd_step_42 : decode cMd_step 42 = .ok (.iload_n 2, 1) := by decide +kernel
theorem dMd_step_43 : decode cMd_step 43 = .ok (.iadd, 1) := by decide +kernel
theorem dMd_step_44 : decode cMd_step 44 = .ok (.iaload, 1) := by decide +kernel
theorem dMd_step_45 : decode cMd_step 45 = .ok (.istore_n 3, 1) := by decide +kernel
theorem dMd_step_46 : decode cMd_step 46 = .ok (.aload_n 0, 1) := by decide +kernel
theorem dMd_step_47 : decode cMd_step 47 = .ok (.getfield 13, 3) := by decide +kernel
theorem dMd_step_50 : decode cMd_step 50 = .ok (.aload_n 0, 1) := by decide +kernel
theorem dMd_step_51 : decode cMd_step 51 = .ok (.getfield 65, 3) := by decide +kernel
theorem dMd_step_54 : decode cMd_step 54 = .ok (.bipush 14, 2) := by decide +kernel
theorem dMd_step_56 : decode cMd_step 56 = .ok (.imul, 1) := by decide +kernel
theorem dMd_step_57 : decode cMd_step 57 = .ok (.iload_n 2, 1) := by decide +kernel
theorem dMd_step_58 : decode cMd_step 58 = .ok (.iadd, 1) := by decide +kernel
theorem dMd_step_59 : decode cMd_step 59 = .ok (.iaload, 1) := by decide +kernel
theorem dMd_step_60 : decode cMd_step 60 = .ok (.istore 4, 2) := by decide +kernel
theorem dMd_step_62 : decode cMd_step 62 = .ok (.iload_n 3, 1) := by decide +kernel
theorem dMd_step_63 : decode cMd_step 63 = .ok (.bipush 9, 2) := by decide +kernel
theorem dMd_step_65 : decode cMd_step 65 = .ok (.if_icmp .le 27, 3) := by decide +kernel
theorem dMd_step_68 : decode cMd_step 68 = .ok (.iload_n 3, 1) := by decide +kernel
theorem dMd_step_69 : decode cMd_step 69 = .ok (.bipush 15, 2) := by decide +kernel
theorem dMd_step_71 : decode cMd_step 71 = .ok (.if_icmp .ge 21, 3) := by decide +kernel
theorem dMd_step_74 : decode cMd_step 74 = .ok (.aload_n 0, 1) := by decide +kernel
theorem dMd_step_75 : decode cMd_step 75 = .ok (.iload_n 2, 1) := by decide +kernel
theorem dMd_step_76 : decode cMd_step 76 = .ok (.iconst 1, 1) := by decide +kernel
theorem dMd_step_77 : decode cMd_step 77 = .ok (.iadd, 1) := by decide +kernel
theorem dMd_step_78 : decode cMd_step 78 = .ok (.putfield 59, 3) := by decide +kernel
theorem dMd_step_81 : decode cMd_step 81 = .ok (.aload_n 0, 1) := by decide +kernel
theorem dMd_step_82 : decode cMd_step 82 = .ok (.iload_n 2, 1) := by decide +kernel
theorem dMd_step_83 : decode cMd_step 83 = .ok (.iload 4, 2) := by decide +kernel
theorem dMd_step_85 : decode cMd_step 85 = .ok (.bipush 16, 2) := by decide +kernel
theorem dMd_step_87 : decode cMd_step 87 = .ok (.irem, 1) := by decide +kernel
theorem dMd_step_88 : decode cMd_step 88 = .ok (.invokevirtual 115, 3) := by decide +kernel
theorem dMd_step_91 : decode cMd_step 91 = .ok (.return_, 1) := by decide +kernel
theorem dMd_step_92 : decode cMd_step 92 = .ok (.iload_n 3, 1) := by decide +kernel
theorem dMd_step_93 : decode cMd_step 93 = .ok (.bipush 21, 2) := by decide +kernel
theorem dMd_step_95 : decode cMd_step 95 = .ok (.if_icmp .ne 26, 3) := by decide +kernel
theorem dMd_step_98 : decode cMd_step 98 = .ok (.aload_n 0, 1) := by decide +kernel
theorem dMd_step_99 : decode cMd_step 99 = .ok (.iload_n 1, 1) := by decide +kernel
theorem dMd_step_100 : decode cMd_step 100 = .ok (.ifCond .eq 13, 3) := by decide +kernel
theorem dMd_step_103 : decode cMd_step 103 = .ok (.bipush 20, 2) := by decide +kernel
theorem dMd_step_105 : decode cMd_step 105 = .ok (.aload_n 0, 1) := by decide +kernel
theorem dMd_step_106 : decode cMd_step 106 = .ok (.getfield 65, 3) := by decide +kernel
theorem dMd_step_109 : decode cMd_step 109 = .ok (.iadd, 1) := by decide +kernel
theorem dMd_step_110 : decode cMd_step 110 = .ok (.goto 5, 3) := by decide +kernel
theorem dMd_step_113 : decode cMd_step 113 = .ok (.bipush 10, 2) := by decide +kernel
theorem dMd_step_115 : decode cMd_step 115 = .ok (.putfield 78, 3) := by decide +kernel
theorem dMd_step_118 : decode cMd_step 118 = .ok (.goto 23, 3) := by decide +kernel
theorem dMd_step_121 : decode cMd_step 121 = .ok (.aload_n 0, 1) := by decide +kernel
theorem dMd_step_122 : decode cMd_step 122 = .ok (.iload_n 3, 1) := by decide +kernel
theorem dMd_step_123 : decode cMd_step 123 = .ok (.iload 4, 2) := by decide +kernel
theorem dMd_step_125 : decode cMd_step 125 = .ok (.bipush 100, 2) := by decide +kernel
theorem dMd_step_127 : decode cMd_step 127 = .ok (.isub, 1) := by decide +kernel
theorem dMd_step_128 : decode cMd_step 128 = .ok (.iload 4, 2) := by decide +kernel
theorem dMd_step_130 : decode cMd_step 130 = .ok (.bipush 16, 2) := by decide +kernel
theorem dMd_step_132 : decode cMd_step 132 = .ok (.irem, 1) := by decide +kernel
theorem dMd_step_133 : decode cMd_step 133 = .ok (.iload 4, 2) := by decide +kernel
theorem dMd_step_135 : decode cMd_step 135 = .ok (.bipush 16, 2) := by decide +kernel
theorem dMd_step_137 : decode cMd_step 137 = .ok (.idiv, 1) := by decide +kernel
theorem dMd_step_138 : decode cMd_step 138 = .ok (.invokevirtual 118, 3) := by decide +kernel
theorem dMd_step_141 : decode cMd_step 141 = .ok (.aload_n 0, 1) := by decide +kernel
theorem dMd_step_142 : decode cMd_step 142 = .ok (.iload_n 2, 1) := by decide +kernel
theorem dMd_step_143 : decode cMd_step 143 = .ok (.iconst 1, 1) := by decide +kernel
theorem dMd_step_144 : decode cMd_step 144 = .ok (.iadd, 1) := by decide +kernel
theorem dMd_step_145 : decode cMd_step 145 = .ok (.putfield 59, 3) := by decide +kernel
theorem dMd_step_148 : decode cMd_step 148 = .ok (.return_, 1) := by decide +kernel
theorem dMd_enter_0 : decode cMd_enter 0 = .ok (.aload_n 0, 1) := by decide +kernel
theorem dMd_enter_1 : decode cMd_enter 1 = .ok (.getfield 68, 3) := by decide +kernel
theorem dMd_enter_4 : decode cMd_enter 4 = .ok (.ifCond .ne 15, 3) := by decide +kernel
theorem dMd_enter_7 : decode cMd_enter 7 = .ok (.aload_n 0, 1) := by decide +kernel
theorem dMd_enter_8 : decode cMd_enter 8 = .ok (.getfield 16, 3) := by decide +kernel
theorem dMd_enter_11 : decode cMd_enter 11 = .ok (.aload_n 0, 1) := by decide +kernel
theorem dMd_enter_12 : decode cMd_enter 12 = .ok (.getfield 65, 3) := by decide +kernel
theorem dMd_enter_15 : decode cMd_enter 15 = .ok (.iaload, 1) := by decide +kernel
theorem dMd_enter_16 : decode cMd_enter 16 = .ok (.goto 14, 3) := by decide +kernel
theorem dMd_enter_19 : decode cMd_enter 19 = .ok (.aload_n 0, 1) := by decide +kernel
theorem dMd_enter_20 : decode cMd_enter 20 = .ok (.getfield 32, 3) := by decide +kernel
theorem dMd_enter_23 : decode cMd_enter 23 = .ok (.aload_n 0, 1) := by decide +kernel
theorem dMd_enter_24 : decode cMd_enter 24 = .ok (.getfield 68, 3) := by decide +kernel
theorem dMd_enter_27 : decode cMd_enter 27 = .ok (.iconst 1, 1) := by decide +kernel
theorem dMd_enter_28 : decode cMd_enter 28 = .ok (.isub, 1) := by decide +kernel
theorem dMd_enter_29 : decode cMd_enter 29 = .ok (.iaload, 1) := by decide +kernel
theorem dMd_enter_30 : decode cMd_enter 30 = .ok (.istore_n 3, 1) := by decide +kernel
theorem dMd_enter_31 : decode cMd_enter 31 = .ok (.iload_n 1, 1) := by decide +kernel
theorem dMd_enter_32 : decode cMd_enter 32 = .ok (.iconst 1, 1) := by decide +kernel
theorem dMd_enter_33 : decode cMd_enter 33 = .ok (.iadd, 1) := by decide +kernel
theorem dMd_enter_34 : decode cMd_enter 34 = .ok (.iload_n 2, 1) := by decide +kernel
theorem dMd_enter_35 : decode cMd_enter 35 = .ok (.iadd, 1) := by decide +kernel
theorem dMd_enter_36 : decode cMd_enter 36 = .ok (.iload_n 3, 1) := by decide +kernel
theorem dMd_enter_37 : decode cMd_enter 37 = .ok (.if_icmp .ge 11, 3) := by decide +kernel
theorem dMd_enter_40 : decode cMd_enter 40 = .ok (.iload_n 1, 1) := by decide +kernel
theorem dMd_enter_41 : decode cMd_enter 41 = .ok (.iconst 1, 1) := by decide +kernel
theorem dMd_enter_42 : decode cMd_enter 42 = .ok (.iadd, 1) := by decide +kernel
theorem dMd_enter_43 : decode cMd_enter 43 = .ok (.iload_n 2, 1) := by decide +kernel
theorem dMd_enter_44 : decode cMd_enter 44 = .ok (.iadd, 1) := by decide +kernel
theorem dMd_enter_45 : decode cMd_enter 45 = .ok (.goto 4, 3) := by decide +kernel
theorem dMd_enter_48 : decode cMd_enter 48 = .ok (.iload_n 3, 1) := by decide +kernel
theorem dMd_enter_49 : decode cMd_enter 49 = .ok (.istore 4, 2) := by decide +kernel
theorem dMd_enter_51 : decode cMd_enter 51 = .ok (.aload_n 0, 1) := by decide +kernel
theorem dMd_enter_52 : decode cMd_enter 52 = .ok (.getfield 7, 3) := by decide +kernel
theorem dMd_enter_55 : decode cMd_enter 55 = .ok (.aload_n 0, 1) := by decide +kernel
theorem dMd_enter_56 : decode cMd_enter 56 = .ok (.getfield 65, 3) := by decide +kernel
theorem dMd_enter_59 : decode cMd_enter 59 = .ok (.bipush 14, 2) := by decide +kernel
theorem dMd_enter_61 : decode cMd_enter 61 = .ok (.imul, 1) := by decide +kernel
theorem dMd_enter_62 : decode cMd_enter 62 = .ok (.iload_n 1, 1) := by decide +kernel
theorem dMd_enter_63 : decode cMd_enter 63 = .ok (.iadd, 1) := by decide +kernel
theorem dMd_enter_64 : decode cMd_enter 64 = .ok (.iaload, 1) := by decide +kernel
theorem dMd_enter_65 : decode cMd_enter 65 = .ok (.istore 5, 2) := by decide +kernel
theorem dMd_enter_67 : decode cMd_enter 67 = .ok (.aload_n 0, 1) := by decide +kernel
theorem dMd_enter_68 : decode cMd_enter 68 = .ok (.iload_n 1, 1) := by decide +kernel
theorem dMd_enter_69 : decode cMd_enter 69 = .ok (.invokevirtual 71, 3) := by decide +kernel
theorem dMd_enter_72 : decode cMd_enter 72 = .ok (.istore 6, 2) := by decide +kernel
theorem dMd_enter_74 : decode cMd_enter 74 = .ok (.iload 5, 2) := by decide +kernel
theorem dMd_enter_76 : decode cMd_enter 76 = .ok (.bipush 14, 2) := by decide +kernel
theorem dMd_enter_78 : decode cMd_enter 78 = .ok (.if_icmp .ne 15, 3) := by decide +kernel
theorem dMd_enter_81 : decode cMd_enter 81 = .ok (.iload 6, 2) := by decide +kernel
theorem dMd_enter_83 : decode cMd_enter 83 = .ok (.ifCond .ne 10, 3) := by decide +kernel
theorem dMd_enter_86 : decode cMd_enter 86 = .ok (.aload_n 0, 1) := by decide +kernel
theorem dMd_enter_87 : decode cMd_enter 87 = .ok (.iload 4, 2) := by decide +kernel
theorem dMd_enter_89 : decode cMd_enter 89 = .ok (.putfield 59, 3) := by decide +kernel
theorem dMd_enter_92 : decode cMd_enter 92 = .ok (.return_, 1) := by decide +kernel
theorem dMd_enter_93 : decode cMd_enter 93 = .ok (.aload_n 0, 1) := by decide +kernel
theorem dMd_enter_94 : decode cMd_enter 94 = .ok (.getfield 29, 3) := by decide +kernel
theorem dMd_enter_97 : decode cMd_enter 97 = .ok (.aload_n 0, 1) := by decide +kernel
theorem dMd_enter_98 : decode cMd_enter 98 = .ok (.getfield 68, 3) := by decide +kernel
theorem dMd_enter_101 : decode cMd_enter 101 = .ok (.iload_n 1, 1) := by decide +kernel
theorem dMd_enter_102 : decode cMd_enter 102 = .ok (.iastore, 1) := by decide +kernel
theorem dMd_enter_103 : decode cMd_enter 103 = .ok (.aload_n 0, 1) := by decide +kernel
theorem dMd_enter_104 : decode cMd_enter 104 = .ok (.getfield 32, 3) := by decide +kernel
theorem dMd_enter_107 : decode cMd_enter 107 = .ok (.aload_n 0, 1) := by decide +kernel
theorem dMd_enter_108 : decode cMd_enter 108 = .ok (.getfield 68, 3) := by decide +kernel
theorem dMd_enter_111 : decode cMd_enter 111 = .ok (.iload 4, 2) := by decide +kernel
theorem dMd_enter_113 : decode cMd_enter 113 = .ok (.iastore, 1) := by decide +kernel
theorem dMd_enter_114 : decode cMd_enter 114 = .ok (.aload_n 0, 1) := by decide +kernel
theorem dMd_enter_115 : decode cMd_enter 115 = .ok (.getfield 35, 3) := by decide +kernel
theorem dMd_enter_118 : decode cMd_enter 118 = .ok (.aload_n 0, 1) := by decide +kernel
theorem dMd_enter_119 : decode cMd_enter 119 = .ok (.getfield 68, 3) := by decide +kernel
theorem dMd_enter_122 : decode cMd_enter 122 = .ok (.iload 6, 2) := by decide +kernel
theorem dMd_enter_124 : decode cMd_enter 124 = .ok (.iastore, 1) := by decide +kernel
theorem dMd_enter_125 : decode cMd_enter 125 = .ok (.aload_n 0, 1) := by decide +kernel
theorem dMd_enter_126 : decode cMd_enter 126 = .ok (.dup, 1) := by decide +kernel
theorem dMd_enter_127 : decode cMd_enter 127 = .ok (.getfield 68, 3) := by decide +kernel
theorem dMd_enter_130 : decode cMd_enter 130 = .ok (.iconst 1, 1) := by decide +kernel
theorem dMd_enter_131 : decode cMd_enter 131 = .ok (.iadd, 1) := by decide +kernel
theorem dMd_enter_132 : decode cMd_enter 132 = .ok (.putfield 68, 3) := by decide +kernel
theorem dMd_enter_135 : decode cMd_enter 135 = .ok (.iload 5, 2) := by decide +kernel
theorem dMd_enter_137 : decode cMd_enter 137 = .ok (.bipush 13, 2) := by decide +kernel
theorem dMd_enter_139 : decode cMd_enter 139 = .ok (.if_icmp .ne 16, 3) := by decide +kernel
theorem dMd_enter_142 : decode cMd_enter 142 = .ok (.aload_n 0, 1) := by decide +kernel
theorem dMd_enter_143 : decode cMd_enter 143 = .ok (.getfield 41, 3) := by decide +kernel
theorem dMd_enter_146 : decode cMd_enter 146 = .ok (.iload 6, 2) := by decide +kernel
theorem dMd_enter_148 : decode cMd_enter 148 = .ok (.iconst 2, 1) := by decide +kernel
theorem dMd_enter_149 : decode cMd_enter 149 = .ok (.irem, 1) := by decide +kernel
theorem dMd_enter_150 : decode cMd_enter 150 = .ok (.dup2, 1) := by decide +kernel
theorem dMd_enter_151 : decode cMd_enter 151 = .ok (.iaload, 1) := by decide +kernel
theorem dMd_enter_152 : decode cMd_enter 152 = .ok (.iconst 1, 1) := by decide +kernel
theorem dMd_enter_153 : decode cMd_enter 153 = .ok (.iadd, 1) := by decide +kernel
theorem dMd_enter_154 : decode cMd_enter 154 = .ok (.iastore, 1) := by decide +kernel
theorem dMd_enter_155 : decode cMd_enter 155 = .ok (.return_, 1) := by decide +kernel
theorem dMd_act_0 : decode cMd_act 0 = .ok (.iload_n 1, 1) := by decide +kernel
theorem dMd_act_1 : decode cMd_act 1 = .ok (.tableswitch 345 0 19 #[95, 108, 121, 121, 139, 139, 157, 182, 217, 225, 345, 345, 345, 345, 345, 249, 271, 300, 307, 331], 95) := by decide +kernel
theorem dMd_act_96 : decode cMd_act 96 = .ok (.aload_n 0, 1) := by decide +kernel
theorem dMd_act_97 : decode cMd_act 97 = .ok (.dup, 1) := by decide +kernel
theorem dMd_act_98 : decode cMd_act 98 = .ok (.getfield 78, 3) := by decide +kernel
theorem dMd_act_101 : decode cMd_act 101 = .ok (.iload_n 2, 1) := by decide +kernel
theorem dMd_act_102 : decode cMd_act 102 = .ok (.iadd, 1) := by decide +kernel
theorem dMd_act_103 : decode cMd_act 103 = .ok (.putfield 78, 3) := by decide +kernel
theorem dMd_act_106 : decode cMd_act 106 = .ok (.goto 245, 3) := by decide +kernel
theorem dMd_act_109 : decode cMd_act 109 = .ok (.aload_n 0, 1) := by decide +kernel
theorem dMd_act_110 : decode cMd_act 110 = .ok (.dup, 1) := by decide +kernel
theorem dMd_act_111 : decode cMd_act 111 = .ok (.getfield 78, 3) := by decide +kernel
theorem dMd_act_114 : decode cMd_act 114 = .ok (.iload_n 2, 1) := by decide +kernel
theorem dMd_act_115 : decode cMd_act 115 = .ok (.imul, 1) := by decide +kernel
theorem dMd_act_116 : decode cMd_act 116 = .ok (.putfield 78, 3) := by decide +kernel
theorem dMd_act_119 : decode cMd_act 119 = .ok (.goto 232, 3) := by decide +kernel
theorem dMd_act_122 : decode cMd_act 122 = .ok (.aload_n 0, 1) := by decide +kernel
theorem dMd_act_123 : decode cMd_act 123 = .ok (.iload_n 2, 1) := by decide +kernel
theorem dMd_act_124 : decode cMd_act 124 = .ok (.iload_n 1, 1) := by decide +kernel
theorem dMd_act_125 : decode cMd_act 125 = .ok (.iconst 3, 1) := by decide +kernel
theorem dMd_act_126 : decode cMd_act 126 = .ok (.if_icmp .ne 7, 3) := by decide +kernel
theorem dMd_act_129 : decode cMd_act 129 = .ok (.iconst 1, 1) := by decide +kernel
theorem dMd_act_130 : decode cMd_act 130 = .ok (.goto 4, 3) := by decide +kernel
theorem dMd_act_133 : decode cMd_act 133 = .ok (.iconst 0, 1) := by decide +kernel
theorem dMd_act_134 : decode cMd_act 134 = .ok (.invokevirtual 98, 3) := by decide +kernel
theorem dMd_act_137 : decode cMd_act 137 = .ok (.goto 214, 3) := by decide +kernel
theorem dMd_act_140 : decode cMd_act 140 = .ok (.aload_n 0, 1) := by decide +kernel
theorem dMd_act_141 : decode cMd_act 141 = .ok (.iload_n 2, 1) := by decide +kernel
theorem dMd_act_142 : decode cMd_act 142 = .ok (.iload_n 1, 1) := by decide +kernel
theorem dMd_act_143 : decode cMd_act 143 = .ok (.iconst 4, 1) := by decide +kernel
theorem dMd_act_144 : decode cMd_act 144 = .ok (.if_icmp .ne 7, 3) := by decide +kernel
theorem dMd_act_147 : decode cMd_act 147 = .ok (.iconst 1, 1) := by decide +kernel
theorem dMd_act_148 : decode cMd_act 148 = .ok (.goto 4, 3) := by decide +kernel
theorem dMd_act_151 : decode cMd_act 151 = .ok (.iconst 0, 1) := by decide +kernel
theorem dMd_act_152 : decode cMd_act 152 = .ok (.invokevirtual 102, 3) := by decide +kernel
theorem dMd_act_155 : decode cMd_act 155 = .ok (.goto 196, 3) := by decide +kernel
theorem dMd_act_158 : decode cMd_act 158 = .ok (.iload 4, 2) := by decide +kernel
theorem dMd_act_160 : decode cMd_act 160 = .ok (.bipush 6, 2) := by decide +kernel
theorem dMd_act_162 : decode cMd_act 162 = .ok (.if_icmp .ge 13, 3) := by decide +kernel
theorem dMd_act_165 : decode cMd_act 165 = .ok (.aload_n 0, 1) := by decide +kernel
theorem dMd_act_166 : decode cMd_act 166 = .ok (.iload 4, 2) := by decide +kernel
theorem dMd_act_168 : decode cMd_act 168 = .ok (.iconst (-1), 1) := by decide +kernel
theorem dMd_act_169 : decode cMd_act 169 = .ok (.invokevirtual 91, 3) := by decide +kernel
theorem dMd_act_172 : decode cMd_act 172 = .ok (.goto 179, 3) := by decide +kernel
theorem dMd_act_175 : decode cMd_act 175 = .ok (.aload_n 0, 1) := by decide +kernel
theorem dMd_act_176 : decode cMd_act 176 = .ok (.iload_n 3, 1) := by decide +kernel
theorem dMd_act_177 : decode cMd_act 177 = .ok (.putfield 78, 3) := by decide +kernel
theorem dMd_act_180 : decode cMd_act 180 = .ok (.goto 171, 3) := by decide +kernel
theorem dMd_act_183 : decode cMd_act 183 = .ok (.iload 4, 2) := by decide +kernel
theorem dMd_act_185 : decode cMd_act 185 = .ok (.bipush 6, 2) := by decide +kernel
theorem dMd_act_187 : decode cMd_act 187 = .ok (.if_icmp .le 164, 3) := by decide +kernel
theorem dMd_act_190 : decode cMd_act 190 = .ok (.iload 4, 2) := by decide +kernel
theorem dMd_act_192 : decode cMd_act 192 = .ok (.bipush 11, 2) := by decide +kernel
theorem dMd_act_194 : decode cMd_act 194 = .ok (.if_icmp .ge 157, 3) := by decide +kernel
theorem dMd_act_197 : decode cMd_act 197 = .ok (.aload_n 0, 1) := by decide +kernel
theorem dMd_act_198 : decode cMd_act 198 = .ok (.iload 4, 2) := by decide +kernel
theorem dMd_act_200 : decode cMd_act 200 = .ok (.iload 4, 2) := by decide +kernel
theorem dMd_act_202 : decode cMd_act 202 = .ok (.bipush 10, 2) := by decide +kernel
theorem dMd_act_204 : decode cMd_act 204 = .ok (.if_icmp .ne 7, 3) := by decide +kernel
theorem dMd_act_207 : decode cMd_act 207 = .ok (.iload_n 3, 1) := by decide +kernel
theorem dMd_act_208 : decode cMd_act 208 = .ok (.goto 4, 3) := by decide +kernel
theorem dMd_act_211 : decode cMd_act 211 = .ok (.iconst (-1), 1) := by decide +kernel
theorem dMd_act_212 : decode cMd_act 212 = .ok (.invokevirtual 91, 3) := by decide +kernel
theorem dMd_act_215 : decode cMd_act 215 = .ok (.goto 136, 3) := by decide +kernel
theorem dMd_act_218 : decode cMd_act 218 = .ok (.aload_n 0, 1) := by decide +kernel
theorem dMd_act_219 : decode cMd_act 219 = .ok (.iconst 1, 1) := by decide +kernel
theorem dMd_act_220 : decode cMd_act 220 = .ok (.putfield 95, 3) := by decide +kernel
theorem dMd_act_223 : decode cMd_act 223 = .ok (.goto 128, 3) := by decide +kernel
theorem dMd_act_226 : decode cMd_act 226 = .ok (.aload_n 0, 1) := by decide +kernel
theorem dMd_act_227 : decode cMd_act 227 = .ok (.aload_n 0, 1) := by decide +kernel
theorem dMd_act_228 : decode cMd_act 228 = .ok (.getfield 95, 3) := by decide +kernel
theorem dMd_act_231 : decode cMd_act 231 = .ok (.ifCond .eq 7, 3) := by decide +kernel
theorem dMd_act_234 : decode cMd_act 234 = .ok (.iconst 1, 1) := by decide +kernel
theorem dMd_act_235 : decode cMd_act 235 = .ok (.goto 4, 3) := by decide +kernel
theorem dMd_act_238 : decode cMd_act 238 = .ok (.iconst 0, 1) := by decide +kernel
theorem dMd_act_239 : decode cMd_act 239 = .ok (.putfield 78, 3) := by decide +kernel
theorem dMd_act_242 : decode cMd_act 242 = .ok (.aload_n 0, 1) := by decide +kernel
theorem dMd_act_243 : decode cMd_act 243 = .ok (.iconst 0, 1) := by decide +kernel
theorem dMd_act_244 : decode cMd_act 244 = .ok (.putfield 95, 3) := by decide +kernel
theorem dMd_act_247 : decode cMd_act 247 = .ok (.goto 104, 3) := by decide +kernel
theorem dMd_act_250 : decode cMd_act 250 = .ok (.aload_n 0, 1) := by decide +kernel
theorem dMd_act_251 : decode cMd_act 251 = .ok (.getfield 41, 3) := by decide +kernel
theorem dMd_act_254 : decode cMd_act 254 = .ok (.iload 4, 2) := by decide +kernel
theorem dMd_act_256 : decode cMd_act 256 = .ok (.iconst 2, 1) := by decide +kernel
theorem dMd_act_257 : decode cMd_act 257 = .ok (.irem, 1) := by decide +kernel
theorem dMd_act_258 : decode cMd_act 258 = .ok (.iaload, 1) := by decide +kernel
theorem dMd_act_259 : decode cMd_act 259 = .ok (.ifCond .ne 92, 3) := by decide +kernel
theorem dMd_act_262 : decode cMd_act 262 = .ok (.aload_n 0, 1) := by decide +kernel
theorem dMd_act_263 : decode cMd_act 263 = .ok (.bipush 6, 2) := by decide +kernel
theorem dMd_act_265 : decode cMd_act 265 = .ok (.iconst (-1), 1) := by decide +kernel
theorem dMd_act_266 : decode cMd_act 266 = .ok (.invokevirtual 91, 3) := by decide +kernel
theorem dMd_act_269 : decode cMd_act 269 = .ok (.goto 82, 3) := by decide +kernel
theorem dMd_act_272 : decode cMd_act 272 = .ok (.aload_n 0, 1) := by decide +kernel
theorem dMd_act_273 : decode cMd_act 273 = .ok (.getfield 41, 3) := by decide +kernel
theorem dMd_act_276 : decode cMd_act 276 = .ok (.iload 4, 2) := by decide +kernel
theorem dMd_act_278 : decode cMd_act 278 = .ok (.iconst 2, 1) := by decide +kernel
theorem dMd_act_279 : decode cMd_act 279 = .ok (.irem, 1) := by decide +kernel
theorem dMd_act_280 : decode cMd_act 280 = .ok (.iaload, 1) := by decide +kernel
theorem dMd_act_281 : decode cMd_act 281 = .ok (.ifCond .ne 13, 3) := by decide +kernel
theorem dMd_act_284 : decode cMd_act 284 = .ok (.aload_n 0, 1) := by decide +kernel
theorem dMd_act_285 : decode cMd_act 285 = .ok (.bipush 6, 2) := by decide +kernel
theorem dMd_act_287 : decode cMd_act 287 = .ok (.iconst (-1), 1) := by decide +kernel
theorem dMd_act_288 : decode cMd_act 288 = .ok (.invokevirtual 91, 3) := by decide +kernel
theorem dMd_act_291 : decode cMd_act 291 = .ok (.goto 60, 3) := by decide +kernel
theorem dMd_act_294 : decode cMd_act 294 = .ok (.aload_n 0, 1) := by decide +kernel
theorem dMd_act_295 : decode cMd_act 295 = .ok (.invokevirtual 105, 3) := by decide +kernel
theorem dMd_act_298 : decode cMd_act 298 = .ok (.goto 53, 3) := by decide +kernel
theorem dMd_act_301 : decode cMd_act 301 = .ok (.aload_n 0, 1) := by decide +kernel
theorem dMd_act_302 : decode cMd_act 302 = .ok (.invokevirtual 105, 3) := by decide +kernel
theorem dMd_act_305 : decode cMd_act 305 = .ok (.goto 46, 3) := by decide +kernel
theorem dMd_act_308 : decode cMd_act 308 = .ok (.aload_n 0, 1) := by decide +kernel
theorem dMd_act_309 : decode cMd_act 309 = .ok (.aload_n 0, 1) := by decide +kernel
theorem dMd_act_310 : decode cMd_act 310 = .ok (.getfield 41, 3) := by decide +kernel
theorem dMd_act_313 : decode cMd_act 313 = .ok (.iload 4, 2) := by decide +kernel
theorem dMd_act_315 : decode cMd_act 315 = .ok (.iconst 2, 1) := by decide +kernel
theorem dMd_act_316 : decode cMd_act 316 = .ok (.irem, 1) := by decide +kernel
theorem dMd_act_317 : decode cMd_act 317 = .ok (.iaload, 1) := by decide +kernel
theorem dMd_act_318 : decode cMd_act 318 = .ok (.ifCond .le 7, 3) := by decide +kernel
theorem dMd_act_321 : decode cMd_act 321 = .ok (.iconst 1, 1) := by decide +kernel
theorem dMd_act_322 : decode cMd_act 322 = .ok (.goto 4, 3) := by decide +kernel
theorem dMd_act_325 : decode cMd_act 325 = .ok (.iconst 0, 1) := by decide +kernel
theorem dMd_act_326 : decode cMd_act 326 = .ok (.putfield 78, 3) := by decide +kernel
theorem dMd_act_329 : decode cMd_act 329 = .ok (.goto 22, 3) := by decide +kernel
theorem dMd_act_332 : decode cMd_act 332 = .ok (.aload_n 0, 1) := by decide +kernel
theorem dMd_act_333 : decode cMd_act 333 = .ok (.dup, 1) := by decide +kernel
theorem dMd_act_334 : decode cMd_act 334 = .ok (.getfield 108, 3) := by decide +kernel
theorem dMd_act_337 : decode cMd_act 337 = .ok (.iload_n 2, 1) := by decide +kernel
theorem dMd_act_338 : decode cMd_act 338 = .ok (.i2l, 1) := by decide +kernel
theorem dMd_act_339 : decode cMd_act 339 = .ok (.ladd, 1) := by decide +kernel
theorem dMd_act_340 : decode cMd_act 340 = .ok (.putfield 108, 3) := by decide +kernel
theorem dMd_act_343 : decode cMd_act 343 = .ok (.goto 8, 3) := by decide +kernel
theorem dMd_act_346 : decode cMd_act 346 = .ok (.aload_n 0, 1) := by decide +kernel
theorem dMd_act_347 : decode cMd_act 347 = .ok (.iconst 1, 1) := by decide +kernel
theorem dMd_act_348 : decode cMd_act 348 = .ok (.putfield 81, 3) := by decide +kernel
theorem dMd_act_351 : decode cMd_act 351 = .ok (.return_, 1) := by decide +kernel
theorem dMd_divide_0 : decode cMd_divide 0 = .ok (.iload_n 1, 1) := by decide +kernel
theorem dMd_divide_1 : decode cMd_divide 1 = .ok (.ifCond .ne 12, 3) := by decide +kernel
theorem dMd_divide_4 : decode cMd_divide 4 = .ok (.aload_n 0, 1) := by decide +kernel
theorem dMd_divide_5 : decode cMd_divide 5 = .ok (.iconst 0, 1) := by decide +kernel
theorem dMd_divide_6 : decode cMd_divide 6 = .ok (.iconst (-1), 1) := by decide +kernel
theorem dMd_divide_7 : decode cMd_divide 7 = .ok (.invokevirtual 91, 3) := by decide +kernel
theorem dMd_divide_10 : decode cMd_divide 10 = .ok (.goto 26, 3) := by decide +kernel
theorem dMd_divide_13 : decode cMd_divide 13 = .ok (.aload_n 0, 1) := by decide +kernel
theorem dMd_divide_14 : decode cMd_divide 14 = .ok (.iload_n 2, 1) := by decide +kernel
theorem dMd_divide_15 : decode cMd_divide 15 = .ok (.ifCond .eq 12, 3) := by decide +kernel
theorem dMd_divide_18 : decode cMd_divide 18 = .ok (.aload_n 0, 1) := by decide +kernel
theorem dMd_divide_19 : decode cMd_divide 19 = .ok (.getfield 78, 3) := by decide +kernel
theorem dMd_divide_22 : decode cMd_divide 22 = .ok (.iload_n 1, 1) := by decide +kernel
theorem dMd_divide_23 : decode cMd_divide 23 = .ok (.irem, 1) := by decide +kernel
theorem dMd_divide_24 : decode cMd_divide 24 = .ok (.goto 9, 3) := by decide +kernel
theorem dMd_divide_27 : decode cMd_divide 27 = .ok (.aload_n 0, 1) := by decide +kernel
theorem dMd_divide_28 : decode cMd_divide 28 = .ok (.getfield 78, 3) := by decide +kernel
theorem dMd_divide_31 : decode cMd_divide 31 = .ok (.iload_n 1, 1) := by decide +kernel
theorem dMd_divide_32 : decode cMd_divide 32 = .ok (.idiv, 1) := by decide +kernel
theorem dMd_divide_33 : decode cMd_divide 33 = .ok (.putfield 78, 3) := by decide +kernel
theorem dMd_divide_36 : decode cMd_divide 36 = .ok (.return_, 1) := by decide +kernel
theorem dMd_touch_0 : decode cMd_touch 0 = .ok (.iload_n 1, 1) := by decide +kernel
theorem dMd_touch_1 : decode cMd_touch 1 = .ok (.bipush 8, 2) := by decide +kernel
theorem dMd_touch_3 : decode cMd_touch 3 = .ok (.invokestatic 44, 3) := by decide +kernel
theorem dMd_touch_6 : decode cMd_touch 6 = .ok (.ifCond .ne 12, 3) := by decide +kernel
theorem dMd_touch_9 : decode cMd_touch 9 = .ok (.aload_n 0, 1) := by decide +kernel
theorem dMd_touch_10 : decode cMd_touch 10 = .ok (.iconst 1, 1) := by decide +kernel
theorem dMd_touch_11 : decode cMd_touch 11 = .ok (.iconst (-1), 1) := by decide +kernel
theorem dMd_touch_12 : decode cMd_touch 12 = .ok (.invokevirtual 91, 3) := by decide +kernel
theorem dMd_touch_15 : decode cMd_touch 15 = .ok (.goto 30, 3) := by decide +kernel
theorem dMd_touch_18 : decode cMd_touch 18 = .ok (.iload_n 2, 1) := by decide +kernel
theorem dMd_touch_19 : decode cMd_touch 19 = .ok (.ifCond .eq 16, 3) := by decide +kernel
theorem dMd_touch_22 : decode cMd_touch 22 = .ok (.aload_n 0, 1) := by decide +kernel
theorem dMd_touch_23 : decode cMd_touch 23 = .ok (.aload_n 0, 1) := by decide +kernel
theorem dMd_touch_24 : decode cMd_touch 24 = .ok (.getfield 38, 3) := by decide +kernel
theorem dMd_touch_27 : decode cMd_touch 27 = .ok (.iload_n 1, 1) := by decide +kernel
theorem dMd_touch_28 : decode cMd_touch 28 = .ok (.iaload, 1) := by decide +kernel
theorem dMd_touch_29 : decode cMd_touch 29 = .ok (.putfield 78, 3) := by decide +kernel
theorem dMd_touch_32 : decode cMd_touch 32 = .ok (.goto 13, 3) := by decide +kernel
theorem dMd_touch_35 : decode cMd_touch 35 = .ok (.aload_n 0, 1) := by decide +kernel
theorem dMd_touch_36 : decode cMd_touch 36 = .ok (.getfield 38, 3) := by decide +kernel
theorem dMd_touch_39 : decode cMd_touch 39 = .ok (.iload_n 1, 1) := by decide +kernel
theorem dMd_touch_40 : decode cMd_touch 40 = .ok (.aload_n 0, 1) := by decide +kernel
theorem dMd_touch_41 : decode cMd_touch 41 = .ok (.getfield 78, 3) := by decide +kernel
theorem dMd_touch_44 : decode cMd_touch 44 = .ok (.iastore, 1) := by decide +kernel
theorem dMd_touch_45 : decode cMd_touch 45 = .ok (.return_, 1) := by decide +kernel
theorem dMd_interrupted_0 : decode cMd_interrupted 0 = .ok (.aload_n 0, 1) := by decide +kernel
theorem dMd_interrupted_1 : decode cMd_interrupted 1 = .ok (.getfield 95, 3) := by decide +kernel
theorem dMd_interrupted_4 : decode cMd_interrupted 4 = .ok (.ifCond .ne 4, 3) := by decide +kernel
theorem dMd_interrupted_7 : decode cMd_interrupted 7 = .ok (.return_, 1) := by decide +kernel
theorem dMd_interrupted_8 : decode cMd_interrupted 8 = .ok (.aload_n 0, 1) := by decide +kernel
theorem dMd_interrupted_9 : decode cMd_interrupted 9 = .ok (.iconst 0, 1) := by decide +kernel
theorem dMd_interrupted_10 : decode cMd_interrupted 10 = .ok (.putfield 95, 3) := by decide +kernel
theorem dMd_interrupted_13 : decode cMd_interrupted 13 = .ok (.aload_n 0, 1) := by decide +kernel
theorem dMd_interrupted_14 : decode cMd_interrupted 14 = .ok (.bipush 7, 2) := by decide +kernel
theorem dMd_interrupted_16 : decode cMd_interrupted 16 = .ok (.iconst (-1), 1) := by decide +kernel
theorem dMd_interrupted_17 : decode cMd_interrupted 17 = .ok (.invokevirtual 91, 3) := by decide +kernel
theorem dMd_interrupted_20 : decode cMd_interrupted 20 = .ok (.return_, 1) := by decide +kernel
theorem dMd_runAll_0 : decode cMd_runAll 0 = .ok (.iload_n 1, 1) := by decide +kernel
theorem dMd_runAll_1 : decode cMd_runAll 1 = .ok (.bipush 64, 2) := by decide +kernel
theorem dMd_runAll_3 : decode cMd_runAll 3 = .ok (.invokestatic 44, 3) := by decide +kernel
theorem dMd_runAll_6 : decode cMd_runAll 6 = .ok (.ifCond .ne 5, 3) := by decide +kernel
theorem dMd_runAll_9 : decode cMd_runAll 9 = .ok (.iconst (-1), 1) := by decide +kernel
theorem dMd_runAll_10 : decode cMd_runAll 10 = .ok (.ireturn, 1) := by decide +kernel
theorem dMd_runAll_11 : decode cMd_runAll 11 = .ok (.iconst 0, 1) := by decide +kernel
theorem dMd_runAll_12 : decode cMd_runAll 12 = .ok (.istore_n 2, 1) := by decide +kernel
theorem dMd_runAll_13 : decode cMd_runAll 13 = .ok (.iconst 0, 1) := by decide +kernel
theorem dMd_runAll_14 : decode cMd_runAll 14 = .ok (.istore_n 3, 1) := by decide +kernel
theorem dMd_runAll_15 : decode cMd_runAll 15 = .ok (.iload_n 3, 1) := by decide +kernel
theorem dMd_runAll_16 : decode cMd_runAll 16 = .ok (.bipush 6, 2) := by decide +kernel
theorem dMd_runAll_18 : decode cMd_runAll 18 = .ok (.if_icmp .ge 29, 3) := by decide +kernel
theorem dMd_runAll_21 : decode cMd_runAll 21 = .ok (.iload_n 1, 1) := by decide +kernel
theorem dMd_runAll_22 : decode cMd_runAll 22 = .ok (.iload_n 3, 1) := by decide +kernel
theorem dMd_runAll_23 : decode cMd_runAll 23 = .ok (.ishr, 1) := by decide +kernel
theorem dMd_runAll_24 : decode cMd_runAll 24 = .ok (.iconst 1, 1) := by decide +kernel
theorem dMd_runAll_25 : decode cMd_runAll 25 = .ok (.iand, 1) := by decide +kernel
theorem dMd_runAll_26 : decode cMd_runAll 26 = .ok (.ifCond .eq 15, 3) := by decide +kernel
theorem dMd_runAll_29 : decode cMd_runAll 29 = .ok (.aload_n 0, 1) := by decide +kernel
theorem dMd_runAll_30 : decode cMd_runAll 30 = .ok (.iload_n 3, 1) := by decide +kernel
theorem dMd_runAll_31 : decode cMd_runAll 31 = .ok (.iconst 1, 1) := by decide +kernel
theorem dMd_runAll_32 : decode cMd_runAll 32 = .ok (.invokevirtual 139, 3) := by decide +kernel
theorem dMd_runAll_35 : decode cMd_runAll 35 = .ok (.ifCond .le 6, 3) := by decide +kernel
theorem dMd_runAll_38 : decode cMd_runAll 38 = .ok (.iinc 2 1, 3) := by decide +kernel
theorem dMd_runAll_41 : decode cMd_runAll 41 = .ok (.iinc 3 1, 3) := by decide +kernel
theorem dMd_runAll_44 : decode cMd_runAll 44 = .ok (.goto (-29), 3) := by decide +kernel
theorem dMd_runAll_47 : decode cMd_runAll 47 = .ok (.iload_n 2, 1) := by decide +kernel
theorem dMd_runAll_48 : decode cMd_runAll 48 = .ok (.ireturn, 1) := by decide +kernel
theorem dMd_told_0 : decode cMd_told 0 = .ok (.iload_n 1, 1) := by decide +kernel
theorem dMd_told_1 : decode cMd_told 1 = .ok (.bipush 6, 2) := by decide +kernel
theorem dMd_told_3 : decode cMd_told 3 = .ok (.invokestatic 44, 3) := by decide +kernel
theorem dMd_told_6 : decode cMd_told 6 = .ok (.ifCond .eq 12, 3) := by decide +kernel
theorem dMd_told_9 : decode cMd_told 9 = .ok (.iload_n 2, 1) := by decide +kernel
theorem dMd_told_10 : decode cMd_told 10 = .ok (.bipush 8, 2) := by decide +kernel
theorem dMd_told_12 : decode cMd_told 12 = .ok (.invokestatic 44, 3) := by decide +kernel
theorem dMd_told_15 : decode cMd_told 15 = .ok (.ifCond .ne 5, 3) := by decide +kernel
theorem dMd_told_18 : decode cMd_told 18 = .ok (.iconst (-1), 1) := by decide +kernel
theorem dMd_told_19 : decode cMd_told 19 = .ok (.ireturn, 1) := by decide +kernel
theorem dMd_told_20 : decode cMd_told 20 = .ok (.aload_n 0, 1) := by decide +kernel
theorem dMd_told_21 : decode cMd_told 21 = .ok (.getfield 25, 3) := by decide +kernel
theorem dMd_told_24 : decode cMd_told 24 = .ok (.iload_n 1, 1) := by decide +kernel
theorem dMd_told_25 : decode cMd_told 25 = .ok (.baload, 1) := by decide +kernel
theorem dMd_told_26 : decode cMd_told 26 = .ok (.ifCond .eq 17, 3) := by decide +kernel
theorem dMd_told_29 : decode cMd_told 29 = .ok (.aload_n 0, 1) := by decide +kernel
theorem dMd_told_30 : decode cMd_told 30 = .ok (.getfield 19, 3) := by decide +kernel
theorem dMd_told_33 : decode cMd_told 33 = .ok (.iload_n 1, 1) := by decide +kernel
theorem dMd_told_34 : decode cMd_told 34 = .ok (.bipush 8, 2) := by decide +kernel
theorem dMd_told_36 : decode cMd_told 36 = .ok (.imul, 1) := by decide +kernel
theorem dMd_told_37 : decode cMd_told 37 = .ok (.iload_n 2, 1) := by decide +kernel
theorem dMd_told_38 : decode cMd_told 38 = .ok (.iadd, 1) := by decide +kernel
theorem dMd_told_39 : decode cMd_told 39 = .ok (.iaload, 1) := by decide +kernel
theorem dMd_told_40 : decode cMd_told 40 = .ok (.goto 5, 3) := by decide +kernel
theorem dMd_told_43 : decode cMd_told 43 = .ok (.bipush (-3), 2) := by decide +kernel
theorem dMd_told_45 : decode cMd_told 45 = .ok (.ireturn, 1) := by decide +kernel
end
section
theorem dMd_cell_0 : decode cMd_cell 0 = .ok (.iload_n 1, 1) := by decide +kernel
theorem dMd_cell_1 : decode cMd_cell 1 = .ok (.bipush 6, 2) := by decide +kernel
theorem dMd_cell_3 : decode cMd_cell 3 = .ok (.invokestatic 44, 3) := by decide +kernel
theorem dMd_cell_6 : decode cMd_cell 6 = .ok (.ifCond .eq 26, 3) := by decide +kernel
theorem dMd_cell_9 : decode cMd_cell 9 = .ok (.iload_n 2, 1) := by decide +kernel
theorem dMd_cell_10 : decode cMd_cell 10 = .ok (.bipush 8, 2) := by decide +kernel
theorem dMd_cell_12 : decode cMd_cell 12 = .ok (.invokestatic 44, 3) := by decide +kernel
theorem dMd_cell_15 : decode cMd_cell 15 = .ok (.ifCond .eq 17, 3) := by decide +kernel
theorem dMd_cell_18 : decode cMd_cell 18 = .ok (.aload_n 0, 1) := by decide +kernel
theorem dMd_cell_19 : decode cMd_cell 19 = .ok (.getfield 22, 3) := by decide +kernel
theorem dMd_cell_22 : decode cMd_cell 22 = .ok (.iload_n 1, 1) := by decide +kernel
theorem dMd_cell_23 : decode cMd_cell 23 = .ok (.bipush 8, 2) := by decide +kernel
theorem dMd_cell_25 : decode cMd_cell 25 = .ok (.imul, 1) := by decide +kernel
theorem dMd_cell_26 : decode cMd_cell 26 = .ok (.iload_n 2, 1) := by decide +kernel
theorem dMd_cell_27 : decode cMd_cell 27 = .ok (.iadd, 1) := by decide +kernel
theorem dMd_cell_28 : decode cMd_cell 28 = .ok (.iaload, 1) := by decide +kernel
theorem dMd_cell_29 : decode cMd_cell 29 = .ok (.goto 4, 3) := by decide +kernel
theorem dMd_cell_32 : decode cMd_cell 32 = .ok (.iconst (-1), 1) := by decide +kernel
theorem dMd_cell_33 : decode cMd_cell 33 = .ok (.ireturn, 1) := by decide +kernel
theorem dMd_counter_0 : decode cMd_counter 0 = .ok (.aload_n 0, 1) := by decide +kernel
theorem dMd_counter_1 : decode cMd_counter 1 = .ok (.getfield 108, 3) := by decide +kernel
theorem dMd_counter_4 : decode cMd_counter 4 = .ok (.lreturn, 1) := by decide +kernel
theorem dMd_count_0 : decode cMd_count 0 = .ok (.iload_n 1, 1) := by decide +kernel
theorem dMd_count_1 : decode cMd_count 1 = .ok (.bipush 9, 2) := by decide +kernel
theorem dMd_count_3 : decode cMd_count 3 = .ok (.invokestatic 44, 3) := by decide +kernel
theorem dMd_count_6 : decode cMd_count 6 = .ok (.ifCond .ne 5, 3) := by decide +kernel
theorem dMd_count_9 : decode cMd_count 9 = .ok (.iconst (-1), 1) := by decide +kernel
theorem dMd_count_10 : decode cMd_count 10 = .ok (.ireturn, 1) := by decide +kernel
theorem dMd_count_11 : decode cMd_count 11 = .ok (.iload_n 1, 1) := by decide +kernel
theorem dMd_count_12 : decode cMd_count 12 = .ok (.iconst 2, 1) := by decide +kernel
theorem dMd_count_13 : decode cMd_count 13 = .ok (.if_icmp .le 14, 3) := by decide +kernel
theorem dMd_count_16 : decode cMd_count 16 = .ok (.aload_n 0, 1) := by decide +kernel
theorem dMd_count_17 : decode cMd_count 17 = .ok (.getfield 16, 3) := by decide +kernel
theorem dMd_count_20 : decode cMd_count 20 = .ok (.iload_n 1, 1) := by decide +kernel
theorem dMd_count_21 : decode cMd_count 21 = .ok (.iconst 3, 1) := by decide +kernel
theorem dMd_count_22 : decode cMd_count 22 = .ok (.isub, 1) := by decide +kernel
theorem dMd_count_23 : decode cMd_count 23 = .ok (.iaload, 1) := by decide +kernel
theorem dMd_count_24 : decode cMd_count 24 = .ok (.goto 30, 3) := by decide +kernel
theorem dMd_count_27 : decode cMd_count 27 = .ok (.iload_n 1, 1) := by decide +kernel
theorem dMd_count_28 : decode cMd_count 28 = .ok (.ifCond .ne 10, 3) := by decide +kernel
theorem dMd_count_31 : decode cMd_count 31 = .ok (.aload_n 0, 1) := by decide +kernel
theorem dMd_count_32 : decode cMd_count 32 = .ok (.getfield 130, 3) := by decide +kernel
theorem dMd_count_35 : decode cMd_count 35 = .ok (.goto 19, 3) := by decide +kernel
theorem dMd_count_38 : decode cMd_count 38 = .ok (.iload_n 1, 1) := by decide +kernel
theorem dMd_count_39 : decode cMd_count 39 = .ok (.iconst 1, 1) := by decide +kernel
theorem dMd_count_40 : decode cMd_count 40 = .ok (.if_icmp .ne 10, 3) := by decide +kernel
theorem dMd_count_43 : decode cMd_count 43 = .ok (.aload_n 0, 1) := by decide +kernel
theorem dMd_count_44 : decode cMd_count 44 = .ok (.getfield 133, 3) := by decide +kernel
theorem dMd_count_47 : decode cMd_count 47 = .ok (.goto 7, 3) := by decide +kernel
theorem dMd_count_50 : decode cMd_count 50 = .ok (.aload_n 0, 1) := by decide +kernel
theorem dMd_count_51 : decode cMd_count 51 = .ok (.getfield 136, 3) := by decide +kernel
theorem dMd_count_54 : decode cMd_count 54 = .ok (.ireturn, 1) := by decide +kernel
abbrev cLw_law : ByteArray := code
theorem dLw_law_0 : decode cLw_law 0 = .ok (.new 7, 3) := by decide +kernel
theorem dLw_law_3 : decode cLw_law 3 = .ok (.dup, 1) := by decide +kernel
theorem dLw_law_4 : decode cLw_law 4 = .ok (.invokespecial 9, 3) := by decide +kernel
theorem dLw_law_7 : decode cLw_law 7 = .ok (.astore_n 1, 1) := by decide +kernel
theorem dLw_law_8 : decode cLw_law 8 = .ok (.new 10, 3) := by decide +kernel
theorem dLw_law_11 : decode cLw_law 11 = .ok (.dup, 1) := by decide +kernel
theorem dLw_law_12 : decode cLw_law 12 = .ok (.invokespecial 12, 3) := by decide +kernel
theorem dLw_law_15 : decode cLw_law 15 = .ok (.astore_n 2, 1) := by decide +kernel
theorem dLw_law_16 : decode cLw_law 16 = .ok (.iconst 0, 1) := by decide +kernel
theorem dLw_law_17 : decode cLw_law 17 = .ok (.istore_n 3, 1) := by decide +kernel
theorem dLw_law_18 : decode cLw_law 18 = .ok (.iload_n 3, 1) := by decide +kernel
theorem dLw_law_19 : decode cLw_law 19 = .ok (.aload_n 0, 1) := by decide +kernel
theorem dLw_law_20 : decode cLw_law 20 = .ok (.arraylength, 1) := by decide +kernel
theorem dLw_law_21 : decode cLw_law 21 = .ok (.iconst 4, 1) := by decide +kernel
theorem dLw_law_22 : decode cLw_law 22 = .ok (.isub, 1) := by decide +kernel
theorem dLw_law_23 : decode cLw_law 23 = .ok (.if_icmp .gt 304, 3) := by decide +kernel
theorem dLw_law_26 : decode cLw_law 26 = .ok (.aload_n 0, 1) := by decide +kernel
theorem dLw_law_27 : decode cLw_law 27 = .ok (.iload_n 3, 1) := by decide +kernel
theorem dLw_law_28 : decode cLw_law 28 = .ok (.iaload, 1) := by decide +kernel
theorem dLw_law_29 : decode cLw_law 29 = .ok (.bipush 7, 2) := by decide +kernel
theorem dLw_law_31 : decode cLw_law 31 = .ok (.iand, 1) := by decide +kernel
theorem dLw_law_32 : decode cLw_law 32 = .ok (.tableswitch 289 0 7 #[48, 91, 114, 163, 186, 219, 252, 266], 48) := by decide +kernel
theorem dLw_law_80 : decode cLw_law 80 = .ok (.aload_n 1, 1) := by decide +kernel
theorem dLw_law_81 : decode cLw_law 81 = .ok (.aload_n 0, 1) := by decide +kernel
theorem dLw_law_82 : decode cLw_law 82 = .ok (.iload_n 3, 1) := by decide +kernel
theorem dLw_law_83 : decode cLw_law 83 = .ok (.iconst 1, 1) := by decide +kernel
theorem dLw_law_84 : decode cLw_law 84 = .ok (.iadd, 1) := by decide +kernel
theorem dLw_law_85 : decode cLw_law 85 = .ok (.iaload, 1) := by decide +kernel
theorem dLw_law_86 : decode cLw_law 86 = .ok (.aload_n 0, 1) := by decide +kernel
theorem dLw_law_87 : decode cLw_law 87 = .ok (.iload_n 3, 1) := by decide +kernel
theorem dLw_law_88 : decode cLw_law 88 = .ok (.iconst 2, 1) := by decide +kernel
theorem dLw_law_89 : decode cLw_law 89 = .ok (.iadd, 1) := by decide +kernel
theorem dLw_law_90 : decode cLw_law 90 = .ok (.iaload, 1) := by decide +kernel
theorem dLw_law_91 : decode cLw_law 91 = .ok (.aload_n 0, 1) := by decide +kernel
theorem dLw_law_92 : decode cLw_law 92 = .ok (.iload_n 3, 1) := by decide +kernel
theorem dLw_law_93 : decode cLw_law 93 = .ok (.iconst 3, 1) := by decide +kernel
theorem dLw_law_94 : decode cLw_law 94 = .ok (.iadd, 1) := by decide +kernel
theorem dLw_law_95 : decode cLw_law 95 = .ok (.iaload, 1) := by decide +kernel
theorem dLw_law_96 : decode cLw_law 96 = .ok (.invokevirtual 13, 3) := by decide +kernel
theorem dLw_law_99 : decode cLw_law 99 = .ok (.aload_n 2, 1) := by decide +kernel
theorem dLw_law_100 : decode cLw_law 100 = .ok (.aload_n 0, 1) := by decide +kernel
theorem dLw_law_101 : decode cLw_law 101 = .ok (.iload_n 3, 1) := by decide +kernel
theorem dLw_law_102 : decode cLw_law 102 = .ok (.iconst 1, 1) := by decide +kernel
theorem dLw_law_103 : decode cLw_law 103 = .ok (.iadd, 1) := by decide +kernel
theorem dLw_law_104 : decode cLw_law 104 = .ok (.iaload, 1) := by decide +kernel
theorem dLw_law_105 : decode cLw_law 105 = .ok (.aload_n 0, 1) := by decide +kernel
theorem dLw_law_106 : decode cLw_law 106 = .ok (.iload_n 3, 1) := by decide +kernel
theorem dLw_law_107 : decode cLw_law 107 = .ok (.iconst 2, 1) := by decide +kernel
theorem dLw_law_108 : decode cLw_law 108 = .ok (.iadd, 1) := by decide +kernel
theorem dLw_law_109 : decode cLw_law 109 = .ok (.iaload, 1) := by decide +kernel
theorem dLw_law_110 : decode cLw_law 110 = .ok (.aload_n 0, 1) := by decide +kernel
theorem dLw_law_111 : decode cLw_law 111 = .ok (.iload_n 3, 1) := by decide +kernel
theorem dLw_law_112 : decode cLw_law 112 = .ok (.iconst 3, 1) := by decide +kernel
theorem dLw_law_113 : decode cLw_law 113 = .ok (.iadd, 1) := by decide +kernel
theorem dLw_law_114 : decode cLw_law 114 = .ok (.iaload, 1) := by decide +kernel
theorem dLw_law_115 : decode cLw_law 115 = .ok (.invokevirtual 17, 3) := by decide +kernel
theorem dLw_law_118 : decode cLw_law 118 = .ok (.if_icmp .eq 203, 3) := by decide +kernel
theorem dLw_law_121 : decode cLw_law 121 = .ok (.iconst 0, 1) := by decide +kernel
theorem dLw_law_122 : decode cLw_law 122 = .ok (.ireturn, 1) := by decide +kernel
theorem dLw_law_123 : decode cLw_law 123 = .ok (.aload_n 1, 1) := by decide +kernel
theorem dLw_law_124 : decode cLw_law 124 = .ok (.aload_n 0, 1) := by decide +kernel
theorem dLw_law_125 : decode cLw_law 125 = .ok (.iload_n 3, 1) := by decide +kernel
theorem dLw_law_126 : decode cLw_law 126 = .ok (.iconst 1, 1) := by decide +kernel
theorem dLw_law_127 : decode cLw_law 127 = .ok (.iadd, 1) := by decide +kernel
theorem dLw_law_128 : decode cLw_law 128 = .ok (.iaload, 1) := by decide +kernel
theorem dLw_law_129 : decode cLw_law 129 = .ok (.invokevirtual 18, 3) := by decide +kernel
theorem dLw_law_132 : decode cLw_law 132 = .ok (.aload_n 2, 1) := by decide +kernel
theorem dLw_law_133 : decode cLw_law 133 = .ok (.aload_n 0, 1) := by decide +kernel
theorem dLw_law_134 : decode cLw_law 134 = .ok (.iload_n 3, 1) := by decide +kernel
theorem dLw_law_135 : decode cLw_law 135 = .ok (.iconst 1, 1) := by decide +kernel
theorem dLw_law_136 : decode cLw_law 136 = .ok (.iadd, 1) := by decide +kernel
theorem dLw_law_137 : decode cLw_law 137 = .ok (.iaload, 1) := by decide +kernel
theorem dLw_law_138 : decode cLw_law 138 = .ok (.invokevirtual 22, 3) := by decide +kernel
theorem dLw_law_141 : decode cLw_law 141 = .ok (.if_icmp .eq 180, 3) := by decide +kernel
theorem dLw_law_144 : decode cLw_law 144 = .ok (.iconst 0, 1) := by decide +kernel
theorem dLw_law_145 : decode cLw_law 145 = .ok (.ireturn, 1) := by decide +kernel
theorem dLw_law_146 : decode cLw_law 146 = .ok (.aload_n 1, 1) := by decide +kernel
theorem dLw_law_147 : decode cLw_law 147 = .ok (.aload_n 0, 1) := by decide +kernel
theorem dLw_law_148 : decode cLw_law 148 = .ok (.iload_n 3, 1) := by decide +kernel
theorem dLw_law_149 : decode cLw_law 149 = .ok (.iconst 1, 1) := by decide +kernel
theorem dLw_law_150 : decode cLw_law 150 = .ok (.iadd, 1) := by decide +kernel
theorem dLw_law_151 : decode cLw_law 151 = .ok (.iaload, 1) := by decide +kernel
theorem dLw_law_152 : decode cLw_law 152 = .ok (.aload_n 0, 1) := by decide +kernel
theorem dLw_law_153 : decode cLw_law 153 = .ok (.iload_n 3, 1) := by decide +kernel
theorem dLw_law_154 : decode cLw_law 154 = .ok (.iconst 2, 1) := by decide +kernel
theorem dLw_law_155 : decode cLw_law 155 = .ok (.iadd, 1) := by decide +kernel
theorem dLw_law_156 : decode cLw_law 156 = .ok (.iaload, 1) := by decide +kernel
theorem dLw_law_157 : decode cLw_law 157 = .ok (.ifCond .eq 7, 3) := by decide +kernel
theorem dLw_law_160 : decode cLw_law 160 = .ok (.iconst 1, 1) := by decide +kernel
theorem dLw_law_161 : decode cLw_law 161 = .ok (.goto 4, 3) := by decide +kernel
theorem dLw_law_164 : decode cLw_law 164 = .ok (.iconst 0, 1) := by decide +kernel
theorem dLw_law_165 : decode cLw_law 165 = .ok (.invokevirtual 23, 3) := by decide +kernel
theorem dLw_law_168 : decode cLw_law 168 = .ok (.aload_n 2, 1) := by decide +kernel
theorem dLw_law_169 : decode cLw_law 169 = .ok (.aload_n 0, 1) := by decide +kernel
theorem dLw_law_170 : decode cLw_law 170 = .ok (.iload_n 3, 1) := by decide +kernel
theorem dLw_law_171 : decode cLw_law 171 = .ok (.iconst 1, 1) := by decide +kernel
theorem dLw_law_172 : decode cLw_law 172 = .ok (.iadd, 1) := by decide +kernel
theorem dLw_law_173 : decode cLw_law 173 = .ok (.iaload, 1) := by decide +kernel
theorem dLw_law_174 : decode cLw_law 174 = .ok (.aload_n 0, 1) := by decide +kernel
theorem dLw_law_175 : decode cLw_law 175 = .ok (.iload_n 3, 1) := by decide +kernel
theorem dLw_law_176 : decode cLw_law 176 = .ok (.iconst 2, 1) := by decide +kernel
theorem dLw_law_177 : decode cLw_law 177 = .ok (.iadd, 1) := by decide +kernel
theorem dLw_law_178 : decode cLw_law 178 = .ok (.iaload, 1) := by decide +kernel
theorem dLw_law_179 : decode cLw_law 179 = .ok (.ifCond .eq 7, 3) := by decide +kernel
theorem dLw_law_182 : decode cLw_law 182 = .ok (.iconst 1, 1) := by decide +kernel
theorem dLw_law_183 : decode cLw_law 183 = .ok (.goto 4, 3) := by decide +kernel
theorem dLw_law_186 : decode cLw_law 186 = .ok (.iconst 0, 1) := by decide +kernel
theorem dLw_law_187 : decode cLw_law 187 = .ok (.invokevirtual 27, 3) := by decide +kernel
theorem dLw_law_190 : decode cLw_law 190 = .ok (.if_icmp .eq 131, 3) := by decide +kernel
theorem dLw_law_193 : decode cLw_law 193 = .ok (.iconst 0, 1) := by decide +kernel
theorem dLw_law_194 : decode cLw_law 194 = .ok (.ireturn, 1) := by decide +kernel
theorem dLw_law_195 : decode cLw_law 195 = .ok (.aload_n 1, 1) := by decide +kernel
theorem dLw_law_196 : decode cLw_law 196 = .ok (.aload_n 0, 1) := by decide +kernel
theorem dLw_law_197 : decode cLw_law 197 = .ok (.iload_n 3, 1) := by decide +kernel
theorem dLw_law_198 : decode cLw_law 198 = .ok (.iconst 1, 1) := by decide +kernel
theorem dLw_law_199 : decode cLw_law 199 = .ok (.iadd, 1) := by decide +kernel
theorem dLw_law_200 : decode cLw_law 200 = .ok (.iaload, 1) := by decide +kernel
theorem dLw_law_201 : decode cLw_law 201 = .ok (.invokevirtual 28, 3) := by decide +kernel
theorem dLw_law_204 : decode cLw_law 204 = .ok (.aload_n 2, 1) := by decide +kernel
theorem dLw_law_205 : decode cLw_law 205 = .ok (.aload_n 0, 1) := by decide +kernel
theorem dLw_law_206 : decode cLw_law 206 = .ok (.iload_n 3, 1) := by decide +kernel
theorem dLw_law_207 : decode cLw_law 207 = .ok (.iconst 1, 1) := by decide +kernel
theorem dLw_law_208 : decode cLw_law 208 = .ok (.iadd, 1) := by decide +kernel
theorem dLw_law_209 : decode cLw_law 209 = .ok (.iaload, 1) := by decide +kernel
theorem dLw_law_210 : decode cLw_law 210 = .ok (.invokevirtual 31, 3) := by decide +kernel
theorem dLw_law_213 : decode cLw_law 213 = .ok (.if_icmp .eq 108, 3) := by decide +kernel
theorem dLw_law_216 : decode cLw_law 216 = .ok (.iconst 0, 1) := by decide +kernel
theorem dLw_law_217 : decode cLw_law 217 = .ok (.ireturn, 1) := by decide +kernel
theorem dLw_law_218 : decode cLw_law 218 = .ok (.aload_n 1, 1) := by decide +kernel
theorem dLw_law_219 : decode cLw_law 219 = .ok (.aload_n 0, 1) := by decide +kernel
theorem dLw_law_220 : decode cLw_law 220 = .ok (.iload_n 3, 1) := by decide +kernel
theorem dLw_law_221 : decode cLw_law 221 = .ok (.iconst 1, 1) := by decide +kernel
theorem dLw_law_222 : decode cLw_law 222 = .ok (.iadd, 1) := by decide +kernel
theorem dLw_law_223 : decode cLw_law 223 = .ok (.iaload, 1) := by decide +kernel
theorem dLw_law_224 : decode cLw_law 224 = .ok (.aload_n 0, 1) := by decide +kernel
theorem dLw_law_225 : decode cLw_law 225 = .ok (.iload_n 3, 1) := by decide +kernel
theorem dLw_law_226 : decode cLw_law 226 = .ok (.iconst 2, 1) := by decide +kernel
theorem dLw_law_227 : decode cLw_law 227 = .ok (.iadd, 1) := by decide +kernel
theorem dLw_law_228 : decode cLw_law 228 = .ok (.iaload, 1) := by decide +kernel
theorem dLw_law_229 : decode cLw_law 229 = .ok (.invokevirtual 32, 3) := by decide +kernel
theorem dLw_law_232 : decode cLw_law 232 = .ok (.aload_n 2, 1) := by decide +kernel
theorem dLw_law_233 : decode cLw_law 233 = .ok (.aload_n 0, 1) := by decide +kernel
theorem dLw_law_234 : decode cLw_law 234 = .ok (.iload_n 3, 1) := by decide +kernel
theorem dLw_law_235 : decode cLw_law 235 = .ok (.iconst 1, 1) := by decide +kernel
theorem dLw_law_236 : decode cLw_law 236 = .ok (.iadd, 1) := by decide +kernel
theorem dLw_law_237 : decode cLw_law 237 = .ok (.iaload, 1) := by decide +kernel
theorem dLw_law_238 : decode cLw_law 238 = .ok (.aload_n 0, 1) := by decide +kernel
theorem dLw_law_239 : decode cLw_law 239 = .ok (.iload_n 3, 1) := by decide +kernel
theorem dLw_law_240 : decode cLw_law 240 = .ok (.iconst 2, 1) := by decide +kernel
theorem dLw_law_241 : decode cLw_law 241 = .ok (.iadd, 1) := by decide +kernel
theorem dLw_law_242 : decode cLw_law 242 = .ok (.iaload, 1) := by decide +kernel
theorem dLw_law_243 : decode cLw_law 243 = .ok (.invokevirtual 36, 3) := by decide +kernel
theorem dLw_law_246 : decode cLw_law 246 = .ok (.if_icmp .eq 75, 3) := by decide +kernel
theorem dLw_law_249 : decode cLw_law 249 = .ok (.iconst 0, 1) := by decide +kernel
theorem dLw_law_250 : decode cLw_law 250 = .ok (.ireturn, 1) := by decide +kernel
theorem dLw_law_251 : decode cLw_law 251 = .ok (.aload_n 1, 1) := by decide +kernel
theorem dLw_law_252 : decode cLw_law 252 = .ok (.aload_n 0, 1) := by decide +kernel
theorem dLw_law_253 : decode cLw_law 253 = .ok (.iload_n 3, 1) := by decide +kernel
theorem dLw_law_254 : decode cLw_law 254 = .ok (.iconst 1, 1) := by decide +kernel
theorem dLw_law_255 : decode cLw_law 255 = .ok (.iadd, 1) := by decide +kernel
theorem dLw_law_256 : decode cLw_law 256 = .ok (.iaload, 1) := by decide +kernel
theorem dLw_law_257 : decode cLw_law 257 = .ok (.aload_n 0, 1) := by decide +kernel
theorem dLw_law_258 : decode cLw_law 258 = .ok (.iload_n 3, 1) := by decide +kernel
theorem dLw_law_259 : decode cLw_law 259 = .ok (.iconst 2, 1) := by decide +kernel
theorem dLw_law_260 : decode cLw_law 260 = .ok (.iadd, 1) := by decide +kernel
theorem dLw_law_261 : decode cLw_law 261 = .ok (.iaload, 1) := by decide +kernel
theorem dLw_law_262 : decode cLw_law 262 = .ok (.invokevirtual 37, 3) := by decide +kernel
theorem dLw_law_265 : decode cLw_law 265 = .ok (.aload_n 2, 1) := by decide +kernel
theorem dLw_law_266 : decode cLw_law 266 = .ok (.aload_n 0, 1) := by decide +kernel
theorem dLw_law_267 : decode cLw_law 267 = .ok (.iload_n 3, 1) := by decide +kernel
theorem dLw_law_268 : decode cLw_law 268 = .ok (.iconst 1, 1) := by decide +kernel
theorem dLw_law_269 : decode cLw_law 269 = .ok (.iadd, 1) := by decide +kernel
theorem dLw_law_270 : decode cLw_law 270 = .ok (.iaload, 1) := by decide +kernel
theorem dLw_law_271 : decode cLw_law 271 = .ok (.aload_n 0, 1) := by decide +kernel
theorem dLw_law_272 : decode cLw_law 272 = .ok (.iload_n 3, 1) := by decide +kernel
theorem dLw_law_273 : decode cLw_law 273 = .ok (.iconst 2, 1) := by decide +kernel
theorem dLw_law_274 : decode cLw_law 274 = .ok (.iadd, 1) := by decide +kernel
theorem dLw_law_275 : decode cLw_law 275 = .ok (.iaload, 1) := by decide +kernel
theorem dLw_law_276 : decode cLw_law 276 = .ok (.invokevirtual 40, 3) := by decide +kernel
theorem dLw_law_279 : decode cLw_law 279 = .ok (.if_icmp .eq 42, 3) := by decide +kernel
theorem dLw_law_282 : decode cLw_law 282 = .ok (.iconst 0, 1) := by decide +kernel
theorem dLw_law_283 : decode cLw_law 283 = .ok (.ireturn, 1) := by decide +kernel
theorem dLw_law_284 : decode cLw_law 284 = .ok (.aload_n 1, 1) := by decide +kernel
theorem dLw_law_285 : decode cLw_law 285 = .ok (.invokevirtual 41, 3) := by decide +kernel
theorem dLw_law_288 : decode cLw_law 288 = .ok (.aload_n 2, 1) := by decide +kernel
theorem dLw_law_289 : decode cLw_law 289 = .ok (.invokevirtual 45, 3) := by decide +kernel
theorem dLw_law_292 : decode cLw_law 292 = .ok (.lcmp, 1) := by decide +kernel
theorem dLw_law_293 : decode cLw_law 293 = .ok (.ifCond .eq 28, 3) := by decide +kernel
theorem dLw_law_296 : decode cLw_law 296 = .ok (.iconst 0, 1) := by decide +kernel
theorem dLw_law_297 : decode cLw_law 297 = .ok (.ireturn, 1) := by decide +kernel
theorem dLw_law_298 : decode cLw_law 298 = .ok (.aload_n 1, 1) := by decide +kernel
theorem dLw_law_299 : decode cLw_law 299 = .ok (.aload_n 0, 1) := by decide +kernel
theorem dLw_law_300 : decode cLw_law 300 = .ok (.iload_n 3, 1) := by decide +kernel
theorem dLw_law_301 : decode cLw_law 301 = .ok (.iconst 1, 1) := by decide +kernel
theorem dLw_law_302 : decode cLw_law 302 = .ok (.iadd, 1) := by decide +kernel
theorem dLw_law_303 : decode cLw_law 303 = .ok (.iaload, 1) := by decide +kernel
theorem dLw_law_304 : decode cLw_law 304 = .ok (.invokevirtual 46, 3) := by decide +kernel
theorem dLw_law_307 : decode cLw_law 307 = .ok (.aload_n 2, 1) := by decide +kernel
theorem dLw_law_308 : decode cLw_law 308 = .ok (.aload_n 0, 1) := by decide +kernel
theorem dLw_law_309 : decode cLw_law 309 = .ok (.iload_n 3, 1) := by decide +kernel
theorem dLw_law_310 : decode cLw_law 310 = .ok (.iconst 1, 1) := by decide +kernel
theorem dLw_law_311 : decode cLw_law 311 = .ok (.iadd, 1) := by decide +kernel
theorem dLw_law_312 : decode cLw_law 312 = .ok (.iaload, 1) := by decide +kernel
theorem dLw_law_313 : decode cLw_law 313 = .ok (.invokevirtual 49, 3) := by decide +kernel
theorem dLw_law_316 : decode cLw_law 316 = .ok (.if_icmp .eq 5, 3) := by decide +kernel
theorem dLw_law_319 : decode cLw_law 319 = .ok (.iconst 0, 1) := by decide +kernel
theorem dLw_law_320 : decode cLw_law 320 = .ok (.ireturn, 1) := by decide +kernel
theorem dLw_law_321 : decode cLw_law 321 = .ok (.iinc 3 4, 3) := by decide +kernel
theorem dLw_law_324 : decode cLw_law 324 = .ok (.goto (-306), 3) := by decide +kernel
theorem dLw_law_327 : decode cLw_law 327 = .ok (.iconst 1, 1) := by decide +kernel
theorem dLw_law_328 : decode cLw_law 328 = .ok (.ireturn, 1) := by decide +kernel
end
section
-- WORDS: one list for every method: those words of the tables that hold on through calls
def ce_ok (w : Cond) : Bool := (w.onTables && w.keeps) || (match w with
  | .arrayClass _ => true
  | _ => false)
def ce_W : List Cond := lw_tbl.filter ce_ok
theorem ce_okp {w : Cond} (h : ce_ok w = true) : (w.onTables && w.keeps) = true ∨ ∃ ty, w = .arrayClass ty := by
  unfold ce_ok at h
  rcases (Bool.or_eq_true _ _).mp h with h | h
  · exact Or.inl h
  · refine Or.inr ?_
    split at h
    · exact ⟨_, rfl⟩
    · cases h
theorem ce_in {w : Cond} (h : w ∈ lw_tbl) (hg : ce_ok w = true) : w ∈ ce_W := List.mem_filter.mpr ⟨h, hg⟩
theorem ce_good {w0 w1 : Cond} (h : w1 ∈ ce_W) : GoodIn (w0 :: ce_W) (w1 :: ce_W) := by
  intro w hw
  have hm : w ∈ ce_W := by
    rcases List.mem_cons.mp hw with e | e
    · rw [e]; exact h
    · exact e
  exact ⟨List.mem_cons_of_mem _ hm, ce_okp (List.mem_filter.mp hm).2⟩
theorem ce_goodL {w1 : Cond} (h : w1 ∈ ce_W) : GoodIn lw_tbl (w1 :: ce_W) := by
  intro w hw
  have hm : w ∈ ce_W := by
    rcases List.mem_cons.mp hw with e | e
    · rw [e]; exact h
    · exact e
  exact ⟨(List.mem_filter.mp hm).1, ce_okp (List.mem_filter.mp hm).2⟩
/-- rooms by height: h frames above this one, no cells -/
def ce_rm (h : Nat) : Room := { frames := h, cells := 0, slots := 0, locals := 30 * h }
/-- a method in the words that all share -/
def ce_M (y : MethodName) (b : ByteArray) (maxL : Nat) (ret : Option FieldType) (n : Nat) : Prop :=
  Cond.code y b maxL ret ∈ ce_W ∧ Cond.initialized y.cls ∈ ce_W ∧ (y.cls ≠ "java/lang/invoke/MethodHandle" ∧ y.cls ≠ "java/lang/invoke/VarHandle" ∧ (parseMethodDescriptor y.desc).map (fun d => d.parameters.length) = some n)
def ce_ws (y : MethodName) (b : ByteArray) (maxL : Nat) (ret : Option FieldType) : List Cond := Cond.code y b maxL ret :: ce_W
section CE1
variable {p : Program} {l : Launch} {e : Env} {R : Room} {s : State} {m : MethodId} {args : Array Value} {below : List Frame} {meth : Method} {c : Code} {H : Heap} {locs : List Loc} {cells slots : Nat} {Q : State → Prop}
variable {y : MethodName} {b : ByteArray} {maxL n mc ms index : Nat} {ret : Option FieldType} {own C : String} {rm : Room} {Ts : List Cond}
theorem ce_cB (hts : ∀ w ∈ Ts, w.before args s = true) (hG : GoodIn Ts (ce_ws y b maxL ret)) (hM : ce_M y b maxL ret n) (hrc : rm.cells = mc) (hrs : rm.slots = ms) (hl : Cond.methodLink own index y ∈ ce_W) (hR : rm.frames + 1 ≤ R.frames ∧ 8 + (maxL + 11) + rm.locals ≤ R.locals) (hin : ∀ w ∈ ce_W, w ∈ Ts) : CallB R s args own index y b maxL ret (ce_ws y b maxL ret) rm mc ms n :=
  callB_of n hts hG rfl hrc hrs (hts _ (hin _ hM.2.1)) (hts _ (hin _ hl)) hM.2.2 hR
theorem ce_cV (hts : ∀ w ∈ Ts, w.before args s = true) (hG : GoodIn Ts (ce_ws y b maxL ret)) (hM : ce_M y b maxL ret n) (hrc : rm.cells = mc) (hrs : rm.slots = ms) (hl : Cond.methodLink own index y ∈ ce_W) (hi : Cond.instanceMethod y ∈ ce_W ∧ Cond.selects C y y ∈ ce_W) (hR : rm.frames + 1 ≤ R.frames ∧ 8 + (maxL + 11) + rm.locals ≤ R.locals) (hin : ∀ w ∈ ce_W, w ∈ Ts) : CallW R s args own C index y b maxL ret (ce_ws y b maxL ret) rm mc ms n :=
  ⟨ce_cB hts hG hM hrc hrs hl hR hin, hts _ (hin _ hi.1), hts _ (hin _ hi.2)⟩
theorem ce_cS (hts : ∀ w ∈ Ts, w.before args s = true) (hG : GoodIn Ts (ce_ws y b maxL ret)) (hM : ce_M y b maxL ret n) (hrc : rm.cells = mc) (hrs : rm.slots = ms) (hl : Cond.methodLink own index y ∈ ce_W) (hi : Cond.static y ∈ ce_W) (hR : rm.frames + 1 ≤ R.frames ∧ 8 + (maxL + 11) + rm.locals ≤ R.locals) (hin : ∀ w ∈ ce_W, w ∈ Ts) : CallB R s args own index y b maxL ret (ce_ws y b maxL ret) rm mc ms n ∧ (Cond.static y).before args s = true :=
  ⟨ce_cB hts hG hM hrc hrs hl hR hin, hts _ (hin _ hi)⟩
theorem ce_cI (hts : ∀ w ∈ Ts, w.before args s = true) (hG : GoodIn Ts (ce_ws y b maxL none)) (hM : ce_M y b maxL none n) (hrc : rm.cells = mc) (hrs : rm.slots = ms) (hl : Cond.methodLink own index y ∈ ce_W) (hi : Cond.instanceMethod y ∈ ce_W) (hy1 : y.name = "<init>") (hR : rm.frames + 1 ≤ R.frames ∧ 8 + (maxL + 11) + rm.locals ≤ R.locals) (hin : ∀ w ∈ ce_W, w ∈ Ts) : CallB R s args own index y b maxL none (ce_ws y b maxL none) rm mc ms n ∧ y.name = "<init>" ∧ (Cond.instanceMethod y).before args s = true :=
  ⟨ce_cB hts hG hM hrc hrs hl hR hin, hy1, hts _ (hin _ hi)⟩
end CE1
theorem ce_tl (w0 : Cond) : ∀ w ∈ ce_W, w ∈ w0 :: ce_W := fun _ h => List.mem_cons_of_mem _ h
theorem ce_tbl : ∀ w ∈ ce_W, w ∈ lw_tbl := fun _ h => (List.mem_filter.mp h).1
-- WORLDS: addresses never change in a method that makes nothing
theorem ce_vc {cA : ClassId} {n : Nat} {f g : Nat → Int32} (h : ∀ j, j < n → f j = g j) : vp_cell cA (n, .inl f) = vp_cell cA (n, .inl g) := by
  rw [vp_cell_i, vp_cell_i]
  unfold arrV
  congr 2
  funext j
  exact congrArg Value.int (h j.val j.isLt)
theorem ce_D {A B : Nat → Prop} {ws ws' : va_W} (hD : va_D A ws) (e : ws.map Prod.fst = ws'.map Prod.fst) (hB : ∀ (k : Nat) (q : Nat × va_E), ws'[k]? = some q → B q.1) : va_D B ws' := by
  refine ⟨fun i j x y hi hj hxy => ?_, hB⟩
  have key : ∀ (k : Nat) (q : Nat × va_E), ws'[k]? = some q → ∃ q0, ws[k]? = some q0 ∧ q0.1 = q.1 := by
    intro k q hk
    have h1 : (ws.map Prod.fst)[k]? = some q.1 := by rw [e, List.getElem?_map, hk]; rfl
    rw [List.getElem?_map] at h1
    cases hw : ws[k]? with
    | none => rw [hw] at h1; cases h1
    | some q0 => rw [hw] at h1; exact ⟨q0, rfl, Option.some.inj h1⟩
  obtain ⟨x0, a1, a2⟩ := key i x hi
  obtain ⟨y0, b1, b2⟩ := key j y hj
  exact hD.1 i j x0 y0 a1 b1 (a2.trans (hxy.trans b2.symm))
end
section
theorem iniEx : Cond.initialized REx ∈ ce_W := ce_in (List.mem_append_right _ (List.mem_of_getElem? (i := 1) (by decide +kernel))) rfl
theorem iniPg : Cond.initialized RPg ∈ ce_W := ce_in (List.mem_append_right _ (List.mem_of_getElem? (i := 2) (by decide +kernel))) rfl
theorem iniRn : Cond.initialized RRn ∈ ce_W := ce_in (List.mem_append_right _ (List.mem_of_getElem? (i := 3) (by decide +kernel))) rfl
theorem iniMd : Cond.initialized RMd ∈ ce_W := ce_in (List.mem_append_right _ (List.mem_of_getElem? (i := 4) (by decide +kernel))) rfl
theorem iniLw : Cond.initialized RLw ∈ ce_W := ce_in (List.mem_append_right _ (List.mem_of_getElem? (i := 0) (by decide +kernel))) rfl
theorem mEx_init : ce_M yEx_init cEx_init 2 none 0 := ⟨ce_in (List.mem_append_right _ (List.mem_of_getElem? (i := 10) (by decide +kernel))) rfl, iniEx, by decide +kernel⟩
theorem iEx_init : Cond.instanceMethod yEx_init ∈ ce_W := ce_in (List.mem_append_right _ (List.mem_of_getElem? (i := 9) (by decide +kernel))) rfl
theorem mPg_init : ce_M yPg_init cPg_init 1 none 0 := ⟨ce_in (List.mem_append_right _ (List.mem_of_getElem? (i := 21) (by decide +kernel))) rfl, iniPg, by decide +kernel⟩
theorem iPg_init : Cond.instanceMethod yPg_init ∈ ce_W := ce_in (List.mem_append_right _ (List.mem_of_getElem? (i := 20) (by decide +kernel))) rfl
theorem mRn_init : ce_M yRn_init cRn_init 2 none 1 := ⟨ce_in (List.mem_append_right _ (List.mem_of_getElem? (i := 37) (by decide +kernel))) rfl, iniRn, by decide +kernel⟩
theorem iRn_init : Cond.instanceMethod yRn_init ∈ ce_W := ce_in (List.mem_append_right _ (List.mem_of_getElem? (i := 36) (by decide +kernel))) rfl
theorem mEx_add : ce_M yEx_add cEx_add 5 (some .int) 3 := ⟨ce_in (List.mem_append_right _ (List.mem_of_getElem? (i := 104) (by decide +kernel))) rfl, iniEx, by decide +kernel⟩
theorem iEx_add : Cond.instanceMethod yEx_add ∈ ce_W ∧ Cond.selects REx yEx_add yEx_add ∈ ce_W := ⟨ce_in (List.mem_append_right _ (List.mem_of_getElem? (i := 102) (by decide +kernel))) rfl, ce_in (List.mem_append_right _ (List.mem_of_getElem? (i := 103) (by decide +kernel))) rfl⟩
theorem mEx_isProgram : ce_M yEx_isProgram cEx_isProgram 1 (some .boolean) 1 := ⟨ce_in (List.mem_append_right _ (List.mem_of_getElem? (i := 107) (by decide +kernel))) rfl, iniEx, by decide +kernel⟩
theorem sEx_isProgram : Cond.static yEx_isProgram ∈ ce_W := ce_in (List.mem_append_right _ (List.mem_of_getElem? (i := 106) (by decide +kernel))) rfl
theorem mEx_isWithin : ce_M yEx_isWithin cEx_isWithin 2 (some .boolean) 2 := ⟨ce_in (List.mem_append_right _ (List.mem_of_getElem? (i := 110) (by decide +kernel))) rfl, iniEx, by decide +kernel⟩
theorem sEx_isWithin : Cond.static yEx_isWithin ∈ ce_W := ce_in (List.mem_append_right _ (List.mem_of_getElem? (i := 109) (by decide +kernel))) rfl
theorem mPg_append : ce_M yPg_append cPg_append 3 (some .int) 2 := ⟨ce_in (List.mem_append_right _ (List.mem_of_getElem? (i := 114) (by decide +kernel))) rfl, iniPg, by decide +kernel⟩
theorem iPg_append : Cond.instanceMethod yPg_append ∈ ce_W ∧ Cond.selects RPg yPg_append yPg_append ∈ ce_W := ⟨ce_in (List.mem_append_right _ (List.mem_of_getElem? (i := 112) (by decide +kernel))) rfl, ce_in (List.mem_append_right _ (List.mem_of_getElem? (i := 113) (by decide +kernel))) rfl⟩
theorem mRn_forget : ce_M yRn_forget cRn_forget 1 none 0 := ⟨ce_in (List.mem_append_right _ (List.mem_of_getElem? (i := 118) (by decide +kernel))) rfl, iniRn, by decide +kernel⟩
theorem iRn_forget : Cond.instanceMethod yRn_forget ∈ ce_W ∧ Cond.selects RRn yRn_forget yRn_forget ∈ ce_W := ⟨ce_in (List.mem_append_right _ (List.mem_of_getElem? (i := 116) (by decide +kernel))) rfl, ce_in (List.mem_append_right _ (List.mem_of_getElem? (i := 117) (by decide +kernel))) rfl⟩
theorem mEx_clear : ce_M yEx_clear cEx_clear 2 (some .int) 1 := ⟨ce_in (List.mem_append_right _ (List.mem_of_getElem? (i := 122) (by decide +kernel))) rfl, iniEx, by decide +kernel⟩
theorem iEx_clear : Cond.instanceMethod yEx_clear ∈ ce_W ∧ Cond.selects REx yEx_clear yEx_clear ∈ ce_W := ⟨ce_in (List.mem_append_right _ (List.mem_of_getElem? (i := 120) (by decide +kernel))) rfl, ce_in (List.mem_append_right _ (List.mem_of_getElem? (i := 121) (by decide +kernel))) rfl⟩
theorem mPg_empty : ce_M yPg_empty cPg_empty 1 none 0 := ⟨ce_in (List.mem_append_right _ (List.mem_of_getElem? (i := 126) (by decide +kernel))) rfl, iniPg, by decide +kernel⟩
theorem iPg_empty : Cond.instanceMethod yPg_empty ∈ ce_W ∧ Cond.selects RPg yPg_empty yPg_empty ∈ ce_W := ⟨ce_in (List.mem_append_right _ (List.mem_of_getElem? (i := 124) (by decide +kernel))) rfl, ce_in (List.mem_append_right _ (List.mem_of_getElem? (i := 125) (by decide +kernel))) rfl⟩
theorem mEx_run : ce_M yEx_run cEx_run 3 (some .int) 2 := ⟨ce_in (List.mem_append_right _ (List.mem_of_getElem? (i := 130) (by decide +kernel))) rfl, iniEx, by decide +kernel⟩
theorem iEx_run : Cond.instanceMethod yEx_run ∈ ce_W ∧ Cond.selects REx yEx_run yEx_run ∈ ce_W := ⟨ce_in (List.mem_append_right _ (List.mem_of_getElem? (i := 128) (by decide +kernel))) rfl, ce_in (List.mem_append_right _ (List.mem_of_getElem? (i := 129) (by decide +kernel))) rfl⟩
theorem mEx_perform : ce_M yEx_perform cEx_perform 4 (some .int) 2 := ⟨ce_in (List.mem_append_right _ (List.mem_of_getElem? (i := 134) (by decide +kernel))) rfl, iniEx, by decide +kernel⟩
theorem iEx_perform : Cond.instanceMethod yEx_perform ∈ ce_W ∧ Cond.selects REx yEx_perform yEx_perform ∈ ce_W := ⟨ce_in (List.mem_append_right _ (List.mem_of_getElem? (i := 133) (by decide +kernel))) rfl, ce_in (List.mem_append_left _ (List.mem_of_getElem? (i := 0) (by decide +kernel))) rfl⟩
theorem mRn_perform : ce_M yRn_perform cRn_perform 2 none 1 := ⟨ce_in (List.mem_append_right _ (List.mem_of_getElem? (i := 138) (by decide +kernel))) rfl, iniRn, by decide +kernel⟩
theorem iRn_perform : Cond.instanceMethod yRn_perform ∈ ce_W ∧ Cond.selects RRn yRn_perform yRn_perform ∈ ce_W := ⟨ce_in (List.mem_append_right _ (List.mem_of_getElem? (i := 136) (by decide +kernel))) rfl, ce_in (List.mem_append_right _ (List.mem_of_getElem? (i := 137) (by decide +kernel))) rfl⟩
theorem mRn_begin : ce_M yRn_begin cRn_begin 3 none 1 := ⟨ce_in (List.mem_append_right _ (List.mem_of_getElem? (i := 142) (by decide +kernel))) rfl, iniRn, by decide +kernel⟩
theorem iRn_begin : Cond.instanceMethod yRn_begin ∈ ce_W ∧ Cond.selects RRn yRn_begin yRn_begin ∈ ce_W := ⟨ce_in (List.mem_append_right _ (List.mem_of_getElem? (i := 141) (by decide +kernel))) rfl, ce_in (List.mem_append_left _ (List.mem_of_getElem? (i := 1) (by decide +kernel))) rfl⟩
theorem mRn_forgetTrouble : ce_M yRn_forgetTrouble cRn_forgetTrouble 1 none 0 := ⟨ce_in (List.mem_append_right _ (List.mem_of_getElem? (i := 146) (by decide +kernel))) rfl, iniRn, by decide +kernel⟩
theorem iRn_forgetTrouble : Cond.instanceMethod yRn_forgetTrouble ∈ ce_W ∧ Cond.selects RRn yRn_forgetTrouble yRn_forgetTrouble ∈ ce_W := ⟨ce_in (List.mem_append_right _ (List.mem_of_getElem? (i := 145) (by decide +kernel))) rfl, ce_in (List.mem_append_left _ (List.mem_of_getElem? (i := 2) (by decide +kernel))) rfl⟩
theorem mPg_size : ce_M yPg_size cPg_size 1 (some .int) 0 := ⟨ce_in (List.mem_append_right _ (List.mem_of_getElem? (i := 150) (by decide +kernel))) rfl, iniPg, by decide +kernel⟩
theorem iPg_size : Cond.instanceMethod yPg_size ∈ ce_W ∧ Cond.selects RPg yPg_size yPg_size ∈ ce_W := ⟨ce_in (List.mem_append_right _ (List.mem_of_getElem? (i := 148) (by decide +kernel))) rfl, ce_in (List.mem_append_right _ (List.mem_of_getElem? (i := 149) (by decide +kernel))) rfl⟩
theorem mRn_doActions : ce_M yRn_doActions cRn_doActions 7 (some .int) 3 := ⟨ce_in (List.mem_append_right _ (List.mem_of_getElem? (i := 154) (by decide +kernel))) rfl, iniRn, by decide +kernel⟩
theorem iRn_doActions : Cond.instanceMethod yRn_doActions ∈ ce_W ∧ Cond.selects RRn yRn_doActions yRn_doActions ∈ ce_W := ⟨ce_in (List.mem_append_right _ (List.mem_of_getElem? (i := 153) (by decide +kernel))) rfl, ce_in (List.mem_append_left _ (List.mem_of_getElem? (i := 3) (by decide +kernel))) rfl⟩
theorem mPg_blockLength : ce_M yPg_blockLength cPg_blockLength 3 (some .int) 2 := ⟨ce_in (List.mem_append_right _ (List.mem_of_getElem? (i := 158) (by decide +kernel))) rfl, iniPg, by decide +kernel⟩
theorem iPg_blockLength : Cond.instanceMethod yPg_blockLength ∈ ce_W ∧ Cond.selects RPg yPg_blockLength yPg_blockLength ∈ ce_W := ⟨ce_in (List.mem_append_right _ (List.mem_of_getElem? (i := 156) (by decide +kernel))) rfl, ce_in (List.mem_append_right _ (List.mem_of_getElem? (i := 157) (by decide +kernel))) rfl⟩
theorem mPg_low : ce_M yPg_low cPg_low 2 (some .int) 1 := ⟨ce_in (List.mem_append_right _ (List.mem_of_getElem? (i := 162) (by decide +kernel))) rfl, iniPg, by decide +kernel⟩
theorem iPg_low : Cond.instanceMethod yPg_low ∈ ce_W ∧ Cond.selects RPg yPg_low yPg_low ∈ ce_W := ⟨ce_in (List.mem_append_right _ (List.mem_of_getElem? (i := 160) (by decide +kernel))) rfl, ce_in (List.mem_append_right _ (List.mem_of_getElem? (i := 161) (by decide +kernel))) rfl⟩
theorem mRn_doAction : ce_M yRn_doAction cRn_doAction 5 (some .int) 3 := ⟨ce_in (List.mem_append_right _ (List.mem_of_getElem? (i := 169) (by decide +kernel))) rfl, iniRn, by decide +kernel⟩
theorem iRn_doAction : Cond.instanceMethod yRn_doAction ∈ ce_W ∧ Cond.selects RRn yRn_doAction yRn_doAction ∈ ce_W := ⟨ce_in (List.mem_append_right _ (List.mem_of_getElem? (i := 168) (by decide +kernel))) rfl, ce_in (List.mem_append_left _ (List.mem_of_getElem? (i := 4) (by decide +kernel))) rfl⟩
theorem mPg_value : ce_M yPg_value cPg_value 2 (some .int) 1 := ⟨ce_in (List.mem_append_right _ (List.mem_of_getElem? (i := 173) (by decide +kernel))) rfl, iniPg, by decide +kernel⟩
theorem iPg_value : Cond.instanceMethod yPg_value ∈ ce_W ∧ Cond.selects RPg yPg_value yPg_value ∈ ce_W := ⟨ce_in (List.mem_append_right _ (List.mem_of_getElem? (i := 171) (by decide +kernel))) rfl, ce_in (List.mem_append_right _ (List.mem_of_getElem? (i := 172) (by decide +kernel))) rfl⟩
theorem mPg_op : ce_M yPg_op cPg_op 2 (some .int) 1 := ⟨ce_in (List.mem_append_right _ (List.mem_of_getElem? (i := 177) (by decide +kernel))) rfl, iniPg, by decide +kernel⟩
theorem iPg_op : Cond.instanceMethod yPg_op ∈ ce_W ∧ Cond.selects RPg yPg_op yPg_op ∈ ce_W := ⟨ce_in (List.mem_append_right _ (List.mem_of_getElem? (i := 175) (by decide +kernel))) rfl, ce_in (List.mem_append_right _ (List.mem_of_getElem? (i := 176) (by decide +kernel))) rfl⟩
theorem mRn_become : ce_M yRn_become cRn_become 2 (some .int) 1 := ⟨ce_in (List.mem_append_right _ (List.mem_of_getElem? (i := 181) (by decide +kernel))) rfl, iniRn, by decide +kernel⟩
theorem iRn_become : Cond.instanceMethod yRn_become ∈ ce_W ∧ Cond.selects RRn yRn_become yRn_become ∈ ce_W := ⟨ce_in (List.mem_append_right _ (List.mem_of_getElem? (i := 180) (by decide +kernel))) rfl, ce_in (List.mem_append_left _ (List.mem_of_getElem? (i := 5) (by decide +kernel))) rfl⟩
theorem mRn_comesUp : ce_M yRn_comesUp cRn_comesUp 3 (some .int) 2 := ⟨ce_in (List.mem_append_right _ (List.mem_of_getElem? (i := 185) (by decide +kernel))) rfl, iniRn, by decide +kernel⟩
theorem iRn_comesUp : Cond.instanceMethod yRn_comesUp ∈ ce_W ∧ Cond.selects RRn yRn_comesUp yRn_comesUp ∈ ce_W := ⟨ce_in (List.mem_append_right _ (List.mem_of_getElem? (i := 184) (by decide +kernel))) rfl, ce_in (List.mem_append_left _ (List.mem_of_getElem? (i := 6) (by decide +kernel))) rfl⟩
theorem mRn_isCell : ce_M yRn_isCell cRn_isCell 1 (some .boolean) 1 := ⟨ce_in (List.mem_append_right _ (List.mem_of_getElem? (i := 188) (by decide +kernel))) rfl, iniRn, by decide +kernel⟩
theorem sRn_isCell : Cond.static yRn_isCell ∈ ce_W := ce_in (List.mem_append_right _ (List.mem_of_getElem? (i := 187) (by decide +kernel))) rfl
theorem mRn_doKeep : ce_M yRn_doKeep cRn_doKeep 3 (some .int) 1 := ⟨ce_in (List.mem_append_right _ (List.mem_of_getElem? (i := 193) (by decide +kernel))) rfl, iniRn, by decide +kernel⟩
theorem iRn_doKeep : Cond.instanceMethod yRn_doKeep ∈ ce_W ∧ Cond.selects RRn yRn_doKeep yRn_doKeep ∈ ce_W := ⟨ce_in (List.mem_append_right _ (List.mem_of_getElem? (i := 192) (by decide +kernel))) rfl, ce_in (List.mem_append_left _ (List.mem_of_getElem? (i := 7) (by decide +kernel))) rfl⟩
theorem mRn_doBreak : ce_M yRn_doBreak cRn_doBreak 2 (some .int) 1 := ⟨ce_in (List.mem_append_right _ (List.mem_of_getElem? (i := 197) (by decide +kernel))) rfl, iniRn, by decide +kernel⟩
theorem iRn_doBreak : Cond.instanceMethod yRn_doBreak ∈ ce_W ∧ Cond.selects RRn yRn_doBreak yRn_doBreak ∈ ce_W := ⟨ce_in (List.mem_append_right _ (List.mem_of_getElem? (i := 196) (by decide +kernel))) rfl, ce_in (List.mem_append_left _ (List.mem_of_getElem? (i := 8) (by decide +kernel))) rfl⟩
theorem mPg_high : ce_M yPg_high cPg_high 2 (some .int) 1 := ⟨ce_in (List.mem_append_right _ (List.mem_of_getElem? (i := 201) (by decide +kernel))) rfl, iniPg, by decide +kernel⟩
theorem iPg_high : Cond.instanceMethod yPg_high ∈ ce_W ∧ Cond.selects RPg yPg_high yPg_high ∈ ce_W := ⟨ce_in (List.mem_append_right _ (List.mem_of_getElem? (i := 199) (by decide +kernel))) rfl, ce_in (List.mem_append_right _ (List.mem_of_getElem? (i := 200) (by decide +kernel))) rfl⟩
theorem mRn_doThrow : ce_M yRn_doThrow cRn_doThrow 2 (some .int) 1 := ⟨ce_in (List.mem_append_right _ (List.mem_of_getElem? (i := 206) (by decide +kernel))) rfl, iniRn, by decide +kernel⟩
theorem iRn_doThrow : Cond.instanceMethod yRn_doThrow ∈ ce_W ∧ Cond.selects RRn yRn_doThrow yRn_doThrow ∈ ce_W := ⟨ce_in (List.mem_append_right _ (List.mem_of_getElem? (i := 205) (by decide +kernel))) rfl, ce_in (List.mem_append_left _ (List.mem_of_getElem? (i := 9) (by decide +kernel))) rfl⟩
theorem mRn_ownComesUp : ce_M yRn_ownComesUp cRn_ownComesUp 3 (some .int) 2 := ⟨ce_in (List.mem_append_right _ (List.mem_of_getElem? (i := 210) (by decide +kernel))) rfl, iniRn, by decide +kernel⟩
theorem iRn_ownComesUp : Cond.instanceMethod yRn_ownComesUp ∈ ce_W ∧ Cond.selects RRn yRn_ownComesUp yRn_ownComesUp ∈ ce_W := ⟨ce_in (List.mem_append_right _ (List.mem_of_getElem? (i := 209) (by decide +kernel))) rfl, ce_in (List.mem_append_left _ (List.mem_of_getElem? (i := 10) (by decide +kernel))) rfl⟩
theorem mRn_doInterrupt : ce_M yRn_doInterrupt cRn_doInterrupt 1 (some .int) 0 := ⟨ce_in (List.mem_append_right _ (List.mem_of_getElem? (i := 214) (by decide +kernel))) rfl, iniRn, by decide +kernel⟩
theorem iRn_doInterrupt : Cond.instanceMethod yRn_doInterrupt ∈ ce_W ∧ Cond.selects RRn yRn_doInterrupt yRn_doInterrupt ∈ ce_W := ⟨ce_in (List.mem_append_right _ (List.mem_of_getElem? (i := 213) (by decide +kernel))) rfl, ce_in (List.mem_append_left _ (List.mem_of_getElem? (i := 11) (by decide +kernel))) rfl⟩
theorem mRn_doLook : ce_M yRn_doLook cRn_doLook 1 (some .int) 0 := ⟨ce_in (List.mem_append_right _ (List.mem_of_getElem? (i := 218) (by decide +kernel))) rfl, iniRn, by decide +kernel⟩
theorem iRn_doLook : Cond.instanceMethod yRn_doLook ∈ ce_W ∧ Cond.selects RRn yRn_doLook yRn_doLook ∈ ce_W := ⟨ce_in (List.mem_append_right _ (List.mem_of_getElem? (i := 217) (by decide +kernel))) rfl, ce_in (List.mem_append_left _ (List.mem_of_getElem? (i := 12) (by decide +kernel))) rfl⟩
theorem mRn_doCatch : ce_M yRn_doCatch cRn_doCatch 6 (some .int) 3 := ⟨ce_in (List.mem_append_right _ (List.mem_of_getElem? (i := 222) (by decide +kernel))) rfl, iniRn, by decide +kernel⟩
theorem iRn_doCatch : Cond.instanceMethod yRn_doCatch ∈ ce_W ∧ Cond.selects RRn yRn_doCatch yRn_doCatch ∈ ce_W := ⟨ce_in (List.mem_append_right _ (List.mem_of_getElem? (i := 221) (by decide +kernel))) rfl, ce_in (List.mem_append_left _ (List.mem_of_getElem? (i := 13) (by decide +kernel))) rfl⟩
theorem mRn_takes : ce_M yRn_takes cRn_takes 2 (some .boolean) 2 := ⟨ce_in (List.mem_append_right _ (List.mem_of_getElem? (i := 225) (by decide +kernel))) rfl, iniRn, by decide +kernel⟩
theorem sRn_takes : Cond.static yRn_takes ∈ ce_W := ce_in (List.mem_append_right _ (List.mem_of_getElem? (i := 224) (by decide +kernel))) rfl
theorem mRn_doFinally : ce_M yRn_doFinally cRn_doFinally 5 (some .int) 3 := ⟨ce_in (List.mem_append_right _ (List.mem_of_getElem? (i := 229) (by decide +kernel))) rfl, iniRn, by decide +kernel⟩
theorem iRn_doFinally : Cond.instanceMethod yRn_doFinally ∈ ce_W ∧ Cond.selects RRn yRn_doFinally yRn_doFinally ∈ ce_W := ⟨ce_in (List.mem_append_right _ (List.mem_of_getElem? (i := 228) (by decide +kernel))) rfl, ce_in (List.mem_append_left _ (List.mem_of_getElem? (i := 14) (by decide +kernel))) rfl⟩
theorem mRn_doDrop : ce_M yRn_doDrop cRn_doDrop 4 (some .int) 3 := ⟨ce_in (List.mem_append_right _ (List.mem_of_getElem? (i := 233) (by decide +kernel))) rfl, iniRn, by decide +kernel⟩
theorem iRn_doDrop : Cond.instanceMethod yRn_doDrop ∈ ce_W ∧ Cond.selects RRn yRn_doDrop yRn_doDrop ∈ ce_W := ⟨ce_in (List.mem_append_right _ (List.mem_of_getElem? (i := 232) (by decide +kernel))) rfl, ce_in (List.mem_append_left _ (List.mem_of_getElem? (i := 15) (by decide +kernel))) rfl⟩
theorem mRn_doHold : ce_M yRn_doHold cRn_doHold 6 (some .int) 3 := ⟨ce_in (List.mem_append_right _ (List.mem_of_getElem? (i := 237) (by decide +kernel))) rfl, iniRn, by decide +kernel⟩
theorem iRn_doHold : Cond.instanceMethod yRn_doHold ∈ ce_W ∧ Cond.selects RRn yRn_doHold yRn_doHold ∈ ce_W := ⟨ce_in (List.mem_append_right _ (List.mem_of_getElem? (i := 236) (by decide +kernel))) rfl, ce_in (List.mem_append_left _ (List.mem_of_getElem? (i := 16) (by decide +kernel))) rfl⟩
theorem mRn_doRepeat : ce_M yRn_doRepeat cRn_doRepeat 7 (some .int) 3 := ⟨ce_in (List.mem_append_right _ (List.mem_of_getElem? (i := 241) (by decide +kernel))) rfl, iniRn, by decide +kernel⟩
theorem iRn_doRepeat : Cond.instanceMethod yRn_doRepeat ∈ ce_W ∧ Cond.selects RRn yRn_doRepeat yRn_doRepeat ∈ ce_W := ⟨ce_in (List.mem_append_right _ (List.mem_of_getElem? (i := 240) (by decide +kernel))) rfl, ce_in (List.mem_append_left _ (List.mem_of_getElem? (i := 17) (by decide +kernel))) rfl⟩
theorem mRn_isHeld : ce_M yRn_isHeld cRn_isHeld 2 (some .boolean) 1 := ⟨ce_in (List.mem_append_right _ (List.mem_of_getElem? (i := 245) (by decide +kernel))) rfl, iniRn, by decide +kernel⟩
theorem iRn_isHeld : Cond.instanceMethod yRn_isHeld ∈ ce_W ∧ Cond.selects RRn yRn_isHeld yRn_isHeld ∈ ce_W := ⟨ce_in (List.mem_append_right _ (List.mem_of_getElem? (i := 244) (by decide +kernel))) rfl, ce_in (List.mem_append_left _ (List.mem_of_getElem? (i := 18) (by decide +kernel))) rfl⟩
theorem mRn_doSleep : ce_M yRn_doSleep cRn_doSleep 2 (some .int) 1 := ⟨ce_in (List.mem_append_right _ (List.mem_of_getElem? (i := 249) (by decide +kernel))) rfl, iniRn, by decide +kernel⟩
theorem iRn_doSleep : Cond.instanceMethod yRn_doSleep ∈ ce_W ∧ Cond.selects RRn yRn_doSleep yRn_doSleep ∈ ce_W := ⟨ce_in (List.mem_append_right _ (List.mem_of_getElem? (i := 248) (by decide +kernel))) rfl, ce_in (List.mem_append_left _ (List.mem_of_getElem? (i := 19) (by decide +kernel))) rfl⟩
theorem mRn_doCount : ce_M yRn_doCount cRn_doCount 2 (some .int) 1 := ⟨ce_in (List.mem_append_right _ (List.mem_of_getElem? (i := 253) (by decide +kernel))) rfl, iniRn, by decide +kernel⟩
theorem iRn_doCount : Cond.instanceMethod yRn_doCount ∈ ce_W ∧ Cond.selects RRn yRn_doCount yRn_doCount ∈ ce_W := ⟨ce_in (List.mem_append_right _ (List.mem_of_getElem? (i := 252) (by decide +kernel))) rfl, ce_in (List.mem_append_left _ (List.mem_of_getElem? (i := 20) (by decide +kernel))) rfl⟩
theorem mRn_outcome : ce_M yRn_outcome cRn_outcome 1 (some .int) 0 := ⟨ce_in (List.mem_append_right _ (List.mem_of_getElem? (i := 257) (by decide +kernel))) rfl, iniRn, by decide +kernel⟩
theorem iRn_outcome : Cond.instanceMethod yRn_outcome ∈ ce_W ∧ Cond.selects RRn yRn_outcome yRn_outcome ∈ ce_W := ⟨ce_in (List.mem_append_right _ (List.mem_of_getElem? (i := 255) (by decide +kernel))) rfl, ce_in (List.mem_append_right _ (List.mem_of_getElem? (i := 256) (by decide +kernel))) rfl⟩
theorem mRn_counted : ce_M yRn_counted cRn_counted 1 (some .long) 0 := ⟨ce_in (List.mem_append_right _ (List.mem_of_getElem? (i := 261) (by decide +kernel))) rfl, iniRn, by decide +kernel⟩
theorem iRn_counted : Cond.instanceMethod yRn_counted ∈ ce_W ∧ Cond.selects RRn yRn_counted yRn_counted ∈ ce_W := ⟨ce_in (List.mem_append_right _ (List.mem_of_getElem? (i := 259) (by decide +kernel))) rfl, ce_in (List.mem_append_right _ (List.mem_of_getElem? (i := 260) (by decide +kernel))) rfl⟩
theorem mEx_runAll : ce_M yEx_runAll cEx_runAll 4 (some .int) 1 := ⟨ce_in (List.mem_append_right _ (List.mem_of_getElem? (i := 265) (by decide +kernel))) rfl, iniEx, by decide +kernel⟩
theorem iEx_runAll : Cond.instanceMethod yEx_runAll ∈ ce_W ∧ Cond.selects REx yEx_runAll yEx_runAll ∈ ce_W := ⟨ce_in (List.mem_append_right _ (List.mem_of_getElem? (i := 263) (by decide +kernel))) rfl, ce_in (List.mem_append_right _ (List.mem_of_getElem? (i := 264) (by decide +kernel))) rfl⟩
theorem mEx_told : ce_M yEx_told cEx_told 3 (some .int) 2 := ⟨ce_in (List.mem_append_right _ (List.mem_of_getElem? (i := 269) (by decide +kernel))) rfl, iniEx, by decide +kernel⟩
theorem iEx_told : Cond.instanceMethod yEx_told ∈ ce_W ∧ Cond.selects REx yEx_told yEx_told ∈ ce_W := ⟨ce_in (List.mem_append_right _ (List.mem_of_getElem? (i := 267) (by decide +kernel))) rfl, ce_in (List.mem_append_right _ (List.mem_of_getElem? (i := 268) (by decide +kernel))) rfl⟩
theorem mRn_isKnown : ce_M yRn_isKnown cRn_isKnown 1 (some .boolean) 0 := ⟨ce_in (List.mem_append_right _ (List.mem_of_getElem? (i := 273) (by decide +kernel))) rfl, iniRn, by decide +kernel⟩
theorem iRn_isKnown : Cond.instanceMethod yRn_isKnown ∈ ce_W ∧ Cond.selects RRn yRn_isKnown yRn_isKnown ∈ ce_W := ⟨ce_in (List.mem_append_right _ (List.mem_of_getElem? (i := 271) (by decide +kernel))) rfl, ce_in (List.mem_append_right _ (List.mem_of_getElem? (i := 272) (by decide +kernel))) rfl⟩
theorem mRn_tell : ce_M yRn_tell cRn_tell 2 (some .int) 1 := ⟨ce_in (List.mem_append_right _ (List.mem_of_getElem? (i := 277) (by decide +kernel))) rfl, iniRn, by decide +kernel⟩
theorem iRn_tell : Cond.instanceMethod yRn_tell ∈ ce_W ∧ Cond.selects RRn yRn_tell yRn_tell ∈ ce_W := ⟨ce_in (List.mem_append_right _ (List.mem_of_getElem? (i := 275) (by decide +kernel))) rfl, ce_in (List.mem_append_right _ (List.mem_of_getElem? (i := 276) (by decide +kernel))) rfl⟩
theorem mEx_cell : ce_M yEx_cell cEx_cell 3 (some .int) 2 := ⟨ce_in (List.mem_append_right _ (List.mem_of_getElem? (i := 282) (by decide +kernel))) rfl, iniEx, by decide +kernel⟩
theorem iEx_cell : Cond.instanceMethod yEx_cell ∈ ce_W ∧ Cond.selects REx yEx_cell yEx_cell ∈ ce_W := ⟨ce_in (List.mem_append_right _ (List.mem_of_getElem? (i := 280) (by decide +kernel))) rfl, ce_in (List.mem_append_right _ (List.mem_of_getElem? (i := 281) (by decide +kernel))) rfl⟩
theorem mRn_cellAtEnd : ce_M yRn_cellAtEnd cRn_cellAtEnd 2 (some .int) 1 := ⟨ce_in (List.mem_append_right _ (List.mem_of_getElem? (i := 287) (by decide +kernel))) rfl, iniRn, by decide +kernel⟩
theorem iRn_cellAtEnd : Cond.instanceMethod yRn_cellAtEnd ∈ ce_W ∧ Cond.selects RRn yRn_cellAtEnd yRn_cellAtEnd ∈ ce_W := ⟨ce_in (List.mem_append_right _ (List.mem_of_getElem? (i := 285) (by decide +kernel))) rfl, ce_in (List.mem_append_right _ (List.mem_of_getElem? (i := 286) (by decide +kernel))) rfl⟩
theorem mEx_counter : ce_M yEx_counter cEx_counter 1 (some .long) 0 := ⟨ce_in (List.mem_append_right _ (List.mem_of_getElem? (i := 291) (by decide +kernel))) rfl, iniEx, by decide +kernel⟩
theorem iEx_counter : Cond.instanceMethod yEx_counter ∈ ce_W ∧ Cond.selects REx yEx_counter yEx_counter ∈ ce_W := ⟨ce_in (List.mem_append_right _ (List.mem_of_getElem? (i := 289) (by decide +kernel))) rfl, ce_in (List.mem_append_right _ (List.mem_of_getElem? (i := 290) (by decide +kernel))) rfl⟩
theorem mEx_count : ce_M yEx_count cEx_count 2 (some .int) 1 := ⟨ce_in (List.mem_append_right _ (List.mem_of_getElem? (i := 295) (by decide +kernel))) rfl, iniEx, by decide +kernel⟩
theorem iEx_count : Cond.instanceMethod yEx_count ∈ ce_W ∧ Cond.selects REx yEx_count yEx_count ∈ ce_W := ⟨ce_in (List.mem_append_right _ (List.mem_of_getElem? (i := 293) (by decide +kernel))) rfl, ce_in (List.mem_append_right _ (List.mem_of_getElem? (i := 294) (by decide +kernel))) rfl⟩
theorem mMd_init : ce_M yMd_init cMd_init 1 none 0 := ⟨ce_in (List.mem_append_right _ (List.mem_of_getElem? (i := 301) (by decide +kernel))) rfl, iniMd, by decide +kernel⟩
theorem iMd_init : Cond.instanceMethod yMd_init ∈ ce_W := ce_in (List.mem_append_right _ (List.mem_of_getElem? (i := 300) (by decide +kernel))) rfl
theorem mMd_add : ce_M yMd_add cMd_add 4 (some .int) 3 := ⟨ce_in (List.mem_append_right _ (List.mem_of_getElem? (i := 389) (by decide +kernel))) rfl, iniMd, by decide +kernel⟩
theorem iMd_add : Cond.instanceMethod yMd_add ∈ ce_W ∧ Cond.selects RMd yMd_add yMd_add ∈ ce_W := ⟨ce_in (List.mem_append_right _ (List.mem_of_getElem? (i := 387) (by decide +kernel))) rfl, ce_in (List.mem_append_right _ (List.mem_of_getElem? (i := 388) (by decide +kernel))) rfl⟩
theorem mMd_in : ce_M yMd_in cMd_in 2 (some .boolean) 2 := ⟨ce_in (List.mem_append_right _ (List.mem_of_getElem? (i := 392) (by decide +kernel))) rfl, iniMd, by decide +kernel⟩
theorem sMd_in : Cond.static yMd_in ∈ ce_W := ce_in (List.mem_append_right _ (List.mem_of_getElem? (i := 391) (by decide +kernel))) rfl
theorem mMd_forget : ce_M yMd_forget cMd_forget 3 none 1 := ⟨ce_in (List.mem_append_right _ (List.mem_of_getElem? (i := 396) (by decide +kernel))) rfl, iniMd, by decide +kernel⟩
theorem iMd_forget : Cond.instanceMethod yMd_forget ∈ ce_W ∧ Cond.selects RMd yMd_forget yMd_forget ∈ ce_W := ⟨ce_in (List.mem_append_right _ (List.mem_of_getElem? (i := 395) (by decide +kernel))) rfl, ce_in (List.mem_append_left _ (List.mem_of_getElem? (i := 21) (by decide +kernel))) rfl⟩
theorem mMd_clear : ce_M yMd_clear cMd_clear 2 (some .int) 1 := ⟨ce_in (List.mem_append_right _ (List.mem_of_getElem? (i := 400) (by decide +kernel))) rfl, iniMd, by decide +kernel⟩
theorem iMd_clear : Cond.instanceMethod yMd_clear ∈ ce_W ∧ Cond.selects RMd yMd_clear yMd_clear ∈ ce_W := ⟨ce_in (List.mem_append_right _ (List.mem_of_getElem? (i := 398) (by decide +kernel))) rfl, ce_in (List.mem_append_right _ (List.mem_of_getElem? (i := 399) (by decide +kernel))) rfl⟩
theorem mMd_run : ce_M yMd_run cMd_run 3 (some .int) 2 := ⟨ce_in (List.mem_append_right _ (List.mem_of_getElem? (i := 404) (by decide +kernel))) rfl, iniMd, by decide +kernel⟩
theorem iMd_run : Cond.instanceMethod yMd_run ∈ ce_W ∧ Cond.selects RMd yMd_run yMd_run ∈ ce_W := ⟨ce_in (List.mem_append_right _ (List.mem_of_getElem? (i := 402) (by decide +kernel))) rfl, ce_in (List.mem_append_right _ (List.mem_of_getElem? (i := 403) (by decide +kernel))) rfl⟩
theorem mMd_perform : ce_M yMd_perform cMd_perform 6 (some .int) 2 := ⟨ce_in (List.mem_append_right _ (List.mem_of_getElem? (i := 408) (by decide +kernel))) rfl, iniMd, by decide +kernel⟩
theorem iMd_perform : Cond.instanceMethod yMd_perform ∈ ce_W ∧ Cond.selects RMd yMd_perform yMd_perform ∈ ce_W := ⟨ce_in (List.mem_append_right _ (List.mem_of_getElem? (i := 407) (by decide +kernel))) rfl, ce_in (List.mem_append_left _ (List.mem_of_getElem? (i := 22) (by decide +kernel))) rfl⟩
theorem mMd_leave : ce_M yMd_leave cMd_leave 4 none 0 := ⟨ce_in (List.mem_append_right _ (List.mem_of_getElem? (i := 413) (by decide +kernel))) rfl, iniMd, by decide +kernel⟩
theorem iMd_leave : Cond.instanceMethod yMd_leave ∈ ce_W ∧ Cond.selects RMd yMd_leave yMd_leave ∈ ce_W := ⟨ce_in (List.mem_append_right _ (List.mem_of_getElem? (i := 412) (by decide +kernel))) rfl, ce_in (List.mem_append_left _ (List.mem_of_getElem? (i := 23) (by decide +kernel))) rfl⟩
theorem mMd_kOf : ce_M yMd_kOf cMd_kOf 2 (some .int) 1 := ⟨ce_in (List.mem_append_right _ (List.mem_of_getElem? (i := 417) (by decide +kernel))) rfl, iniMd, by decide +kernel⟩
theorem iMd_kOf : Cond.instanceMethod yMd_kOf ∈ ce_W ∧ Cond.selects RMd yMd_kOf yMd_kOf ∈ ce_W := ⟨ce_in (List.mem_append_right _ (List.mem_of_getElem? (i := 416) (by decide +kernel))) rfl, ce_in (List.mem_append_left _ (List.mem_of_getElem? (i := 24) (by decide +kernel))) rfl⟩
theorem mMd_takes : ce_M yMd_takes cMd_takes 2 (some .boolean) 2 := ⟨ce_in (List.mem_append_right _ (List.mem_of_getElem? (i := 420) (by decide +kernel))) rfl, iniMd, by decide +kernel⟩
theorem sMd_takes : Cond.static yMd_takes ∈ ce_W := ce_in (List.mem_append_right _ (List.mem_of_getElem? (i := 419) (by decide +kernel))) rfl
theorem mMd_raise : ce_M yMd_raise cMd_raise 3 none 2 := ⟨ce_in (List.mem_append_right _ (List.mem_of_getElem? (i := 424) (by decide +kernel))) rfl, iniMd, by decide +kernel⟩
theorem iMd_raise : Cond.instanceMethod yMd_raise ∈ ce_W ∧ Cond.selects RMd yMd_raise yMd_raise ∈ ce_W := ⟨ce_in (List.mem_append_right _ (List.mem_of_getElem? (i := 423) (by decide +kernel))) rfl, ce_in (List.mem_append_left _ (List.mem_of_getElem? (i := 25) (by decide +kernel))) rfl⟩
theorem mMd_step : ce_M yMd_step cMd_step 5 none 1 := ⟨ce_in (List.mem_append_right _ (List.mem_of_getElem? (i := 428) (by decide +kernel))) rfl, iniMd, by decide +kernel⟩
theorem iMd_step : Cond.instanceMethod yMd_step ∈ ce_W ∧ Cond.selects RMd yMd_step yMd_step ∈ ce_W := ⟨ce_in (List.mem_append_right _ (List.mem_of_getElem? (i := 427) (by decide +kernel))) rfl, ce_in (List.mem_append_left _ (List.mem_of_getElem? (i := 26) (by decide +kernel))) rfl⟩
theorem mMd_enter : ce_M yMd_enter cMd_enter 7 none 2 := ⟨ce_in (List.mem_append_right _ (List.mem_of_getElem? (i := 432) (by decide +kernel))) rfl, iniMd, by decide +kernel⟩
theorem iMd_enter : Cond.instanceMethod yMd_enter ∈ ce_W ∧ Cond.selects RMd yMd_enter yMd_enter ∈ ce_W := ⟨ce_in (List.mem_append_right _ (List.mem_of_getElem? (i := 431) (by decide +kernel))) rfl, ce_in (List.mem_append_left _ (List.mem_of_getElem? (i := 27) (by decide +kernel))) rfl⟩
theorem mMd_act : ce_M yMd_act cMd_act 5 none 4 := ⟨ce_in (List.mem_append_right _ (List.mem_of_getElem? (i := 436) (by decide +kernel))) rfl, iniMd, by decide +kernel⟩
theorem iMd_act : Cond.instanceMethod yMd_act ∈ ce_W ∧ Cond.selects RMd yMd_act yMd_act ∈ ce_W := ⟨ce_in (List.mem_append_right _ (List.mem_of_getElem? (i := 435) (by decide +kernel))) rfl, ce_in (List.mem_append_left _ (List.mem_of_getElem? (i := 28) (by decide +kernel))) rfl⟩
theorem mMd_divide : ce_M yMd_divide cMd_divide 3 none 2 := ⟨ce_in (List.mem_append_right _ (List.mem_of_getElem? (i := 440) (by decide +kernel))) rfl, iniMd, by decide +kernel⟩
theorem iMd_divide : Cond.instanceMethod yMd_divide ∈ ce_W ∧ Cond.selects RMd yMd_divide yMd_divide ∈ ce_W := ⟨ce_in (List.mem_append_right _ (List.mem_of_getElem? (i := 439) (by decide +kernel))) rfl, ce_in (List.mem_append_left _ (List.mem_of_getElem? (i := 29) (by decide +kernel))) rfl⟩
theorem mMd_touch : ce_M yMd_touch cMd_touch 3 none 2 := ⟨ce_in (List.mem_append_right _ (List.mem_of_getElem? (i := 444) (by decide +kernel))) rfl, iniMd, by decide +kernel⟩
theorem iMd_touch : Cond.instanceMethod yMd_touch ∈ ce_W ∧ Cond.selects RMd yMd_touch yMd_touch ∈ ce_W := ⟨ce_in (List.mem_append_right _ (List.mem_of_getElem? (i := 443) (by decide +kernel))) rfl, ce_in (List.mem_append_left _ (List.mem_of_getElem? (i := 30) (by decide +kernel))) rfl⟩
theorem mMd_interrupted : ce_M yMd_interrupted cMd_interrupted 1 none 0 := ⟨ce_in (List.mem_append_right _ (List.mem_of_getElem? (i := 448) (by decide +kernel))) rfl, iniMd, by decide +kernel⟩
theorem iMd_interrupted : Cond.instanceMethod yMd_interrupted ∈ ce_W ∧ Cond.selects RMd yMd_interrupted yMd_interrupted ∈ ce_W := ⟨ce_in (List.mem_append_right _ (List.mem_of_getElem? (i := 447) (by decide +kernel))) rfl, ce_in (List.mem_append_left _ (List.mem_of_getElem? (i := 31) (by decide +kernel))) rfl⟩
theorem mMd_runAll : ce_M yMd_runAll cMd_runAll 4 (some .int) 1 := ⟨ce_in (List.mem_append_right _ (List.mem_of_getElem? (i := 452) (by decide +kernel))) rfl, iniMd, by decide +kernel⟩
theorem iMd_runAll : Cond.instanceMethod yMd_runAll ∈ ce_W ∧ Cond.selects RMd yMd_runAll yMd_runAll ∈ ce_W := ⟨ce_in (List.mem_append_right _ (List.mem_of_getElem? (i := 450) (by decide +kernel))) rfl, ce_in (List.mem_append_right _ (List.mem_of_getElem? (i := 451) (by decide +kernel))) rfl⟩
theorem mMd_told : ce_M yMd_told cMd_told 3 (some .int) 2 := ⟨ce_in (List.mem_append_right _ (List.mem_of_getElem? (i := 456) (by decide +kernel))) rfl, iniMd, by decide +kernel⟩
theorem iMd_told : Cond.instanceMethod yMd_told ∈ ce_W ∧ Cond.selects RMd yMd_told yMd_told ∈ ce_W := ⟨ce_in (List.mem_append_right _ (List.mem_of_getElem? (i := 454) (by decide +kernel))) rfl, ce_in (List.mem_append_right _ (List.mem_of_getElem? (i := 455) (by decide +kernel))) rfl⟩
theorem mMd_cell : ce_M yMd_cell cMd_cell 3 (some .int) 2 := ⟨ce_in (List.mem_append_right _ (List.mem_of_getElem? (i := 460) (by decide +kernel))) rfl, iniMd, by decide +kernel⟩
theorem iMd_cell : Cond.instanceMethod yMd_cell ∈ ce_W ∧ Cond.selects RMd yMd_cell yMd_cell ∈ ce_W := ⟨ce_in (List.mem_append_right _ (List.mem_of_getElem? (i := 458) (by decide +kernel))) rfl, ce_in (List.mem_append_right _ (List.mem_of_getElem? (i := 459) (by decide +kernel))) rfl⟩
theorem mMd_counter : ce_M yMd_counter cMd_counter 1 (some .long) 0 := ⟨ce_in (List.mem_append_right _ (List.mem_of_getElem? (i := 464) (by decide +kernel))) rfl, iniMd, by decide +kernel⟩
theorem iMd_counter : Cond.instanceMethod yMd_counter ∈ ce_W ∧ Cond.selects RMd yMd_counter yMd_counter ∈ ce_W := ⟨ce_in (List.mem_append_right _ (List.mem_of_getElem? (i := 462) (by decide +kernel))) rfl, ce_in (List.mem_append_right _ (List.mem_of_getElem? (i := 463) (by decide +kernel))) rfl⟩
theorem mMd_count : ce_M yMd_count cMd_count 2 (some .int) 1 := ⟨ce_in (List.mem_append_right _ (List.mem_of_getElem? (i := 468) (by decide +kernel))) rfl, iniMd, by decide +kernel⟩
theorem iMd_count : Cond.instanceMethod yMd_count ∈ ce_W ∧ Cond.selects RMd yMd_count yMd_count ∈ ce_W := ⟨ce_in (List.mem_append_right _ (List.mem_of_getElem? (i := 466) (by decide +kernel))) rfl, ce_in (List.mem_append_right _ (List.mem_of_getElem? (i := 467) (by decide +kernel))) rfl⟩
theorem minI : Cond.initialized "java/lang/Math" ∈ ce_W := ce_in (List.mem_append_right _ (List.mem_of_getElem? (i := 5) (by decide +kernel))) rfl
theorem lEx_1 : Cond.methodLink REx 1 objectInit ∈ ce_W := ce_in (List.mem_append_right _ (List.mem_of_getElem? (i := 11) (by decide +kernel))) rfl
theorem objI : Cond.instanceMethod objectInit ∈ ce_W := ce_in (List.mem_append_right _ (List.mem_of_getElem? (i := 12) (by decide +kernel))) rfl
theorem objC : Cond.code objectInit ⟨#[0xb1]⟩ 1 none ∈ ce_W := ce_in (List.mem_append_right _ (List.mem_of_getElem? (i := 13) (by decide +kernel))) rfl
theorem lPg_3 : Cond.methodLink RPg 3 objectInit ∈ ce_W := ce_in (List.mem_append_right _ (List.mem_of_getElem? (i := 22) (by decide +kernel))) rfl
theorem arr_int : Cond.arrayClass .int ∈ ce_W := ce_in (List.mem_append_right _ (List.mem_of_getElem? (i := 33) (by decide +kernel))) rfl
theorem lRn_3 : Cond.methodLink RRn 3 objectInit ∈ ce_W := ce_in (List.mem_append_right _ (List.mem_of_getElem? (i := 38) (by decide +kernel))) rfl
theorem minL : Cond.methodLink RPg 28 Lib.Math.min.name ∈ ce_W := ce_in (List.mem_append_right _ (List.mem_of_getElem? (i := 163) (by decide +kernel))) rfl
theorem minS : Cond.static Lib.Math.min.name ∈ ce_W := ce_in (List.mem_append_right _ (List.mem_of_getElem? (i := 164) (by decide +kernel))) rfl
theorem minC : Cond.code Lib.Math.min.name Lib.Math.min.code 2 (some .int) ∈ ce_W := ce_in (List.mem_append_right _ (List.mem_of_getElem? (i := 165) (by decide +kernel))) rfl
theorem lMd_1 : Cond.methodLink RMd 1 objectInit ∈ ce_W := ce_in (List.mem_append_right _ (List.mem_of_getElem? (i := 302) (by decide +kernel))) rfl
theorem arr_boolean : Cond.arrayClass .boolean ∈ ce_W := ce_in (List.mem_append_right _ (List.mem_of_getElem? (i := 385) (by decide +kernel))) rfl
theorem kMd_122 : Cond.constant RMd 122 100000 ∈ ce_W := ce_in (List.mem_append_right _ (List.mem_of_getElem? (i := 409) (by decide +kernel))) rfl
theorem lLw_7 : Cond.classLink RLw 7 REx ∈ ce_W := ce_in (List.mem_append_right _ (List.mem_of_getElem? (i := 6) (by decide +kernel))) rfl
theorem inEx : Cond.instantiable REx 6 ∈ ce_W := ce_in (List.mem_append_right _ (List.mem_of_getElem? (i := 7) (by decide +kernel))) rfl
theorem lLw_9 : Cond.methodLink RLw 9 yEx_init ∈ ce_W := ce_in (List.mem_append_right _ (List.mem_of_getElem? (i := 8) (by decide +kernel))) rfl
theorem lEx_9 : Cond.classLink REx 9 RPg ∈ ce_W := ce_in (List.mem_append_right _ (List.mem_of_getElem? (i := 14) (by decide +kernel))) rfl
theorem lEx_15 : Cond.classLink REx 15 RRn ∈ ce_W := ce_in (List.mem_append_right _ (List.mem_of_getElem? (i := 16) (by decide +kernel))) rfl
theorem inPg : Cond.instantiable RPg 3 ∈ ce_W := ce_in (List.mem_append_right _ (List.mem_of_getElem? (i := 18) (by decide +kernel))) rfl
theorem lPg_9 : Cond.fieldLink RPg 9 RPg "ops" "[I" ∈ ce_W := ce_in (List.mem_append_right _ (List.mem_of_getElem? (i := 23) (by decide +kernel))) rfl
theorem lPg_15 : Cond.fieldLink RPg 15 RPg "arguments" "[I" ∈ ce_W := ce_in (List.mem_append_right _ (List.mem_of_getElem? (i := 24) (by decide +kernel))) rfl
theorem lPg_18 : Cond.fieldLink RPg 18 RPg "size" "I" ∈ ce_W := ce_in (List.mem_append_right _ (List.mem_of_getElem? (i := 25) (by decide +kernel))) rfl
theorem inRn : Cond.instantiable RRn 14 ∈ ce_W := ce_in (List.mem_append_right _ (List.mem_of_getElem? (i := 34) (by decide +kernel))) rfl
theorem lEx_22 : Cond.methodLink REx 22 yRn_init ∈ ce_W := ce_in (List.mem_append_right _ (List.mem_of_getElem? (i := 35) (by decide +kernel))) rfl
theorem lRn_18 : Cond.fieldLink RRn 18 RRn "program" "LCaseExecutor$Program;" ∈ ce_W := ce_in (List.mem_append_right _ (List.mem_of_getElem? (i := 39) (by decide +kernel))) rfl
theorem lRn_11 : Cond.fieldLink RRn 11 RRn "cells" "[I" ∈ ce_W := ce_in (List.mem_append_right _ (List.mem_of_getElem? (i := 40) (by decide +kernel))) rfl
theorem lRn_15 : Cond.fieldLink RRn 15 RRn "holds" "[I" ∈ ce_W := ce_in (List.mem_append_right _ (List.mem_of_getElem? (i := 41) (by decide +kernel))) rfl
theorem lRn_26 : Cond.fieldLink RRn 26 RRn "known" "Z" ∈ ce_W := ce_in (List.mem_append_right _ (List.mem_of_getElem? (i := 42) (by decide +kernel))) rfl
theorem lRn_76 : Cond.fieldLink RRn 76 RRn "name" "I" ∈ ce_W := ce_in (List.mem_append_right _ (List.mem_of_getElem? (i := 43) (by decide +kernel))) rfl
theorem lRn_42 : Cond.fieldLink RRn 42 RRn "accumulator" "I" ∈ ce_W := ce_in (List.mem_append_right _ (List.mem_of_getElem? (i := 44) (by decide +kernel))) rfl
theorem lRn_45 : Cond.fieldLink RRn 45 RRn "steps" "I" ∈ ce_W := ce_in (List.mem_append_right _ (List.mem_of_getElem? (i := 45) (by decide +kernel))) rfl
theorem lRn_48 : Cond.fieldLink RRn 48 RRn "finals" "I" ∈ ce_W := ce_in (List.mem_append_right _ (List.mem_of_getElem? (i := 46) (by decide +kernel))) rfl
theorem lRn_51 : Cond.fieldLink RRn 51 RRn "catches" "I" ∈ ce_W := ce_in (List.mem_append_right _ (List.mem_of_getElem? (i := 47) (by decide +kernel))) rfl
theorem lRn_60 : Cond.fieldLink RRn 60 RRn "marked" "Z" ∈ ce_W := ce_in (List.mem_append_right _ (List.mem_of_getElem? (i := 48) (by decide +kernel))) rfl
theorem lRn_34 : Cond.fieldLink RRn 34 RRn "counted" "J" ∈ ce_W := ce_in (List.mem_append_right _ (List.mem_of_getElem? (i := 49) (by decide +kernel))) rfl
theorem lRn_30 : Cond.fieldLink RRn 30 RRn "trouble" "I" ∈ ce_W := ce_in (List.mem_append_right _ (List.mem_of_getElem? (i := 50) (by decide +kernel))) rfl
theorem lRn_54 : Cond.fieldLink RRn 54 RRn "troubleAction" "I" ∈ ce_W := ce_in (List.mem_append_right _ (List.mem_of_getElem? (i := 51) (by decide +kernel))) rfl
theorem lRn_57 : Cond.fieldLink RRn 57 RRn "ownNumber" "I" ∈ ce_W := ce_in (List.mem_append_right _ (List.mem_of_getElem? (i := 52) (by decide +kernel))) rfl
theorem lEx_11 : Cond.fieldLink REx 11 REx "programs" "[LCaseExecutor$Program;" ∈ ce_W := ce_in (List.mem_append_right _ (List.mem_of_getElem? (i := 82) (by decide +kernel))) rfl
theorem lEx_17 : Cond.fieldLink REx 17 REx "latest" "[LCaseExecutor$Run;" ∈ ce_W := ce_in (List.mem_append_right _ (List.mem_of_getElem? (i := 83) (by decide +kernel))) rfl
theorem lEx_61 : Cond.fieldLink REx 61 REx "theCounter" "J" ∈ ce_W := ce_in (List.mem_append_right _ (List.mem_of_getElem? (i := 84) (by decide +kernel))) rfl
theorem lEx_65 : Cond.fieldLink REx 65 REx "runs" "I" ∈ ce_W := ce_in (List.mem_append_right _ (List.mem_of_getElem? (i := 85) (by decide +kernel))) rfl
theorem lEx_69 : Cond.fieldLink REx 69 REx "threadRuns" "I" ∈ ce_W := ce_in (List.mem_append_right _ (List.mem_of_getElem? (i := 86) (by decide +kernel))) rfl
theorem lEx_72 : Cond.fieldLink REx 72 REx "troubledRuns" "I" ∈ ce_W := ce_in (List.mem_append_right _ (List.mem_of_getElem? (i := 87) (by decide +kernel))) rfl
theorem lLw_13 : Cond.methodLink RLw 13 yEx_add ∈ ce_W := ce_in (List.mem_append_right _ (List.mem_of_getElem? (i := 101) (by decide +kernel))) rfl
theorem lEx_25 : Cond.methodLink REx 25 yEx_isProgram ∈ ce_W := ce_in (List.mem_append_right _ (List.mem_of_getElem? (i := 105) (by decide +kernel))) rfl
theorem lEx_29 : Cond.methodLink REx 29 yEx_isWithin ∈ ce_W := ce_in (List.mem_append_right _ (List.mem_of_getElem? (i := 108) (by decide +kernel))) rfl
theorem lEx_33 : Cond.methodLink REx 33 yPg_append ∈ ce_W := ce_in (List.mem_append_right _ (List.mem_of_getElem? (i := 111) (by decide +kernel))) rfl
theorem lEx_37 : Cond.methodLink REx 37 yRn_forget ∈ ce_W := ce_in (List.mem_append_right _ (List.mem_of_getElem? (i := 115) (by decide +kernel))) rfl
theorem lLw_18 : Cond.methodLink RLw 18 yEx_clear ∈ ce_W := ce_in (List.mem_append_right _ (List.mem_of_getElem? (i := 119) (by decide +kernel))) rfl
theorem lEx_40 : Cond.methodLink REx 40 yPg_empty ∈ ce_W := ce_in (List.mem_append_right _ (List.mem_of_getElem? (i := 123) (by decide +kernel))) rfl
theorem lLw_23 : Cond.methodLink RLw 23 yEx_run ∈ ce_W := ce_in (List.mem_append_right _ (List.mem_of_getElem? (i := 127) (by decide +kernel))) rfl
theorem lEx_43 : Cond.methodLink REx 43 yEx_perform ∈ ce_W := ce_in (List.mem_append_right _ (List.mem_of_getElem? (i := 131) (by decide +kernel))) rfl
theorem lEx_79 : Cond.methodLink REx 79 yRn_perform ∈ ce_W := ce_in (List.mem_append_right _ (List.mem_of_getElem? (i := 135) (by decide +kernel))) rfl
theorem lRn_63 : Cond.methodLink RRn 63 yRn_begin ∈ ce_W := ce_in (List.mem_append_right _ (List.mem_of_getElem? (i := 139) (by decide +kernel))) rfl
theorem lRn_79 : Cond.methodLink RRn 79 yRn_forgetTrouble ∈ ce_W := ce_in (List.mem_append_right _ (List.mem_of_getElem? (i := 143) (by decide +kernel))) rfl
theorem lRn_67 : Cond.methodLink RRn 67 yPg_size ∈ ce_W := ce_in (List.mem_append_right _ (List.mem_of_getElem? (i := 147) (by decide +kernel))) rfl
theorem lRn_72 : Cond.methodLink RRn 72 yRn_doActions ∈ ce_W := ce_in (List.mem_append_right _ (List.mem_of_getElem? (i := 151) (by decide +kernel))) rfl
theorem lRn_82 : Cond.methodLink RRn 82 yPg_blockLength ∈ ce_W := ce_in (List.mem_append_right _ (List.mem_of_getElem? (i := 155) (by decide +kernel))) rfl
theorem lPg_24 : Cond.methodLink RPg 24 yPg_low ∈ ce_W := ce_in (List.mem_append_right _ (List.mem_of_getElem? (i := 159) (by decide +kernel))) rfl
theorem lRn_86 : Cond.methodLink RRn 86 yRn_doAction ∈ ce_W := ce_in (List.mem_append_right _ (List.mem_of_getElem? (i := 166) (by decide +kernel))) rfl
theorem lRn_89 : Cond.methodLink RRn 89 yPg_value ∈ ce_W := ce_in (List.mem_append_right _ (List.mem_of_getElem? (i := 170) (by decide +kernel))) rfl
theorem lRn_93 : Cond.methodLink RRn 93 yPg_op ∈ ce_W := ce_in (List.mem_append_right _ (List.mem_of_getElem? (i := 174) (by decide +kernel))) rfl
theorem lRn_96 : Cond.methodLink RRn 96 yRn_become ∈ ce_W := ce_in (List.mem_append_right _ (List.mem_of_getElem? (i := 178) (by decide +kernel))) rfl
theorem lRn_99 : Cond.methodLink RRn 99 yRn_comesUp ∈ ce_W := ce_in (List.mem_append_right _ (List.mem_of_getElem? (i := 182) (by decide +kernel))) rfl
theorem lRn_102 : Cond.methodLink RRn 102 yRn_isCell ∈ ce_W := ce_in (List.mem_append_right _ (List.mem_of_getElem? (i := 186) (by decide +kernel))) rfl
theorem lRn_106 : Cond.methodLink RRn 106 yRn_doKeep ∈ ce_W := ce_in (List.mem_append_right _ (List.mem_of_getElem? (i := 190) (by decide +kernel))) rfl
theorem lRn_109 : Cond.methodLink RRn 109 yRn_doBreak ∈ ce_W := ce_in (List.mem_append_right _ (List.mem_of_getElem? (i := 194) (by decide +kernel))) rfl
theorem lRn_145 : Cond.methodLink RRn 145 yPg_high ∈ ce_W := ce_in (List.mem_append_right _ (List.mem_of_getElem? (i := 198) (by decide +kernel))) rfl
theorem lRn_154 : Cond.methodLink RRn 154 yPg_low ∈ ce_W := ce_in (List.mem_append_right _ (List.mem_of_getElem? (i := 202) (by decide +kernel))) rfl
theorem lRn_112 : Cond.methodLink RRn 112 yRn_doThrow ∈ ce_W := ce_in (List.mem_append_right _ (List.mem_of_getElem? (i := 203) (by decide +kernel))) rfl
theorem lRn_151 : Cond.methodLink RRn 151 yRn_ownComesUp ∈ ce_W := ce_in (List.mem_append_right _ (List.mem_of_getElem? (i := 207) (by decide +kernel))) rfl
theorem lRn_115 : Cond.methodLink RRn 115 yRn_doInterrupt ∈ ce_W := ce_in (List.mem_append_right _ (List.mem_of_getElem? (i := 211) (by decide +kernel))) rfl
theorem lRn_118 : Cond.methodLink RRn 118 yRn_doLook ∈ ce_W := ce_in (List.mem_append_right _ (List.mem_of_getElem? (i := 215) (by decide +kernel))) rfl
theorem lRn_121 : Cond.methodLink RRn 121 yRn_doCatch ∈ ce_W := ce_in (List.mem_append_right _ (List.mem_of_getElem? (i := 219) (by decide +kernel))) rfl
theorem lRn_148 : Cond.methodLink RRn 148 yRn_takes ∈ ce_W := ce_in (List.mem_append_right _ (List.mem_of_getElem? (i := 223) (by decide +kernel))) rfl
theorem lRn_124 : Cond.methodLink RRn 124 yRn_doFinally ∈ ce_W := ce_in (List.mem_append_right _ (List.mem_of_getElem? (i := 226) (by decide +kernel))) rfl
theorem lRn_127 : Cond.methodLink RRn 127 yRn_doDrop ∈ ce_W := ce_in (List.mem_append_right _ (List.mem_of_getElem? (i := 230) (by decide +kernel))) rfl
theorem lRn_130 : Cond.methodLink RRn 130 yRn_doHold ∈ ce_W := ce_in (List.mem_append_right _ (List.mem_of_getElem? (i := 234) (by decide +kernel))) rfl
theorem lRn_133 : Cond.methodLink RRn 133 yRn_doRepeat ∈ ce_W := ce_in (List.mem_append_right _ (List.mem_of_getElem? (i := 238) (by decide +kernel))) rfl
theorem lRn_136 : Cond.methodLink RRn 136 yRn_isHeld ∈ ce_W := ce_in (List.mem_append_right _ (List.mem_of_getElem? (i := 242) (by decide +kernel))) rfl
theorem lRn_139 : Cond.methodLink RRn 139 yRn_doSleep ∈ ce_W := ce_in (List.mem_append_right _ (List.mem_of_getElem? (i := 246) (by decide +kernel))) rfl
theorem lRn_142 : Cond.methodLink RRn 142 yRn_doCount ∈ ce_W := ce_in (List.mem_append_right _ (List.mem_of_getElem? (i := 250) (by decide +kernel))) rfl
theorem lEx_82 : Cond.methodLink REx 82 yRn_outcome ∈ ce_W := ce_in (List.mem_append_right _ (List.mem_of_getElem? (i := 254) (by decide +kernel))) rfl
theorem lEx_85 : Cond.methodLink REx 85 yRn_counted ∈ ce_W := ce_in (List.mem_append_right _ (List.mem_of_getElem? (i := 258) (by decide +kernel))) rfl
theorem lLw_28 : Cond.methodLink RLw 28 yEx_runAll ∈ ce_W := ce_in (List.mem_append_right _ (List.mem_of_getElem? (i := 262) (by decide +kernel))) rfl
theorem lLw_32 : Cond.methodLink RLw 32 yEx_told ∈ ce_W := ce_in (List.mem_append_right _ (List.mem_of_getElem? (i := 266) (by decide +kernel))) rfl
theorem lEx_47 : Cond.methodLink REx 47 yRn_isKnown ∈ ce_W := ce_in (List.mem_append_right _ (List.mem_of_getElem? (i := 270) (by decide +kernel))) rfl
theorem lEx_51 : Cond.methodLink REx 51 yRn_tell ∈ ce_W := ce_in (List.mem_append_right _ (List.mem_of_getElem? (i := 274) (by decide +kernel))) rfl
theorem lRn_38 : Cond.methodLink RRn 38 yRn_outcome ∈ ce_W := ce_in (List.mem_append_right _ (List.mem_of_getElem? (i := 278) (by decide +kernel))) rfl
theorem lLw_37 : Cond.methodLink RLw 37 yEx_cell ∈ ce_W := ce_in (List.mem_append_right _ (List.mem_of_getElem? (i := 279) (by decide +kernel))) rfl
theorem lEx_55 : Cond.methodLink REx 55 yRn_isCell ∈ ce_W := ce_in (List.mem_append_right _ (List.mem_of_getElem? (i := 283) (by decide +kernel))) rfl
theorem lEx_58 : Cond.methodLink REx 58 yRn_cellAtEnd ∈ ce_W := ce_in (List.mem_append_right _ (List.mem_of_getElem? (i := 284) (by decide +kernel))) rfl
theorem lLw_41 : Cond.methodLink RLw 41 yEx_counter ∈ ce_W := ce_in (List.mem_append_right _ (List.mem_of_getElem? (i := 288) (by decide +kernel))) rfl
theorem lLw_46 : Cond.methodLink RLw 46 yEx_count ∈ ce_W := ce_in (List.mem_append_right _ (List.mem_of_getElem? (i := 292) (by decide +kernel))) rfl
theorem lEx_75 : Cond.methodLink REx 75 yPg_size ∈ ce_W := ce_in (List.mem_append_right _ (List.mem_of_getElem? (i := 296) (by decide +kernel))) rfl
theorem lLw_10 : Cond.classLink RLw 10 RMd ∈ ce_W := ce_in (List.mem_append_right _ (List.mem_of_getElem? (i := 297) (by decide +kernel))) rfl
theorem inMd : Cond.instantiable RMd 27 ∈ ce_W := ce_in (List.mem_append_right _ (List.mem_of_getElem? (i := 298) (by decide +kernel))) rfl
theorem lLw_12 : Cond.methodLink RLw 12 yMd_init ∈ ce_W := ce_in (List.mem_append_right _ (List.mem_of_getElem? (i := 299) (by decide +kernel))) rfl
theorem lMd_7 : Cond.fieldLink RMd 7 RMd "op" "[I" ∈ ce_W := ce_in (List.mem_append_right _ (List.mem_of_getElem? (i := 303) (by decide +kernel))) rfl
theorem lMd_13 : Cond.fieldLink RMd 13 RMd "argument" "[I" ∈ ce_W := ce_in (List.mem_append_right _ (List.mem_of_getElem? (i := 304) (by decide +kernel))) rfl
theorem lMd_16 : Cond.fieldLink RMd 16 RMd "size" "[I" ∈ ce_W := ce_in (List.mem_append_right _ (List.mem_of_getElem? (i := 305) (by decide +kernel))) rfl
theorem lMd_19 : Cond.fieldLink RMd 19 RMd "told" "[I" ∈ ce_W := ce_in (List.mem_append_right _ (List.mem_of_getElem? (i := 306) (by decide +kernel))) rfl
theorem lMd_22 : Cond.fieldLink RMd 22 RMd "cells" "[I" ∈ ce_W := ce_in (List.mem_append_right _ (List.mem_of_getElem? (i := 307) (by decide +kernel))) rfl
theorem lMd_25 : Cond.fieldLink RMd 25 RMd "ran" "[Z" ∈ ce_W := ce_in (List.mem_append_right _ (List.mem_of_getElem? (i := 308) (by decide +kernel))) rfl
theorem lMd_108 : Cond.fieldLink RMd 108 RMd "counter" "J" ∈ ce_W := ce_in (List.mem_append_right _ (List.mem_of_getElem? (i := 309) (by decide +kernel))) rfl
theorem lMd_130 : Cond.fieldLink RMd 130 RMd "runs" "I" ∈ ce_W := ce_in (List.mem_append_right _ (List.mem_of_getElem? (i := 310) (by decide +kernel))) rfl
theorem lMd_133 : Cond.fieldLink RMd 133 RMd "threads" "I" ∈ ce_W := ce_in (List.mem_append_right _ (List.mem_of_getElem? (i := 311) (by decide +kernel))) rfl
theorem lMd_136 : Cond.fieldLink RMd 136 RMd "troubled" "I" ∈ ce_W := ce_in (List.mem_append_right _ (List.mem_of_getElem? (i := 312) (by decide +kernel))) rfl
theorem lMd_29 : Cond.fieldLink RMd 29 RMd "block" "[I" ∈ ce_W := ce_in (List.mem_append_right _ (List.mem_of_getElem? (i := 313) (by decide +kernel))) rfl
theorem lMd_32 : Cond.fieldLink RMd 32 RMd "end" "[I" ∈ ce_W := ce_in (List.mem_append_right _ (List.mem_of_getElem? (i := 314) (by decide +kernel))) rfl
theorem lMd_35 : Cond.fieldLink RMd 35 RMd "left" "[I" ∈ ce_W := ce_in (List.mem_append_right _ (List.mem_of_getElem? (i := 315) (by decide +kernel))) rfl
theorem lMd_68 : Cond.fieldLink RMd 68 RMd "open" "I" ∈ ce_W := ce_in (List.mem_append_right _ (List.mem_of_getElem? (i := 316) (by decide +kernel))) rfl
theorem lMd_38 : Cond.fieldLink RMd 38 RMd "cell" "[I" ∈ ce_W := ce_in (List.mem_append_right _ (List.mem_of_getElem? (i := 317) (by decide +kernel))) rfl
theorem lMd_41 : Cond.fieldLink RMd 41 RMd "held" "[I" ∈ ce_W := ce_in (List.mem_append_right _ (List.mem_of_getElem? (i := 318) (by decide +kernel))) rfl
theorem lMd_65 : Cond.fieldLink RMd 65 RMd "program" "I" ∈ ce_W := ce_in (List.mem_append_right _ (List.mem_of_getElem? (i := 319) (by decide +kernel))) rfl
theorem lMd_59 : Cond.fieldLink RMd 59 RMd "at" "I" ∈ ce_W := ce_in (List.mem_append_right _ (List.mem_of_getElem? (i := 320) (by decide +kernel))) rfl
theorem lMd_78 : Cond.fieldLink RMd 78 RMd "accumulator" "I" ∈ ce_W := ce_in (List.mem_append_right _ (List.mem_of_getElem? (i := 321) (by decide +kernel))) rfl
theorem lMd_112 : Cond.fieldLink RMd 112 RMd "steps" "I" ∈ ce_W := ce_in (List.mem_append_right _ (List.mem_of_getElem? (i := 322) (by decide +kernel))) rfl
theorem lMd_75 : Cond.fieldLink RMd 75 RMd "finals" "I" ∈ ce_W := ce_in (List.mem_append_right _ (List.mem_of_getElem? (i := 323) (by decide +kernel))) rfl
theorem lMd_88 : Cond.fieldLink RMd 88 RMd "catches" "I" ∈ ce_W := ce_in (List.mem_append_right _ (List.mem_of_getElem? (i := 324) (by decide +kernel))) rfl
theorem lMd_52 : Cond.fieldLink RMd 52 RMd "trouble" "I" ∈ ce_W := ce_in (List.mem_append_right _ (List.mem_of_getElem? (i := 325) (by decide +kernel))) rfl
theorem lMd_56 : Cond.fieldLink RMd 56 RMd "number" "I" ∈ ce_W := ce_in (List.mem_append_right _ (List.mem_of_getElem? (i := 326) (by decide +kernel))) rfl
theorem lMd_62 : Cond.fieldLink RMd 62 RMd "origin" "I" ∈ ce_W := ce_in (List.mem_append_right _ (List.mem_of_getElem? (i := 327) (by decide +kernel))) rfl
theorem lMd_95 : Cond.fieldLink RMd 95 RMd "mark" "Z" ∈ ce_W := ce_in (List.mem_append_right _ (List.mem_of_getElem? (i := 328) (by decide +kernel))) rfl
theorem lMd_81 : Cond.fieldLink RMd 81 RMd "stopping" "Z" ∈ ce_W := ce_in (List.mem_append_right _ (List.mem_of_getElem? (i := 329) (by decide +kernel))) rfl
theorem lLw_17 : Cond.methodLink RLw 17 yMd_add ∈ ce_W := ce_in (List.mem_append_right _ (List.mem_of_getElem? (i := 386) (by decide +kernel))) rfl
theorem lMd_44 : Cond.methodLink RMd 44 yMd_in ∈ ce_W := ce_in (List.mem_append_right _ (List.mem_of_getElem? (i := 390) (by decide +kernel))) rfl
theorem lMd_48 : Cond.methodLink RMd 48 yMd_forget ∈ ce_W := ce_in (List.mem_append_right _ (List.mem_of_getElem? (i := 393) (by decide +kernel))) rfl
theorem lLw_22 : Cond.methodLink RLw 22 yMd_clear ∈ ce_W := ce_in (List.mem_append_right _ (List.mem_of_getElem? (i := 397) (by decide +kernel))) rfl
theorem lLw_27 : Cond.methodLink RLw 27 yMd_run ∈ ce_W := ce_in (List.mem_append_right _ (List.mem_of_getElem? (i := 401) (by decide +kernel))) rfl
theorem lMd_139 : Cond.methodLink RMd 139 yMd_perform ∈ ce_W := ce_in (List.mem_append_right _ (List.mem_of_getElem? (i := 405) (by decide +kernel))) rfl
theorem lMd_123 : Cond.methodLink RMd 123 yMd_leave ∈ ce_W := ce_in (List.mem_append_right _ (List.mem_of_getElem? (i := 410) (by decide +kernel))) rfl
theorem lMd_71 : Cond.methodLink RMd 71 yMd_kOf ∈ ce_W := ce_in (List.mem_append_right _ (List.mem_of_getElem? (i := 414) (by decide +kernel))) rfl
theorem lMd_85 : Cond.methodLink RMd 85 yMd_takes ∈ ce_W := ce_in (List.mem_append_right _ (List.mem_of_getElem? (i := 418) (by decide +kernel))) rfl
theorem lMd_91 : Cond.methodLink RMd 91 yMd_raise ∈ ce_W := ce_in (List.mem_append_right _ (List.mem_of_getElem? (i := 421) (by decide +kernel))) rfl
theorem lMd_126 : Cond.methodLink RMd 126 yMd_step ∈ ce_W := ce_in (List.mem_append_right _ (List.mem_of_getElem? (i := 425) (by decide +kernel))) rfl
theorem lMd_115 : Cond.methodLink RMd 115 yMd_enter ∈ ce_W := ce_in (List.mem_append_right _ (List.mem_of_getElem? (i := 429) (by decide +kernel))) rfl
theorem lMd_118 : Cond.methodLink RMd 118 yMd_act ∈ ce_W := ce_in (List.mem_append_right _ (List.mem_of_getElem? (i := 433) (by decide +kernel))) rfl
theorem lMd_98 : Cond.methodLink RMd 98 yMd_divide ∈ ce_W := ce_in (List.mem_append_right _ (List.mem_of_getElem? (i := 437) (by decide +kernel))) rfl
theorem lMd_102 : Cond.methodLink RMd 102 yMd_touch ∈ ce_W := ce_in (List.mem_append_right _ (List.mem_of_getElem? (i := 441) (by decide +kernel))) rfl
theorem lMd_105 : Cond.methodLink RMd 105 yMd_interrupted ∈ ce_W := ce_in (List.mem_append_right _ (List.mem_of_getElem? (i := 445) (by decide +kernel))) rfl
theorem lLw_31 : Cond.methodLink RLw 31 yMd_runAll ∈ ce_W := ce_in (List.mem_append_right _ (List.mem_of_getElem? (i := 449) (by decide +kernel))) rfl
theorem lLw_36 : Cond.methodLink RLw 36 yMd_told ∈ ce_W := ce_in (List.mem_append_right _ (List.mem_of_getElem? (i := 453) (by decide +kernel))) rfl
theorem lLw_40 : Cond.methodLink RLw 40 yMd_cell ∈ ce_W := ce_in (List.mem_append_right _ (List.mem_of_getElem? (i := 457) (by decide +kernel))) rfl
theorem lLw_45 : Cond.methodLink RLw 45 yMd_counter ∈ ce_W := ce_in (List.mem_append_right _ (List.mem_of_getElem? (i := 461) (by decide +kernel))) rfl
theorem lLw_49 : Cond.methodLink RLw 49 yMd_count ∈ ce_W := ce_in (List.mem_append_right _ (List.mem_of_getElem? (i := 465) (by decide +kernel))) rfl
end
section
-- THE CLASS AS A FUNCTION: a program's picture, a run's picture, and what each method of Run makes of it
/-- a program: its ops, its arguments, its size -/
abbrev PR : Type := (Nat → Nat) × (Nat → Nat) × Nat
/-- a run: cells, holds, known, name, accumulator, steps, finals, catches, marked, counted, trouble, its action, its number -/
abbrev RS : Type := (Nat → Int32) × (Nat → Int32) × Bool × Int32 × Int32 × Int32 × Int32 × Int32 × Bool × Int64 × Int32 × Int32 × Int32
def bI (b : Bool) : Int32 := match b with
  | true => 1
  | false => 0
theorem bI0 {b : Bool} (h : bI b = 0) : b = false := by cases b <;> first | rfl | exact absurd h (by decide)
theorem bI1 {b : Bool} (h : ¬ bI b = 0) : b = true := by cases b <;> first | rfl | exact absurd rfl h
def gCells (u : RS) : Nat → Int32 := u.1
def gHolds (u : RS) : Nat → Int32 := u.2.1
def gKnown (u : RS) : Bool := u.2.2.1
def gName (u : RS) : Int32 := u.2.2.2.1
def gAcc (u : RS) : Int32 := u.2.2.2.2.1
def gSteps (u : RS) : Int32 := u.2.2.2.2.2.1
def gFin (u : RS) : Int32 := u.2.2.2.2.2.2.1
def gCat (u : RS) : Int32 := u.2.2.2.2.2.2.2.1
def gMark (u : RS) : Bool := u.2.2.2.2.2.2.2.2.1
def gCnt (u : RS) : Int64 := u.2.2.2.2.2.2.2.2.2.1
def gTr (u : RS) : Int32 := u.2.2.2.2.2.2.2.2.2.2.1
def gTa (u : RS) : Int32 := u.2.2.2.2.2.2.2.2.2.2.2.1
def gOwn (u : RS) : Int32 := u.2.2.2.2.2.2.2.2.2.2.2.2
def mkR (c h : Nat → Int32) (kn : Bool) (nm ac st fi ca : Int32) (mk : Bool) (cn : Int64) (tr ta ow : Int32) : RS := (c, h, kn, nm, ac, st, fi, ca, mk, cn, tr, ta, ow)
def sCells (u : RS) (x : Nat → Int32) : RS := mkR x (gHolds u) (gKnown u) (gName u) (gAcc u) (gSteps u) (gFin u) (gCat u) (gMark u) (gCnt u) (gTr u) (gTa u) (gOwn u)
def sHolds (u : RS) (x : Nat → Int32) : RS := mkR (gCells u) x (gKnown u) (gName u) (gAcc u) (gSteps u) (gFin u) (gCat u) (gMark u) (gCnt u) (gTr u) (gTa u) (gOwn u)
def sKnown (u : RS) (x : Bool) : RS := mkR (gCells u) (gHolds u) x (gName u) (gAcc u) (gSteps u) (gFin u) (gCat u) (gMark u) (gCnt u) (gTr u) (gTa u) (gOwn u)
def sName (u : RS) (x : Int32) : RS := mkR (gCells u) (gHolds u) (gKnown u) x (gAcc u) (gSteps u) (gFin u) (gCat u) (gMark u) (gCnt u) (gTr u) (gTa u) (gOwn u)
def sAcc (u : RS) (x : Int32) : RS := mkR (gCells u) (gHolds u) (gKnown u) (gName u) x (gSteps u) (gFin u) (gCat u) (gMark u) (gCnt u) (gTr u) (gTa u) (gOwn u)
def sSteps (u : RS) (x : Int32) : RS := mkR (gCells u) (gHolds u) (gKnown u) (gName u) (gAcc u) x (gFin u) (gCat u) (gMark u) (gCnt u) (gTr u) (gTa u) (gOwn u)
def sFin (u : RS) (x : Int32) : RS := mkR (gCells u) (gHolds u) (gKnown u) (gName u) (gAcc u) (gSteps u) x (gCat u) (gMark u) (gCnt u) (gTr u) (gTa u) (gOwn u)
def sCat (u : RS) (x : Int32) : RS := mkR (gCells u) (gHolds u) (gKnown u) (gName u) (gAcc u) (gSteps u) (gFin u) x (gMark u) (gCnt u) (gTr u) (gTa u) (gOwn u)
def sMark (u : RS) (x : Bool) : RS := mkR (gCells u) (gHolds u) (gKnown u) (gName u) (gAcc u) (gSteps u) (gFin u) (gCat u) x (gCnt u) (gTr u) (gTa u) (gOwn u)
def sCnt (u : RS) (x : Int64) : RS := mkR (gCells u) (gHolds u) (gKnown u) (gName u) (gAcc u) (gSteps u) (gFin u) (gCat u) (gMark u) x (gTr u) (gTa u) (gOwn u)
def sTr (u : RS) (x : Int32) : RS := mkR (gCells u) (gHolds u) (gKnown u) (gName u) (gAcc u) (gSteps u) (gFin u) (gCat u) (gMark u) (gCnt u) x (gTa u) (gOwn u)
def sTa (u : RS) (x : Int32) : RS := mkR (gCells u) (gHolds u) (gKnown u) (gName u) (gAcc u) (gSteps u) (gFin u) (gCat u) (gMark u) (gCnt u) (gTr u) x (gOwn u)
def sOwn (u : RS) (x : Int32) : RS := mkR (gCells u) (gHolds u) (gKnown u) (gName u) (gAcc u) (gSteps u) (gFin u) (gCat u) (gMark u) (gCnt u) (gTr u) (gTa u) x
-- a field of a changed run
theorem gCells_sCells (u : RS) (x : Nat → Int32) : gCells (sCells u x) = x := rfl
theorem gCells_sHolds (u : RS) (x : Nat → Int32) : gCells (sHolds u x) = gCells u := rfl
theorem gCells_sKnown (u : RS) (x : Bool) : gCells (sKnown u x) = gCells u := rfl
theorem gCells_sName (u : RS) (x : Int32) : gCells (sName u x) = gCells u := rfl
theorem gCells_sAcc (u : RS) (x : Int32) : gCells (sAcc u x) = gCells u := rfl
theorem gCells_sSteps (u : RS) (x : Int32) : gCells (sSteps u x) = gCells u := rfl
theorem gCells_sFin (u : RS) (x : Int32) : gCells (sFin u x) = gCells u := rfl
theorem gCells_sCat (u : RS) (x : Int32) : gCells (sCat u x) = gCells u := rfl
theorem gCells_sMark (u : RS) (x : Bool) : gCells (sMark u x) = gCells u := rfl
theorem gCells_sCnt (u : RS) (x : Int64) : gCells (sCnt u x) = gCells u := rfl
theorem gCells_sTr (u : RS) (x : Int32) : gCells (sTr u x) = gCells u := rfl
theorem gCells_sTa (u : RS) (x : Int32) : gCells (sTa u x) = gCells u := rfl
theorem gCells_sOwn (u : RS) (x : Int32) : gCells (sOwn u x) = gCells u := rfl
theorem gHolds_sCells (u : RS) (x : Nat → Int32) : gHolds (sCells u x) = gHolds u := rfl
theorem gHolds_sHolds (u : RS) (x : Nat → Int32) : gHolds (sHolds u x) = x := rfl
theorem gHolds_sKnown (u : RS) (x : Bool) : gHolds (sKnown u x) = gHolds u := rfl
theorem gHolds_sName (u : RS) (x : Int32) : gHolds (sName u x) = gHolds u := rfl
theorem gHolds_sAcc (u : RS) (x : Int32) : gHolds (sAcc u x) = gHolds u := rfl
theorem gHolds_sSteps (u : RS) (x : Int32) : gHolds (sSteps u x) = gHolds u := rfl
theorem gHolds_sFin (u : RS) (x : Int32) : gHolds (sFin u x) = gHolds u := rfl
theorem gHolds_sCat (u : RS) (x : Int32) : gHolds (sCat u x) = gHolds u := rfl
theorem gHolds_sMark (u : RS) (x : Bool) : gHolds (sMark u x) = gHolds u := rfl
theorem gHolds_sCnt (u : RS) (x : Int64) : gHolds (sCnt u x) = gHolds u := rfl
theorem gHolds_sTr (u : RS) (x : Int32) : gHolds (sTr u x) = gHolds u := rfl
theorem gHolds_sTa (u : RS) (x : Int32) : gHolds (sTa u x) = gHolds u := rfl
theorem gHolds_sOwn (u : RS) (x : Int32) : gHolds (sOwn u x) = gHolds u := rfl
theorem gKnown_sCells (u : RS) (x : Nat → Int32) : gKnown (sCells u x) = gKnown u := rfl
theorem gKnown_sHolds (u : RS) (x : Nat → Int32) : gKnown (sHolds u x) = gKnown u := rfl
theorem gKnown_sKnown (u : RS) (x : Bool) : gKnown (sKnown u x) = x := rfl
theorem gKnown_sName (u : RS) (x : Int32) : gKnown (sName u x) = gKnown u := rfl
theorem gKnown_sAcc (u : RS) (x : Int32) : gKnown (sAcc u x) = gKnown u := rfl
theorem gKnown_sSteps (u : RS) (x : Int32) : gKnown (sSteps u x) = gKnown u := rfl
theorem gKnown_sFin (u : RS) (x : Int32) : gKnown (sFin u x) = gKnown u := rfl
theorem gKnown_sCat (u : RS) (x : Int32) : gKnown (sCat u x) = gKnown u := rfl
theorem gKnown_sMark (u : RS) (x : Bool) : gKnown (sMark u x) = gKnown u := rfl
theorem gKnown_sCnt (u : RS) (x : Int64) : gKnown (sCnt u x) = gKnown u := rfl
theorem gKnown_sTr (u : RS) (x : Int32) : gKnown (sTr u x) = gKnown u := rfl
theorem gKnown_sTa (u : RS) (x : Int32) : gKnown (sTa u x) = gKnown u := rfl
theorem gKnown_sOwn (u : RS) (x : Int32) : gKnown (sOwn u x) = gKnown u := rfl
theorem gName_sCells (u : RS) (x : Nat → Int32) : gName (sCells u x) = gName u := rfl
theorem gName_sHolds (u : RS) (x : Nat → Int32) : gName (sHolds u x) = gName u := rfl
theorem gName_sKnown (u : RS) (x : Bool) : gName (sKnown u x) = gName u := rfl
theorem gName_sName (u : RS) (x : Int32) : gName (sName u x) = x := rfl
theorem gName_sAcc (u : RS) (x : Int32) : gName (sAcc u x) = gName u := rfl
theorem gName_sSteps (u : RS) (x : Int32) : gName (sSteps u x) = gName u := rfl
theorem gName_sFin (u : RS) (x : Int32) : gName (sFin u x) = gName u := rfl
theorem gName_sCat (u : RS) (x : Int32) : gName (sCat u x) = gName u := rfl
theorem gName_sMark (u : RS) (x : Bool) : gName (sMark u x) = gName u := rfl
theorem gName_sCnt (u : RS) (x : Int64) : gName (sCnt u x) = gName u := rfl
theorem gName_sTr (u : RS) (x : Int32) : gName (sTr u x) = gName u := rfl
theorem gName_sTa (u : RS) (x : Int32) : gName (sTa u x) = gName u := rfl
theorem gName_sOwn (u : RS) (x : Int32) : gName (sOwn u x) = gName u := rfl
theorem gAcc_sCells (u : RS) (x : Nat → Int32) : gAcc (sCells u x) = gAcc u := rfl
theorem gAcc_sHolds (u : RS) (x : Nat → Int32) : gAcc (sHolds u x) = gAcc u := rfl
theorem gAcc_sKnown (u : RS) (x : Bool) : gAcc (sKnown u x) = gAcc u := rfl
theorem gAcc_sName (u : RS) (x : Int32) : gAcc (sName u x) = gAcc u := rfl
theorem gAcc_sAcc (u : RS) (x : Int32) : gAcc (sAcc u x) = x := rfl
theorem gAcc_sSteps (u : RS) (x : Int32) : gAcc (sSteps u x) = gAcc u := rfl
theorem gAcc_sFin (u : RS) (x : Int32) : gAcc (sFin u x) = gAcc u := rfl
theorem gAcc_sCat (u : RS) (x : Int32) : gAcc (sCat u x) = gAcc u := rfl
theorem gAcc_sMark (u : RS) (x : Bool) : gAcc (sMark u x) = gAcc u := rfl
theorem gAcc_sCnt (u : RS) (x : Int64) : gAcc (sCnt u x) = gAcc u := rfl
theorem gAcc_sTr (u : RS) (x : Int32) : gAcc (sTr u x) = gAcc u := rfl
theorem gAcc_sTa (u : RS) (x : Int32) : gAcc (sTa u x) = gAcc u := rfl
theorem gAcc_sOwn (u : RS) (x : Int32) : gAcc (sOwn u x) = gAcc u := rfl
theorem gSteps_sCells (u : RS) (x : Nat → Int32) : gSteps (sCells u x) = gSteps u := rfl
theorem gSteps_sHolds (u : RS) (x : Nat → Int32) : gSteps (sHolds u x) = gSteps u := rfl
theorem gSteps_sKnown (u : RS) (x : Bool) : gSteps (sKnown u x) = gSteps u := rfl
theorem gSteps_sName (u : RS) (x : Int32) : gSteps (sName u x) = gSteps u := rfl
theorem gSteps_sAcc (u : RS) (x : Int32) : gSteps (sAcc u x) = gSteps u := rfl
theorem gSteps_sSteps (u : RS) (x : Int32) : gSteps (sSteps u x) = x := rfl
theorem gSteps_sFin (u : RS) (x : Int32) : gSteps (sFin u x) = gSteps u := rfl
theorem gSteps_sCat (u : RS) (x : Int32) : gSteps (sCat u x) = gSteps u := rfl
theorem gSteps_sMark (u : RS) (x : Bool) : gSteps (sMark u x) = gSteps u := rfl
theorem gSteps_sCnt (u : RS) (x : Int64) : gSteps (sCnt u x) = gSteps u := rfl
theorem gSteps_sTr (u : RS) (x : Int32) : gSteps (sTr u x) = gSteps u := rfl
theorem gSteps_sTa (u : RS) (x : Int32) : gSteps (sTa u x) = gSteps u := rfl
theorem gSteps_sOwn (u : RS) (x : Int32) : gSteps (sOwn u x) = gSteps u := rfl
theorem gFin_sCells (u : RS) (x : Nat → Int32) : gFin (sCells u x) = gFin u := rfl
theorem gFin_sHolds (u : RS) (x : Nat → Int32) : gFin (sHolds u x) = gFin u := rfl
theorem gFin_sKnown (u : RS) (x : Bool) : gFin (sKnown u x) = gFin u := rfl
theorem gFin_sName (u : RS) (x : Int32) : gFin (sName u x) = gFin u := rfl
theorem gFin_sAcc (u : RS) (x : Int32) : gFin (sAcc u x) = gFin u := rfl
theorem gFin_sSteps (u : RS) (x : Int32) : gFin (sSteps u x) = gFin u := rfl
theorem gFin_sFin (u : RS) (x : Int32) : gFin (sFin u x) = x := rfl
theorem gFin_sCat (u : RS) (x : Int32) : gFin (sCat u x) = gFin u := rfl
theorem gFin_sMark (u : RS) (x : Bool) : gFin (sMark u x) = gFin u := rfl
theorem gFin_sCnt (u : RS) (x : Int64) : gFin (sCnt u x) = gFin u := rfl
theorem gFin_sTr (u : RS) (x : Int32) : gFin (sTr u x) = gFin u := rfl
theorem gFin_sTa (u : RS) (x : Int32) : gFin (sTa u x) = gFin u := rfl
theorem gFin_sOwn (u : RS) (x : Int32) : gFin (sOwn u x) = gFin u := rfl
theorem gCat_sCells (u : RS) (x : Nat → Int32) : gCat (sCells u x) = gCat u := rfl
theorem gCat_sHolds (u : RS) (x : Nat → Int32) : gCat (sHolds u x) = gCat u := rfl
theorem gCat_sKnown (u : RS) (x : Bool) : gCat (sKnown u x) = gCat u := rfl
theorem gCat_sName (u : RS) (x : Int32) : gCat (sName u x) = gCat u := rfl
theorem gCat_sAcc (u : RS) (x : Int32) : gCat (sAcc u x) = gCat u := rfl
theorem gCat_sSteps (u : RS) (x : Int32) : gCat (sSteps u x) = gCat u := rfl
theorem gCat_sFin (u : RS) (x : Int32) : gCat (sFin u x) = gCat u := rfl
theorem gCat_sCat (u : RS) (x : Int32) : gCat (sCat u x) = x := rfl
theorem gCat_sMark (u : RS) (x : Bool) : gCat (sMark u x) = gCat u := rfl
theorem gCat_sCnt (u : RS) (x : Int64) : gCat (sCnt u x) = gCat u := rfl
theorem gCat_sTr (u : RS) (x : Int32) : gCat (sTr u x) = gCat u := rfl
theorem gCat_sTa (u : RS) (x : Int32) : gCat (sTa u x) = gCat u := rfl
theorem gCat_sOwn (u : RS) (x : Int32) : gCat (sOwn u x) = gCat u := rfl
theorem gMark_sCells (u : RS) (x : Nat → Int32) : gMark (sCells u x) = gMark u := rfl
theorem gMark_sHolds (u : RS) (x : Nat → Int32) : gMark (sHolds u x) = gMark u := rfl
theorem gMark_sKnown (u : RS) (x : Bool) : gMark (sKnown u x) = gMark u := rfl
theorem gMark_sName (u : RS) (x : Int32) : gMark (sName u x) = gMark u := rfl
theorem gMark_sAcc (u : RS) (x : Int32) : gMark (sAcc u x) = gMark u := rfl
theorem gMark_sSteps (u : RS) (x : Int32) : gMark (sSteps u x) = gMark u := rfl
theorem gMark_sFin (u : RS) (x : Int32) : gMark (sFin u x) = gMark u := rfl
theorem gMark_sCat (u : RS) (x : Int32) : gMark (sCat u x) = gMark u := rfl
theorem gMark_sMark (u : RS) (x : Bool) : gMark (sMark u x) = x := rfl
theorem gMark_sCnt (u : RS) (x : Int64) : gMark (sCnt u x) = gMark u := rfl
theorem gMark_sTr (u : RS) (x : Int32) : gMark (sTr u x) = gMark u := rfl
theorem gMark_sTa (u : RS) (x : Int32) : gMark (sTa u x) = gMark u := rfl
theorem gMark_sOwn (u : RS) (x : Int32) : gMark (sOwn u x) = gMark u := rfl
theorem gCnt_sCells (u : RS) (x : Nat → Int32) : gCnt (sCells u x) = gCnt u := rfl
theorem gCnt_sHolds (u : RS) (x : Nat → Int32) : gCnt (sHolds u x) = gCnt u := rfl
theorem gCnt_sKnown (u : RS) (x : Bool) : gCnt (sKnown u x) = gCnt u := rfl
theorem gCnt_sName (u : RS) (x : Int32) : gCnt (sName u x) = gCnt u := rfl
theorem gCnt_sAcc (u : RS) (x : Int32) : gCnt (sAcc u x) = gCnt u := rfl
theorem gCnt_sSteps (u : RS) (x : Int32) : gCnt (sSteps u x) = gCnt u := rfl
theorem gCnt_sFin (u : RS) (x : Int32) : gCnt (sFin u x) = gCnt u := rfl
theorem gCnt_sCat (u : RS) (x : Int32) : gCnt (sCat u x) = gCnt u := rfl
theorem gCnt_sMark (u : RS) (x : Bool) : gCnt (sMark u x) = gCnt u := rfl
theorem gCnt_sCnt (u : RS) (x : Int64) : gCnt (sCnt u x) = x := rfl
theorem gCnt_sTr (u : RS) (x : Int32) : gCnt (sTr u x) = gCnt u := rfl
theorem gCnt_sTa (u : RS) (x : Int32) : gCnt (sTa u x) = gCnt u := rfl
theorem gCnt_sOwn (u : RS) (x : Int32) : gCnt (sOwn u x) = gCnt u := rfl
theorem gTr_sCells (u : RS) (x : Nat → Int32) : gTr (sCells u x) = gTr u := rfl
theorem gTr_sHolds (u : RS) (x : Nat → Int32) : gTr (sHolds u x) = gTr u := rfl
theorem gTr_sKnown (u : RS) (x : Bool) : gTr (sKnown u x) = gTr u := rfl
theorem gTr_sName (u : RS) (x : Int32) : gTr (sName u x) = gTr u := rfl
theorem gTr_sAcc (u : RS) (x : Int32) : gTr (sAcc u x) = gTr u := rfl
theorem gTr_sSteps (u : RS) (x : Int32) : gTr (sSteps u x) = gTr u := rfl
theorem gTr_sFin (u : RS) (x : Int32) : gTr (sFin u x) = gTr u := rfl
theorem gTr_sCat (u : RS) (x : Int32) : gTr (sCat u x) = gTr u := rfl
theorem gTr_sMark (u : RS) (x : Bool) : gTr (sMark u x) = gTr u := rfl
theorem gTr_sCnt (u : RS) (x : Int64) : gTr (sCnt u x) = gTr u := rfl
theorem gTr_sTr (u : RS) (x : Int32) : gTr (sTr u x) = x := rfl
theorem gTr_sTa (u : RS) (x : Int32) : gTr (sTa u x) = gTr u := rfl
theorem gTr_sOwn (u : RS) (x : Int32) : gTr (sOwn u x) = gTr u := rfl
theorem gTa_sCells (u : RS) (x : Nat → Int32) : gTa (sCells u x) = gTa u := rfl
theorem gTa_sHolds (u : RS) (x : Nat → Int32) : gTa (sHolds u x) = gTa u := rfl
theorem gTa_sKnown (u : RS) (x : Bool) : gTa (sKnown u x) = gTa u := rfl
theorem gTa_sName (u : RS) (x : Int32) : gTa (sName u x) = gTa u := rfl
theorem gTa_sAcc (u : RS) (x : Int32) : gTa (sAcc u x) = gTa u := rfl
theorem gTa_sSteps (u : RS) (x : Int32) : gTa (sSteps u x) = gTa u := rfl
theorem gTa_sFin (u : RS) (x : Int32) : gTa (sFin u x) = gTa u := rfl
theorem gTa_sCat (u : RS) (x : Int32) : gTa (sCat u x) = gTa u := rfl
theorem gTa_sMark (u : RS) (x : Bool) : gTa (sMark u x) = gTa u := rfl
theorem gTa_sCnt (u : RS) (x : Int64) : gTa (sCnt u x) = gTa u := rfl
theorem gTa_sTr (u : RS) (x : Int32) : gTa (sTr u x) = gTa u := rfl
theorem gTa_sTa (u : RS) (x : Int32) : gTa (sTa u x) = x := rfl
theorem gTa_sOwn (u : RS) (x : Int32) : gTa (sOwn u x) = gTa u := rfl
theorem gOwn_sCells (u : RS) (x : Nat → Int32) : gOwn (sCells u x) = gOwn u := rfl
theorem gOwn_sHolds (u : RS) (x : Nat → Int32) : gOwn (sHolds u x) = gOwn u := rfl
theorem gOwn_sKnown (u : RS) (x : Bool) : gOwn (sKnown u x) = gOwn u := rfl
theorem gOwn_sName (u : RS) (x : Int32) : gOwn (sName u x) = gOwn u := rfl
theorem gOwn_sAcc (u : RS) (x : Int32) : gOwn (sAcc u x) = gOwn u := rfl
theorem gOwn_sSteps (u : RS) (x : Int32) : gOwn (sSteps u x) = gOwn u := rfl
theorem gOwn_sFin (u : RS) (x : Int32) : gOwn (sFin u x) = gOwn u := rfl
theorem gOwn_sCat (u : RS) (x : Int32) : gOwn (sCat u x) = gOwn u := rfl
theorem gOwn_sMark (u : RS) (x : Bool) : gOwn (sMark u x) = gOwn u := rfl
theorem gOwn_sCnt (u : RS) (x : Int64) : gOwn (sCnt u x) = gOwn u := rfl
theorem gOwn_sTr (u : RS) (x : Int32) : gOwn (sTr u x) = gOwn u := rfl
theorem gOwn_sTa (u : RS) (x : Int32) : gOwn (sTa u x) = gOwn u := rfl
theorem gOwn_sOwn (u : RS) (x : Int32) : gOwn (sOwn u x) = x := rfl
-- the document's V, N, K, and the length of a block
def pV (P : PR) (i : Nat) : Int32 := nI (P.2.1 i) - 100
def pN (P : PR) (i : Nat) : Nat := P.2.1 i % 16
def pK (P : PR) (i : Nat) : Nat := P.2.1 i / 16
def pB (P : PR) (i e : Nat) : Nat := if P.1 i < 10 ∨ 14 < P.1 i then 0 else min (pN P i) (e - i - 1)
/-- a program as the class keeps it -/
def pOk (P : PR) : Prop := P.2.2 ≤ 14 ∧ ∀ i, i < P.2.2 → P.1 i ≤ 21 ∧ P.2.1 i ≤ 255
def isW (x y : Int32) : Bool := decide (¬ x < 0 ∧ ¬ y < x)
-- the endings: 0 went on, 1 stopped, 2 troubled
def xComes (u : RS) (i t : Int32) : Int32 × RS := (2, sOwn (sTa (sTr u t) i) (-1))
def xOwn (u : RS) (i n : Int32) : Int32 × RS := (2, sOwn (sTa (sTr u 10) i) n)
def xForget (u : RS) : RS := sOwn (sTa (sTr u (-1)) (-1)) (-1)
def xTakes (K : Nat) (t : Int32) : Bool :=
  if K = 11 ∨ K = 14 then decide (¬ t = 7 ∧ ¬ t = 10) else if K = 12 then decide (t = 1 ∨ t = 9) else if K = 13 then decide (t = 7 ∨ t = 10) else if K = 15 then true else decide (t = nI K)
def xHeld (P : PR) (i : Nat) (u : RS) : Bool := decide (0 < gHolds u (pK P i % 2))
def xSleep (i : Int32) (u : RS) : Int32 × RS := if gMark u = true then xComes (sMark u false) i 7 else (0, u)
def xCaught (u : RS) : RS := xForget (sAcc (sCat u (gCat u + 1)) (1000 + 16 * gTr u + (if gTr u = 10 then gOwn u else 0)))
def xCatch (P : PR) (i : Nat) (r : Int32 × RS) : Int32 × RS :=
  if r.1 = 2 ∧ xTakes (pK P i) (gTr r.2) = true then (if pK P i = 14 then xOwn (xCaught r.2) (nI i) 14 else (0, xCaught r.2)) else r
def xFinally (r : Int32 × RS) : Int32 × RS := (r.1, sAcc (sFin r.2 (gFin r.2 + 1)) (-gAcc r.2))
def xDrop (r : Int32 × RS) : Int32 × RS := (0, sFin (xForget r.2) (gFin r.2 + 1))
def xGrab (P : PR) (i : Nat) (u : RS) : RS := sHolds u (upd (gHolds u) (pK P i % 2) (gHolds u (pK P i % 2) + 1))
def xLet (P : PR) (i : Nat) (r : Int32 × RS) : Int32 × RS := (r.1, sHolds r.2 (upd (gHolds r.2) (pK P i % 2) (gHolds r.2 (pK P i % 2) - 1)))
def xRep (f : RS → Int32 × RS) : Nat → RS → Int32 × RS
  | 0, u => (0, u)
  | n + 1, u => if (f u).1 = 0 then xRep f n (f u).2 else f u
def xBreak (P : PR) (i : Nat) (u : RS) : Int32 × RS := if pK P i ≤ 5 then xComes u (nI i) (nI (pK P i)) else (0, sAcc u (nI (pN P i)))
def xThrow (P : PR) (i : Nat) (u : RS) : Int32 × RS := if pK P i = 7 ∨ pK P i = 8 ∨ pK P i = 9 then xComes u (nI i) (nI (pK P i)) else if pK P i = 10 then xOwn u (nI i) (nI (pN P i)) else (0, u)
def xKeep (P : PR) (i : Nat) (u : RS) : Int32 × RS := if isW (pV P i) 7 = true then (0, sCells u (upd (gCells u) (pV P i).toNatClampNeg (gAcc u))) else xComes u (nI i) 1
def xLoad (P : PR) (i : Nat) (u : RS) : Int32 × RS := if isW (pV P i) 7 = true then (0, sAcc u (gCells u (pV P i).toNatClampNeg)) else xComes u (nI i) 1
def xDiv (P : PR) (i : Nat) (u : RS) : Int32 × RS := if pV P i = 0 then xComes u (nI i) 0 else (0, sAcc u (gAcc u / pV P i))
def xRem (P : PR) (i : Nat) (u : RS) : Int32 × RS := if pV P i = 0 then xComes u (nI i) 0 else (0, sAcc u (gAcc u - gAcc u / pV P i * pV P i))
def xAct (f : Nat → Nat → RS → Int32 × RS) (P : PR) (i e : Nat) (u : RS) : Int32 × RS := match P.1 i with
  | 0 => (0, sAcc u (gAcc u + pV P i))
  | 1 => (0, sAcc u (gAcc u * pV P i))
  | 2 => xDiv P i u
  | 3 => xRem P i u
  | 4 => xLoad P i u
  | 5 => xKeep P i u
  | 6 => xBreak P i u
  | 7 => xThrow P i u
  | 8 => (0, sMark u true)
  | 9 => (0, sMark (sAcc u (bI (gMark u))) false)
  | 10 => xCatch P i (f (i + 1) e u)
  | 11 => xFinally (f (i + 1) e u)
  | 12 => xDrop (f (i + 1) e u)
  | 13 => xLet P i (f (i + 1) e (xGrab P i u))
  | 14 => xRep (f (i + 1) e) (pK P i) u
  | 15 => if xHeld P i u = true then (0, u) else xComes u (nI i) 6
  | 16 => if xHeld P i u = true then xSleep (nI i) u else xComes u (nI i) 6
  | 17 => xSleep (nI i) u
  | 18 => (0, sAcc u (bI (xHeld P i u)))
  | 19 => (0, sCnt u (gCnt u + (pV P i).toInt64))
  | 20 => (1, u)
  | 21 => (0, sAcc u (gName u))
  | _ => (0, u)
def xLoop (g : Nat → Nat → RS → Int32 × RS) (P : PR) (e : Nat) : Nat → Nat → RS → Int32 × RS
  | 0, _, u => (0, u)
  | n + 1, i, u => if e ≤ i then (0, u) else if 400 ≤ gSteps u then (1, u) else
      (if (g i (i + 1 + pB P i e) (sSteps u (gSteps u + 1))).1 = 0 then xLoop g P e n (i + pB P i e + 1) (g i (i + 1 + pB P i e) (sSteps u (gSteps u + 1))).2 else g i (i + 1 + pB P i e) (sSteps u (gSteps u + 1)))
/-- doActions at depth 15 - k -/
def xActs (P : PR) : Nat → Nat → Nat → RS → Int32 × RS
  | 0, _, _, u => (1, u)
  | k + 1, i, e, u => xLoop (xAct (xActs P k) P) P e (e - i) i u
def xBegin (nm : Int32) (u : RS) : RS := xForget (sHolds (sCells (sCnt (sMark (sCat (sFin (sSteps (sAcc (sName u nm) 0) 0) 0) 0) false) 0) (fun _ => 0)) (fun _ => 0))
def xRun (P : PR) (nm : Int32) (u : RS) : RS := sKnown (xActs P 15 0 P.2.2 (xBegin nm u)).2 true
def xOutcome (u : RS) : Int32 := if gTr u = -1 then 0 else 100 + gTr u
end
section
theorem ce_iR : ∀ w ∈ u_ws RRn TRn 14, w ∈ ce_W := by decide +kernel
theorem ce_iP : ∀ w ∈ u_ws RPg TPg 3, w ∈ ce_W := by decide +kernel
theorem bI_nar (b : Bool) : narrow .boolean (.int (bI b)) = .int (bI b) := by cases b <;> rfl
theorem bI_fit (b : Bool) : fits .boolean (.int (bI b)) = true := by cases b <;> rfl
-- THE WORLD OF A RUN: a 0 the Run, a 1 its Program, a 2 ops, a 3 arguments, a 4 cells, a 5 holds
def rF (a : Nat → Nat) (u : RS) : List Value := [.ref (a 1), .ref (a 4), .ref (a 5), .int (bI (gKnown u)), .int (gName u), .int (gAcc u), .int (gSteps u), .int (gFin u), .int (gCat u), .int (bI (gMark u)), .long (gCnt u), .int (gTr u), .int (gTa u), .int (gOwn u)]
def wP (a : Nat → Nat) (cI : ClassId) (P : PR) : va_W := [(a 1, .inr (0, [.ref (a 2), .ref (a 3), .int (nI P.2.2)])), (a 2, .inl (cI, 14, .inl (fun i => nI (P.1 i)))), (a 3, .inl (cI, 14, .inl (fun i => nI (P.2.1 i))))]
def wR (a : Nat → Nat) (cI : ClassId) (P : PR) (u : RS) : va_W := [(a 0, .inr (1, rF a u)), (a 1, .inr (0, [.ref (a 2), .ref (a 3), .int (nI P.2.2)])), (a 2, .inl (cI, 14, .inl (fun i => nI (P.1 i)))), (a 3, .inl (cI, 14, .inl (fun i => nI (P.2.1 i)))), (a 4, .inl (cI, 8, .inl (gCells u))), (a 5, .inl (cI, 2, .inl (gHolds u)))]
/-- the six are apart; which they are -/
def dR (a : Nat → Nat) : Prop := ∀ i j, i < 6 → j < 6 → a i = a j → i = j
def aR (a : Nat → Nat) : Nat → Prop := fun q => ∃ i, i < 6 ∧ q = a i
theorem wR_fst (a : Nat → Nat) (cI : ClassId) (P : PR) (u : RS) : (wR a cI P u).map Prod.fst = (List.range 6).map a := rfl
theorem dD {a : Nat → Nat} (h : dR a) (cI : ClassId) (P : PR) (u : RS) : va_D (aR a) (wR a cI P u) := by
  have key : ∀ (k : Nat) (q : Nat × va_E), (wR a cI P u)[k]? = some q → k < 6 ∧ q.1 = a k := by
    intro k q hk
    have h1 : ((wR a cI P u).map Prod.fst)[k]? = some q.1 := by rw [List.getElem?_map, hk]; rfl
    rw [wR_fst, List.getElem?_map] at h1
    cases h2 : (List.range 6)[k]? with
    | none => rw [h2] at h1; cases h1
    | some j =>
      rw [h2] at h1
      have h3 := List.getElem?_eq_some_iff.mp h2
      obtain ⟨h4, h5⟩ := h3
      rw [List.length_range] at h4
      rw [List.getElem_range] at h5
      subst h5
      exact ⟨h4, (Option.some.inj h1).symm⟩
  refine ⟨fun i j x y hi hj hxy => ?_, fun k q hk => ?_⟩
  · obtain ⟨h1, h2⟩ := key i x hi
    obtain ⟨h3, h4⟩ := key j y hj
    exact h i j h1 h3 (by rw [← h2, ← h4]; exact hxy)
  · obtain ⟨h1, h2⟩ := key k q hk
    exact ⟨k, h1, h2⟩
theorem ce_hp {D : va_G} {ws : va_W} {t : State} {H : Heap} (ht : t.heap = H) (hP : va_P D vwCl ws H) : va_P D vwCl ws t.heap := by rw [ht]; exact hP
/-- the link of the one call over the nest's border -/
def ce_N (U : State) : Prop := va_Nw (.methodLinkNest RRn 22 yEx_isWithin "CaseExecutor") U
/-- a start: these arguments, this world -/
def ce_Pc (D : va_G) (cI : ClassId) (av : List Value) (ws : va_W) : Array Value → State → Prop := va_Pc av (fun U => va_P D vwCl ws U.heap ∧ va_K D vwCl [(cI, .int)] U ∧ ce_N U)
theorem ce_blind {D : va_G} {cI : ClassId} {av : List Value} {ws : va_W} : FrameBlind (ce_Pc D cI av ws) := fun a U g mk q => ⟨q.1, q.2.1, va_K.moved (u := U) (U := U.calling g mk a) (Vm.Alike.refl U.vm) q.2.2.1, va_Nw.same rfl (u := U) (U := U.calling g mk a) rfl q.2.2.2⟩
theorem ce_at {D : va_G} {cI : ClassId} {av : List Value} {ws : va_W} {s : State} {H : Heap} (hP : va_P D vwCl ws H) (hK : va_K D vwCl [(cI, .int)] s) (hN : ce_N s) : ∀ U : State, U.heap = H → s.WarmedH U.vm → ce_Pc D cI av ws av.toArray U := fun U hU hW => ⟨rfl, by rw [hU]; exact hP, va_K.moved hW.alike hK, va_Nw.warmM hW hN⟩
section CE2
variable {p : Program} {l : Launch} {e : Env} {R : Room} {s : State} {m : MethodId} {args : Array Value} {below : List Frame} {meth : Method} {c : Code} {H : Heap} {locs : List Loc} {cells slots : Nat} {Q : State → Prop}
variable {cc : ByteArray} {pc : Nat} {ls : Array Slot} {rest : List Value} {D : va_G} {cI : ClassId} {a : Nat → Nat} {P : PR} {u u' : RS} {w0 : Cond} {H0 : Heap} {own : String} {index : Nat}
theorem ce_gR (hx : p.tables.exec = Jvm.exec) (hb : c.code = cc) (hts : ∀ w ∈ w0 :: ce_W, w.before args s = true) (hown : s.vm.findClass own = some m.cls) (hK : va_K D vwCl [(cI, .int)] s) (hP : va_P D vwCl (wR a cI P u) H) (k : Nat) (hk : k < 14) {v : Value} (hv : (rF a u)[k]? = some v) (hl : Cond.fieldLink own index RRn (TRn k).2.1 (TRn k).2.2.1 ∈ ce_W) (hs : (TRn k).1 = RRn) (hdg : decode cc pc = .ok (.getfield index, 3))
    (kk : W p l e R s m args below meth c H locs cells slots Q (F0 m (pc + 3) ls (v :: rest))) : W p l e R s m args below meth c H locs cells slots Q (F0 m pc ls (.ref (a 0) :: rest)) :=
  va_get (ci := 1) (C := RRn) (T := TRn) (N := 14) hx hb hts (fun w h => List.mem_cons_of_mem _ (ce_iR w h)) hown hK hP 0 rfl rfl k hk (hts _ (List.mem_cons_of_mem _ hl)) (fun x h => by rw [hs] at h; exact h) hv hdg kk
theorem ce_pR (hx : p.tables.exec = Jvm.exec) (hb : c.code = cc) (hts : ∀ w ∈ w0 :: ce_W, w.before args s = true) (hown : s.vm.findClass own = some m.cls) (hK : va_K D vwCl [(cI, .int)] s) (hd : dR a) (hP : va_P D vwCl (wR a cI P u) H) (hS : va_S (aR a) H0 H locs) (k : Nat) (hk : k < 14) {ty : FieldType} {v : Value} (hl : Cond.fieldLink own index RRn (TRn k).2.1 (TRn k).2.2.1 ∈ ce_W) (hs : (TRn k).1 = RRn) (hfin : (TRn k).2.2.2 = false) (hty : parseFieldDescriptor (TRn k).2.2.1 = some ty) (hn : narrow ty v = v) (hfit : fits ty v = true) (hw : (wR a cI P u).set 0 (a 0, .inr (1, (rF a u).set k v)) = wR a cI P u') (hdg : decode cc pc = .ok (.putfield index, 3))
    (kk : ∀ (H1 : Heap) (locs1 : List Loc), va_P D vwCl (wR a cI P u') H1 → va_S (aR a) H0 H1 locs1 → W p l e R s m args below meth c H1 locs1 cells slots Q (F0 m (pc + 3) ls rest)) : W p l e R s m args below meth c H locs cells slots Q (F0 m pc ls (v :: .ref (a 0) :: rest)) :=
  va_put (ci := 1) (C := RRn) (T := TRn) (N := 14) hx hb hts (fun w h => List.mem_cons_of_mem _ (ce_iR w h)) tyRn tyRn_ok nmRn hown hK hP (dD hd cI P u) hS 0 rfl rfl k hk (hts _ (List.mem_cons_of_mem _ hl)) (fun x h => by rw [hs] at h; exact h) hfin hty hn hfit hk hdg (fun H1 locs1 h1 _ h3 => kk H1 locs1 (hw ▸ h1) h3)
theorem ce_gP (hx : p.tables.exec = Jvm.exec) (hb : c.code = cc) (hts : ∀ w ∈ w0 :: ce_W, w.before args s = true) (hown : s.vm.findClass own = some m.cls) (hK : va_K D vwCl [(cI, .int)] s) (hP : va_P D vwCl (wP a cI P) H) (k : Nat) (hk : k < 3) {v : Value} (hv : ([.ref (a 2), .ref (a 3), .int (nI P.2.2)] : List Value)[k]? = some v) (hl : Cond.fieldLink own index RPg (TPg k).2.1 (TPg k).2.2.1 ∈ ce_W) (hs : (TPg k).1 = RPg) (hdg : decode cc pc = .ok (.getfield index, 3))
    (kk : W p l e R s m args below meth c H locs cells slots Q (F0 m (pc + 3) ls (v :: rest))) : W p l e R s m args below meth c H locs cells slots Q (F0 m pc ls (.ref (a 1) :: rest)) :=
  va_get (ci := 0) (C := RPg) (T := TPg) (N := 3) hx hb hts (fun w h => List.mem_cons_of_mem _ (ce_iP w h)) hown hK hP 0 rfl rfl k hk (hts _ (List.mem_cons_of_mem _ hl)) (fun x h => by rw [hs] at h; exact h) hv hdg kk
theorem ce_pKnown {x : Bool} (hx : p.tables.exec = Jvm.exec) (hb : c.code = cc) (hts : ∀ w ∈ w0 :: ce_W, w.before args s = true) (hown : s.vm.findClass own = some m.cls) (hK : va_K D vwCl [(cI, .int)] s) (hd : dR a) (hP : va_P D vwCl (wR a cI P u) H) (hS : va_S (aR a) H0 H locs) (hl : Cond.fieldLink own index RRn "known" "Z" ∈ ce_W) (hdg : decode cc pc = .ok (.putfield index, 3))
    (kk : ∀ (H1 : Heap) (locs1 : List Loc), va_P D vwCl (wR a cI P (sKnown u x)) H1 → va_S (aR a) H0 H1 locs1 → W p l e R s m args below meth c H1 locs1 cells slots Q (F0 m (pc + 3) ls rest)) : W p l e R s m args below meth c H locs cells slots Q (F0 m pc ls (.int (bI x) :: .ref (a 0) :: rest)) :=
  ce_pR (ty := .boolean) (v := .int (bI x)) (u' := sKnown u x) hx hb hts hown hK hd hP hS 3 (by decide) hl rfl rfl (by decide +kernel) (bI_nar x) (bI_fit x) rfl hdg kk
theorem ce_pName {x : Int32} (hx : p.tables.exec = Jvm.exec) (hb : c.code = cc) (hts : ∀ w ∈ w0 :: ce_W, w.before args s = true) (hown : s.vm.findClass own = some m.cls) (hK : va_K D vwCl [(cI, .int)] s) (hd : dR a) (hP : va_P D vwCl (wR a cI P u) H) (hS : va_S (aR a) H0 H locs) (hl : Cond.fieldLink own index RRn "name" "I" ∈ ce_W) (hdg : decode cc pc = .ok (.putfield index, 3))
    (kk : ∀ (H1 : Heap) (locs1 : List Loc), va_P D vwCl (wR a cI P (sName u x)) H1 → va_S (aR a) H0 H1 locs1 → W p l e R s m args below meth c H1 locs1 cells slots Q (F0 m (pc + 3) ls rest)) : W p l e R s m args below meth c H locs cells slots Q (F0 m pc ls (.int x :: .ref (a 0) :: rest)) :=
  ce_pR (ty := .int) (v := .int x) (u' := sName u x) hx hb hts hown hK hd hP hS 4 (by decide) hl rfl rfl (by decide +kernel) rfl rfl rfl hdg kk
theorem ce_pAcc {x : Int32} (hx : p.tables.exec = Jvm.exec) (hb : c.code = cc) (hts : ∀ w ∈ w0 :: ce_W, w.before args s = true) (hown : s.vm.findClass own = some m.cls) (hK : va_K D vwCl [(cI, .int)] s) (hd : dR a) (hP : va_P D vwCl (wR a cI P u) H) (hS : va_S (aR a) H0 H locs) (hl : Cond.fieldLink own index RRn "accumulator" "I" ∈ ce_W) (hdg : decode cc pc = .ok (.putfield index, 3))
    (kk : ∀ (H1 : Heap) (locs1 : List Loc), va_P D vwCl (wR a cI P (sAcc u x)) H1 → va_S (aR a) H0 H1 locs1 → W p l e R s m args below meth c H1 locs1 cells slots Q (F0 m (pc + 3) ls rest)) : W p l e R s m args below meth c H locs cells slots Q (F0 m pc ls (.int x :: .ref (a 0) :: rest)) :=
  ce_pR (ty := .int) (v := .int x) (u' := sAcc u x) hx hb hts hown hK hd hP hS 5 (by decide) hl rfl rfl (by decide +kernel) rfl rfl rfl hdg kk
theorem ce_pSteps {x : Int32} (hx : p.tables.exec = Jvm.exec) (hb : c.code = cc) (hts : ∀ w ∈ w0 :: ce_W, w.before args s = true) (hown : s.vm.findClass own = some m.cls) (hK : va_K D vwCl [(cI, .int)] s) (hd : dR a) (hP : va_P D vwCl (wR a cI P u) H) (hS : va_S (aR a) H0 H locs) (hl : Cond.fieldLink own index RRn "steps" "I" ∈ ce_W) (hdg : decode cc pc = .ok (.putfield index, 3))
    (kk : ∀ (H1 : Heap) (locs1 : List Loc), va_P D vwCl (wR a cI P (sSteps u x)) H1 → va_S (aR a) H0 H1 locs1 → W p l e R s m args below meth c H1 locs1 cells slots Q (F0 m (pc + 3) ls rest)) : W p l e R s m args below meth c H locs cells slots Q (F0 m pc ls (.int x :: .ref (a 0) :: rest)) :=
  ce_pR (ty := .int) (v := .int x) (u' := sSteps u x) hx hb hts hown hK hd hP hS 6 (by decide) hl rfl rfl (by decide +kernel) rfl rfl rfl hdg kk
theorem ce_pFin {x : Int32} (hx : p.tables.exec = Jvm.exec) (hb : c.code = cc) (hts : ∀ w ∈ w0 :: ce_W, w.before args s = true) (hown : s.vm.findClass own = some m.cls) (hK : va_K D vwCl [(cI, .int)] s) (hd : dR a) (hP : va_P D vwCl (wR a cI P u) H) (hS : va_S (aR a) H0 H locs) (hl : Cond.fieldLink own index RRn "finals" "I" ∈ ce_W) (hdg : decode cc pc = .ok (.putfield index, 3))
    (kk : ∀ (H1 : Heap) (locs1 : List Loc), va_P D vwCl (wR a cI P (sFin u x)) H1 → va_S (aR a) H0 H1 locs1 → W p l e R s m args below meth c H1 locs1 cells slots Q (F0 m (pc + 3) ls rest)) : W p l e R s m args below meth c H locs cells slots Q (F0 m pc ls (.int x :: .ref (a 0) :: rest)) :=
  ce_pR (ty := .int) (v := .int x) (u' := sFin u x) hx hb hts hown hK hd hP hS 7 (by decide) hl rfl rfl (by decide +kernel) rfl rfl rfl hdg kk
theorem ce_pCat {x : Int32} (hx : p.tables.exec = Jvm.exec) (hb : c.code = cc) (hts : ∀ w ∈ w0 :: ce_W, w.before args s = true) (hown : s.vm.findClass own = some m.cls) (hK : va_K D vwCl [(cI, .int)] s) (hd : dR a) (hP : va_P D vwCl (wR a cI P u) H) (hS : va_S (aR a) H0 H locs) (hl : Cond.fieldLink own index RRn "catches" "I" ∈ ce_W) (hdg : decode cc pc = .ok (.putfield index, 3))
    (kk : ∀ (H1 : Heap) (locs1 : List Loc), va_P D vwCl (wR a cI P (sCat u x)) H1 → va_S (aR a) H0 H1 locs1 → W p l e R s m args below meth c H1 locs1 cells slots Q (F0 m (pc + 3) ls rest)) : W p l e R s m args below meth c H locs cells slots Q (F0 m pc ls (.int x :: .ref (a 0) :: rest)) :=
  ce_pR (ty := .int) (v := .int x) (u' := sCat u x) hx hb hts hown hK hd hP hS 8 (by decide) hl rfl rfl (by decide +kernel) rfl rfl rfl hdg kk
theorem ce_pMark {x : Bool} (hx : p.tables.exec = Jvm.exec) (hb : c.code = cc) (hts : ∀ w ∈ w0 :: ce_W, w.before args s = true) (hown : s.vm.findClass own = some m.cls) (hK : va_K D vwCl [(cI, .int)] s) (hd : dR a) (hP : va_P D vwCl (wR a cI P u) H) (hS : va_S (aR a) H0 H locs) (hl : Cond.fieldLink own index RRn "marked" "Z" ∈ ce_W) (hdg : decode cc pc = .ok (.putfield index, 3))
    (kk : ∀ (H1 : Heap) (locs1 : List Loc), va_P D vwCl (wR a cI P (sMark u x)) H1 → va_S (aR a) H0 H1 locs1 → W p l e R s m args below meth c H1 locs1 cells slots Q (F0 m (pc + 3) ls rest)) : W p l e R s m args below meth c H locs cells slots Q (F0 m pc ls (.int (bI x) :: .ref (a 0) :: rest)) :=
  ce_pR (ty := .boolean) (v := .int (bI x)) (u' := sMark u x) hx hb hts hown hK hd hP hS 9 (by decide) hl rfl rfl (by decide +kernel) (bI_nar x) (bI_fit x) rfl hdg kk
theorem ce_pCnt {x : Int64} (hx : p.tables.exec = Jvm.exec) (hb : c.code = cc) (hts : ∀ w ∈ w0 :: ce_W, w.before args s = true) (hown : s.vm.findClass own = some m.cls) (hK : va_K D vwCl [(cI, .int)] s) (hd : dR a) (hP : va_P D vwCl (wR a cI P u) H) (hS : va_S (aR a) H0 H locs) (hl : Cond.fieldLink own index RRn "counted" "J" ∈ ce_W) (hdg : decode cc pc = .ok (.putfield index, 3))
    (kk : ∀ (H1 : Heap) (locs1 : List Loc), va_P D vwCl (wR a cI P (sCnt u x)) H1 → va_S (aR a) H0 H1 locs1 → W p l e R s m args below meth c H1 locs1 cells slots Q (F0 m (pc + 3) ls rest)) : W p l e R s m args below meth c H locs cells slots Q (F0 m pc ls (.long x :: .ref (a 0) :: rest)) :=
  ce_pR (ty := .long) (v := .long x) (u' := sCnt u x) hx hb hts hown hK hd hP hS 10 (by decide) hl rfl rfl (by decide +kernel) rfl rfl rfl hdg kk
theorem ce_pTr {x : Int32} (hx : p.tables.exec = Jvm.exec) (hb : c.code = cc) (hts : ∀ w ∈ w0 :: ce_W, w.before args s = true) (hown : s.vm.findClass own = some m.cls) (hK : va_K D vwCl [(cI, .int)] s) (hd : dR a) (hP : va_P D vwCl (wR a cI P u) H) (hS : va_S (aR a) H0 H locs) (hl : Cond.fieldLink own index RRn "trouble" "I" ∈ ce_W) (hdg : decode cc pc = .ok (.putfield index, 3))
    (kk : ∀ (H1 : Heap) (locs1 : List Loc), va_P D vwCl (wR a cI P (sTr u x)) H1 → va_S (aR a) H0 H1 locs1 → W p l e R s m args below meth c H1 locs1 cells slots Q (F0 m (pc + 3) ls rest)) : W p l e R s m args below meth c H locs cells slots Q (F0 m pc ls (.int x :: .ref (a 0) :: rest)) :=
  ce_pR (ty := .int) (v := .int x) (u' := sTr u x) hx hb hts hown hK hd hP hS 11 (by decide) hl rfl rfl (by decide +kernel) rfl rfl rfl hdg kk
theorem ce_pTa {x : Int32} (hx : p.tables.exec = Jvm.exec) (hb : c.code = cc) (hts : ∀ w ∈ w0 :: ce_W, w.before args s = true) (hown : s.vm.findClass own = some m.cls) (hK : va_K D vwCl [(cI, .int)] s) (hd : dR a) (hP : va_P D vwCl (wR a cI P u) H) (hS : va_S (aR a) H0 H locs) (hl : Cond.fieldLink own index RRn "troubleAction" "I" ∈ ce_W) (hdg : decode cc pc = .ok (.putfield index, 3))
    (kk : ∀ (H1 : Heap) (locs1 : List Loc), va_P D vwCl (wR a cI P (sTa u x)) H1 → va_S (aR a) H0 H1 locs1 → W p l e R s m args below meth c H1 locs1 cells slots Q (F0 m (pc + 3) ls rest)) : W p l e R s m args below meth c H locs cells slots Q (F0 m pc ls (.int x :: .ref (a 0) :: rest)) :=
  ce_pR (ty := .int) (v := .int x) (u' := sTa u x) hx hb hts hown hK hd hP hS 12 (by decide) hl rfl rfl (by decide +kernel) rfl rfl rfl hdg kk
theorem ce_pOwn {x : Int32} (hx : p.tables.exec = Jvm.exec) (hb : c.code = cc) (hts : ∀ w ∈ w0 :: ce_W, w.before args s = true) (hown : s.vm.findClass own = some m.cls) (hK : va_K D vwCl [(cI, .int)] s) (hd : dR a) (hP : va_P D vwCl (wR a cI P u) H) (hS : va_S (aR a) H0 H locs) (hl : Cond.fieldLink own index RRn "ownNumber" "I" ∈ ce_W) (hdg : decode cc pc = .ok (.putfield index, 3))
    (kk : ∀ (H1 : Heap) (locs1 : List Loc), va_P D vwCl (wR a cI P (sOwn u x)) H1 → va_S (aR a) H0 H1 locs1 → W p l e R s m args below meth c H1 locs1 cells slots Q (F0 m (pc + 3) ls rest)) : W p l e R s m args below meth c H locs cells slots Q (F0 m pc ls (.int x :: .ref (a 0) :: rest)) :=
  ce_pR (ty := .int) (v := .int x) (u' := sOwn u x) hx hb hts hown hK hd hP hS 13 (by decide) hl rfl rfl (by decide +kernel) rfl rfl rfl hdg kk
theorem ce_ast4 (hx : p.tables.exec = Jvm.exec) (hb : c.code = cc) (hK : va_K D vwCl [(cI, .int)] s) (hd : dR a) (hP : va_P D vwCl (wR a cI P u) H) (hS : va_S (aR a) H0 H locs) {i x : Int32} (hin : vp_in i 8) (hdg : decode cc pc = .ok (.iastore, 1))
    (kk : ∀ (H1 : Heap) (locs1 : List Loc), va_P D vwCl (wR a cI P (sCells u (upd (gCells u) i.toNatClampNeg x))) H1 → va_S (aR a) H0 H1 locs1 → W p l e R s m args below meth c H1 locs1 cells slots Q (F0 m (pc + 1) ls rest)) : W p l e R s m args below meth c H locs cells slots Q (F0 m pc ls (.int x :: .int i :: .ref (a 4) :: rest)) :=
  va_iast hx hb hK hP (dD hd cI P u) hS 4 0 rfl rfl hin hdg (fun H1 locs1 h1 _ h3 => kk H1 locs1 h1 h3)
theorem ce_ast5 (hx : p.tables.exec = Jvm.exec) (hb : c.code = cc) (hK : va_K D vwCl [(cI, .int)] s) (hd : dR a) (hP : va_P D vwCl (wR a cI P u) H) (hS : va_S (aR a) H0 H locs) {i x : Int32} (hin : vp_in i 2) (hdg : decode cc pc = .ok (.iastore, 1))
    (kk : ∀ (H1 : Heap) (locs1 : List Loc), va_P D vwCl (wR a cI P (sHolds u (upd (gHolds u) i.toNatClampNeg x))) H1 → va_S (aR a) H0 H1 locs1 → W p l e R s m args below meth c H1 locs1 cells slots Q (F0 m (pc + 1) ls rest)) : W p l e R s m args below meth c H locs cells slots Q (F0 m pc ls (.int x :: .int i :: .ref (a 5) :: rest)) :=
  va_iast hx hb hK hP (dD hd cI P u) hS 5 0 rfl rfl hin hdg (fun H1 locs1 h1 _ h3 => kk H1 locs1 h1 h3)
end CE2
section CE3
variable {p : Program} {l : Launch} {e : Env} {R : Room} {s : State} {m : MethodId} {args : Array Value} {below : List Frame} {meth : Method} {c : Code} {H : Heap} {locs : List Loc} {cells slots : Nat} {Q : State → Prop}
variable {cc : ByteArray} {pc nL : Nat} {ls : Array Slot} {rest st0 : List Value} {D : va_G} {cI : ClassId} {a : Nat → Nat} {P : PR} {u : RS} {w0 : Cond} {H0 : Heap} {own : String} {index : Nat}
variable {y : MethodName} {b : ByteArray} {maxL n : Nat} {rm : Room} {As : List Value}
/-- a call of a Run's own method that answers an int -/
theorem ce_vi {post : Int32 → RS → Prop} (F : CallFix p m c cc nL s args (w0 :: ce_W) own) (hM : Met l y (ce_ws y b maxL (some .int)) rm (ce_Pc D cI (.ref (a 0) :: As) (wR a cI P u)) (va_Qi post (fun u' t => va_P D vwCl (wR a cI P u') t.heap) (aR a)) 0 0 (aR a)) (hm : ce_M y b maxL (some .int) n) (hl : Cond.methodLink own index y ∈ ce_W) (hi : Cond.instanceMethod y ∈ ce_W ∧ Cond.selects RRn y y ∈ ce_W) (hR : rm.frames + 1 ≤ R.frames ∧ 8 + (maxL + 11) + rm.locals ≤ R.locals) (hrc : rm.cells = 0 ∧ rm.slots = 0) (hK : va_K D vwCl [(cI, .int)] s) (hN : ce_N s) (hP : va_P D vwCl (wR a cI P u) H) (hS : va_S (aR a) H0 H locs) (hn : As.length = n) (hsz : ls.size = nL) (hst : st0 = As.reverse ++ .ref (a 0) :: rest) (hw : (rest.map fun v => v.category).sum ≤ 8) (hdg : decode cc pc = .ok (.invokevirtual index, 3)) (hc : cells + 0 ≤ R.cells ∧ slots + 0 ≤ R.slots)
    (kk : ∀ (r : Int32) (u' : RS) (H1 : Heap) (locs1 : List Loc), post r u' → va_P D vwCl (wR a cI P u') H1 → va_S (aR a) H0 H1 locs1 → W p l e R s m args below meth c H1 locs1 cells slots Q (F0 m (pc + 3) ls (.int r :: rest))) : W p l e R s m args below meth c H locs cells slots Q (F0 m pc ls st0) :=
  va_calli (va_runV F hM (ce_cV F.2.2.2.2 (ce_good hm.1) hm hrc.1 hrc.2 hl hi hR (ce_tl w0)) ⟨ce_blind, va_recv hK hP (ci := 1) (q0 := 0) rfl rfl, ce_at hP hK hN⟩ rfl hn hsz hst (lv_room hw) hdg hc) hS (fun _ _ h => h) (fun _ h => h) (fun r u1 t H1 locs1 ht _ hp hB _ _ hS1 => kk r u1 H1 locs1 hp (ht ▸ hB) hS1)
/-- and one that answers nothing -/
theorem ce_vv {post : RS → Prop} (F : CallFix p m c cc nL s args (w0 :: ce_W) own) (hM : Met l y (ce_ws y b maxL none) rm (ce_Pc D cI (.ref (a 0) :: As) (wR a cI P u)) (va_Qv post (fun u' t => va_P D vwCl (wR a cI P u') t.heap) (aR a)) 0 0 (aR a)) (hm : ce_M y b maxL none n) (hl : Cond.methodLink own index y ∈ ce_W) (hi : Cond.instanceMethod y ∈ ce_W ∧ Cond.selects RRn y y ∈ ce_W) (hR : rm.frames + 1 ≤ R.frames ∧ 8 + (maxL + 11) + rm.locals ≤ R.locals) (hrc : rm.cells = 0 ∧ rm.slots = 0) (hK : va_K D vwCl [(cI, .int)] s) (hN : ce_N s) (hP : va_P D vwCl (wR a cI P u) H) (hS : va_S (aR a) H0 H locs) (hn : As.length = n) (hsz : ls.size = nL) (hst : st0 = As.reverse ++ .ref (a 0) :: rest) (hw : (rest.map fun v => v.category).sum ≤ 8) (hdg : decode cc pc = .ok (.invokevirtual index, 3)) (hc : cells + 0 ≤ R.cells ∧ slots + 0 ≤ R.slots)
    (kk : ∀ (u' : RS) (H1 : Heap) (locs1 : List Loc), post u' → va_P D vwCl (wR a cI P u') H1 → va_S (aR a) H0 H1 locs1 → W p l e R s m args below meth c H1 locs1 cells slots Q (F0 m (pc + 3) ls rest)) : W p l e R s m args below meth c H locs cells slots Q (F0 m pc ls st0) :=
  va_callv (va_runV F hM (ce_cV F.2.2.2.2 (ce_good hm.1) hm hrc.1 hrc.2 hl hi hR (ce_tl w0)) ⟨ce_blind, va_recv hK hP (ci := 1) (q0 := 0) rfl rfl, ce_at hP hK hN⟩ rfl hn hsz hst (lv_room hw) hdg hc) hS (fun _ _ h => h) (fun _ h => h) (fun u1 t H1 locs1 ht _ hp hB _ _ hS1 => kk u1 H1 locs1 hp (ht ▸ hB) hS1)
/-- a call that only reads, of an object of any world -/
theorem ce_ri {ret : Option FieldType} {ws : va_W} {x ci : Nat} {r0 : vw_C} {fs : List Value} {post : Int32 → Prop} (F : CallFix p m c cc nL s args (w0 :: ce_W) own) (hM : Met l y (ce_ws y b maxL ret) rm (ce_Pc D cI (.ref x :: As) ws) (vp_Si post) 0 0 (fun _ => False)) (hm : ce_M y b maxL ret n) (hl : Cond.methodLink own index y ∈ ce_W) (hi : Cond.instanceMethod y ∈ ce_W ∧ Cond.selects r0.1 y y ∈ ce_W) (hR : rm.frames + 1 ≤ R.frames ∧ 8 + (maxL + 11) + rm.locals ≤ R.locals) (hrc : rm.cells = 0 ∧ rm.slots = 0) (hK : va_K D vwCl [(cI, .int)] s) (hN : ce_N s) (hP : va_P D vwCl ws H) (q0 : Nat) (hc0 : vwCl[ci]? = some r0) (he : ws[q0]? = some (x, .inr (ci, fs))) (hn : As.length = n) (hsz : ls.size = nL) (hst : st0 = As.reverse ++ .ref x :: rest) (hw : (rest.map fun v => v.category).sum ≤ 8) (hdg : decode cc pc = .ok (.invokevirtual index, 3)) (hc : cells + 0 ≤ R.cells ∧ slots + 0 ≤ R.slots)
    (kk : ∀ r : Int32, post r → W p l e R s m args below meth c H locs cells slots Q (F0 m (pc + 3) ls (.int r :: rest))) : W p l e R s m args below meth c H locs cells slots Q (F0 m pc ls st0) :=
  vp_callSi (va_runV F hM (ce_cV F.2.2.2.2 (ce_good hm.1) hm hrc.1 hrc.2 hl hi hR (ce_tl w0)) ⟨ce_blind, va_recv hK hP hc0 he, ce_at hP hK hN⟩ rfl hn hsz hst (lv_room hw) hdg hc).run kk
theorem ce_rl {ret : Option FieldType} {ws : va_W} {x ci : Nat} {r0 : vw_C} {fs : List Value} {post : Int64 → Prop} (F : CallFix p m c cc nL s args (w0 :: ce_W) own) (hM : Met l y (ce_ws y b maxL ret) rm (ce_Pc D cI (.ref x :: As) ws) (vp_Sl post) 0 0 (fun _ => False)) (hm : ce_M y b maxL ret n) (hl : Cond.methodLink own index y ∈ ce_W) (hi : Cond.instanceMethod y ∈ ce_W ∧ Cond.selects r0.1 y y ∈ ce_W) (hR : rm.frames + 1 ≤ R.frames ∧ 8 + (maxL + 11) + rm.locals ≤ R.locals) (hrc : rm.cells = 0 ∧ rm.slots = 0) (hK : va_K D vwCl [(cI, .int)] s) (hN : ce_N s) (hP : va_P D vwCl ws H) (q0 : Nat) (hc0 : vwCl[ci]? = some r0) (he : ws[q0]? = some (x, .inr (ci, fs))) (hn : As.length = n) (hsz : ls.size = nL) (hst : st0 = As.reverse ++ .ref x :: rest) (hw : (rest.map fun v => v.category).sum ≤ 8) (hdg : decode cc pc = .ok (.invokevirtual index, 3)) (hc : cells + 0 ≤ R.cells ∧ slots + 0 ≤ R.slots)
    (kk : ∀ r : Int64, post r → W p l e R s m args below meth c H locs cells slots Q (F0 m (pc + 3) ls (.long r :: rest))) : W p l e R s m args below meth c H locs cells slots Q (F0 m pc ls st0) :=
  vp_callSl (va_runV F hM (ce_cV F.2.2.2.2 (ce_good hm.1) hm hrc.1 hrc.2 hl hi hR (ce_tl w0)) ⟨ce_blind, va_recv hK hP hc0 he, ce_at hP hK hN⟩ rfl hn hsz hst (lv_room hw) hdg hc).run kk
/-- a static call that only counts -/
theorem ce_si {ret : Option FieldType} {ws : va_W} {post : Int32 → Prop} (F : CallFix p m c cc nL s args (w0 :: ce_W) own) (hM : Met l y (ce_ws y b maxL ret) rm (ce_Pc D cI As ws) (vp_Si post) 0 0 (fun _ => False)) (hm : ce_M y b maxL ret n) (hl : Cond.methodLink own index y ∈ ce_W) (hi : Cond.static y ∈ ce_W) (hR : rm.frames + 1 ≤ R.frames ∧ 8 + (maxL + 11) + rm.locals ≤ R.locals) (hrc : rm.cells = 0 ∧ rm.slots = 0) (hK : va_K D vwCl [(cI, .int)] s) (hN : ce_N s) (hP : va_P D vwCl ws H) (hn : As.length = n) (hsz : ls.size = nL) (hst : st0 = As.reverse ++ rest) (hw : (rest.map fun v => v.category).sum ≤ 8) (hdg : decode cc pc = .ok (.invokestatic index, 3)) (hc : cells + 0 ≤ R.cells ∧ slots + 0 ≤ R.slots)
    (kk : ∀ r : Int32, post r → W p l e R s m args below meth c H locs cells slots Q (F0 m (pc + 3) ls (.int r :: rest))) : W p l e R s m args below meth c H locs cells slots Q (F0 m pc ls st0) :=
  vp_callSi (va_runS F hM (ce_cS F.2.2.2.2 (ce_good hm.1) hm hrc.1 hrc.2 hl hi hR (ce_tl w0)) ⟨ce_blind, ce_at hP hK hN⟩ rfl hn hsz hst (lv_room hw) hdg hc).run kk
end CE3
end
section
theorem isW_neg {x y : Int32} (h : x < 0) : (0 : Int32) = bI (isW x y) := by
  have : isW x y = false := by unfold isW; exact decide_eq_false (fun q => q.1 h)
  rw [this]; rfl
theorem isW_big {x y : Int32} (h : y < x) : (0 : Int32) = bI (isW x y) := by
  have : isW x y = false := by unfold isW; exact decide_eq_false (fun q => q.2 h)
  rw [this]; rfl
theorem isW_yes {x y : Int32} (h : ¬ x < 0) (h2 : ¬ y < x) : (1 : Int32) = bI (isW x y) := by
  have : isW x y = true := by unfold isW; exact decide_eq_true ⟨h, h2⟩
  rw [this]; rfl
theorem xTakes_low {K : Nat} (h : K ≤ 10) (t : Int32) : xTakes K t = decide (t = nI K) := by
  unfold xTakes
  rw [if_neg (by omega), if_neg (by omega), if_neg (by omega), if_neg (by omega)]
set_option maxHeartbeats 4000000 in
set_option maxRecDepth 100000 in
theorem c_Ex_isWithin (l : Launch) (D : va_G) (cI : ClassId) (a : Nat → Nat) (ws : va_W) (x y : Int32) : Met l yEx_isWithin (ce_ws yEx_isWithin cEx_isWithin 2 (some .boolean)) (ce_rm 0) (ce_Pc D cI [.int x, .int y] (ws)) (vp_Si (fun r => r = bI (isW x y))) 0 0 (fun _ => False) := by
  refine Met.ofW (cc := cEx_isWithin) (maxL := 2) (ret := (some .boolean)) (by decide) rfl ?_
  intro p e s m args below meth c s₁ B hml hv
  obtain ⟨rfl, hP, hK, hN⟩ := hv
  have hx := B.exec
  have hb := B.bytes
  have hr := B.returns
  have hts := atoms_spec (ws := ce_ws yEx_isWithin cEx_isWithin 2 (some .boolean)) B.pre
  have hown : s.vm.findClass REx = some m.cls := findClass_of_methodNamed B.named
  have hlocks := B.notSynchronized
  have hl := lv_entry ([.int x, .int y]) (n := 2) (Nat.le_of_ble_eq_true rfl)
  rw [lg_entry_eq]
  generalize (lg_sl ([.int x, .int y]) ++ List.replicate (2 - (lg_sl ([.int x, .int y])).length) Slot.unset).toArray = ls at hl ⊢
  have hl : lv_has ls 2 [(0, .int x), (1, .int y)] := hl
  refine lv_iload_n hx hb dEx_isWithin_0 rfl (lv_at hl 0 rfl) ?_
  refine lv_if_lt (tgt := 13) hx hb dEx_isWithin_1 (by decide) (fun c_1 => ?_) (fun c_1 => ?_)
  · -- 1 taken
    refine lv_iconst (v := 0) hx hb dEx_isWithin_13 (by decide) ?_
    exact W.zret (v := 0) hx hb hr rfl (fun t9 ht hW => ⟨0, rfl, isW_neg c_1, ht⟩) (fun _ h => by cases h) dEx_isWithin_14
  · -- 1 not taken
    refine lv_iload_n hx hb dEx_isWithin_4 rfl (lv_at hl 0 rfl) ?_
    refine lv_iload_n hx hb dEx_isWithin_5 rfl (lv_at hl 1 rfl) ?_
    refine lv_icmp_gt (tgt := 13) hx hb dEx_isWithin_6 (by decide) (fun c_2 => ?_) (fun c_2 => ?_)
    · -- 6 taken
      refine lv_iconst (v := 0) hx hb dEx_isWithin_13 (by decide) ?_
      exact W.zret (v := 0) hx hb hr rfl (fun t9 ht hW => ⟨0, rfl, isW_big c_2, ht⟩) (fun _ h => by cases h) dEx_isWithin_14
    · -- 6 not taken
      refine lv_iconst (v := 1) hx hb dEx_isWithin_9 (by decide) ?_
      refine lv_goto (tgt := 14) hx hb dEx_isWithin_10 (by decide) ?_
      exact W.zret (v := 1) hx hb hr rfl (fun t9 ht hW => ⟨1, rfl, isW_yes c_1 c_2, ht⟩) (fun _ h => by cases h) dEx_isWithin_14
set_option maxHeartbeats 4000000 in
set_option maxRecDepth 100000 in
theorem c_Ex_isProgram (l : Launch) (D : va_G) (cI : ClassId) (a : Nat → Nat) (ws : va_W) (x : Int32) : Met l yEx_isProgram (ce_ws yEx_isProgram cEx_isProgram 1 (some .boolean)) (ce_rm 1) (ce_Pc D cI [.int x] (ws)) (vp_Si (fun r => r = bI (isW x 5))) 0 0 (fun _ => False) := by
  refine Met.ofW (cc := cEx_isProgram) (maxL := 1) (ret := (some .boolean)) (by decide) rfl ?_
  intro p e s m args below meth c s₁ B hml hv
  obtain ⟨rfl, hP, hK, hN⟩ := hv
  have hx := B.exec
  have hb := B.bytes
  have hr := B.returns
  have hts := atoms_spec (ws := ce_ws yEx_isProgram cEx_isProgram 1 (some .boolean)) B.pre
  have hown : s.vm.findClass REx = some m.cls := findClass_of_methodNamed B.named
  have hlocks := B.notSynchronized
  have hl := lv_entry ([.int x]) (n := 1) (Nat.le_of_ble_eq_true rfl)
  rw [lg_entry_eq]
  generalize (lg_sl ([.int x]) ++ List.replicate (1 - (lg_sl ([.int x])).length) Slot.unset).toArray = ls at hl ⊢
  have hl : lv_has ls 1 [(0, .int x)] := hl
  refine lv_iload_n hx hb dEx_isProgram_0 rfl (lv_at hl 0 rfl) ?_
  refine lv_iconst (v := 5) hx hb dEx_isProgram_1 (by decide) ?_
  refine ce_si (As := [.int x, .int 5]) (rest := []) ⟨hx, hb, hml, hown, hts⟩ (c_Ex_isWithin l D cI a _ x 5) mEx_isWithin lEx_29 sEx_isWithin ⟨Nat.le_of_ble_eq_true rfl, Nat.le_of_ble_eq_true rfl⟩ ⟨rfl, rfl⟩ hK hN hP rfl hl.1 rfl (Nat.le_of_ble_eq_true rfl) dEx_isProgram_2 ⟨Nat.le_of_ble_eq_true rfl, Nat.le_of_ble_eq_true rfl⟩ (fun r_1 er_1 => ?_)
  obtain rfl : r_1 = bI (isW x 5) := er_1
  exact W.zret (v := bI (isW x 5)) hx hb hr (bI_nar _) (fun t9 ht hW => ⟨bI (isW x 5), rfl, rfl, ht⟩) (fun _ h => by cases h) dEx_isProgram_5
set_option maxHeartbeats 4000000 in
set_option maxRecDepth 100000 in
theorem c_Rn_isCell (l : Launch) (D : va_G) (cI : ClassId) (a : Nat → Nat) (ws : va_W) (x : Int32) : Met l yRn_isCell (ce_ws yRn_isCell cRn_isCell 1 (some .boolean)) (ce_rm 1) (ce_Pc D cI [.int x] (ws)) (vp_Si (fun r => r = bI (isW x 7))) 0 0 (fun _ => False) := by
  refine Met.ofW (cc := cRn_isCell) (maxL := 1) (ret := (some .boolean)) (by decide) rfl ?_
  intro p e s m args below meth c s₁ B hml hv
  obtain ⟨rfl, hP, hK, hN⟩ := hv
  have hx := B.exec
  have hb := B.bytes
  have hr := B.returns
  have hts := atoms_spec (ws := ce_ws yRn_isCell cRn_isCell 1 (some .boolean)) B.pre
  have hown : s.vm.findClass RRn = some m.cls := findClass_of_methodNamed B.named
  have hlocks := B.notSynchronized
  have hl := lv_entry ([.int x]) (n := 1) (Nat.le_of_ble_eq_true rfl)
  rw [lg_entry_eq]
  generalize (lg_sl ([.int x]) ++ List.replicate (1 - (lg_sl ([.int x])).length) Slot.unset).toArray = ls at hl ⊢
  have hl : lv_has ls 1 [(0, .int x)] := hl
  refine lv_iload_n hx hb dRn_isCell_0 rfl (lv_at hl 0 rfl) ?_
  refine lv_bipush (v := 7) hx hb dRn_isCell_1 (by decide) ?_
  refine vp_callSi (va_runSN (As := [.int x, .int 7]) (rest := []) ⟨hx, hb, hml, hown, hts⟩ (c_Ex_isWithin l D cI a ws x 7) ⟨va_cnB 2 hts (ce_good mEx_isWithin.1) rfl rfl rfl hN (hts _ (List.mem_cons_of_mem _ mEx_isWithin.2.1)) mEx_isWithin.2.2 ⟨Nat.le_of_ble_eq_true rfl, Nat.le_of_ble_eq_true rfl⟩, hts _ (List.mem_cons_of_mem _ sEx_isWithin), trivial⟩ ⟨ce_blind, ce_at hP hK hN⟩ rfl rfl hl.1 rfl (lv_room (Nat.le_of_ble_eq_true rfl)) dRn_isCell_3 ⟨Nat.le_of_ble_eq_true rfl, Nat.le_of_ble_eq_true rfl⟩).run (fun r_1 er_1 => ?_)
  obtain rfl : r_1 = bI (isW x 7) := er_1
  exact W.zret (v := bI (isW x 7)) hx hb hr (bI_nar _) (fun t9 ht hW => ⟨bI (isW x 7), rfl, rfl, ht⟩) (fun _ h => by cases h) dRn_isCell_6
set_option maxHeartbeats 4000000 in
set_option maxRecDepth 100000 in
theorem c_Rn_takes (l : Launch) (D : va_G) (cI : ClassId) (a : Nat → Nat) (ws : va_W) (K : Nat) (hK16 : K < 16) (t : Int32) : Met l yRn_takes (ce_ws yRn_takes cRn_takes 2 (some .boolean)) (ce_rm 0) (ce_Pc D cI [.int (nI K), .int t] (ws)) (vp_Si (fun r => r = bI (xTakes K t))) 0 0 (fun _ => False) := by
  refine Met.ofW (cc := cRn_takes) (maxL := 2) (ret := (some .boolean)) (by decide) rfl ?_
  intro p e s m args below meth c s₁ B hml hv
  obtain ⟨rfl, hP, hK, hN⟩ := hv
  have hx := B.exec
  have hb := B.bytes
  have hr := B.returns
  have hts := atoms_spec (ws := ce_ws yRn_takes cRn_takes 2 (some .boolean)) B.pre
  have hown : s.vm.findClass RRn = some m.cls := findClass_of_methodNamed B.named
  have hlocks := B.notSynchronized
  have hl := lv_entry ([.int (nI K), .int t]) (n := 2) (Nat.le_of_ble_eq_true rfl)
  rw [lg_entry_eq]
  generalize (lg_sl ([.int (nI K), .int t]) ++ List.replicate (2 - (lg_sl ([.int (nI K), .int t])).length) Slot.unset).toArray = ls at hl ⊢
  have hl : lv_has ls 2 [(0, .int (nI K)), (1, .int t)] := hl
  refine lv_iload_n hx hb dRn_takes_0 rfl (lv_at hl 0 rfl) ?_
  rcases (show K ≤ 10 ∨ K = 11 ∨ K = 12 ∨ K = 13 ∨ K = 14 ∨ K = 15 by omega) with hk | rfl | rfl | rfl | rfl | rfl
  ·
    refine lv_tableOut (tgt := 91) hx hb dRn_takes_1 (Or.inl (by rw [nI_toInt (by omega)]; omega)) (by decide) ?_
    refine lv_iload_n hx hb dRn_takes_91 rfl (lv_at hl 1 rfl) ?_
    refine lv_iload_n hx hb dRn_takes_92 rfl (lv_at hl 0 rfl) ?_
    refine lv_icmp_ne (tgt := 100) hx hb dRn_takes_93 (by decide) (fun c_1 => ?_) (fun c_1 => ?_)
    · -- 93 taken
      refine lv_iconst (v := 0) hx hb dRn_takes_100 (by decide) ?_
      exact W.zret (v := 0) hx hb hr rfl (fun t9 ht hW => ⟨0, rfl, by rw [xTakes_low hk]; simp [bI, *], ht⟩) (fun _ h => by cases h) dRn_takes_101
    · -- 93 not taken
      refine lv_iconst (v := 1) hx hb dRn_takes_96 (by decide) ?_
      refine lv_goto (tgt := 101) hx hb dRn_takes_97 (by decide) ?_
      exact W.zret (v := 1) hx hb hr rfl (fun t9 ht hW => ⟨1, rfl, by rw [xTakes_low hk]; simp [bI, *], ht⟩) (fun _ h => by cases h) dRn_takes_101
  ·
    refine lv_tableIn (tgt := 36) hx hb dRn_takes_1 (by decide) (by decide) rfl (by decide) ?_
    refine lv_iload_n hx hb dRn_takes_36 rfl (lv_at hl 1 rfl) ?_
    refine lv_bipush (v := 7) hx hb dRn_takes_37 (by decide) ?_
    refine lv_icmp_eq (tgt := 52) hx hb dRn_takes_39 (by decide) (fun c_2 => ?_) (fun c_2 => ?_)
    · -- 39 taken
      refine lv_iconst (v := 0) hx hb dRn_takes_52 (by decide) ?_
      exact W.zret (v := 0) hx hb hr rfl (fun t9 ht hW => ⟨0, rfl, by simp [xTakes, bI, *], ht⟩) (fun _ h => by cases h) dRn_takes_53
    · -- 39 not taken
      refine lv_iload_n hx hb dRn_takes_42 rfl (lv_at hl 1 rfl) ?_
      refine lv_bipush (v := 10) hx hb dRn_takes_43 (by decide) ?_
      refine lv_icmp_eq (tgt := 52) hx hb dRn_takes_45 (by decide) (fun c_3 => ?_) (fun c_3 => ?_)
      · -- 45 taken
        refine lv_iconst (v := 0) hx hb dRn_takes_52 (by decide) ?_
        exact W.zret (v := 0) hx hb hr rfl (fun t9 ht hW => ⟨0, rfl, by simp [xTakes, bI, *], ht⟩) (fun _ h => by cases h) dRn_takes_53
      · -- 45 not taken
        refine lv_iconst (v := 1) hx hb dRn_takes_48 (by decide) ?_
        refine lv_goto (tgt := 53) hx hb dRn_takes_49 (by decide) ?_
        exact W.zret (v := 1) hx hb hr rfl (fun t9 ht hW => ⟨1, rfl, by simp [xTakes, bI, *], ht⟩) (fun _ h => by cases h) dRn_takes_53
  ·
    refine lv_tableIn (tgt := 54) hx hb dRn_takes_1 (by decide) (by decide) rfl (by decide) ?_
    refine lv_iload_n hx hb dRn_takes_54 rfl (lv_at hl 1 rfl) ?_
    refine lv_iconst (v := 1) hx hb dRn_takes_55 (by decide) ?_
    refine lv_icmp_eq (tgt := 65) hx hb dRn_takes_56 (by decide) (fun c_4 => ?_) (fun c_4 => ?_)
    · -- 56 taken
      refine lv_iconst (v := 1) hx hb dRn_takes_65 (by decide) ?_
      refine lv_goto (tgt := 70) hx hb dRn_takes_66 (by decide) ?_
      exact W.zret (v := 1) hx hb hr rfl (fun t9 ht hW => ⟨1, rfl, by simp [xTakes, bI, *], ht⟩) (fun _ h => by cases h) dRn_takes_70
    · -- 56 not taken
      refine lv_iload_n hx hb dRn_takes_59 rfl (lv_at hl 1 rfl) ?_
      refine lv_bipush (v := 9) hx hb dRn_takes_60 (by decide) ?_
      refine lv_icmp_ne (tgt := 69) hx hb dRn_takes_62 (by decide) (fun c_5 => ?_) (fun c_5 => ?_)
      · -- 62 taken
        refine lv_iconst (v := 0) hx hb dRn_takes_69 (by decide) ?_
        exact W.zret (v := 0) hx hb hr rfl (fun t9 ht hW => ⟨0, rfl, by simp [xTakes, bI, *], ht⟩) (fun _ h => by cases h) dRn_takes_70
      · -- 62 not taken
        refine lv_iconst (v := 1) hx hb dRn_takes_65 (by decide) ?_
        refine lv_goto (tgt := 70) hx hb dRn_takes_66 (by decide) ?_
        exact W.zret (v := 1) hx hb hr rfl (fun t9 ht hW => ⟨1, rfl, by simp [xTakes, bI, *], ht⟩) (fun _ h => by cases h) dRn_takes_70
  ·
    refine lv_tableIn (tgt := 71) hx hb dRn_takes_1 (by decide) (by decide) rfl (by decide) ?_
    refine lv_iload_n hx hb dRn_takes_71 rfl (lv_at hl 1 rfl) ?_
    refine lv_bipush (v := 7) hx hb dRn_takes_72 (by decide) ?_
    refine lv_icmp_eq (tgt := 83) hx hb dRn_takes_74 (by decide) (fun c_6 => ?_) (fun c_6 => ?_)
    · -- 74 taken
      refine lv_iconst (v := 1) hx hb dRn_takes_83 (by decide) ?_
      refine lv_goto (tgt := 88) hx hb dRn_takes_84 (by decide) ?_
      exact W.zret (v := 1) hx hb hr rfl (fun t9 ht hW => ⟨1, rfl, by simp [xTakes, bI, *], ht⟩) (fun _ h => by cases h) dRn_takes_88
    · -- 74 not taken
      refine lv_iload_n hx hb dRn_takes_77 rfl (lv_at hl 1 rfl) ?_
      refine lv_bipush (v := 10) hx hb dRn_takes_78 (by decide) ?_
      refine lv_icmp_ne (tgt := 87) hx hb dRn_takes_80 (by decide) (fun c_7 => ?_) (fun c_7 => ?_)
      · -- 80 taken
        refine lv_iconst (v := 0) hx hb dRn_takes_87 (by decide) ?_
        exact W.zret (v := 0) hx hb hr rfl (fun t9 ht hW => ⟨0, rfl, by simp [xTakes, bI, *], ht⟩) (fun _ h => by cases h) dRn_takes_88
      · -- 80 not taken
        refine lv_iconst (v := 1) hx hb dRn_takes_83 (by decide) ?_
        refine lv_goto (tgt := 88) hx hb dRn_takes_84 (by decide) ?_
        exact W.zret (v := 1) hx hb hr rfl (fun t9 ht hW => ⟨1, rfl, by simp [xTakes, bI, *], ht⟩) (fun _ h => by cases h) dRn_takes_88
  ·
    refine lv_tableIn (tgt := 36) hx hb dRn_takes_1 (by decide) (by decide) rfl (by decide) ?_
    refine lv_iload_n hx hb dRn_takes_36 rfl (lv_at hl 1 rfl) ?_
    refine lv_bipush (v := 7) hx hb dRn_takes_37 (by decide) ?_
    refine lv_icmp_eq (tgt := 52) hx hb dRn_takes_39 (by decide) (fun c_8 => ?_) (fun c_8 => ?_)
    · -- 39 taken
      refine lv_iconst (v := 0) hx hb dRn_takes_52 (by decide) ?_
      exact W.zret (v := 0) hx hb hr rfl (fun t9 ht hW => ⟨0, rfl, by simp [xTakes, bI, *], ht⟩) (fun _ h => by cases h) dRn_takes_53
    · -- 39 not taken
      refine lv_iload_n hx hb dRn_takes_42 rfl (lv_at hl 1 rfl) ?_
      refine lv_bipush (v := 10) hx hb dRn_takes_43 (by decide) ?_
      refine lv_icmp_eq (tgt := 52) hx hb dRn_takes_45 (by decide) (fun c_9 => ?_) (fun c_9 => ?_)
      · -- 45 taken
        refine lv_iconst (v := 0) hx hb dRn_takes_52 (by decide) ?_
        exact W.zret (v := 0) hx hb hr rfl (fun t9 ht hW => ⟨0, rfl, by simp [xTakes, bI, *], ht⟩) (fun _ h => by cases h) dRn_takes_53
      · -- 45 not taken
        refine lv_iconst (v := 1) hx hb dRn_takes_48 (by decide) ?_
        refine lv_goto (tgt := 53) hx hb dRn_takes_49 (by decide) ?_
        exact W.zret (v := 1) hx hb hr rfl (fun t9 ht hW => ⟨1, rfl, by simp [xTakes, bI, *], ht⟩) (fun _ h => by cases h) dRn_takes_53
  ·
    refine lv_tableIn (tgt := 89) hx hb dRn_takes_1 (by decide) (by decide) rfl (by decide) ?_
    refine lv_iconst (v := 1) hx hb dRn_takes_89 (by decide) ?_
    exact W.zret (v := 1) hx hb hr rfl (fun t9 ht hW => ⟨1, rfl, by simp [xTakes, bI, *], ht⟩) (fun _ h => by cases h) dRn_takes_90
end
section
theorem pB_0 {P : PR} {i : Nat} (e : Nat) (h : P.1 i < 10 ∨ 14 < P.1 i) : (0 : Int32) = nI (pB P i e) := by
  unfold pB
  rw [if_pos h]
  rfl
theorem pB_1 {P : PR} {i e : Nat} (h : ¬ P.1 i < 10) (h2 : ¬ 14 < P.1 i) (he : e - i - 1 < 14) (h8 : P.2.1 i ≤ 255) : (if nI (e - i - 1) < nI (pN P i) then nI (e - i - 1) else nI (pN P i)) = nI (pB P i e) := by
  have hN : pN P i < 16 := Nat.mod_lt _ (by decide)
  unfold pB
  rw [if_neg (show ¬ (P.1 i < 10 ∨ 14 < P.1 i) from fun q => q.elim h h2)]
  by_cases hc : e - i - 1 < pN P i
  · rw [if_pos (nI_lt hc (by omega)), Nat.min_eq_right (by omega)]
  · rw [if_neg (nI_nlt (by omega) (by omega)), Nat.min_eq_left (by omega)]
set_option maxHeartbeats 4000000 in
set_option maxRecDepth 100000 in
theorem c_Pg_size (l : Launch) (D : va_G) (cI : ClassId) (a : Nat → Nat) (P : PR) : Met l yPg_size (ce_ws yPg_size cPg_size 1 (some .int)) (ce_rm 0) (ce_Pc D cI [.ref (a 1)] (wP a cI P)) (vp_Si (fun r => r = nI P.2.2)) 0 0 (fun _ => False) := by
  refine Met.ofW (cc := cPg_size) (maxL := 1) (ret := (some .int)) (by decide) rfl ?_
  intro p e s m args below meth c s₁ B hml hv
  obtain ⟨rfl, hP, hK, hN⟩ := hv
  have hx := B.exec
  have hb := B.bytes
  have hr := B.returns
  have hts := atoms_spec (ws := ce_ws yPg_size cPg_size 1 (some .int)) B.pre
  have hown : s.vm.findClass RPg = some m.cls := findClass_of_methodNamed B.named
  have hlocks := B.notSynchronized
  have hl := lv_entry ([.ref (a 1)]) (n := 1) (Nat.le_of_ble_eq_true rfl)
  rw [lg_entry_eq]
  generalize (lg_sl ([.ref (a 1)]) ++ List.replicate (1 - (lg_sl ([.ref (a 1)])).length) Slot.unset).toArray = ls at hl ⊢
  have hl : lv_has ls 1 [(0, .ref (a 1))] := hl
  refine lv_aload_n hx hb dPg_size_0 rfl (lv_at hl 0 rfl) ?_
  refine ce_gP hx hb hts hown hK hP 2 (by decide) rfl lPg_18 rfl dPg_size_1 ?_
  exact W.iret (v := nI P.2.2) hx hb hr (fun t9 ht hW => ⟨nI P.2.2, rfl, rfl, ht⟩) (fun _ h => by cases h) dPg_size_4
set_option maxHeartbeats 4000000 in
set_option maxRecDepth 100000 in
theorem c_Pg_op (l : Launch) (D : va_G) (cI : ClassId) (a : Nat → Nat) (P : PR) (i : Nat) (hi : i < 14) : Met l yPg_op (ce_ws yPg_op cPg_op 2 (some .int)) (ce_rm 0) (ce_Pc D cI [.ref (a 1), .int (nI i)] (wP a cI P)) (vp_Si (fun r => r = nI (P.1 i))) 0 0 (fun _ => False) := by
  refine Met.ofW (cc := cPg_op) (maxL := 2) (ret := (some .int)) (by decide) rfl ?_
  intro p e s m args below meth c s₁ B hml hv
  obtain ⟨rfl, hP, hK, hN⟩ := hv
  have hx := B.exec
  have hb := B.bytes
  have hr := B.returns
  have hts := atoms_spec (ws := ce_ws yPg_op cPg_op 2 (some .int)) B.pre
  have hown : s.vm.findClass RPg = some m.cls := findClass_of_methodNamed B.named
  have hlocks := B.notSynchronized
  have hl := lv_entry ([.ref (a 1), .int (nI i)]) (n := 2) (Nat.le_of_ble_eq_true rfl)
  rw [lg_entry_eq]
  generalize (lg_sl ([.ref (a 1), .int (nI i)]) ++ List.replicate (2 - (lg_sl ([.ref (a 1), .int (nI i)])).length) Slot.unset).toArray = ls at hl ⊢
  have hl : lv_has ls 2 [(0, .ref (a 1)), (1, .int (nI i))] := hl
  refine lv_aload_n hx hb dPg_op_0 rfl (lv_at hl 0 rfl) ?_
  refine ce_gP hx hb hts hown hK hP 0 (by decide) rfl lPg_9 rfl dPg_op_1 ?_
  refine lv_iload_n hx hb dPg_op_4 rfl (lv_at hl 1 rfl) ?_
  refine va_iald hx hb hK hP 1 0 rfl rfl (vp_in_nI hi (by decide)) dPg_op_5 ?_
  refine lv_topi (fun y_1 ey_1 => ?_)
  obtain rfl : y_1 = nI (P.1 i) := ey_1.trans (congrArg (fun j => nI (P.1 j)) (nI_clamp (by omega)))
  exact W.iret (v := nI (P.1 i)) hx hb hr (fun t9 ht hW => ⟨nI (P.1 i), rfl, rfl, ht⟩) (fun _ h => by cases h) dPg_op_6
set_option maxHeartbeats 4000000 in
set_option maxRecDepth 100000 in
theorem c_Pg_value (l : Launch) (D : va_G) (cI : ClassId) (a : Nat → Nat) (P : PR) (i : Nat) (hi : i < 14) : Met l yPg_value (ce_ws yPg_value cPg_value 2 (some .int)) (ce_rm 0) (ce_Pc D cI [.ref (a 1), .int (nI i)] (wP a cI P)) (vp_Si (fun r => r = pV P i)) 0 0 (fun _ => False) := by
  refine Met.ofW (cc := cPg_value) (maxL := 2) (ret := (some .int)) (by decide) rfl ?_
  intro p e s m args below meth c s₁ B hml hv
  obtain ⟨rfl, hP, hK, hN⟩ := hv
  have hx := B.exec
  have hb := B.bytes
  have hr := B.returns
  have hts := atoms_spec (ws := ce_ws yPg_value cPg_value 2 (some .int)) B.pre
  have hown : s.vm.findClass RPg = some m.cls := findClass_of_methodNamed B.named
  have hlocks := B.notSynchronized
  have hl := lv_entry ([.ref (a 1), .int (nI i)]) (n := 2) (Nat.le_of_ble_eq_true rfl)
  rw [lg_entry_eq]
  generalize (lg_sl ([.ref (a 1), .int (nI i)]) ++ List.replicate (2 - (lg_sl ([.ref (a 1), .int (nI i)])).length) Slot.unset).toArray = ls at hl ⊢
  have hl : lv_has ls 2 [(0, .ref (a 1)), (1, .int (nI i))] := hl
  refine lv_aload_n hx hb dPg_value_0 rfl (lv_at hl 0 rfl) ?_
  refine ce_gP hx hb hts hown hK hP 1 (by decide) rfl lPg_15 rfl dPg_value_1 ?_
  refine lv_iload_n hx hb dPg_value_4 rfl (lv_at hl 1 rfl) ?_
  refine va_iald hx hb hK hP 2 0 rfl rfl (vp_in_nI hi (by decide)) dPg_value_5 ?_
  refine lv_topi (fun y_1 ey_1 => ?_)
  obtain rfl : y_1 = nI (P.2.1 i) := ey_1.trans (congrArg (fun j => nI (P.2.1 j)) (nI_clamp (by omega)))
  refine lv_bipush (v := 100) hx hb dPg_value_6 (by decide) ?_
  refine lv_isub hx hb dPg_value_8 ?_
  exact W.iret (v := (nI (P.2.1 i)) - 100) hx hb hr (fun t9 ht hW => ⟨(nI (P.2.1 i)) - 100, rfl, rfl, ht⟩) (fun _ h => by cases h) dPg_value_9
set_option maxHeartbeats 4000000 in
set_option maxRecDepth 100000 in
theorem c_Pg_low (l : Launch) (D : va_G) (cI : ClassId) (a : Nat → Nat) (P : PR) (i : Nat) (hi : i < 14) (h8 : P.2.1 i ≤ 255) : Met l yPg_low (ce_ws yPg_low cPg_low 2 (some .int)) (ce_rm 0) (ce_Pc D cI [.ref (a 1), .int (nI i)] (wP a cI P)) (vp_Si (fun r => r = nI (pN P i))) 0 0 (fun _ => False) := by
  refine Met.ofW (cc := cPg_low) (maxL := 2) (ret := (some .int)) (by decide) rfl ?_
  intro p e s m args below meth c s₁ B hml hv
  obtain ⟨rfl, hP, hK, hN⟩ := hv
  have hx := B.exec
  have hb := B.bytes
  have hr := B.returns
  have hts := atoms_spec (ws := ce_ws yPg_low cPg_low 2 (some .int)) B.pre
  have hown : s.vm.findClass RPg = some m.cls := findClass_of_methodNamed B.named
  have hlocks := B.notSynchronized
  have hl := lv_entry ([.ref (a 1), .int (nI i)]) (n := 2) (Nat.le_of_ble_eq_true rfl)
  rw [lg_entry_eq]
  generalize (lg_sl ([.ref (a 1), .int (nI i)]) ++ List.replicate (2 - (lg_sl ([.ref (a 1), .int (nI i)])).length) Slot.unset).toArray = ls at hl ⊢
  have hl : lv_has ls 2 [(0, .ref (a 1)), (1, .int (nI i))] := hl
  refine lv_aload_n hx hb dPg_low_0 rfl (lv_at hl 0 rfl) ?_
  refine ce_gP hx hb hts hown hK hP 1 (by decide) rfl lPg_15 rfl dPg_low_1 ?_
  refine lv_iload_n hx hb dPg_low_4 rfl (lv_at hl 1 rfl) ?_
  refine va_iald hx hb hK hP 2 0 rfl rfl (vp_in_nI hi (by decide)) dPg_low_5 ?_
  refine lv_topi (fun y_1 ey_1 => ?_)
  obtain rfl : y_1 = nI (P.2.1 i) := ey_1.trans (congrArg (fun j => nI (P.2.1 j)) (nI_clamp (by omega)))
  refine lv_bipush (v := 16) hx hb dPg_low_6 (by decide) ?_
  refine lv_irem hx hb dPg_low_8 (by decide) ?_
  exact W.iret (v := (nI (P.2.1 i)) - (nI (P.2.1 i)) / 16 * 16) hx hb hr (fun t9 ht hW => ⟨(nI (P.2.1 i)) - (nI (P.2.1 i)) / 16 * 16, rfl, pk_rem (d := 16) (by omega) (by decide) (by decide), ht⟩) (fun _ h => by cases h) dPg_low_9
set_option maxHeartbeats 4000000 in
set_option maxRecDepth 100000 in
theorem c_Pg_high (l : Launch) (D : va_G) (cI : ClassId) (a : Nat → Nat) (P : PR) (i : Nat) (hi : i < 14) (h8 : P.2.1 i ≤ 255) : Met l yPg_high (ce_ws yPg_high cPg_high 2 (some .int)) (ce_rm 0) (ce_Pc D cI [.ref (a 1), .int (nI i)] (wP a cI P)) (vp_Si (fun r => r = nI (pK P i))) 0 0 (fun _ => False) := by
  refine Met.ofW (cc := cPg_high) (maxL := 2) (ret := (some .int)) (by decide) rfl ?_
  intro p e s m args below meth c s₁ B hml hv
  obtain ⟨rfl, hP, hK, hN⟩ := hv
  have hx := B.exec
  have hb := B.bytes
  have hr := B.returns
  have hts := atoms_spec (ws := ce_ws yPg_high cPg_high 2 (some .int)) B.pre
  have hown : s.vm.findClass RPg = some m.cls := findClass_of_methodNamed B.named
  have hlocks := B.notSynchronized
  have hl := lv_entry ([.ref (a 1), .int (nI i)]) (n := 2) (Nat.le_of_ble_eq_true rfl)
  rw [lg_entry_eq]
  generalize (lg_sl ([.ref (a 1), .int (nI i)]) ++ List.replicate (2 - (lg_sl ([.ref (a 1), .int (nI i)])).length) Slot.unset).toArray = ls at hl ⊢
  have hl : lv_has ls 2 [(0, .ref (a 1)), (1, .int (nI i))] := hl
  refine lv_aload_n hx hb dPg_high_0 rfl (lv_at hl 0 rfl) ?_
  refine ce_gP hx hb hts hown hK hP 1 (by decide) rfl lPg_15 rfl dPg_high_1 ?_
  refine lv_iload_n hx hb dPg_high_4 rfl (lv_at hl 1 rfl) ?_
  refine va_iald hx hb hK hP 2 0 rfl rfl (vp_in_nI hi (by decide)) dPg_high_5 ?_
  refine lv_topi (fun y_1 ey_1 => ?_)
  obtain rfl : y_1 = nI (P.2.1 i) := ey_1.trans (congrArg (fun j => nI (P.2.1 j)) (nI_clamp (by omega)))
  refine lv_bipush (v := 16) hx hb dPg_high_6 (by decide) ?_
  refine lv_idiv hx hb dPg_high_8 (by decide) ?_
  exact W.iret (v := (nI (P.2.1 i)) / 16) hx hb hr (fun t9 ht hW => ⟨(nI (P.2.1 i)) / 16, rfl, pk_div (d := 16) (by omega) (by decide) (by decide), ht⟩) (fun _ h => by cases h) dPg_high_9
set_option maxHeartbeats 4000000 in
set_option maxRecDepth 100000 in
theorem c_Pg_blockLength (l : Launch) (D : va_G) (cI : ClassId) (a : Nat → Nat) (P : PR) (i z : Nat) (hie : i < z) (he : z ≤ 14) (h8 : P.2.1 i ≤ 255) (h21 : P.1 i ≤ 21) : Met l yPg_blockLength (ce_ws yPg_blockLength cPg_blockLength 3 (some .int)) (ce_rm 1) (ce_Pc D cI [.ref (a 1), .int (nI i), .int (nI z)] (wP a cI P)) (vp_Si (fun r => r = nI (pB P i z))) 0 0 (fun _ => False) := by
  refine Met.ofW (cc := cPg_blockLength) (maxL := 3) (ret := (some .int)) (by decide) rfl ?_
  intro p e s m args below meth c s₁ B hml hv
  obtain ⟨rfl, hP, hK, hN⟩ := hv
  have hx := B.exec
  have hb := B.bytes
  have hr := B.returns
  have hts := atoms_spec (ws := ce_ws yPg_blockLength cPg_blockLength 3 (some .int)) B.pre
  have hown : s.vm.findClass RPg = some m.cls := findClass_of_methodNamed B.named
  have hlocks := B.notSynchronized
  have hl := lv_entry ([.ref (a 1), .int (nI i), .int (nI z)]) (n := 3) (Nat.le_of_ble_eq_true rfl)
  rw [lg_entry_eq]
  generalize (lg_sl ([.ref (a 1), .int (nI i), .int (nI z)]) ++ List.replicate (3 - (lg_sl ([.ref (a 1), .int (nI i), .int (nI z)])).length) Slot.unset).toArray = ls at hl ⊢
  have hl : lv_has ls 3 [(0, .ref (a 1)), (1, .int (nI i)), (2, .int (nI z))] := hl
  have hi : i < 14 := by omega
  refine lv_aload_n hx hb dPg_blockLength_0 rfl (lv_at hl 0 rfl) ?_
  refine ce_gP hx hb hts hown hK hP 0 (by decide) rfl lPg_9 rfl dPg_blockLength_1 ?_
  refine lv_iload_n hx hb dPg_blockLength_4 rfl (lv_at hl 1 rfl) ?_
  refine va_iald hx hb hK hP 1 0 rfl rfl (vp_in_nI hi (by decide)) dPg_blockLength_5 ?_
  refine lv_topi (fun y_1 ey_1 => ?_)
  obtain rfl : y_1 = nI (P.1 i) := ey_1.trans (congrArg (fun j => nI (P.1 j)) (nI_clamp (by omega)))
  refine lv_bipush (v := 10) hx hb dPg_blockLength_6 (by decide) ?_
  refine lv_icmp_lt (tgt := 22) hx hb dPg_blockLength_8 (by decide) (fun c_2 => ?_) (fun c_2 => ?_)
  · -- 8 taken
    refine lv_iconst (v := 0) hx hb dPg_blockLength_22 (by decide) ?_
    exact W.iret (v := 0) hx hb hr (fun t9 ht hW => ⟨0, rfl, pB_0 z (Or.inl ((nI_ltI (b := 10) (by omega) (by decide)).mp c_2)), ht⟩) (fun _ h => by cases h) dPg_blockLength_23
  · -- 8 not taken
    refine lv_aload_n hx hb dPg_blockLength_11 rfl (lv_at hl 0 rfl) ?_
    refine ce_gP hx hb hts hown hK hP 0 (by decide) rfl lPg_9 rfl dPg_blockLength_12 ?_
    refine lv_iload_n hx hb dPg_blockLength_15 rfl (lv_at hl 1 rfl) ?_
    refine va_iald hx hb hK hP 1 0 rfl rfl (vp_in_nI hi (by decide)) dPg_blockLength_16 ?_
    refine lv_topi (fun y_3 ey_3 => ?_)
    obtain rfl : y_3 = nI (P.1 i) := ey_3.trans (congrArg (fun j => nI (P.1 j)) (nI_clamp (by omega)))
    refine lv_bipush (v := 14) hx hb dPg_blockLength_17 (by decide) ?_
    refine lv_icmp_le (tgt := 24) hx hb dPg_blockLength_19 (by decide) (fun c_4 => ?_) (fun c_4 => ?_)
    · -- 19 taken
      refine lv_aload_n hx hb dPg_blockLength_24 rfl (lv_at hl 0 rfl) ?_
      refine lv_iload_n hx hb dPg_blockLength_25 rfl (lv_at hl 1 rfl) ?_
      refine ce_ri (As := [.int (nI i)]) (rest := []) ⟨hx, hb, hml, hown, hts⟩ (c_Pg_low l D cI a P i hi h8) mPg_low lPg_24 iPg_low ⟨Nat.le_of_ble_eq_true rfl, Nat.le_of_ble_eq_true rfl⟩ ⟨rfl, rfl⟩ hK hN hP 0 rfl rfl rfl hl.1 rfl (Nat.le_of_ble_eq_true rfl) dPg_blockLength_26 ⟨Nat.le_of_ble_eq_true rfl, Nat.le_of_ble_eq_true rfl⟩ (fun r_5 er_5 => ?_)
      obtain rfl : r_5 = nI (pN P i) := er_5
      refine lv_iload_n hx hb dPg_blockLength_29 rfl (lv_at hl 2 rfl) ?_
      refine lv_iload_n hx hb dPg_blockLength_30 rfl (lv_at hl 1 rfl) ?_
      refine lv_isub hx hb dPg_blockLength_31 ?_
      refine lv_topi (fun y_6 ey_6 => ?_)
      obtain rfl : y_6 = nI (z - i) := ey_6.trans (pk_sub (by omega))
      refine lv_iconst (v := 1) hx hb dPg_blockLength_32 (by decide) ?_
      refine lv_isub hx hb dPg_blockLength_33 ?_
      refine lv_topi (fun y_7 ey_7 => ?_)
      obtain rfl : y_7 = nI (z - i - 1) := ey_7.trans (pk_sub (b := 1) (by omega))
      refine va_mmin hx hb (hml.trans hl.1.symm) hown (hts _ (List.mem_cons_of_mem _ minL)) (hts _ (List.mem_cons_of_mem _ minS)) (hts _ (List.mem_cons_of_mem _ minI)) (hts _ (List.mem_cons_of_mem _ minC)) (Nat.le_of_ble_eq_true rfl) (Nat.le_of_ble_eq_true rfl) (Nat.zero_le _) (Nat.zero_le _) dPg_blockLength_34 ?_
      exact W.iret (v := if nI (z - i - 1) < nI (pN P i) then nI (z - i - 1) else nI (pN P i)) hx hb hr (fun t9 ht hW => ⟨if nI (z - i - 1) < nI (pN P i) then nI (z - i - 1) else nI (pN P i), rfl, pB_1 (fun h => c_2 ((nI_ltI (b := 10) (by omega) (by decide)).mpr h)) (fun h => absurd ((nI_leI (b := 14) (by omega) (by decide)).mp c_4) (Nat.not_le.mpr h)) (by omega) h8, ht⟩) (fun _ h => by cases h) dPg_blockLength_37
    · -- 19 not taken
      refine lv_iconst (v := 0) hx hb dPg_blockLength_22 (by decide) ?_
      exact W.iret (v := 0) hx hb hr (fun t9 ht hW => ⟨0, rfl, pB_0 z (Or.inr (Nat.lt_of_not_le (fun h => c_4 ((nI_leI (b := 14) (by omega) (by decide)).mpr h)))), ht⟩) (fun _ h => by cases h) dPg_blockLength_23
end
section
theorem bI_one {b : Bool} (h : ¬ bI b = 0) : (1 : Int32) = bI b := by rw [bI1 h]; rfl
def xTell (u : RS) (k : Nat) : Int32 := match k with
  | 0 => xOutcome u
  | 1 => gAcc u
  | 2 => gSteps u
  | 3 => gFin u
  | 4 => gCat u
  | 5 => gTa u
  | 6 => gOwn u
  | _ => bI (gMark u)
set_option maxHeartbeats 4000000 in
set_option maxRecDepth 100000 in
theorem c_Rn_isKnown (l : Launch) (D : va_G) (cI : ClassId) (a : Nat → Nat) (hd : dR a) (P : PR) (u : RS) : Met l yRn_isKnown (ce_ws yRn_isKnown cRn_isKnown 1 (some .boolean)) (ce_rm 0) (ce_Pc D cI [.ref (a 0)] (wR a cI P u)) (vp_Si (fun r => r = bI (gKnown u))) 0 0 (fun _ => False) := by
  refine Met.ofW (cc := cRn_isKnown) (maxL := 1) (ret := (some .boolean)) (by decide) rfl ?_
  intro p e s m args below meth c s₁ B hml hv
  obtain ⟨rfl, hP, hK, hN⟩ := hv
  have hx := B.exec
  have hb := B.bytes
  have hr := B.returns
  have hts := atoms_spec (ws := ce_ws yRn_isKnown cRn_isKnown 1 (some .boolean)) B.pre
  have hown : s.vm.findClass RRn = some m.cls := findClass_of_methodNamed B.named
  have hlocks := B.notSynchronized
  have hl := lv_entry ([.ref (a 0)]) (n := 1) (Nat.le_of_ble_eq_true rfl)
  rw [lg_entry_eq]
  generalize (lg_sl ([.ref (a 0)]) ++ List.replicate (1 - (lg_sl ([.ref (a 0)])).length) Slot.unset).toArray = ls at hl ⊢
  have hl : lv_has ls 1 [(0, .ref (a 0))] := hl
  refine lv_aload_n hx hb dRn_isKnown_0 rfl (lv_at hl 0 rfl) ?_
  refine ce_gR hx hb hts hown hK hP 3 (by decide) rfl lRn_26 rfl dRn_isKnown_1 ?_
  exact W.zret (v := bI (gKnown u)) hx hb hr (bI_nar _) (fun t9 ht hW => ⟨bI (gKnown u), rfl, rfl, ht⟩) (fun _ h => by cases h) dRn_isKnown_4
set_option maxHeartbeats 4000000 in
set_option maxRecDepth 100000 in
theorem c_Rn_forget (l : Launch) (D : va_G) (cI : ClassId) (a : Nat → Nat) (hd : dR a) (P : PR) (u : RS) : Met l yRn_forget (ce_ws yRn_forget cRn_forget 1 none) (ce_rm 0) (ce_Pc D cI [.ref (a 0)] (wR a cI P u)) (va_Qv (fun u' => u' = sKnown u false) (fun u' t => va_P D vwCl (wR a cI P u') t.heap) (aR a)) 0 0 (aR a) := by
  refine Met.ofW (cc := cRn_forget) (maxL := 1) (ret := none) (by decide) rfl ?_
  intro p e s m args below meth c s₁ B hml hv
  obtain ⟨rfl, hP, hK, hN⟩ := hv
  have hx := B.exec
  have hb := B.bytes
  have hr := B.returns
  have hts := atoms_spec (ws := ce_ws yRn_forget cRn_forget 1 none) B.pre
  have hown : s.vm.findClass RRn = some m.cls := findClass_of_methodNamed B.named
  have hlocks := B.notSynchronized
  have hS : va_S (aR a) s.heap s.heap [] := va_S.rf
  have hl := lv_entry ([.ref (a 0)]) (n := 1) (Nat.le_of_ble_eq_true rfl)
  rw [lg_entry_eq]
  generalize (lg_sl ([.ref (a 0)]) ++ List.replicate (1 - (lg_sl ([.ref (a 0)])).length) Slot.unset).toArray = ls at hl ⊢
  have hl : lv_has ls 1 [(0, .ref (a 0))] := hl
  refine lv_aload_n hx hb dRn_forget_0 rfl (lv_at hl 0 rfl) ?_
  refine lv_iconst (v := 0) hx hb dRn_forget_1 (by decide) ?_
  refine ce_pKnown (x := false) hx hb hts hown hK hd hP hS lRn_26 dRn_forget_2 (fun H locs hP hS => ?_)
  exact W.vret hx hb hr (fun t9 ht hW => ⟨⟨sKnown u false, rfl, rfl, ce_hp ht hP⟩, hS.F ht⟩) hS.2.2 dRn_forget_5
set_option maxHeartbeats 4000000 in
set_option maxRecDepth 100000 in
theorem c_Rn_outcome (l : Launch) (D : va_G) (cI : ClassId) (a : Nat → Nat) (hd : dR a) (P : PR) (u : RS) : Met l yRn_outcome (ce_ws yRn_outcome cRn_outcome 1 (some .int)) (ce_rm 0) (ce_Pc D cI [.ref (a 0)] (wR a cI P u)) (vp_Si (fun r => r = xOutcome u)) 0 0 (fun _ => False) := by
  refine Met.ofW (cc := cRn_outcome) (maxL := 1) (ret := (some .int)) (by decide) rfl ?_
  intro p e s m args below meth c s₁ B hml hv
  obtain ⟨rfl, hP, hK, hN⟩ := hv
  have hx := B.exec
  have hb := B.bytes
  have hr := B.returns
  have hts := atoms_spec (ws := ce_ws yRn_outcome cRn_outcome 1 (some .int)) B.pre
  have hown : s.vm.findClass RRn = some m.cls := findClass_of_methodNamed B.named
  have hlocks := B.notSynchronized
  have hl := lv_entry ([.ref (a 0)]) (n := 1) (Nat.le_of_ble_eq_true rfl)
  rw [lg_entry_eq]
  generalize (lg_sl ([.ref (a 0)]) ++ List.replicate (1 - (lg_sl ([.ref (a 0)])).length) Slot.unset).toArray = ls at hl ⊢
  have hl : lv_has ls 1 [(0, .ref (a 0))] := hl
  refine lv_aload_n hx hb dRn_outcome_0 rfl (lv_at hl 0 rfl) ?_
  refine ce_gR hx hb hts hown hK hP 11 (by decide) rfl lRn_30 rfl dRn_outcome_1 ?_
  refine lv_iconst (v := (-1)) hx hb dRn_outcome_4 (by decide) ?_
  refine lv_icmp_ne (tgt := 12) hx hb dRn_outcome_5 (by decide) (fun c_1 => ?_) (fun c_1 => ?_)
  · -- 5 taken
    refine lv_bipush (v := 100) hx hb dRn_outcome_12 (by decide) ?_
    refine lv_aload_n hx hb dRn_outcome_14 rfl (lv_at hl 0 rfl) ?_
    refine ce_gR hx hb hts hown hK hP 11 (by decide) rfl lRn_30 rfl dRn_outcome_15 ?_
    refine lv_iadd hx hb dRn_outcome_18 ?_
    exact W.iret (v := 100 + (gTr u)) hx hb hr (fun t9 ht hW => ⟨100 + (gTr u), rfl, (if_neg c_1).symm, ht⟩) (fun _ h => by cases h) dRn_outcome_19
  · -- 5 not taken
    refine lv_iconst (v := 0) hx hb dRn_outcome_8 (by decide) ?_
    refine lv_goto (tgt := 19) hx hb dRn_outcome_9 (by decide) ?_
    exact W.iret (v := 0) hx hb hr (fun t9 ht hW => ⟨0, rfl, (if_pos c_1).symm, ht⟩) (fun _ h => by cases h) dRn_outcome_19
set_option maxHeartbeats 4000000 in
set_option maxRecDepth 100000 in
theorem c_Rn_counted (l : Launch) (D : va_G) (cI : ClassId) (a : Nat → Nat) (hd : dR a) (P : PR) (u : RS) : Met l yRn_counted (ce_ws yRn_counted cRn_counted 1 (some .long)) (ce_rm 0) (ce_Pc D cI [.ref (a 0)] (wR a cI P u)) (vp_Sl (fun r => r = gCnt u)) 0 0 (fun _ => False) := by
  refine Met.ofW (cc := cRn_counted) (maxL := 1) (ret := (some .long)) (by decide) rfl ?_
  intro p e s m args below meth c s₁ B hml hv
  obtain ⟨rfl, hP, hK, hN⟩ := hv
  have hx := B.exec
  have hb := B.bytes
  have hr := B.returns
  have hts := atoms_spec (ws := ce_ws yRn_counted cRn_counted 1 (some .long)) B.pre
  have hown : s.vm.findClass RRn = some m.cls := findClass_of_methodNamed B.named
  have hlocks := B.notSynchronized
  have hl := lv_entry ([.ref (a 0)]) (n := 1) (Nat.le_of_ble_eq_true rfl)
  rw [lg_entry_eq]
  generalize (lg_sl ([.ref (a 0)]) ++ List.replicate (1 - (lg_sl ([.ref (a 0)])).length) Slot.unset).toArray = ls at hl ⊢
  have hl : lv_has ls 1 [(0, .ref (a 0))] := hl
  refine lv_aload_n hx hb dRn_counted_0 rfl (lv_at hl 0 rfl) ?_
  refine ce_gR hx hb hts hown hK hP 10 (by decide) rfl lRn_34 rfl dRn_counted_1 ?_
  exact W.lret (v := gCnt u) hx hb hr (fun t9 ht hW => ⟨gCnt u, rfl, rfl, ht⟩) (fun _ h => by cases h) dRn_counted_4
set_option maxHeartbeats 4000000 in
set_option maxRecDepth 100000 in
theorem c_Rn_cellAtEnd (l : Launch) (D : va_G) (cI : ClassId) (a : Nat → Nat) (hd : dR a) (P : PR) (u : RS) (i : Nat) (hi : i < 8) : Met l yRn_cellAtEnd (ce_ws yRn_cellAtEnd cRn_cellAtEnd 2 (some .int)) (ce_rm 0) (ce_Pc D cI [.ref (a 0), .int (nI i)] (wR a cI P u)) (vp_Si (fun r => r = gCells u i)) 0 0 (fun _ => False) := by
  refine Met.ofW (cc := cRn_cellAtEnd) (maxL := 2) (ret := (some .int)) (by decide) rfl ?_
  intro p e s m args below meth c s₁ B hml hv
  obtain ⟨rfl, hP, hK, hN⟩ := hv
  have hx := B.exec
  have hb := B.bytes
  have hr := B.returns
  have hts := atoms_spec (ws := ce_ws yRn_cellAtEnd cRn_cellAtEnd 2 (some .int)) B.pre
  have hown : s.vm.findClass RRn = some m.cls := findClass_of_methodNamed B.named
  have hlocks := B.notSynchronized
  have hl := lv_entry ([.ref (a 0), .int (nI i)]) (n := 2) (Nat.le_of_ble_eq_true rfl)
  rw [lg_entry_eq]
  generalize (lg_sl ([.ref (a 0), .int (nI i)]) ++ List.replicate (2 - (lg_sl ([.ref (a 0), .int (nI i)])).length) Slot.unset).toArray = ls at hl ⊢
  have hl : lv_has ls 2 [(0, .ref (a 0)), (1, .int (nI i))] := hl
  refine lv_aload_n hx hb dRn_cellAtEnd_0 rfl (lv_at hl 0 rfl) ?_
  refine ce_gR hx hb hts hown hK hP 1 (by decide) rfl lRn_11 rfl dRn_cellAtEnd_1 ?_
  refine lv_iload_n hx hb dRn_cellAtEnd_4 rfl (lv_at hl 1 rfl) ?_
  refine va_iald hx hb hK hP 4 0 rfl rfl (vp_in_nI hi (by decide)) dRn_cellAtEnd_5 ?_
  refine lv_topi (fun y_1 ey_1 => ?_)
  obtain rfl : y_1 = (gCells u) i := ey_1.trans (congrArg (gCells u) (nI_clamp (by omega)))
  exact W.iret (v := (gCells u) i) hx hb hr (fun t9 ht hW => ⟨(gCells u) i, rfl, rfl, ht⟩) (fun _ h => by cases h) dRn_cellAtEnd_6
set_option maxHeartbeats 4000000 in
set_option maxRecDepth 100000 in
theorem c_Rn_tell (l : Launch) (D : va_G) (cI : ClassId) (a : Nat → Nat) (hd : dR a) (P : PR) (u : RS) (k : Nat) (hk : k < 8) : Met l yRn_tell (ce_ws yRn_tell cRn_tell 2 (some .int)) (ce_rm 1) (ce_Pc D cI [.ref (a 0), .int (nI k)] (wR a cI P u)) (vp_Si (fun r => r = xTell u k)) 0 0 (fun _ => False) := by
  refine Met.ofW (cc := cRn_tell) (maxL := 2) (ret := (some .int)) (by decide) rfl ?_
  intro p e s m args below meth c s₁ B hml hv
  obtain ⟨rfl, hP, hK, hN⟩ := hv
  have hx := B.exec
  have hb := B.bytes
  have hr := B.returns
  have hts := atoms_spec (ws := ce_ws yRn_tell cRn_tell 2 (some .int)) B.pre
  have hown : s.vm.findClass RRn = some m.cls := findClass_of_methodNamed B.named
  have hlocks := B.notSynchronized
  have hl := lv_entry ([.ref (a 0), .int (nI k)]) (n := 2) (Nat.le_of_ble_eq_true rfl)
  rw [lg_entry_eq]
  generalize (lg_sl ([.ref (a 0), .int (nI k)]) ++ List.replicate (2 - (lg_sl ([.ref (a 0), .int (nI k)])).length) Slot.unset).toArray = ls at hl ⊢
  have hl : lv_has ls 2 [(0, .ref (a 0)), (1, .int (nI k))] := hl
  refine lv_iload_n hx hb dRn_tell_0 rfl (lv_at hl 1 rfl) ?_
  rcases (show k = 0 ∨ k = 1 ∨ k = 2 ∨ k = 3 ∨ k = 4 ∨ k = 5 ∨ k = 6 ∨ k = 7 by omega) with rfl | rfl | rfl | rfl | rfl | rfl | rfl | rfl
  ·
    refine lv_tableIn (tgt := 44) hx hb dRn_tell_1 (by decide) (by decide) rfl (by decide) ?_
    refine lv_aload_n hx hb dRn_tell_44 rfl (lv_at hl 0 rfl) ?_
    refine ce_ri (As := []) (rest := []) ⟨hx, hb, hml, hown, hts⟩ (c_Rn_outcome l D cI a hd P u) mRn_outcome lRn_38 iRn_outcome ⟨Nat.le_of_ble_eq_true rfl, Nat.le_of_ble_eq_true rfl⟩ ⟨rfl, rfl⟩ hK hN hP 0 rfl rfl rfl hl.1 rfl (Nat.le_of_ble_eq_true rfl) dRn_tell_45 ⟨Nat.le_of_ble_eq_true rfl, Nat.le_of_ble_eq_true rfl⟩ (fun r_1 er_1 => ?_)
    obtain rfl : r_1 = xOutcome u := er_1
    exact W.iret (v := xOutcome u) hx hb hr (fun t9 ht hW => ⟨xOutcome u, rfl, rfl, ht⟩) (fun _ h => by cases h) dRn_tell_48
  ·
    refine lv_tableIn (tgt := 49) hx hb dRn_tell_1 (by decide) (by decide) rfl (by decide) ?_
    refine lv_aload_n hx hb dRn_tell_49 rfl (lv_at hl 0 rfl) ?_
    refine ce_gR hx hb hts hown hK hP 5 (by decide) rfl lRn_42 rfl dRn_tell_50 ?_
    exact W.iret (v := gAcc u) hx hb hr (fun t9 ht hW => ⟨gAcc u, rfl, rfl, ht⟩) (fun _ h => by cases h) dRn_tell_53
  ·
    refine lv_tableIn (tgt := 54) hx hb dRn_tell_1 (by decide) (by decide) rfl (by decide) ?_
    refine lv_aload_n hx hb dRn_tell_54 rfl (lv_at hl 0 rfl) ?_
    refine ce_gR hx hb hts hown hK hP 6 (by decide) rfl lRn_45 rfl dRn_tell_55 ?_
    exact W.iret (v := gSteps u) hx hb hr (fun t9 ht hW => ⟨gSteps u, rfl, rfl, ht⟩) (fun _ h => by cases h) dRn_tell_58
  ·
    refine lv_tableIn (tgt := 59) hx hb dRn_tell_1 (by decide) (by decide) rfl (by decide) ?_
    refine lv_aload_n hx hb dRn_tell_59 rfl (lv_at hl 0 rfl) ?_
    refine ce_gR hx hb hts hown hK hP 7 (by decide) rfl lRn_48 rfl dRn_tell_60 ?_
    exact W.iret (v := gFin u) hx hb hr (fun t9 ht hW => ⟨gFin u, rfl, rfl, ht⟩) (fun _ h => by cases h) dRn_tell_63
  ·
    refine lv_tableIn (tgt := 64) hx hb dRn_tell_1 (by decide) (by decide) rfl (by decide) ?_
    refine lv_aload_n hx hb dRn_tell_64 rfl (lv_at hl 0 rfl) ?_
    refine ce_gR hx hb hts hown hK hP 8 (by decide) rfl lRn_51 rfl dRn_tell_65 ?_
    exact W.iret (v := gCat u) hx hb hr (fun t9 ht hW => ⟨gCat u, rfl, rfl, ht⟩) (fun _ h => by cases h) dRn_tell_68
  ·
    refine lv_tableIn (tgt := 69) hx hb dRn_tell_1 (by decide) (by decide) rfl (by decide) ?_
    refine lv_aload_n hx hb dRn_tell_69 rfl (lv_at hl 0 rfl) ?_
    refine ce_gR hx hb hts hown hK hP 12 (by decide) rfl lRn_54 rfl dRn_tell_70 ?_
    exact W.iret (v := gTa u) hx hb hr (fun t9 ht hW => ⟨gTa u, rfl, rfl, ht⟩) (fun _ h => by cases h) dRn_tell_73
  ·
    refine lv_tableIn (tgt := 74) hx hb dRn_tell_1 (by decide) (by decide) rfl (by decide) ?_
    refine lv_aload_n hx hb dRn_tell_74 rfl (lv_at hl 0 rfl) ?_
    refine ce_gR hx hb hts hown hK hP 13 (by decide) rfl lRn_57 rfl dRn_tell_75 ?_
    exact W.iret (v := gOwn u) hx hb hr (fun t9 ht hW => ⟨gOwn u, rfl, rfl, ht⟩) (fun _ h => by cases h) dRn_tell_78
  ·
    refine lv_tableOut (tgt := 79) hx hb dRn_tell_1 (Or.inr (by decide)) (by decide) ?_
    refine lv_aload_n hx hb dRn_tell_79 rfl (lv_at hl 0 rfl) ?_
    refine ce_gR hx hb hts hown hK hP 9 (by decide) rfl lRn_60 rfl dRn_tell_80 ?_
    refine lv_if_eq (tgt := 90) hx hb dRn_tell_83 (by decide) (fun c_2 => ?_) (fun c_2 => ?_)
    · -- 83 taken
      refine lv_iconst (v := 0) hx hb dRn_tell_90 (by decide) ?_
      exact W.iret (v := 0) hx hb hr (fun t9 ht hW => ⟨0, rfl, c_2.symm, ht⟩) (fun _ h => by cases h) dRn_tell_91
    · -- 83 not taken
      refine lv_iconst (v := 1) hx hb dRn_tell_86 (by decide) ?_
      refine lv_goto (tgt := 91) hx hb dRn_tell_87 (by decide) ?_
      exact W.iret (v := 1) hx hb hr (fun t9 ht hW => ⟨1, rfl, bI_one c_2, ht⟩) (fun _ h => by cases h) dRn_tell_91
set_option maxHeartbeats 4000000 in
set_option maxRecDepth 100000 in
theorem c_Rn_become (l : Launch) (D : va_G) (cI : ClassId) (a : Nat → Nat) (hd : dR a) (P : PR) (u : RS) (x : Int32) : Met l yRn_become (ce_ws yRn_become cRn_become 2 (some .int)) (ce_rm 0) (ce_Pc D cI [.ref (a 0), .int x] (wR a cI P u)) (va_Qi (fun r u' => (r, u') = (0, sAcc u x)) (fun u' t => va_P D vwCl (wR a cI P u') t.heap) (aR a)) 0 0 (aR a) := by
  refine Met.ofW (cc := cRn_become) (maxL := 2) (ret := (some .int)) (by decide) rfl ?_
  intro p e s m args below meth c s₁ B hml hv
  obtain ⟨rfl, hP, hK, hN⟩ := hv
  have hx := B.exec
  have hb := B.bytes
  have hr := B.returns
  have hts := atoms_spec (ws := ce_ws yRn_become cRn_become 2 (some .int)) B.pre
  have hown : s.vm.findClass RRn = some m.cls := findClass_of_methodNamed B.named
  have hlocks := B.notSynchronized
  have hS : va_S (aR a) s.heap s.heap [] := va_S.rf
  have hl := lv_entry ([.ref (a 0), .int x]) (n := 2) (Nat.le_of_ble_eq_true rfl)
  rw [lg_entry_eq]
  generalize (lg_sl ([.ref (a 0), .int x]) ++ List.replicate (2 - (lg_sl ([.ref (a 0), .int x])).length) Slot.unset).toArray = ls at hl ⊢
  have hl : lv_has ls 2 [(0, .ref (a 0)), (1, .int x)] := hl
  refine lv_aload_n hx hb dRn_become_0 rfl (lv_at hl 0 rfl) ?_
  refine lv_iload_n hx hb dRn_become_1 rfl (lv_at hl 1 rfl) ?_
  refine ce_pAcc hx hb hts hown hK hd hP hS lRn_42 dRn_become_2 (fun H locs hP hS => ?_)
  refine lv_iconst (v := 0) hx hb dRn_become_5 (by decide) ?_
  exact W.iret (v := 0) hx hb hr (fun t9 ht hW => ⟨⟨0, sAcc u x, rfl, rfl, ce_hp ht hP⟩, hS.F ht⟩) hS.2.2 dRn_become_6
set_option maxHeartbeats 4000000 in
set_option maxRecDepth 100000 in
theorem c_Rn_comesUp (l : Launch) (D : va_G) (cI : ClassId) (a : Nat → Nat) (hd : dR a) (P : PR) (u : RS) (x t : Int32) : Met l yRn_comesUp (ce_ws yRn_comesUp cRn_comesUp 3 (some .int)) (ce_rm 0) (ce_Pc D cI [.ref (a 0), .int x, .int t] (wR a cI P u)) (va_Qi (fun r u' => (r, u') = xComes u x t) (fun u' t => va_P D vwCl (wR a cI P u') t.heap) (aR a)) 0 0 (aR a) := by
  refine Met.ofW (cc := cRn_comesUp) (maxL := 3) (ret := (some .int)) (by decide) rfl ?_
  intro p e s m args below meth c s₁ B hml hv
  obtain ⟨rfl, hP, hK, hN⟩ := hv
  have hx := B.exec
  have hb := B.bytes
  have hr := B.returns
  have hts := atoms_spec (ws := ce_ws yRn_comesUp cRn_comesUp 3 (some .int)) B.pre
  have hown : s.vm.findClass RRn = some m.cls := findClass_of_methodNamed B.named
  have hlocks := B.notSynchronized
  have hS : va_S (aR a) s.heap s.heap [] := va_S.rf
  have hl := lv_entry ([.ref (a 0), .int x, .int t]) (n := 3) (Nat.le_of_ble_eq_true rfl)
  rw [lg_entry_eq]
  generalize (lg_sl ([.ref (a 0), .int x, .int t]) ++ List.replicate (3 - (lg_sl ([.ref (a 0), .int x, .int t])).length) Slot.unset).toArray = ls at hl ⊢
  have hl : lv_has ls 3 [(0, .ref (a 0)), (1, .int x), (2, .int t)] := hl
  refine lv_aload_n hx hb dRn_comesUp_0 rfl (lv_at hl 0 rfl) ?_
  refine lv_iload_n hx hb dRn_comesUp_1 rfl (lv_at hl 2 rfl) ?_
  refine ce_pTr hx hb hts hown hK hd hP hS lRn_30 dRn_comesUp_2 (fun H locs hP hS => ?_)
  refine lv_aload_n hx hb dRn_comesUp_5 rfl (lv_at hl 0 rfl) ?_
  refine lv_iload_n hx hb dRn_comesUp_6 rfl (lv_at hl 1 rfl) ?_
  refine ce_pTa hx hb hts hown hK hd hP hS lRn_54 dRn_comesUp_7 (fun H locs hP hS => ?_)
  refine lv_aload_n hx hb dRn_comesUp_10 rfl (lv_at hl 0 rfl) ?_
  refine lv_iconst (v := (-1)) hx hb dRn_comesUp_11 (by decide) ?_
  refine ce_pOwn hx hb hts hown hK hd hP hS lRn_57 dRn_comesUp_12 (fun H locs hP hS => ?_)
  refine lv_iconst (v := 2) hx hb dRn_comesUp_15 (by decide) ?_
  exact W.iret (v := 2) hx hb hr (fun t9 ht hW => ⟨⟨2, sOwn (sTa (sTr u t) x) (-1), rfl, rfl, ce_hp ht hP⟩, hS.F ht⟩) hS.2.2 dRn_comesUp_16
set_option maxHeartbeats 4000000 in
set_option maxRecDepth 100000 in
theorem c_Rn_ownComesUp (l : Launch) (D : va_G) (cI : ClassId) (a : Nat → Nat) (hd : dR a) (P : PR) (u : RS) (x t : Int32) : Met l yRn_ownComesUp (ce_ws yRn_ownComesUp cRn_ownComesUp 3 (some .int)) (ce_rm 0) (ce_Pc D cI [.ref (a 0), .int x, .int t] (wR a cI P u)) (va_Qi (fun r u' => (r, u') = xOwn u x t) (fun u' t => va_P D vwCl (wR a cI P u') t.heap) (aR a)) 0 0 (aR a) := by
  refine Met.ofW (cc := cRn_ownComesUp) (maxL := 3) (ret := (some .int)) (by decide) rfl ?_
  intro p e s m args below meth c s₁ B hml hv
  obtain ⟨rfl, hP, hK, hN⟩ := hv
  have hx := B.exec
  have hb := B.bytes
  have hr := B.returns
  have hts := atoms_spec (ws := ce_ws yRn_ownComesUp cRn_ownComesUp 3 (some .int)) B.pre
  have hown : s.vm.findClass RRn = some m.cls := findClass_of_methodNamed B.named
  have hlocks := B.notSynchronized
  have hS : va_S (aR a) s.heap s.heap [] := va_S.rf
  have hl := lv_entry ([.ref (a 0), .int x, .int t]) (n := 3) (Nat.le_of_ble_eq_true rfl)
  rw [lg_entry_eq]
  generalize (lg_sl ([.ref (a 0), .int x, .int t]) ++ List.replicate (3 - (lg_sl ([.ref (a 0), .int x, .int t])).length) Slot.unset).toArray = ls at hl ⊢
  have hl : lv_has ls 3 [(0, .ref (a 0)), (1, .int x), (2, .int t)] := hl
  refine lv_aload_n hx hb dRn_ownComesUp_0 rfl (lv_at hl 0 rfl) ?_
  refine lv_bipush (v := 10) hx hb dRn_ownComesUp_1 (by decide) ?_
  refine ce_pTr hx hb hts hown hK hd hP hS lRn_30 dRn_ownComesUp_3 (fun H locs hP hS => ?_)
  refine lv_aload_n hx hb dRn_ownComesUp_6 rfl (lv_at hl 0 rfl) ?_
  refine lv_iload_n hx hb dRn_ownComesUp_7 rfl (lv_at hl 1 rfl) ?_
  refine ce_pTa hx hb hts hown hK hd hP hS lRn_54 dRn_ownComesUp_8 (fun H locs hP hS => ?_)
  refine lv_aload_n hx hb dRn_ownComesUp_11 rfl (lv_at hl 0 rfl) ?_
  refine lv_iload_n hx hb dRn_ownComesUp_12 rfl (lv_at hl 2 rfl) ?_
  refine ce_pOwn hx hb hts hown hK hd hP hS lRn_57 dRn_ownComesUp_13 (fun H locs hP hS => ?_)
  refine lv_iconst (v := 2) hx hb dRn_ownComesUp_16 (by decide) ?_
  exact W.iret (v := 2) hx hb hr (fun t9 ht hW => ⟨⟨2, sOwn (sTa (sTr u 10) x) t, rfl, rfl, ce_hp ht hP⟩, hS.F ht⟩) hS.2.2 dRn_ownComesUp_17
set_option maxHeartbeats 4000000 in
set_option maxRecDepth 100000 in
theorem c_Rn_forgetTrouble (l : Launch) (D : va_G) (cI : ClassId) (a : Nat → Nat) (hd : dR a) (P : PR) (u : RS) : Met l yRn_forgetTrouble (ce_ws yRn_forgetTrouble cRn_forgetTrouble 1 none) (ce_rm 0) (ce_Pc D cI [.ref (a 0)] (wR a cI P u)) (va_Qv (fun u' => u' = xForget u) (fun u' t => va_P D vwCl (wR a cI P u') t.heap) (aR a)) 0 0 (aR a) := by
  refine Met.ofW (cc := cRn_forgetTrouble) (maxL := 1) (ret := none) (by decide) rfl ?_
  intro p e s m args below meth c s₁ B hml hv
  obtain ⟨rfl, hP, hK, hN⟩ := hv
  have hx := B.exec
  have hb := B.bytes
  have hr := B.returns
  have hts := atoms_spec (ws := ce_ws yRn_forgetTrouble cRn_forgetTrouble 1 none) B.pre
  have hown : s.vm.findClass RRn = some m.cls := findClass_of_methodNamed B.named
  have hlocks := B.notSynchronized
  have hS : va_S (aR a) s.heap s.heap [] := va_S.rf
  have hl := lv_entry ([.ref (a 0)]) (n := 1) (Nat.le_of_ble_eq_true rfl)
  rw [lg_entry_eq]
  generalize (lg_sl ([.ref (a 0)]) ++ List.replicate (1 - (lg_sl ([.ref (a 0)])).length) Slot.unset).toArray = ls at hl ⊢
  have hl : lv_has ls 1 [(0, .ref (a 0))] := hl
  refine lv_aload_n hx hb dRn_forgetTrouble_0 rfl (lv_at hl 0 rfl) ?_
  refine lv_iconst (v := (-1)) hx hb dRn_forgetTrouble_1 (by decide) ?_
  refine ce_pTr hx hb hts hown hK hd hP hS lRn_30 dRn_forgetTrouble_2 (fun H locs hP hS => ?_)
  refine lv_aload_n hx hb dRn_forgetTrouble_5 rfl (lv_at hl 0 rfl) ?_
  refine lv_iconst (v := (-1)) hx hb dRn_forgetTrouble_6 (by decide) ?_
  refine ce_pTa hx hb hts hown hK hd hP hS lRn_54 dRn_forgetTrouble_7 (fun H locs hP hS => ?_)
  refine lv_aload_n hx hb dRn_forgetTrouble_10 rfl (lv_at hl 0 rfl) ?_
  refine lv_iconst (v := (-1)) hx hb dRn_forgetTrouble_11 (by decide) ?_
  refine ce_pOwn hx hb hts hown hK hd hP hS lRn_57 dRn_forgetTrouble_12 (fun H locs hP hS => ?_)
  exact W.vret hx hb hr (fun t9 ht hW => ⟨⟨sOwn (sTa (sTr u (-1)) (-1)) (-1), rfl, rfl, ce_hp ht hP⟩, hS.F ht⟩) hS.2.2 dRn_forgetTrouble_15
set_option maxHeartbeats 4000000 in
set_option maxRecDepth 100000 in
theorem c_Rn_doInterrupt (l : Launch) (D : va_G) (cI : ClassId) (a : Nat → Nat) (hd : dR a) (P : PR) (u : RS) : Met l yRn_doInterrupt (ce_ws yRn_doInterrupt cRn_doInterrupt 1 (some .int)) (ce_rm 0) (ce_Pc D cI [.ref (a 0)] (wR a cI P u)) (va_Qi (fun r u' => (r, u') = (0, sMark u true)) (fun u' t => va_P D vwCl (wR a cI P u') t.heap) (aR a)) 0 0 (aR a) := by
  refine Met.ofW (cc := cRn_doInterrupt) (maxL := 1) (ret := (some .int)) (by decide) rfl ?_
  intro p e s m args below meth c s₁ B hml hv
  obtain ⟨rfl, hP, hK, hN⟩ := hv
  have hx := B.exec
  have hb := B.bytes
  have hr := B.returns
  have hts := atoms_spec (ws := ce_ws yRn_doInterrupt cRn_doInterrupt 1 (some .int)) B.pre
  have hown : s.vm.findClass RRn = some m.cls := findClass_of_methodNamed B.named
  have hlocks := B.notSynchronized
  have hS : va_S (aR a) s.heap s.heap [] := va_S.rf
  have hl := lv_entry ([.ref (a 0)]) (n := 1) (Nat.le_of_ble_eq_true rfl)
  rw [lg_entry_eq]
  generalize (lg_sl ([.ref (a 0)]) ++ List.replicate (1 - (lg_sl ([.ref (a 0)])).length) Slot.unset).toArray = ls at hl ⊢
  have hl : lv_has ls 1 [(0, .ref (a 0))] := hl
  refine lv_aload_n hx hb dRn_doInterrupt_0 rfl (lv_at hl 0 rfl) ?_
  refine lv_iconst (v := 1) hx hb dRn_doInterrupt_1 (by decide) ?_
  refine ce_pMark (x := true) hx hb hts hown hK hd hP hS lRn_60 dRn_doInterrupt_2 (fun H locs hP hS => ?_)
  refine lv_iconst (v := 0) hx hb dRn_doInterrupt_5 (by decide) ?_
  exact W.iret (v := 0) hx hb hr (fun t9 ht hW => ⟨⟨0, sMark u true, rfl, rfl, ce_hp ht hP⟩, hS.F ht⟩) hS.2.2 dRn_doInterrupt_6
set_option maxHeartbeats 4000000 in
set_option maxRecDepth 100000 in
theorem c_Rn_doLook (l : Launch) (D : va_G) (cI : ClassId) (a : Nat → Nat) (hd : dR a) (P : PR) (u : RS) : Met l yRn_doLook (ce_ws yRn_doLook cRn_doLook 1 (some .int)) (ce_rm 0) (ce_Pc D cI [.ref (a 0)] (wR a cI P u)) (va_Qi (fun r u' => (r, u') = (0, sMark (sAcc u (bI (gMark u))) false)) (fun u' t => va_P D vwCl (wR a cI P u') t.heap) (aR a)) 0 0 (aR a) := by
  refine Met.ofW (cc := cRn_doLook) (maxL := 1) (ret := (some .int)) (by decide) rfl ?_
  intro p e s m args below meth c s₁ B hml hv
  obtain ⟨rfl, hP, hK, hN⟩ := hv
  have hx := B.exec
  have hb := B.bytes
  have hr := B.returns
  have hts := atoms_spec (ws := ce_ws yRn_doLook cRn_doLook 1 (some .int)) B.pre
  have hown : s.vm.findClass RRn = some m.cls := findClass_of_methodNamed B.named
  have hlocks := B.notSynchronized
  have hS : va_S (aR a) s.heap s.heap [] := va_S.rf
  have hl := lv_entry ([.ref (a 0)]) (n := 1) (Nat.le_of_ble_eq_true rfl)
  rw [lg_entry_eq]
  generalize (lg_sl ([.ref (a 0)]) ++ List.replicate (1 - (lg_sl ([.ref (a 0)])).length) Slot.unset).toArray = ls at hl ⊢
  have hl : lv_has ls 1 [(0, .ref (a 0))] := hl
  refine lv_aload_n hx hb dRn_doLook_0 rfl (lv_at hl 0 rfl) ?_
  refine lv_aload_n hx hb dRn_doLook_1 rfl (lv_at hl 0 rfl) ?_
  refine ce_gR hx hb hts hown hK hP 9 (by decide) rfl lRn_60 rfl dRn_doLook_2 ?_
  refine lv_if_eq (tgt := 12) hx hb dRn_doLook_5 (by decide) (fun c_1 => ?_) (fun c_1 => ?_)
  · -- 5 taken
    refine lv_iconst (v := 0) hx hb dRn_doLook_12 (by decide) ?_
    refine ce_pAcc hx hb hts hown hK hd hP hS lRn_42 dRn_doLook_13 (fun H locs hP hS => ?_)
    refine lv_aload_n hx hb dRn_doLook_16 rfl (lv_at hl 0 rfl) ?_
    refine lv_iconst (v := 0) hx hb dRn_doLook_17 (by decide) ?_
    refine ce_pMark (x := false) hx hb hts hown hK hd hP hS lRn_60 dRn_doLook_18 (fun H locs hP hS => ?_)
    refine lv_iconst (v := 0) hx hb dRn_doLook_21 (by decide) ?_
    exact W.iret (v := 0) hx hb hr (fun t9 ht hW => ⟨⟨0, sMark (sAcc u 0) false, rfl, by rw [c_1], ce_hp ht hP⟩, hS.F ht⟩) hS.2.2 dRn_doLook_22
  · -- 5 not taken
    refine lv_iconst (v := 1) hx hb dRn_doLook_8 (by decide) ?_
    refine lv_goto (tgt := 13) hx hb dRn_doLook_9 (by decide) ?_
    refine ce_pAcc hx hb hts hown hK hd hP hS lRn_42 dRn_doLook_13 (fun H locs hP hS => ?_)
    refine lv_aload_n hx hb dRn_doLook_16 rfl (lv_at hl 0 rfl) ?_
    refine lv_iconst (v := 0) hx hb dRn_doLook_17 (by decide) ?_
    refine ce_pMark (x := false) hx hb hts hown hK hd hP hS lRn_60 dRn_doLook_18 (fun H locs hP hS => ?_)
    refine lv_iconst (v := 0) hx hb dRn_doLook_21 (by decide) ?_
    exact W.iret (v := 0) hx hb hr (fun t9 ht hW => ⟨⟨0, sMark (sAcc u 1) false, rfl, by rw [← bI_one c_1], ce_hp ht hP⟩, hS.F ht⟩) hS.2.2 dRn_doLook_22
end
section
theorem isW_in {x : Int32} (h : isW x 7 = true) : vp_in x 8 := by
  unfold isW at h
  have h2 := of_decide_eq_true h
  rw [vp_in_iff]
  have a1 : ¬ x.toInt < 0 := fun q => h2.1 (Int32.lt_iff_toInt_lt.mpr q)
  have a2 : ¬ (7 : Int32).toInt < x.toInt := fun q => h2.2 (Int32.lt_iff_toInt_lt.mpr q)
  have a3 : (7 : Int32).toInt = 7 := rfl
  rw [a3] at a2
  omega
theorem xHeld_no {P : PR} {i : Nat} {u : RS} (h : gHolds u (pK P i % 2) ≤ 0) : (0 : Int32) = bI (xHeld P i u) := by
  have : xHeld P i u = false := by unfold xHeld; exact decide_eq_false (fun q => absurd q (Int32.not_lt.mpr h))
  rw [this]; rfl
theorem xHeld_yes {P : PR} {i : Nat} {u : RS} (h : ¬ gHolds u (pK P i % 2) ≤ 0) : (1 : Int32) = bI (xHeld P i u) := by
  have : xHeld P i u = true := by unfold xHeld; exact decide_eq_true (Int32.not_le.mp h)
  rw [this]; rfl
theorem xThrow_no {P : PR} {i : Nat} {u : RS} (h : pK P i < 7 ∨ 10 < pK P i) : ((0 : Int32), u) = xThrow P i u := by
  unfold xThrow
  rw [if_neg (by omega), if_neg (by omega)]
theorem xThrow_up {P : PR} {i : Nat} {u : RS} (h : pK P i = 7 ∨ pK P i = 8 ∨ pK P i = 9) : xComes u (nI i) (nI (pK P i)) = xThrow P i u := by
  unfold xThrow
  rw [if_pos h]
theorem xThrow_own {P : PR} {i : Nat} {u : RS} (h : pK P i = 10) : xOwn u (nI i) (nI (pN P i)) = xThrow P i u := by
  unfold xThrow
  rw [if_neg (by omega), if_pos h]
set_option maxHeartbeats 4000000 in
set_option maxRecDepth 100000 in
theorem c_Rn_isHeld (l : Launch) (D : va_G) (cI : ClassId) (a : Nat → Nat) (hd : dR a) (P : PR) (u : RS) (i : Nat) (hi : i < 14) (h8 : P.2.1 i ≤ 255) : Met l yRn_isHeld (ce_ws yRn_isHeld cRn_isHeld 2 (some .boolean)) (ce_rm 1) (ce_Pc D cI [.ref (a 0), .int (nI i)] (wR a cI P u)) (vp_Si (fun r => r = bI (xHeld P i u))) 0 0 (fun _ => False) := by
  refine Met.ofW (cc := cRn_isHeld) (maxL := 2) (ret := (some .boolean)) (by decide) rfl ?_
  intro p e s m args below meth c s₁ B hml hv
  obtain ⟨rfl, hP, hK, hN⟩ := hv
  have hx := B.exec
  have hb := B.bytes
  have hr := B.returns
  have hts := atoms_spec (ws := ce_ws yRn_isHeld cRn_isHeld 2 (some .boolean)) B.pre
  have hown : s.vm.findClass RRn = some m.cls := findClass_of_methodNamed B.named
  have hlocks := B.notSynchronized
  have hl := lv_entry ([.ref (a 0), .int (nI i)]) (n := 2) (Nat.le_of_ble_eq_true rfl)
  rw [lg_entry_eq]
  generalize (lg_sl ([.ref (a 0), .int (nI i)]) ++ List.replicate (2 - (lg_sl ([.ref (a 0), .int (nI i)])).length) Slot.unset).toArray = ls at hl ⊢
  have hl : lv_has ls 2 [(0, .ref (a 0)), (1, .int (nI i))] := hl
  have hK16 : pK P i < 16 := by unfold pK; omega
  refine lv_aload_n hx hb dRn_isHeld_0 rfl (lv_at hl 0 rfl) ?_
  refine ce_gR hx hb hts hown hK hP 2 (by decide) rfl lRn_15 rfl dRn_isHeld_1 ?_
  refine lv_aload_n hx hb dRn_isHeld_4 rfl (lv_at hl 0 rfl) ?_
  refine ce_gR hx hb hts hown hK hP 0 (by decide) rfl lRn_18 rfl dRn_isHeld_5 ?_
  refine lv_iload_n hx hb dRn_isHeld_8 rfl (lv_at hl 1 rfl) ?_
  refine ce_ri (As := [.int (nI i)]) (rest := [.ref (a 5)]) ⟨hx, hb, hml, hown, hts⟩ (c_Pg_high l D cI a P i hi h8) mPg_high lRn_145 iPg_high ⟨Nat.le_of_ble_eq_true rfl, Nat.le_of_ble_eq_true rfl⟩ ⟨rfl, rfl⟩ hK hN (hP.sub (ws' := wP a cI P) [1, 2, 3] rfl) 0 rfl rfl rfl hl.1 rfl (Nat.le_of_ble_eq_true rfl) dRn_isHeld_9 ⟨Nat.le_of_ble_eq_true rfl, Nat.le_of_ble_eq_true rfl⟩ (fun r_1 er_1 => ?_)
  obtain rfl : r_1 = nI (pK P i) := er_1
  refine lv_iconst (v := 2) hx hb dRn_isHeld_12 (by decide) ?_
  refine lv_irem hx hb dRn_isHeld_13 (by decide) ?_
  refine lv_topi (fun y_2 ey_2 => ?_)
  obtain rfl : y_2 = nI (pK P i % 2) := ey_2.trans (pk_rem (d := 2) (by omega) (by decide) (by decide))
  refine va_iald hx hb hK hP 5 0 rfl rfl (vp_in_nI (Nat.mod_lt _ (by decide)) (by decide)) dRn_isHeld_14 ?_
  refine lv_topi (fun y_3 ey_3 => ?_)
  obtain rfl : y_3 = (gHolds u) (pK P i % 2) := ey_3.trans (congrArg (gHolds u) (nI_clamp (by omega)))
  refine lv_if_le (tgt := 22) hx hb dRn_isHeld_15 (by decide) (fun c_4 => ?_) (fun c_4 => ?_)
  · -- 15 taken
    refine lv_iconst (v := 0) hx hb dRn_isHeld_22 (by decide) ?_
    exact W.zret (v := 0) hx hb hr rfl (fun t9 ht hW => ⟨0, rfl, xHeld_no c_4, ht⟩) (fun _ h => by cases h) dRn_isHeld_23
  · -- 15 not taken
    refine lv_iconst (v := 1) hx hb dRn_isHeld_18 (by decide) ?_
    refine lv_goto (tgt := 23) hx hb dRn_isHeld_19 (by decide) ?_
    exact W.zret (v := 1) hx hb hr rfl (fun t9 ht hW => ⟨1, rfl, xHeld_yes c_4, ht⟩) (fun _ h => by cases h) dRn_isHeld_23
set_option maxHeartbeats 4000000 in
set_option maxRecDepth 100000 in
theorem c_Rn_doSleep (l : Launch) (D : va_G) (cI : ClassId) (a : Nat → Nat) (hd : dR a) (P : PR) (u : RS) (x : Int32) : Met l yRn_doSleep (ce_ws yRn_doSleep cRn_doSleep 2 (some .int)) (ce_rm 1) (ce_Pc D cI [.ref (a 0), .int x] (wR a cI P u)) (va_Qi (fun r u' => (r, u') = xSleep x u) (fun u' t => va_P D vwCl (wR a cI P u') t.heap) (aR a)) 0 0 (aR a) := by
  refine Met.ofW (cc := cRn_doSleep) (maxL := 2) (ret := (some .int)) (by decide) rfl ?_
  intro p e s m args below meth c s₁ B hml hv
  obtain ⟨rfl, hP, hK, hN⟩ := hv
  have hx := B.exec
  have hb := B.bytes
  have hr := B.returns
  have hts := atoms_spec (ws := ce_ws yRn_doSleep cRn_doSleep 2 (some .int)) B.pre
  have hown : s.vm.findClass RRn = some m.cls := findClass_of_methodNamed B.named
  have hlocks := B.notSynchronized
  have hS : va_S (aR a) s.heap s.heap [] := va_S.rf
  have hl := lv_entry ([.ref (a 0), .int x]) (n := 2) (Nat.le_of_ble_eq_true rfl)
  rw [lg_entry_eq]
  generalize (lg_sl ([.ref (a 0), .int x]) ++ List.replicate (2 - (lg_sl ([.ref (a 0), .int x])).length) Slot.unset).toArray = ls at hl ⊢
  have hl : lv_has ls 2 [(0, .ref (a 0)), (1, .int x)] := hl
  refine lv_aload_n hx hb dRn_doSleep_0 rfl (lv_at hl 0 rfl) ?_
  refine ce_gR hx hb hts hown hK hP 9 (by decide) rfl lRn_60 rfl dRn_doSleep_1 ?_
  refine lv_if_ne (tgt := 9) hx hb dRn_doSleep_4 (by decide) (fun c_1 => ?_) (fun c_1 => ?_)
  · -- 4 taken
    refine lv_aload_n hx hb dRn_doSleep_9 rfl (lv_at hl 0 rfl) ?_
    refine lv_iconst (v := 0) hx hb dRn_doSleep_10 (by decide) ?_
    refine ce_pMark (x := false) hx hb hts hown hK hd hP hS lRn_60 dRn_doSleep_11 (fun H locs hP hS => ?_)
    refine lv_aload_n hx hb dRn_doSleep_14 rfl (lv_at hl 0 rfl) ?_
    refine lv_iload_n hx hb dRn_doSleep_15 rfl (lv_at hl 1 rfl) ?_
    refine lv_bipush (v := 7) hx hb dRn_doSleep_16 (by decide) ?_
    refine ce_vi (As := [.int x, .int 7]) (rest := []) ⟨hx, hb, hml, hown, hts⟩ (c_Rn_comesUp l D cI a hd P (sMark u false) x 7) mRn_comesUp lRn_99 iRn_comesUp ⟨Nat.le_of_ble_eq_true rfl, Nat.le_of_ble_eq_true rfl⟩ ⟨rfl, rfl⟩ hK hN hP hS rfl hl.1 rfl (Nat.le_of_ble_eq_true rfl) dRn_doSleep_18 ⟨Nat.le_of_ble_eq_true rfl, Nat.le_of_ble_eq_true rfl⟩ (fun r_2 u_3 H locs er_2 hP hS => ?_)
    obtain ⟨rfl, rfl⟩ := Prod.mk.inj er_2
    exact W.iret (v := 2) hx hb hr (fun t9 ht hW => ⟨⟨2, sOwn (sTa (sTr (sMark u false) 7) x) (-1), rfl, (if_pos (bI1 c_1)).symm, ce_hp ht hP⟩, hS.F ht⟩) hS.2.2 dRn_doSleep_21
  · -- 4 not taken
    refine lv_iconst (v := 0) hx hb dRn_doSleep_7 (by decide) ?_
    exact W.iret (v := 0) hx hb hr (fun t9 ht hW => ⟨⟨0, u, rfl, (if_neg (by rw [bI0 c_1]; decide)).symm, ce_hp ht hP⟩, hS.F ht⟩) hS.2.2 dRn_doSleep_8
set_option maxHeartbeats 4000000 in
set_option maxRecDepth 100000 in
theorem c_Rn_doCount (l : Launch) (D : va_G) (cI : ClassId) (a : Nat → Nat) (hd : dR a) (P : PR) (u : RS) (i : Nat) (hi : i < 14) (h8 : P.2.1 i ≤ 255) : Met l yRn_doCount (ce_ws yRn_doCount cRn_doCount 2 (some .int)) (ce_rm 1) (ce_Pc D cI [.ref (a 0), .int (nI i)] (wR a cI P u)) (va_Qi (fun r u' => (r, u') = (0, sCnt u (gCnt u + (pV P i).toInt64))) (fun u' t => va_P D vwCl (wR a cI P u') t.heap) (aR a)) 0 0 (aR a) := by
  refine Met.ofW (cc := cRn_doCount) (maxL := 2) (ret := (some .int)) (by decide) rfl ?_
  intro p e s m args below meth c s₁ B hml hv
  obtain ⟨rfl, hP, hK, hN⟩ := hv
  have hx := B.exec
  have hb := B.bytes
  have hr := B.returns
  have hts := atoms_spec (ws := ce_ws yRn_doCount cRn_doCount 2 (some .int)) B.pre
  have hown : s.vm.findClass RRn = some m.cls := findClass_of_methodNamed B.named
  have hlocks := B.notSynchronized
  have hS : va_S (aR a) s.heap s.heap [] := va_S.rf
  have hl := lv_entry ([.ref (a 0), .int (nI i)]) (n := 2) (Nat.le_of_ble_eq_true rfl)
  rw [lg_entry_eq]
  generalize (lg_sl ([.ref (a 0), .int (nI i)]) ++ List.replicate (2 - (lg_sl ([.ref (a 0), .int (nI i)])).length) Slot.unset).toArray = ls at hl ⊢
  have hl : lv_has ls 2 [(0, .ref (a 0)), (1, .int (nI i))] := hl
  refine lv_aload_n hx hb dRn_doCount_0 rfl (lv_at hl 0 rfl) ?_
  refine lv_dup hx hb dRn_doCount_1 rfl ?_
  refine ce_gR hx hb hts hown hK hP 10 (by decide) rfl lRn_34 rfl dRn_doCount_2 ?_
  refine lv_aload_n hx hb dRn_doCount_5 rfl (lv_at hl 0 rfl) ?_
  refine ce_gR hx hb hts hown hK hP 0 (by decide) rfl lRn_18 rfl dRn_doCount_6 ?_
  refine lv_iload_n hx hb dRn_doCount_9 rfl (lv_at hl 1 rfl) ?_
  refine ce_ri (As := [.int (nI i)]) (rest := [.long (gCnt u), .ref (a 0)]) ⟨hx, hb, hml, hown, hts⟩ (c_Pg_value l D cI a P i hi) mPg_value lRn_89 iPg_value ⟨Nat.le_of_ble_eq_true rfl, Nat.le_of_ble_eq_true rfl⟩ ⟨rfl, rfl⟩ hK hN (hP.sub (ws' := wP a cI P) [1, 2, 3] rfl) 0 rfl rfl rfl hl.1 rfl (Nat.le_of_ble_eq_true rfl) dRn_doCount_10 ⟨Nat.le_of_ble_eq_true rfl, Nat.le_of_ble_eq_true rfl⟩ (fun r_1 er_1 => ?_)
  obtain rfl : r_1 = pV P i := er_1
  refine lv_i2l hx hb dRn_doCount_13 rfl ?_
  refine lv_ladd hx hb dRn_doCount_14 ?_
  refine ce_pCnt hx hb hts hown hK hd hP hS lRn_34 dRn_doCount_15 (fun H locs hP hS => ?_)
  refine lv_iconst (v := 0) hx hb dRn_doCount_18 (by decide) ?_
  exact W.iret (v := 0) hx hb hr (fun t9 ht hW => ⟨⟨0, sCnt u ((gCnt u) + ((pV P i).toInt64)), rfl, rfl, ce_hp ht hP⟩, hS.F ht⟩) hS.2.2 dRn_doCount_19
set_option maxHeartbeats 4000000 in
set_option maxRecDepth 100000 in
theorem c_Rn_doKeep (l : Launch) (D : va_G) (cI : ClassId) (a : Nat → Nat) (hd : dR a) (P : PR) (u : RS) (i : Nat) (hi : i < 14) (h8 : P.2.1 i ≤ 255) : Met l yRn_doKeep (ce_ws yRn_doKeep cRn_doKeep 3 (some .int)) (ce_rm 2) (ce_Pc D cI [.ref (a 0), .int (nI i)] (wR a cI P u)) (va_Qi (fun r u' => (r, u') = xKeep P i u) (fun u' t => va_P D vwCl (wR a cI P u') t.heap) (aR a)) 0 0 (aR a) := by
  refine Met.ofW (cc := cRn_doKeep) (maxL := 3) (ret := (some .int)) (by decide) rfl ?_
  intro p e s m args below meth c s₁ B hml hv
  obtain ⟨rfl, hP, hK, hN⟩ := hv
  have hx := B.exec
  have hb := B.bytes
  have hr := B.returns
  have hts := atoms_spec (ws := ce_ws yRn_doKeep cRn_doKeep 3 (some .int)) B.pre
  have hown : s.vm.findClass RRn = some m.cls := findClass_of_methodNamed B.named
  have hlocks := B.notSynchronized
  have hS : va_S (aR a) s.heap s.heap [] := va_S.rf
  have hl := lv_entry ([.ref (a 0), .int (nI i)]) (n := 3) (Nat.le_of_ble_eq_true rfl)
  rw [lg_entry_eq]
  generalize (lg_sl ([.ref (a 0), .int (nI i)]) ++ List.replicate (3 - (lg_sl ([.ref (a 0), .int (nI i)])).length) Slot.unset).toArray = ls at hl ⊢
  have hl : lv_has ls 3 [(0, .ref (a 0)), (1, .int (nI i))] := hl
  refine lv_aload_n hx hb dRn_doKeep_0 rfl (lv_at hl 0 rfl) ?_
  refine ce_gR hx hb hts hown hK hP 0 (by decide) rfl lRn_18 rfl dRn_doKeep_1 ?_
  refine lv_iload_n hx hb dRn_doKeep_4 rfl (lv_at hl 1 rfl) ?_
  refine ce_ri (As := [.int (nI i)]) (rest := []) ⟨hx, hb, hml, hown, hts⟩ (c_Pg_value l D cI a P i hi) mPg_value lRn_89 iPg_value ⟨Nat.le_of_ble_eq_true rfl, Nat.le_of_ble_eq_true rfl⟩ ⟨rfl, rfl⟩ hK hN (hP.sub (ws' := wP a cI P) [1, 2, 3] rfl) 0 rfl rfl rfl hl.1 rfl (Nat.le_of_ble_eq_true rfl) dRn_doKeep_5 ⟨Nat.le_of_ble_eq_true rfl, Nat.le_of_ble_eq_true rfl⟩ (fun r_1 er_1 => ?_)
  obtain rfl : r_1 = pV P i := er_1
  refine lv_istore_n (lv' := [(2, .int (pV P i)), (0, .ref (a 0)), (1, .int (nI i))]) hx hb dRn_doKeep_8 rfl hl (by decide) rfl (fun ls hl => ?_)
  refine lv_iload_n hx hb dRn_doKeep_9 rfl (lv_at hl 0 rfl) ?_
  refine ce_si (As := [.int (pV P i)]) (rest := []) ⟨hx, hb, hml, hown, hts⟩ (c_Rn_isCell l D cI a _ (pV P i)) mRn_isCell lRn_102 sRn_isCell ⟨Nat.le_of_ble_eq_true rfl, Nat.le_of_ble_eq_true rfl⟩ ⟨rfl, rfl⟩ hK hN hP rfl hl.1 rfl (Nat.le_of_ble_eq_true rfl) dRn_doKeep_10 ⟨Nat.le_of_ble_eq_true rfl, Nat.le_of_ble_eq_true rfl⟩ (fun r_2 er_2 => ?_)
  obtain rfl : r_2 = bI (isW (pV P i) 7) := er_2
  refine lv_if_ne (tgt := 23) hx hb dRn_doKeep_13 (by decide) (fun c_3 => ?_) (fun c_3 => ?_)
  · -- 13 taken
    refine lv_aload_n hx hb dRn_doKeep_23 rfl (lv_at hl 1 rfl) ?_
    refine ce_gR hx hb hts hown hK hP 1 (by decide) rfl lRn_11 rfl dRn_doKeep_24 ?_
    refine lv_iload_n hx hb dRn_doKeep_27 rfl (lv_at hl 0 rfl) ?_
    refine lv_aload_n hx hb dRn_doKeep_28 rfl (lv_at hl 1 rfl) ?_
    refine ce_gR hx hb hts hown hK hP 5 (by decide) rfl lRn_42 rfl dRn_doKeep_29 ?_
    refine ce_ast4 hx hb hK hd hP hS (isW_in (bI1 c_3)) dRn_doKeep_32 (fun H locs hP hS => ?_)
    have hP : va_P D vwCl (wR a cI P (sCells u (upd (gCells u) (pV P i).toNatClampNeg (gAcc u)))) H := hP
    refine lv_iconst (v := 0) hx hb dRn_doKeep_33 (by decide) ?_
    exact W.iret (v := 0) hx hb hr (fun t9 ht hW => ⟨⟨0, sCells u (upd (gCells u) (pV P i).toNatClampNeg (gAcc u)), rfl, (if_pos (bI1 c_3)).symm, ce_hp ht hP⟩, hS.F ht⟩) hS.2.2 dRn_doKeep_34
  · -- 13 not taken
    refine lv_aload_n hx hb dRn_doKeep_16 rfl (lv_at hl 1 rfl) ?_
    refine lv_iload_n hx hb dRn_doKeep_17 rfl (lv_at hl 2 rfl) ?_
    refine lv_iconst (v := 1) hx hb dRn_doKeep_18 (by decide) ?_
    refine ce_vi (As := [.int (nI i), .int 1]) (rest := []) ⟨hx, hb, hml, hown, hts⟩ (c_Rn_comesUp l D cI a hd P u (nI i) 1) mRn_comesUp lRn_99 iRn_comesUp ⟨Nat.le_of_ble_eq_true rfl, Nat.le_of_ble_eq_true rfl⟩ ⟨rfl, rfl⟩ hK hN hP hS rfl hl.1 rfl (Nat.le_of_ble_eq_true rfl) dRn_doKeep_19 ⟨Nat.le_of_ble_eq_true rfl, Nat.le_of_ble_eq_true rfl⟩ (fun r_4 u_5 H locs er_4 hP hS => ?_)
    obtain ⟨rfl, rfl⟩ := Prod.mk.inj er_4
    exact W.iret (v := 2) hx hb hr (fun t9 ht hW => ⟨⟨2, sOwn (sTa (sTr u 1) (nI i)) (-1), rfl, (if_neg (by rw [bI0 c_3]; decide)).symm, ce_hp ht hP⟩, hS.F ht⟩) hS.2.2 dRn_doKeep_22
set_option maxHeartbeats 4000000 in
set_option maxRecDepth 100000 in
theorem c_Rn_doBreak (l : Launch) (D : va_G) (cI : ClassId) (a : Nat → Nat) (hd : dR a) (P : PR) (u : RS) (i : Nat) (hi : i < 14) (h8 : P.2.1 i ≤ 255) : Met l yRn_doBreak (ce_ws yRn_doBreak cRn_doBreak 2 (some .int)) (ce_rm 1) (ce_Pc D cI [.ref (a 0), .int (nI i)] (wR a cI P u)) (va_Qi (fun r u' => (r, u') = xBreak P i u) (fun u' t => va_P D vwCl (wR a cI P u') t.heap) (aR a)) 0 0 (aR a) := by
  refine Met.ofW (cc := cRn_doBreak) (maxL := 2) (ret := (some .int)) (by decide) rfl ?_
  intro p e s m args below meth c s₁ B hml hv
  obtain ⟨rfl, hP, hK, hN⟩ := hv
  have hx := B.exec
  have hb := B.bytes
  have hr := B.returns
  have hts := atoms_spec (ws := ce_ws yRn_doBreak cRn_doBreak 2 (some .int)) B.pre
  have hown : s.vm.findClass RRn = some m.cls := findClass_of_methodNamed B.named
  have hlocks := B.notSynchronized
  have hS : va_S (aR a) s.heap s.heap [] := va_S.rf
  have hl := lv_entry ([.ref (a 0), .int (nI i)]) (n := 2) (Nat.le_of_ble_eq_true rfl)
  rw [lg_entry_eq]
  generalize (lg_sl ([.ref (a 0), .int (nI i)]) ++ List.replicate (2 - (lg_sl ([.ref (a 0), .int (nI i)])).length) Slot.unset).toArray = ls at hl ⊢
  have hl : lv_has ls 2 [(0, .ref (a 0)), (1, .int (nI i))] := hl
  have hK16 : pK P i < 16 := by unfold pK; omega
  refine lv_aload_n hx hb dRn_doBreak_0 rfl (lv_at hl 0 rfl) ?_
  refine ce_gR hx hb hts hown hK hP 0 (by decide) rfl lRn_18 rfl dRn_doBreak_1 ?_
  refine lv_iload_n hx hb dRn_doBreak_4 rfl (lv_at hl 1 rfl) ?_
  refine ce_ri (As := [.int (nI i)]) (rest := []) ⟨hx, hb, hml, hown, hts⟩ (c_Pg_high l D cI a P i hi h8) mPg_high lRn_145 iPg_high ⟨Nat.le_of_ble_eq_true rfl, Nat.le_of_ble_eq_true rfl⟩ ⟨rfl, rfl⟩ hK hN (hP.sub (ws' := wP a cI P) [1, 2, 3] rfl) 0 rfl rfl rfl hl.1 rfl (Nat.le_of_ble_eq_true rfl) dRn_doBreak_5 ⟨Nat.le_of_ble_eq_true rfl, Nat.le_of_ble_eq_true rfl⟩ (fun r_1 er_1 => ?_)
  obtain rfl : r_1 = nI (pK P i) := er_1
  refine lv_iconst (v := 5) hx hb dRn_doBreak_8 (by decide) ?_
  refine lv_icmp_gt (tgt := 26) hx hb dRn_doBreak_9 (by decide) (fun c_2 => ?_) (fun c_2 => ?_)
  · -- 9 taken
    refine lv_aload_n hx hb dRn_doBreak_26 rfl (lv_at hl 0 rfl) ?_
    refine lv_aload_n hx hb dRn_doBreak_27 rfl (lv_at hl 0 rfl) ?_
    refine ce_gR hx hb hts hown hK hP 0 (by decide) rfl lRn_18 rfl dRn_doBreak_28 ?_
    refine lv_iload_n hx hb dRn_doBreak_31 rfl (lv_at hl 1 rfl) ?_
    refine ce_ri (As := [.int (nI i)]) (rest := [.ref (a 0)]) ⟨hx, hb, hml, hown, hts⟩ (c_Pg_low l D cI a P i hi h8) mPg_low lRn_154 iPg_low ⟨Nat.le_of_ble_eq_true rfl, Nat.le_of_ble_eq_true rfl⟩ ⟨rfl, rfl⟩ hK hN (hP.sub (ws' := wP a cI P) [1, 2, 3] rfl) 0 rfl rfl rfl hl.1 rfl (Nat.le_of_ble_eq_true rfl) dRn_doBreak_32 ⟨Nat.le_of_ble_eq_true rfl, Nat.le_of_ble_eq_true rfl⟩ (fun r_3 er_3 => ?_)
    obtain rfl : r_3 = nI (pN P i) := er_3
    refine ce_vi (As := [.int (nI (pN P i))]) (rest := []) ⟨hx, hb, hml, hown, hts⟩ (c_Rn_become l D cI a hd P u (nI (pN P i))) mRn_become lRn_96 iRn_become ⟨Nat.le_of_ble_eq_true rfl, Nat.le_of_ble_eq_true rfl⟩ ⟨rfl, rfl⟩ hK hN hP hS rfl hl.1 rfl (Nat.le_of_ble_eq_true rfl) dRn_doBreak_35 ⟨Nat.le_of_ble_eq_true rfl, Nat.le_of_ble_eq_true rfl⟩ (fun r_4 u_5 H locs er_4 hP hS => ?_)
    obtain ⟨rfl, rfl⟩ := Prod.mk.inj er_4
    exact W.iret (v := 0) hx hb hr (fun t9 ht hW => ⟨⟨0, sAcc u (nI (pN P i)), rfl, (if_neg (Nat.not_le.mpr ((nI_ltI (a := 5) (by decide) (by omega)).mp c_2))).symm, ce_hp ht hP⟩, hS.F ht⟩) hS.2.2 dRn_doBreak_38
  · -- 9 not taken
    refine lv_aload_n hx hb dRn_doBreak_12 rfl (lv_at hl 0 rfl) ?_
    refine lv_iload_n hx hb dRn_doBreak_13 rfl (lv_at hl 1 rfl) ?_
    refine lv_aload_n hx hb dRn_doBreak_14 rfl (lv_at hl 0 rfl) ?_
    refine ce_gR hx hb hts hown hK hP 0 (by decide) rfl lRn_18 rfl dRn_doBreak_15 ?_
    refine lv_iload_n hx hb dRn_doBreak_18 rfl (lv_at hl 1 rfl) ?_
    refine ce_ri (As := [.int (nI i)]) (rest := [.int (nI i), .ref (a 0)]) ⟨hx, hb, hml, hown, hts⟩ (c_Pg_high l D cI a P i hi h8) mPg_high lRn_145 iPg_high ⟨Nat.le_of_ble_eq_true rfl, Nat.le_of_ble_eq_true rfl⟩ ⟨rfl, rfl⟩ hK hN (hP.sub (ws' := wP a cI P) [1, 2, 3] rfl) 0 rfl rfl rfl hl.1 rfl (Nat.le_of_ble_eq_true rfl) dRn_doBreak_19 ⟨Nat.le_of_ble_eq_true rfl, Nat.le_of_ble_eq_true rfl⟩ (fun r_6 er_6 => ?_)
    obtain rfl : r_6 = nI (pK P i) := er_6
    refine ce_vi (As := [.int (nI i), .int (nI (pK P i))]) (rest := []) ⟨hx, hb, hml, hown, hts⟩ (c_Rn_comesUp l D cI a hd P u (nI i) (nI (pK P i))) mRn_comesUp lRn_99 iRn_comesUp ⟨Nat.le_of_ble_eq_true rfl, Nat.le_of_ble_eq_true rfl⟩ ⟨rfl, rfl⟩ hK hN hP hS rfl hl.1 rfl (Nat.le_of_ble_eq_true rfl) dRn_doBreak_22 ⟨Nat.le_of_ble_eq_true rfl, Nat.le_of_ble_eq_true rfl⟩ (fun r_7 u_8 H locs er_7 hP hS => ?_)
    obtain ⟨rfl, rfl⟩ := Prod.mk.inj er_7
    exact W.iret (v := 2) hx hb hr (fun t9 ht hW => ⟨⟨2, sOwn (sTa (sTr u (nI (pK P i))) (nI i)) (-1), rfl, (if_pos (Nat.le_of_not_lt (fun h => c_2 ((nI_ltI (a := 5) (by decide) (by omega)).mpr h)))).symm, ce_hp ht hP⟩, hS.F ht⟩) hS.2.2 dRn_doBreak_25
set_option maxHeartbeats 4000000 in
set_option maxRecDepth 100000 in
theorem c_Rn_doThrow (l : Launch) (D : va_G) (cI : ClassId) (a : Nat → Nat) (hd : dR a) (P : PR) (u : RS) (i : Nat) (hi : i < 14) (h8 : P.2.1 i ≤ 255) : Met l yRn_doThrow (ce_ws yRn_doThrow cRn_doThrow 2 (some .int)) (ce_rm 1) (ce_Pc D cI [.ref (a 0), .int (nI i)] (wR a cI P u)) (va_Qi (fun r u' => (r, u') = xThrow P i u) (fun u' t => va_P D vwCl (wR a cI P u') t.heap) (aR a)) 0 0 (aR a) := by
  refine Met.ofW (cc := cRn_doThrow) (maxL := 2) (ret := (some .int)) (by decide) rfl ?_
  intro p e s m args below meth c s₁ B hml hv
  obtain ⟨rfl, hP, hK, hN⟩ := hv
  have hx := B.exec
  have hb := B.bytes
  have hr := B.returns
  have hts := atoms_spec (ws := ce_ws yRn_doThrow cRn_doThrow 2 (some .int)) B.pre
  have hown : s.vm.findClass RRn = some m.cls := findClass_of_methodNamed B.named
  have hlocks := B.notSynchronized
  have hS : va_S (aR a) s.heap s.heap [] := va_S.rf
  have hl := lv_entry ([.ref (a 0), .int (nI i)]) (n := 2) (Nat.le_of_ble_eq_true rfl)
  rw [lg_entry_eq]
  generalize (lg_sl ([.ref (a 0), .int (nI i)]) ++ List.replicate (2 - (lg_sl ([.ref (a 0), .int (nI i)])).length) Slot.unset).toArray = ls at hl ⊢
  have hl : lv_has ls 2 [(0, .ref (a 0)), (1, .int (nI i))] := hl
  have hK16 : pK P i < 16 := by unfold pK; omega
  refine lv_aload_n hx hb dRn_doThrow_0 rfl (lv_at hl 0 rfl) ?_
  refine ce_gR hx hb hts hown hK hP 0 (by decide) rfl lRn_18 rfl dRn_doThrow_1 ?_
  refine lv_iload_n hx hb dRn_doThrow_4 rfl (lv_at hl 1 rfl) ?_
  refine ce_ri (As := [.int (nI i)]) (rest := []) ⟨hx, hb, hml, hown, hts⟩ (c_Pg_high l D cI a P i hi h8) mPg_high lRn_145 iPg_high ⟨Nat.le_of_ble_eq_true rfl, Nat.le_of_ble_eq_true rfl⟩ ⟨rfl, rfl⟩ hK hN (hP.sub (ws' := wP a cI P) [1, 2, 3] rfl) 0 rfl rfl rfl hl.1 rfl (Nat.le_of_ble_eq_true rfl) dRn_doThrow_5 ⟨Nat.le_of_ble_eq_true rfl, Nat.le_of_ble_eq_true rfl⟩ (fun r_1 er_1 => ?_)
  obtain rfl : r_1 = nI (pK P i) := er_1
  rcases (show pK P i < 7 ∨ pK P i = 7 ∨ pK P i = 8 ∨ pK P i = 9 ∨ pK P i = 10 ∨ 10 < pK P i by omega) with hk | hk | hk | hk | hk | hk
  ·
    refine lv_tableOut (tgt := 68) hx hb dRn_doThrow_8 (Or.inl (by rw [nI_toInt (by omega)]; omega)) (by decide) ?_
    refine lv_iconst (v := 0) hx hb dRn_doThrow_68 (by decide) ?_
    exact W.iret (v := 0) hx hb hr (fun t9 ht hW => ⟨⟨0, u, rfl, xThrow_no (by omega), ce_hp ht hP⟩, hS.F ht⟩) hS.2.2 dRn_doThrow_69
  ·
    refine lv_tableIn (tgt := 40) hx hb dRn_doThrow_8 (by rw [hk]; decide) (by rw [hk]; decide) (by rw [hk]; rfl) (by decide) ?_
    refine lv_aload_n hx hb dRn_doThrow_40 rfl (lv_at hl 0 rfl) ?_
    refine lv_iload_n hx hb dRn_doThrow_41 rfl (lv_at hl 1 rfl) ?_
    refine lv_aload_n hx hb dRn_doThrow_42 rfl (lv_at hl 0 rfl) ?_
    refine ce_gR hx hb hts hown hK hP 0 (by decide) rfl lRn_18 rfl dRn_doThrow_43 ?_
    refine lv_iload_n hx hb dRn_doThrow_46 rfl (lv_at hl 1 rfl) ?_
    refine ce_ri (As := [.int (nI i)]) (rest := [.int (nI i), .ref (a 0)]) ⟨hx, hb, hml, hown, hts⟩ (c_Pg_high l D cI a P i hi h8) mPg_high lRn_145 iPg_high ⟨Nat.le_of_ble_eq_true rfl, Nat.le_of_ble_eq_true rfl⟩ ⟨rfl, rfl⟩ hK hN (hP.sub (ws' := wP a cI P) [1, 2, 3] rfl) 0 rfl rfl rfl hl.1 rfl (Nat.le_of_ble_eq_true rfl) dRn_doThrow_47 ⟨Nat.le_of_ble_eq_true rfl, Nat.le_of_ble_eq_true rfl⟩ (fun r_2 er_2 => ?_)
    obtain rfl : r_2 = nI (pK P i) := er_2
    refine ce_vi (As := [.int (nI i), .int (nI (pK P i))]) (rest := []) ⟨hx, hb, hml, hown, hts⟩ (c_Rn_comesUp l D cI a hd P u (nI i) (nI (pK P i))) mRn_comesUp lRn_99 iRn_comesUp ⟨Nat.le_of_ble_eq_true rfl, Nat.le_of_ble_eq_true rfl⟩ ⟨rfl, rfl⟩ hK hN hP hS rfl hl.1 rfl (Nat.le_of_ble_eq_true rfl) dRn_doThrow_50 ⟨Nat.le_of_ble_eq_true rfl, Nat.le_of_ble_eq_true rfl⟩ (fun r_3 u_4 H locs er_3 hP hS => ?_)
    obtain ⟨rfl, rfl⟩ := Prod.mk.inj er_3
    exact W.iret (v := 2) hx hb hr (fun t9 ht hW => ⟨⟨2, sOwn (sTa (sTr u (nI (pK P i))) (nI i)) (-1), rfl, xThrow_up (by omega), ce_hp ht hP⟩, hS.F ht⟩) hS.2.2 dRn_doThrow_53
  ·
    refine lv_tableIn (tgt := 40) hx hb dRn_doThrow_8 (by rw [hk]; decide) (by rw [hk]; decide) (by rw [hk]; rfl) (by decide) ?_
    refine lv_aload_n hx hb dRn_doThrow_40 rfl (lv_at hl 0 rfl) ?_
    refine lv_iload_n hx hb dRn_doThrow_41 rfl (lv_at hl 1 rfl) ?_
    refine lv_aload_n hx hb dRn_doThrow_42 rfl (lv_at hl 0 rfl) ?_
    refine ce_gR hx hb hts hown hK hP 0 (by decide) rfl lRn_18 rfl dRn_doThrow_43 ?_
    refine lv_iload_n hx hb dRn_doThrow_46 rfl (lv_at hl 1 rfl) ?_
    refine ce_ri (As := [.int (nI i)]) (rest := [.int (nI i), .ref (a 0)]) ⟨hx, hb, hml, hown, hts⟩ (c_Pg_high l D cI a P i hi h8) mPg_high lRn_145 iPg_high ⟨Nat.le_of_ble_eq_true rfl, Nat.le_of_ble_eq_true rfl⟩ ⟨rfl, rfl⟩ hK hN (hP.sub (ws' := wP a cI P) [1, 2, 3] rfl) 0 rfl rfl rfl hl.1 rfl (Nat.le_of_ble_eq_true rfl) dRn_doThrow_47 ⟨Nat.le_of_ble_eq_true rfl, Nat.le_of_ble_eq_true rfl⟩ (fun r_5 er_5 => ?_)
    obtain rfl : r_5 = nI (pK P i) := er_5
    refine ce_vi (As := [.int (nI i), .int (nI (pK P i))]) (rest := []) ⟨hx, hb, hml, hown, hts⟩ (c_Rn_comesUp l D cI a hd P u (nI i) (nI (pK P i))) mRn_comesUp lRn_99 iRn_comesUp ⟨Nat.le_of_ble_eq_true rfl, Nat.le_of_ble_eq_true rfl⟩ ⟨rfl, rfl⟩ hK hN hP hS rfl hl.1 rfl (Nat.le_of_ble_eq_true rfl) dRn_doThrow_50 ⟨Nat.le_of_ble_eq_true rfl, Nat.le_of_ble_eq_true rfl⟩ (fun r_6 u_7 H locs er_6 hP hS => ?_)
    obtain ⟨rfl, rfl⟩ := Prod.mk.inj er_6
    exact W.iret (v := 2) hx hb hr (fun t9 ht hW => ⟨⟨2, sOwn (sTa (sTr u (nI (pK P i))) (nI i)) (-1), rfl, xThrow_up (by omega), ce_hp ht hP⟩, hS.F ht⟩) hS.2.2 dRn_doThrow_53
  ·
    refine lv_tableIn (tgt := 40) hx hb dRn_doThrow_8 (by rw [hk]; decide) (by rw [hk]; decide) (by rw [hk]; rfl) (by decide) ?_
    refine lv_aload_n hx hb dRn_doThrow_40 rfl (lv_at hl 0 rfl) ?_
    refine lv_iload_n hx hb dRn_doThrow_41 rfl (lv_at hl 1 rfl) ?_
    refine lv_aload_n hx hb dRn_doThrow_42 rfl (lv_at hl 0 rfl) ?_
    refine ce_gR hx hb hts hown hK hP 0 (by decide) rfl lRn_18 rfl dRn_doThrow_43 ?_
    refine lv_iload_n hx hb dRn_doThrow_46 rfl (lv_at hl 1 rfl) ?_
    refine ce_ri (As := [.int (nI i)]) (rest := [.int (nI i), .ref (a 0)]) ⟨hx, hb, hml, hown, hts⟩ (c_Pg_high l D cI a P i hi h8) mPg_high lRn_145 iPg_high ⟨Nat.le_of_ble_eq_true rfl, Nat.le_of_ble_eq_true rfl⟩ ⟨rfl, rfl⟩ hK hN (hP.sub (ws' := wP a cI P) [1, 2, 3] rfl) 0 rfl rfl rfl hl.1 rfl (Nat.le_of_ble_eq_true rfl) dRn_doThrow_47 ⟨Nat.le_of_ble_eq_true rfl, Nat.le_of_ble_eq_true rfl⟩ (fun r_8 er_8 => ?_)
    obtain rfl : r_8 = nI (pK P i) := er_8
    refine ce_vi (As := [.int (nI i), .int (nI (pK P i))]) (rest := []) ⟨hx, hb, hml, hown, hts⟩ (c_Rn_comesUp l D cI a hd P u (nI i) (nI (pK P i))) mRn_comesUp lRn_99 iRn_comesUp ⟨Nat.le_of_ble_eq_true rfl, Nat.le_of_ble_eq_true rfl⟩ ⟨rfl, rfl⟩ hK hN hP hS rfl hl.1 rfl (Nat.le_of_ble_eq_true rfl) dRn_doThrow_50 ⟨Nat.le_of_ble_eq_true rfl, Nat.le_of_ble_eq_true rfl⟩ (fun r_9 u_10 H locs er_9 hP hS => ?_)
    obtain ⟨rfl, rfl⟩ := Prod.mk.inj er_9
    exact W.iret (v := 2) hx hb hr (fun t9 ht hW => ⟨⟨2, sOwn (sTa (sTr u (nI (pK P i))) (nI i)) (-1), rfl, xThrow_up (by omega), ce_hp ht hP⟩, hS.F ht⟩) hS.2.2 dRn_doThrow_53
  ·
    refine lv_tableIn (tgt := 54) hx hb dRn_doThrow_8 (by rw [hk]; decide) (by rw [hk]; decide) (by rw [hk]; rfl) (by decide) ?_
    refine lv_aload_n hx hb dRn_doThrow_54 rfl (lv_at hl 0 rfl) ?_
    refine lv_iload_n hx hb dRn_doThrow_55 rfl (lv_at hl 1 rfl) ?_
    refine lv_aload_n hx hb dRn_doThrow_56 rfl (lv_at hl 0 rfl) ?_
    refine ce_gR hx hb hts hown hK hP 0 (by decide) rfl lRn_18 rfl dRn_doThrow_57 ?_
    refine lv_iload_n hx hb dRn_doThrow_60 rfl (lv_at hl 1 rfl) ?_
    refine ce_ri (As := [.int (nI i)]) (rest := [.int (nI i), .ref (a 0)]) ⟨hx, hb, hml, hown, hts⟩ (c_Pg_low l D cI a P i hi h8) mPg_low lRn_154 iPg_low ⟨Nat.le_of_ble_eq_true rfl, Nat.le_of_ble_eq_true rfl⟩ ⟨rfl, rfl⟩ hK hN (hP.sub (ws' := wP a cI P) [1, 2, 3] rfl) 0 rfl rfl rfl hl.1 rfl (Nat.le_of_ble_eq_true rfl) dRn_doThrow_61 ⟨Nat.le_of_ble_eq_true rfl, Nat.le_of_ble_eq_true rfl⟩ (fun r_11 er_11 => ?_)
    obtain rfl : r_11 = nI (pN P i) := er_11
    refine ce_vi (As := [.int (nI i), .int (nI (pN P i))]) (rest := []) ⟨hx, hb, hml, hown, hts⟩ (c_Rn_ownComesUp l D cI a hd P u (nI i) (nI (pN P i))) mRn_ownComesUp lRn_151 iRn_ownComesUp ⟨Nat.le_of_ble_eq_true rfl, Nat.le_of_ble_eq_true rfl⟩ ⟨rfl, rfl⟩ hK hN hP hS rfl hl.1 rfl (Nat.le_of_ble_eq_true rfl) dRn_doThrow_64 ⟨Nat.le_of_ble_eq_true rfl, Nat.le_of_ble_eq_true rfl⟩ (fun r_12 u_13 H locs er_12 hP hS => ?_)
    obtain ⟨rfl, rfl⟩ := Prod.mk.inj er_12
    exact W.iret (v := 2) hx hb hr (fun t9 ht hW => ⟨⟨2, sOwn (sTa (sTr u 10) (nI i)) (nI (pN P i)), rfl, xThrow_own hk, ce_hp ht hP⟩, hS.F ht⟩) hS.2.2 dRn_doThrow_67
  ·
    refine lv_tableOut (tgt := 68) hx hb dRn_doThrow_8 (Or.inr (by rw [nI_toInt (by omega)]; omega)) (by decide) ?_
    refine lv_iconst (v := 0) hx hb dRn_doThrow_68 (by decide) ?_
    exact W.iret (v := 0) hx hb hr (fun t9 ht hW => ⟨⟨0, u, rfl, xThrow_no (by omega), ce_hp ht hP⟩, hS.F ht⟩) hS.2.2 dRn_doThrow_69
end
section
theorem ce_hR {h h2 maxL : Nat} (hh : h + 1 ≤ h2) (hm : maxL ≤ 11) : (ce_rm h).frames + 1 ≤ (ce_rm h2).frames ∧ 8 + (maxL + 11) + (ce_rm h).locals ≤ (ce_rm h2).locals := by
  refine ⟨hh, ?_⟩
  show 8 + (maxL + 11) + 30 * h ≤ 30 * h2
  omega
/-- doActions at depth 15 - k, as the group calls it -/
def okDA (l : Launch) (D : va_G) (cI : ClassId) (a : Nat → Nat) (P : PR) (k : Nat) : Prop := ∀ (u : RS) (i z d : Nat), d + k = 15 → i ≤ z → z ≤ P.2.2 → Met l yRn_doActions (ce_ws yRn_doActions cRn_doActions 7 (some .int)) (ce_rm (3 * k + 2)) (ce_Pc D cI [.ref (a 0), .int (nI i), .int (nI z), .int (nI d)] (wR a cI P u)) (va_Qi (fun r u' => (r, u') = xActs P k i z u) (fun u' t => va_P D vwCl (wR a cI P u') t.heap) (aR a)) 0 0 (aR a)
theorem xCatch_no {P : PR} {i : Nat} {r : Int32} {u : RS} (h : ¬ (r = 2 ∧ xTakes (pK P i) (gTr u) = true)) : (r, u) = xCatch P i (r, u) := (if_neg h).symm
theorem xCatch_go {P : PR} {i : Nat} {r : Int32} {u : RS} (h : r = 2) (h2 : xTakes (pK P i) (gTr u) = true) (h3 : ¬ pK P i = 14) : (0, xCaught u) = xCatch P i (r, u) := ((if_pos ⟨h, h2⟩).trans (if_neg h3)).symm
theorem xCatch_on {P : PR} {i : Nat} {r : Int32} {u : RS} (h : r = 2) (h2 : xTakes (pK P i) (gTr u) = true) (h3 : pK P i = 14) : xOwn (xCaught u) (nI i) 14 = xCatch P i (r, u) := ((if_pos ⟨h, h2⟩).trans (if_pos h3)).symm
theorem xCaught_own {u : RS} (h : gTr u = 10) : sOwn (sTa (sTr (sAcc (sCat u (gCat u + 1)) (1000 + 16 * gTr u + gOwn u)) (-1)) (-1)) (-1) = xCaught u := by
  unfold xCaught
  rw [if_pos h]
  rfl
theorem xCaught_no {u : RS} (h : ¬ gTr u = 10) : sOwn (sTa (sTr (sAcc (sCat u (gCat u + 1)) (1000 + 16 * gTr u + 0)) (-1)) (-1)) (-1) = xCaught u := by
  unfold xCaught
  rw [if_neg h]
  rfl
theorem xRep_go {f : RS → Int32 × RS} {n : Nat} {v u1 : RS} {r : Int32} (h : (r, u1) = f v) (h0 : r = 0) : xRep f n u1 = xRep f (n + 1) v := by
  show _ = if (f v).1 = 0 then xRep f n (f v).2 else f v
  rw [← h, if_pos h0]
theorem xRep_end {f : RS → Int32 × RS} {n : Nat} {v u1 : RS} {r : Int32} (h : (r, u1) = f v) (h0 : ¬ r = 0) : (r, u1) = xRep f (n + 1) v := by
  show _ = if (f v).1 = 0 then xRep f n (f v).2 else f v
  rw [← h, if_neg h0]
theorem pB_le {P : PR} {i z : Nat} (h : i < z) : i + pB P i z + 1 ≤ z := by
  unfold pB
  split
  · omega
  · have : min (pN P i) (z - i - 1) ≤ z - i - 1 := Nat.min_le_right _ _
    omega
theorem xLoop_0 {g : Nat → Nat → RS → Int32 × RS} {P : PR} {z n j : Nat} {v : RS} (h : z ≤ j) : (0, v) = xLoop g P z n j v := by
  cases n with
  | zero => rfl
  | succ n => exact (if_pos h).symm
theorem xLoop_stop {g : Nat → Nat → RS → Int32 × RS} {P : PR} {z n j : Nat} {v : RS} (h : ¬ z ≤ j) (h4 : ¬ gSteps v < 400) : (1, v) = xLoop g P z (n + 1) j v := ((if_neg h).trans (if_pos (Int32.not_lt.mp h4))).symm
theorem xLoop_end {g : Nat → Nat → RS → Int32 × RS} {P : PR} {z n j : Nat} {v u1 : RS} {r : Int32} (h : ¬ z ≤ j) (h4 : gSteps v < 400) (e : (r, u1) = g j (j + 1 + pB P j z) (sSteps v (gSteps v + 1))) (h0 : ¬ r = 0) : (r, u1) = xLoop g P z (n + 1) j v := by
  refine (((if_neg h).trans (if_neg (fun q => absurd h4 (Int32.not_lt.mpr q)))).trans ?_).symm
  rw [← e, if_neg h0]
theorem xLoop_go {g : Nat → Nat → RS → Int32 × RS} {P : PR} {z n j : Nat} {v u1 : RS} {r : Int32} (h : ¬ z ≤ j) (h4 : gSteps v < 400) (e : (r, u1) = g j (j + 1 + pB P j z) (sSteps v (gSteps v + 1))) (h0 : r = 0) : xLoop g P z n (j + pB P j z + 1) u1 = xLoop g P z (n + 1) j v := by
  refine (((if_neg h).trans (if_neg (fun q => absurd h4 (Int32.not_lt.mpr q)))).trans ?_).symm
  rw [← e, if_pos h0]
theorem xAct_0 {f : Nat → Nat → RS → Int32 × RS} {P : PR} {i z : Nat} {u : RS} (h : P.1 i = 0) : xAct f P i z u = (0, sAcc u (gAcc u + pV P i)) := by
  unfold xAct
  simp only [h]
theorem xAct_1 {f : Nat → Nat → RS → Int32 × RS} {P : PR} {i z : Nat} {u : RS} (h : P.1 i = 1) : xAct f P i z u = (0, sAcc u (gAcc u * pV P i)) := by
  unfold xAct
  simp only [h]
theorem xAct_2 {f : Nat → Nat → RS → Int32 × RS} {P : PR} {i z : Nat} {u : RS} (h : P.1 i = 2) : xAct f P i z u = xDiv P i u := by
  unfold xAct
  simp only [h]
theorem xAct_3 {f : Nat → Nat → RS → Int32 × RS} {P : PR} {i z : Nat} {u : RS} (h : P.1 i = 3) : xAct f P i z u = xRem P i u := by
  unfold xAct
  simp only [h]
theorem xAct_4 {f : Nat → Nat → RS → Int32 × RS} {P : PR} {i z : Nat} {u : RS} (h : P.1 i = 4) : xAct f P i z u = xLoad P i u := by
  unfold xAct
  simp only [h]
theorem xAct_5 {f : Nat → Nat → RS → Int32 × RS} {P : PR} {i z : Nat} {u : RS} (h : P.1 i = 5) : xAct f P i z u = xKeep P i u := by
  unfold xAct
  simp only [h]
theorem xAct_6 {f : Nat → Nat → RS → Int32 × RS} {P : PR} {i z : Nat} {u : RS} (h : P.1 i = 6) : xAct f P i z u = xBreak P i u := by
  unfold xAct
  simp only [h]
theorem xAct_7 {f : Nat → Nat → RS → Int32 × RS} {P : PR} {i z : Nat} {u : RS} (h : P.1 i = 7) : xAct f P i z u = xThrow P i u := by
  unfold xAct
  simp only [h]
theorem xAct_8 {f : Nat → Nat → RS → Int32 × RS} {P : PR} {i z : Nat} {u : RS} (h : P.1 i = 8) : xAct f P i z u = (0, sMark u true) := by
  unfold xAct
  simp only [h]
theorem xAct_9 {f : Nat → Nat → RS → Int32 × RS} {P : PR} {i z : Nat} {u : RS} (h : P.1 i = 9) : xAct f P i z u = (0, sMark (sAcc u (bI (gMark u))) false) := by
  unfold xAct
  simp only [h]
theorem xAct_10 {f : Nat → Nat → RS → Int32 × RS} {P : PR} {i z : Nat} {u : RS} (h : P.1 i = 10) : xAct f P i z u = xCatch P i (f (i + 1) z u) := by
  unfold xAct
  simp only [h]
theorem xAct_11 {f : Nat → Nat → RS → Int32 × RS} {P : PR} {i z : Nat} {u : RS} (h : P.1 i = 11) : xAct f P i z u = xFinally (f (i + 1) z u) := by
  unfold xAct
  simp only [h]
theorem xAct_12 {f : Nat → Nat → RS → Int32 × RS} {P : PR} {i z : Nat} {u : RS} (h : P.1 i = 12) : xAct f P i z u = xDrop (f (i + 1) z u) := by
  unfold xAct
  simp only [h]
theorem xAct_13 {f : Nat → Nat → RS → Int32 × RS} {P : PR} {i z : Nat} {u : RS} (h : P.1 i = 13) : xAct f P i z u = xLet P i (f (i + 1) z (xGrab P i u)) := by
  unfold xAct
  simp only [h]
theorem xAct_14 {f : Nat → Nat → RS → Int32 × RS} {P : PR} {i z : Nat} {u : RS} (h : P.1 i = 14) : xAct f P i z u = xRep (f (i + 1) z) (pK P i) u := by
  unfold xAct
  simp only [h]
theorem xAct_15 {f : Nat → Nat → RS → Int32 × RS} {P : PR} {i z : Nat} {u : RS} (h : P.1 i = 15) : xAct f P i z u = (if xHeld P i u = true then (0, u) else xComes u (nI i) 6) := by
  unfold xAct
  simp only [h]
theorem xAct_16 {f : Nat → Nat → RS → Int32 × RS} {P : PR} {i z : Nat} {u : RS} (h : P.1 i = 16) : xAct f P i z u = (if xHeld P i u = true then xSleep (nI i) u else xComes u (nI i) 6) := by
  unfold xAct
  simp only [h]
theorem xAct_17 {f : Nat → Nat → RS → Int32 × RS} {P : PR} {i z : Nat} {u : RS} (h : P.1 i = 17) : xAct f P i z u = xSleep (nI i) u := by
  unfold xAct
  simp only [h]
theorem xAct_18 {f : Nat → Nat → RS → Int32 × RS} {P : PR} {i z : Nat} {u : RS} (h : P.1 i = 18) : xAct f P i z u = (0, sAcc u (bI (xHeld P i u))) := by
  unfold xAct
  simp only [h]
theorem xAct_19 {f : Nat → Nat → RS → Int32 × RS} {P : PR} {i z : Nat} {u : RS} (h : P.1 i = 19) : xAct f P i z u = (0, sCnt u (gCnt u + (pV P i).toInt64)) := by
  unfold xAct
  simp only [h]
theorem xAct_20 {f : Nat → Nat → RS → Int32 × RS} {P : PR} {i z : Nat} {u : RS} (h : P.1 i = 20) : xAct f P i z u = (1, u) := by
  unfold xAct
  simp only [h]
theorem xAct_21 {f : Nat → Nat → RS → Int32 × RS} {P : PR} {i z : Nat} {u : RS} (h : P.1 i = 21) : xAct f P i z u = (0, sAcc u (gName u)) := by
  unfold xAct
  simp only [h]
set_option maxHeartbeats 4000000 in
set_option maxRecDepth 100000 in
theorem c_Rn_doCatch (l : Launch) (D : va_G) (cI : ClassId) (a : Nat → Nat) (hd : dR a) (P : PR) (hp : pOk P) (k d : Nat) (hdk : d + 1 + k = 15) (ih : okDA l D cI a P k) (u : RS) (i z : Nat) (hiz : i < z) (hz : z ≤ P.2.2) : Met l yRn_doCatch (ce_ws yRn_doCatch cRn_doCatch 6 (some .int)) (ce_rm (3 * k + 3)) (ce_Pc D cI [.ref (a 0), .int (nI i), .int (nI z), .int (nI d)] (wR a cI P u)) (va_Qi (fun r u' => (r, u') = xCatch P i (xActs P k (i + 1) z u)) (fun u' t => va_P D vwCl (wR a cI P u') t.heap) (aR a)) 0 0 (aR a) := by
  refine Met.ofW (cc := cRn_doCatch) (maxL := 6) (ret := (some .int)) (by decide) rfl ?_
  intro p e s m args below meth c s₁ B hml hv
  obtain ⟨rfl, hP, hK, hN⟩ := hv
  have hx := B.exec
  have hb := B.bytes
  have hr := B.returns
  have hts := atoms_spec (ws := ce_ws yRn_doCatch cRn_doCatch 6 (some .int)) B.pre
  have hown : s.vm.findClass RRn = some m.cls := findClass_of_methodNamed B.named
  have hlocks := B.notSynchronized
  have hS : va_S (aR a) s.heap s.heap [] := va_S.rf
  have hl := lv_entry ([.ref (a 0), .int (nI i), .int (nI z), .int (nI d)]) (n := 6) (Nat.le_of_ble_eq_true rfl)
  rw [lg_entry_eq]
  generalize (lg_sl ([.ref (a 0), .int (nI i), .int (nI z), .int (nI d)]) ++ List.replicate (6 - (lg_sl ([.ref (a 0), .int (nI i), .int (nI z), .int (nI d)])).length) Slot.unset).toArray = ls at hl ⊢
  have hl : lv_has ls 6 [(0, .ref (a 0)), (1, .int (nI i)), (2, .int (nI z)), (3, .int (nI d))] := hl
  have hi : i < 14 := Nat.lt_of_lt_of_le hiz (Nat.le_trans hz hp.1)
  have h8 : P.2.1 i ≤ 255 := (hp.2 i (by omega)).2
  have h21 : P.1 i ≤ 21 := (hp.2 i (by omega)).1
  have hK16 : pK P i < 16 := by unfold pK; omega
  refine lv_aload_n hx hb dRn_doCatch_0 rfl (lv_at hl 0 rfl) ?_
  refine lv_iload_n hx hb dRn_doCatch_1 rfl (lv_at hl 1 rfl) ?_
  refine lv_iconst (v := 1) hx hb dRn_doCatch_2 (by decide) ?_
  refine lv_iadd hx hb dRn_doCatch_3 ?_
  refine lv_topi (fun y_1 ey_1 => ?_)
  obtain rfl : y_1 = nI (i + 1) := ey_1.trans (nI_1 i)
  refine lv_iload_n hx hb dRn_doCatch_4 rfl (lv_at hl 2 rfl) ?_
  refine lv_iload_n hx hb dRn_doCatch_5 rfl (lv_at hl 3 rfl) ?_
  refine lv_iconst (v := 1) hx hb dRn_doCatch_6 (by decide) ?_
  refine lv_iadd hx hb dRn_doCatch_7 ?_
  refine lv_topi (fun y_2 ey_2 => ?_)
  obtain rfl : y_2 = nI (d + 1) := ey_2.trans (nI_1 d)
  refine ce_vi (As := [.int (nI (i + 1)), .int (nI z), .int (nI (d + 1))]) (rest := []) ⟨hx, hb, hml, hown, hts⟩ (ih u (i + 1) z (d + 1) (by omega) (by omega) hz) mRn_doActions lRn_72 iRn_doActions (ce_hR (by omega) (by decide)) ⟨rfl, rfl⟩ hK hN hP hS rfl hl.1 rfl (Nat.le_of_ble_eq_true rfl) dRn_doCatch_8 ⟨Nat.le_of_ble_eq_true rfl, Nat.le_of_ble_eq_true rfl⟩ (fun r_3 u_4 H locs er_3 hP hS => ?_)
  refine lv_istore (lv' := [(4, .int r_3), (0, .ref (a 0)), (1, .int (nI i)), (2, .int (nI z)), (3, .int (nI d))]) hx hb dRn_doCatch_11 hl (by decide) rfl (fun ls hl => ?_)
  refine lv_aload_n hx hb dRn_doCatch_13 rfl (lv_at hl 1 rfl) ?_
  refine ce_gR hx hb hts hown hK hP 0 (by decide) rfl lRn_18 rfl dRn_doCatch_14 ?_
  refine lv_iload_n hx hb dRn_doCatch_17 rfl (lv_at hl 2 rfl) ?_
  refine ce_ri (As := [.int (nI i)]) (rest := []) ⟨hx, hb, hml, hown, hts⟩ (c_Pg_high l D cI a P i hi h8) mPg_high lRn_145 iPg_high (ce_hR (by omega) (by decide)) ⟨rfl, rfl⟩ hK hN (hP.sub (ws' := wP a cI P) [1, 2, 3] rfl) 0 rfl rfl rfl hl.1 rfl (Nat.le_of_ble_eq_true rfl) dRn_doCatch_18 ⟨Nat.le_of_ble_eq_true rfl, Nat.le_of_ble_eq_true rfl⟩ (fun r_5 er_5 => ?_)
  obtain rfl : r_5 = nI (pK P i) := er_5
  refine lv_istore (lv' := [(5, .int (nI (pK P i))), (4, .int r_3), (0, .ref (a 0)), (1, .int (nI i)), (2, .int (nI z)), (3, .int (nI d))]) hx hb dRn_doCatch_21 hl (by decide) rfl (fun ls hl => ?_)
  refine lv_iload hx hb dRn_doCatch_23 (lv_at hl 1 rfl) ?_
  refine lv_iconst (v := 2) hx hb dRn_doCatch_25 (by decide) ?_
  refine lv_icmp_ne (tgt := 41) hx hb dRn_doCatch_26 (by decide) (fun c_6 => ?_) (fun c_6 => ?_)
  · -- 26 taken
    refine lv_iload hx hb dRn_doCatch_41 (lv_at hl 1 rfl) ?_
    exact W.iret (v := r_3) hx hb hr (fun t9 ht hW => ⟨⟨r_3, u_4, rfl, by rw [← er_3]; exact xCatch_no (fun q => c_6 q.1), ce_hp ht hP⟩, hS.F ht⟩) hS.2.2 dRn_doCatch_43
  · -- 26 not taken
    refine lv_iload hx hb dRn_doCatch_29 (lv_at hl 0 rfl) ?_
    refine lv_aload_n hx hb dRn_doCatch_31 rfl (lv_at hl 2 rfl) ?_
    refine ce_gR hx hb hts hown hK hP 11 (by decide) rfl lRn_30 rfl dRn_doCatch_32 ?_
    refine ce_si (As := [.int (nI (pK P i)), .int (gTr u_4)]) (rest := []) ⟨hx, hb, hml, hown, hts⟩ (c_Rn_takes l D cI a _ (pK P i) hK16 (gTr u_4)) mRn_takes lRn_148 sRn_takes (ce_hR (by omega) (by decide)) ⟨rfl, rfl⟩ hK hN hP rfl hl.1 rfl (Nat.le_of_ble_eq_true rfl) dRn_doCatch_35 ⟨Nat.le_of_ble_eq_true rfl, Nat.le_of_ble_eq_true rfl⟩ (fun r_7 er_7 => ?_)
    obtain rfl : r_7 = bI (xTakes (pK P i) (gTr u_4)) := er_7
    refine lv_if_ne (tgt := 44) hx hb dRn_doCatch_38 (by decide) (fun c_8 => ?_) (fun c_8 => ?_)
    · -- 38 taken
      refine lv_aload_n hx hb dRn_doCatch_44 rfl (lv_at hl 2 rfl) ?_
      refine lv_dup hx hb dRn_doCatch_45 rfl ?_
      refine ce_gR hx hb hts hown hK hP 8 (by decide) rfl lRn_51 rfl dRn_doCatch_46 ?_
      refine lv_iconst (v := 1) hx hb dRn_doCatch_49 (by decide) ?_
      refine lv_iadd hx hb dRn_doCatch_50 ?_
      refine ce_pCat hx hb hts hown hK hd hP hS lRn_51 dRn_doCatch_51 (fun H locs hP hS => ?_)
      refine lv_aload_n hx hb dRn_doCatch_54 rfl (lv_at hl 2 rfl) ?_
      refine lv_sipush (v := 1000) hx hb dRn_doCatch_55 (by decide) ?_
      refine lv_bipush (v := 16) hx hb dRn_doCatch_58 (by decide) ?_
      refine lv_aload_n hx hb dRn_doCatch_60 rfl (lv_at hl 2 rfl) ?_
      refine ce_gR hx hb hts hown hK hP 11 (by decide) rfl lRn_30 rfl dRn_doCatch_61 ?_
      refine lv_topi (fun y_9 ey_9 => ?_)
      obtain rfl : y_9 = gTr u_4 := ey_9.trans (by rw [gTr_sCat])
      refine lv_imul hx hb dRn_doCatch_64 ?_
      refine lv_iadd hx hb dRn_doCatch_65 ?_
      refine lv_aload_n hx hb dRn_doCatch_66 rfl (lv_at hl 2 rfl) ?_
      refine ce_gR hx hb hts hown hK hP 11 (by decide) rfl lRn_30 rfl dRn_doCatch_67 ?_
      refine lv_topi (fun y_10 ey_10 => ?_)
      obtain rfl : y_10 = gTr u_4 := ey_10.trans (by rw [gTr_sCat])
      refine lv_bipush (v := 10) hx hb dRn_doCatch_70 (by decide) ?_
      refine lv_icmp_ne (tgt := 82) hx hb dRn_doCatch_72 (by decide) (fun c_11 => ?_) (fun c_11 => ?_)
      · -- 72 taken
        refine lv_iconst (v := 0) hx hb dRn_doCatch_82 (by decide) ?_
        refine lv_iadd hx hb dRn_doCatch_83 ?_
        refine ce_pAcc hx hb hts hown hK hd hP hS lRn_42 dRn_doCatch_84 (fun H locs hP hS => ?_)
        refine lv_aload_n hx hb dRn_doCatch_87 rfl (lv_at hl 2 rfl) ?_
        refine ce_vv (As := []) (rest := []) ⟨hx, hb, hml, hown, hts⟩ (c_Rn_forgetTrouble l D cI a hd P (sAcc (sCat u_4 ((gCat u_4) + 1)) ((1000 + (16 * (gTr u_4))) + 0))) mRn_forgetTrouble lRn_79 iRn_forgetTrouble (ce_hR (by omega) (by decide)) ⟨rfl, rfl⟩ hK hN hP hS rfl hl.1 rfl (Nat.le_of_ble_eq_true rfl) dRn_doCatch_88 ⟨Nat.le_of_ble_eq_true rfl, Nat.le_of_ble_eq_true rfl⟩ (fun u_13 H locs er_12 hP hS => ?_)
        obtain rfl := er_12
        have hP : va_P D vwCl (wR a cI P (sOwn (sTa (sTr (sAcc (sCat u_4 ((gCat u_4) + 1)) ((1000 + (16 * (gTr u_4))) + 0)) (-1)) (-1)) (-1))) H := hP
        refine lv_iload hx hb dRn_doCatch_91 (lv_at hl 0 rfl) ?_
        refine lv_bipush (v := 14) hx hb dRn_doCatch_93 (by decide) ?_
        refine lv_icmp_ne (tgt := 108) hx hb dRn_doCatch_95 (by decide) (fun c_14 => ?_) (fun c_14 => ?_)
        · -- 95 taken
          refine lv_iconst (v := 0) hx hb dRn_doCatch_108 (by decide) ?_
          exact W.iret (v := 0) hx hb hr (fun t9 ht hW => ⟨⟨0, sOwn (sTa (sTr (sAcc (sCat u_4 ((gCat u_4) + 1)) ((1000 + (16 * (gTr u_4))) + 0)) (-1)) (-1)) (-1), rfl, by rw [← er_3]; exact (congrArg (fun v => ((0 : Int32), v)) (xCaught_no c_11)).trans (xCatch_go c_6 (bI1 c_8) (fun q => c_14 (congrArg nI q))), ce_hp ht hP⟩, hS.F ht⟩) hS.2.2 dRn_doCatch_109
        · -- 95 not taken
          refine lv_aload_n hx hb dRn_doCatch_98 rfl (lv_at hl 2 rfl) ?_
          refine lv_iload_n hx hb dRn_doCatch_99 rfl (lv_at hl 3 rfl) ?_
          refine lv_bipush (v := 14) hx hb dRn_doCatch_100 (by decide) ?_
          refine ce_vi (As := [.int (nI i), .int 14]) (rest := []) ⟨hx, hb, hml, hown, hts⟩ (c_Rn_ownComesUp l D cI a hd P (sOwn (sTa (sTr (sAcc (sCat u_4 ((gCat u_4) + 1)) ((1000 + (16 * (gTr u_4))) + 0)) (-1)) (-1)) (-1)) (nI i) 14) mRn_ownComesUp lRn_151 iRn_ownComesUp (ce_hR (by omega) (by decide)) ⟨rfl, rfl⟩ hK hN hP hS rfl hl.1 rfl (Nat.le_of_ble_eq_true rfl) dRn_doCatch_102 ⟨Nat.le_of_ble_eq_true rfl, Nat.le_of_ble_eq_true rfl⟩ (fun r_15 u_16 H locs er_15 hP hS => ?_)
          obtain ⟨rfl, rfl⟩ := Prod.mk.inj er_15
          refine lv_goto (tgt := 109) hx hb dRn_doCatch_105 (by decide) ?_
          exact W.iret (v := 2) hx hb hr (fun t9 ht hW => ⟨⟨2, sOwn (sTa (sTr (sOwn (sTa (sTr (sAcc (sCat u_4 ((gCat u_4) + 1)) ((1000 + (16 * (gTr u_4))) + 0)) (-1)) (-1)) (-1)) 10) (nI i)) 14, rfl, by rw [← er_3]; exact (congrArg (fun v => xOwn v (nI i) 14) (xCaught_no c_11)).trans (xCatch_on c_6 (bI1 c_8) ((nI_eq (b := 14) (by omega) (by decide)).mp c_14)), ce_hp ht hP⟩, hS.F ht⟩) hS.2.2 dRn_doCatch_109
      · -- 72 not taken
        refine lv_aload_n hx hb dRn_doCatch_75 rfl (lv_at hl 2 rfl) ?_
        refine ce_gR hx hb hts hown hK hP 13 (by decide) rfl lRn_57 rfl dRn_doCatch_76 ?_
        refine lv_topi (fun y_17 ey_17 => ?_)
        obtain rfl : y_17 = gOwn u_4 := ey_17.trans (by rw [gOwn_sCat])
        refine lv_goto (tgt := 83) hx hb dRn_doCatch_79 (by decide) ?_
        refine lv_iadd hx hb dRn_doCatch_83 ?_
        refine ce_pAcc hx hb hts hown hK hd hP hS lRn_42 dRn_doCatch_84 (fun H locs hP hS => ?_)
        refine lv_aload_n hx hb dRn_doCatch_87 rfl (lv_at hl 2 rfl) ?_
        refine ce_vv (As := []) (rest := []) ⟨hx, hb, hml, hown, hts⟩ (c_Rn_forgetTrouble l D cI a hd P (sAcc (sCat u_4 ((gCat u_4) + 1)) ((1000 + (16 * (gTr u_4))) + (gOwn u_4)))) mRn_forgetTrouble lRn_79 iRn_forgetTrouble (ce_hR (by omega) (by decide)) ⟨rfl, rfl⟩ hK hN hP hS rfl hl.1 rfl (Nat.le_of_ble_eq_true rfl) dRn_doCatch_88 ⟨Nat.le_of_ble_eq_true rfl, Nat.le_of_ble_eq_true rfl⟩ (fun u_19 H locs er_18 hP hS => ?_)
        obtain rfl := er_18
        have hP : va_P D vwCl (wR a cI P (sOwn (sTa (sTr (sAcc (sCat u_4 ((gCat u_4) + 1)) ((1000 + (16 * (gTr u_4))) + (gOwn u_4))) (-1)) (-1)) (-1))) H := hP
        refine lv_iload hx hb dRn_doCatch_91 (lv_at hl 0 rfl) ?_
        refine lv_bipush (v := 14) hx hb dRn_doCatch_93 (by decide) ?_
        refine lv_icmp_ne (tgt := 108) hx hb dRn_doCatch_95 (by decide) (fun c_20 => ?_) (fun c_20 => ?_)
        · -- 95 taken
          refine lv_iconst (v := 0) hx hb dRn_doCatch_108 (by decide) ?_
          exact W.iret (v := 0) hx hb hr (fun t9 ht hW => ⟨⟨0, sOwn (sTa (sTr (sAcc (sCat u_4 ((gCat u_4) + 1)) ((1000 + (16 * (gTr u_4))) + (gOwn u_4))) (-1)) (-1)) (-1), rfl, by rw [← er_3]; exact (congrArg (fun v => ((0 : Int32), v)) (xCaught_own c_11)).trans (xCatch_go c_6 (bI1 c_8) (fun q => c_20 (congrArg nI q))), ce_hp ht hP⟩, hS.F ht⟩) hS.2.2 dRn_doCatch_109
        · -- 95 not taken
          refine lv_aload_n hx hb dRn_doCatch_98 rfl (lv_at hl 2 rfl) ?_
          refine lv_iload_n hx hb dRn_doCatch_99 rfl (lv_at hl 3 rfl) ?_
          refine lv_bipush (v := 14) hx hb dRn_doCatch_100 (by decide) ?_
          refine ce_vi (As := [.int (nI i), .int 14]) (rest := []) ⟨hx, hb, hml, hown, hts⟩ (c_Rn_ownComesUp l D cI a hd P (sOwn (sTa (sTr (sAcc (sCat u_4 ((gCat u_4) + 1)) ((1000 + (16 * (gTr u_4))) + (gOwn u_4))) (-1)) (-1)) (-1)) (nI i) 14) mRn_ownComesUp lRn_151 iRn_ownComesUp (ce_hR (by omega) (by decide)) ⟨rfl, rfl⟩ hK hN hP hS rfl hl.1 rfl (Nat.le_of_ble_eq_true rfl) dRn_doCatch_102 ⟨Nat.le_of_ble_eq_true rfl, Nat.le_of_ble_eq_true rfl⟩ (fun r_21 u_22 H locs er_21 hP hS => ?_)
          obtain ⟨rfl, rfl⟩ := Prod.mk.inj er_21
          refine lv_goto (tgt := 109) hx hb dRn_doCatch_105 (by decide) ?_
          exact W.iret (v := 2) hx hb hr (fun t9 ht hW => ⟨⟨2, sOwn (sTa (sTr (sOwn (sTa (sTr (sAcc (sCat u_4 ((gCat u_4) + 1)) ((1000 + (16 * (gTr u_4))) + (gOwn u_4))) (-1)) (-1)) (-1)) 10) (nI i)) 14, rfl, by rw [← er_3]; exact (congrArg (fun v => xOwn v (nI i) 14) (xCaught_own c_11)).trans (xCatch_on c_6 (bI1 c_8) ((nI_eq (b := 14) (by omega) (by decide)).mp c_20)), ce_hp ht hP⟩, hS.F ht⟩) hS.2.2 dRn_doCatch_109
    · -- 38 not taken
      refine lv_iload hx hb dRn_doCatch_41 (lv_at hl 1 rfl) ?_
      exact W.iret (v := r_3) hx hb hr (fun t9 ht hW => ⟨⟨r_3, u_4, rfl, by rw [← er_3]; exact xCatch_no (fun q => absurd q.2 (by rw [bI0 c_8]; decide)), ce_hp ht hP⟩, hS.F ht⟩) hS.2.2 dRn_doCatch_43
set_option maxHeartbeats 4000000 in
set_option maxRecDepth 100000 in
theorem c_Rn_doFinally (l : Launch) (D : va_G) (cI : ClassId) (a : Nat → Nat) (hd : dR a) (P : PR) (hp : pOk P) (k d : Nat) (hdk : d + 1 + k = 15) (ih : okDA l D cI a P k) (u : RS) (i z : Nat) (hiz : i < z) (hz : z ≤ P.2.2) : Met l yRn_doFinally (ce_ws yRn_doFinally cRn_doFinally 5 (some .int)) (ce_rm (3 * k + 3)) (ce_Pc D cI [.ref (a 0), .int (nI i), .int (nI z), .int (nI d)] (wR a cI P u)) (va_Qi (fun r u' => (r, u') = xFinally (xActs P k (i + 1) z u)) (fun u' t => va_P D vwCl (wR a cI P u') t.heap) (aR a)) 0 0 (aR a) := by
  refine Met.ofW (cc := cRn_doFinally) (maxL := 5) (ret := (some .int)) (by decide) rfl ?_
  intro p e s m args below meth c s₁ B hml hv
  obtain ⟨rfl, hP, hK, hN⟩ := hv
  have hx := B.exec
  have hb := B.bytes
  have hr := B.returns
  have hts := atoms_spec (ws := ce_ws yRn_doFinally cRn_doFinally 5 (some .int)) B.pre
  have hown : s.vm.findClass RRn = some m.cls := findClass_of_methodNamed B.named
  have hlocks := B.notSynchronized
  have hS : va_S (aR a) s.heap s.heap [] := va_S.rf
  have hl := lv_entry ([.ref (a 0), .int (nI i), .int (nI z), .int (nI d)]) (n := 5) (Nat.le_of_ble_eq_true rfl)
  rw [lg_entry_eq]
  generalize (lg_sl ([.ref (a 0), .int (nI i), .int (nI z), .int (nI d)]) ++ List.replicate (5 - (lg_sl ([.ref (a 0), .int (nI i), .int (nI z), .int (nI d)])).length) Slot.unset).toArray = ls at hl ⊢
  have hl : lv_has ls 5 [(0, .ref (a 0)), (1, .int (nI i)), (2, .int (nI z)), (3, .int (nI d))] := hl
  have hi : i < 14 := Nat.lt_of_lt_of_le hiz (Nat.le_trans hz hp.1)
  have h8 : P.2.1 i ≤ 255 := (hp.2 i (by omega)).2
  have h21 : P.1 i ≤ 21 := (hp.2 i (by omega)).1
  have hK16 : pK P i < 16 := by unfold pK; omega
  refine lv_aload_n hx hb dRn_doFinally_0 rfl (lv_at hl 0 rfl) ?_
  refine lv_iload_n hx hb dRn_doFinally_1 rfl (lv_at hl 1 rfl) ?_
  refine lv_iconst (v := 1) hx hb dRn_doFinally_2 (by decide) ?_
  refine lv_iadd hx hb dRn_doFinally_3 ?_
  refine lv_topi (fun y_1 ey_1 => ?_)
  obtain rfl : y_1 = nI (i + 1) := ey_1.trans (nI_1 i)
  refine lv_iload_n hx hb dRn_doFinally_4 rfl (lv_at hl 2 rfl) ?_
  refine lv_iload_n hx hb dRn_doFinally_5 rfl (lv_at hl 3 rfl) ?_
  refine lv_iconst (v := 1) hx hb dRn_doFinally_6 (by decide) ?_
  refine lv_iadd hx hb dRn_doFinally_7 ?_
  refine lv_topi (fun y_2 ey_2 => ?_)
  obtain rfl : y_2 = nI (d + 1) := ey_2.trans (nI_1 d)
  refine ce_vi (As := [.int (nI (i + 1)), .int (nI z), .int (nI (d + 1))]) (rest := []) ⟨hx, hb, hml, hown, hts⟩ (ih u (i + 1) z (d + 1) (by omega) (by omega) hz) mRn_doActions lRn_72 iRn_doActions (ce_hR (by omega) (by decide)) ⟨rfl, rfl⟩ hK hN hP hS rfl hl.1 rfl (Nat.le_of_ble_eq_true rfl) dRn_doFinally_8 ⟨Nat.le_of_ble_eq_true rfl, Nat.le_of_ble_eq_true rfl⟩ (fun r_3 u_4 H locs er_3 hP hS => ?_)
  refine lv_istore (lv' := [(4, .int r_3), (0, .ref (a 0)), (1, .int (nI i)), (2, .int (nI z)), (3, .int (nI d))]) hx hb dRn_doFinally_11 hl (by decide) rfl (fun ls hl => ?_)
  refine lv_aload_n hx hb dRn_doFinally_13 rfl (lv_at hl 1 rfl) ?_
  refine lv_dup hx hb dRn_doFinally_14 rfl ?_
  refine ce_gR hx hb hts hown hK hP 7 (by decide) rfl lRn_48 rfl dRn_doFinally_15 ?_
  refine lv_iconst (v := 1) hx hb dRn_doFinally_18 (by decide) ?_
  refine lv_iadd hx hb dRn_doFinally_19 ?_
  refine ce_pFin hx hb hts hown hK hd hP hS lRn_48 dRn_doFinally_20 (fun H locs hP hS => ?_)
  refine lv_aload_n hx hb dRn_doFinally_23 rfl (lv_at hl 1 rfl) ?_
  refine lv_aload_n hx hb dRn_doFinally_24 rfl (lv_at hl 1 rfl) ?_
  refine ce_gR hx hb hts hown hK hP 5 (by decide) rfl lRn_42 rfl dRn_doFinally_25 ?_
  refine lv_topi (fun y_5 ey_5 => ?_)
  obtain rfl : y_5 = gAcc u_4 := ey_5.trans (by rw [gAcc_sFin])
  refine lv_ineg hx hb dRn_doFinally_28 ?_
  refine ce_pAcc hx hb hts hown hK hd hP hS lRn_42 dRn_doFinally_29 (fun H locs hP hS => ?_)
  refine lv_iload hx hb dRn_doFinally_32 (lv_at hl 0 rfl) ?_
  exact W.iret (v := r_3) hx hb hr (fun t9 ht hW => ⟨⟨r_3, sAcc (sFin u_4 ((gFin u_4) + 1)) (-(gAcc u_4)), rfl, congrArg xFinally er_3, ce_hp ht hP⟩, hS.F ht⟩) hS.2.2 dRn_doFinally_34
set_option maxHeartbeats 4000000 in
set_option maxRecDepth 100000 in
theorem c_Rn_doDrop (l : Launch) (D : va_G) (cI : ClassId) (a : Nat → Nat) (hd : dR a) (P : PR) (hp : pOk P) (k d : Nat) (hdk : d + 1 + k = 15) (ih : okDA l D cI a P k) (u : RS) (i z : Nat) (hiz : i < z) (hz : z ≤ P.2.2) : Met l yRn_doDrop (ce_ws yRn_doDrop cRn_doDrop 4 (some .int)) (ce_rm (3 * k + 3)) (ce_Pc D cI [.ref (a 0), .int (nI i), .int (nI z), .int (nI d)] (wR a cI P u)) (va_Qi (fun r u' => (r, u') = xDrop (xActs P k (i + 1) z u)) (fun u' t => va_P D vwCl (wR a cI P u') t.heap) (aR a)) 0 0 (aR a) := by
  refine Met.ofW (cc := cRn_doDrop) (maxL := 4) (ret := (some .int)) (by decide) rfl ?_
  intro p e s m args below meth c s₁ B hml hv
  obtain ⟨rfl, hP, hK, hN⟩ := hv
  have hx := B.exec
  have hb := B.bytes
  have hr := B.returns
  have hts := atoms_spec (ws := ce_ws yRn_doDrop cRn_doDrop 4 (some .int)) B.pre
  have hown : s.vm.findClass RRn = some m.cls := findClass_of_methodNamed B.named
  have hlocks := B.notSynchronized
  have hS : va_S (aR a) s.heap s.heap [] := va_S.rf
  have hl := lv_entry ([.ref (a 0), .int (nI i), .int (nI z), .int (nI d)]) (n := 4) (Nat.le_of_ble_eq_true rfl)
  rw [lg_entry_eq]
  generalize (lg_sl ([.ref (a 0), .int (nI i), .int (nI z), .int (nI d)]) ++ List.replicate (4 - (lg_sl ([.ref (a 0), .int (nI i), .int (nI z), .int (nI d)])).length) Slot.unset).toArray = ls at hl ⊢
  have hl : lv_has ls 4 [(0, .ref (a 0)), (1, .int (nI i)), (2, .int (nI z)), (3, .int (nI d))] := hl
  have hi : i < 14 := Nat.lt_of_lt_of_le hiz (Nat.le_trans hz hp.1)
  have h8 : P.2.1 i ≤ 255 := (hp.2 i (by omega)).2
  have h21 : P.1 i ≤ 21 := (hp.2 i (by omega)).1
  have hK16 : pK P i < 16 := by unfold pK; omega
  refine lv_aload_n hx hb dRn_doDrop_0 rfl (lv_at hl 0 rfl) ?_
  refine lv_iload_n hx hb dRn_doDrop_1 rfl (lv_at hl 1 rfl) ?_
  refine lv_iconst (v := 1) hx hb dRn_doDrop_2 (by decide) ?_
  refine lv_iadd hx hb dRn_doDrop_3 ?_
  refine lv_topi (fun y_1 ey_1 => ?_)
  obtain rfl : y_1 = nI (i + 1) := ey_1.trans (nI_1 i)
  refine lv_iload_n hx hb dRn_doDrop_4 rfl (lv_at hl 2 rfl) ?_
  refine lv_iload_n hx hb dRn_doDrop_5 rfl (lv_at hl 3 rfl) ?_
  refine lv_iconst (v := 1) hx hb dRn_doDrop_6 (by decide) ?_
  refine lv_iadd hx hb dRn_doDrop_7 ?_
  refine lv_topi (fun y_2 ey_2 => ?_)
  obtain rfl : y_2 = nI (d + 1) := ey_2.trans (nI_1 d)
  refine ce_vi (As := [.int (nI (i + 1)), .int (nI z), .int (nI (d + 1))]) (rest := []) ⟨hx, hb, hml, hown, hts⟩ (ih u (i + 1) z (d + 1) (by omega) (by omega) hz) mRn_doActions lRn_72 iRn_doActions (ce_hR (by omega) (by decide)) ⟨rfl, rfl⟩ hK hN hP hS rfl hl.1 rfl (Nat.le_of_ble_eq_true rfl) dRn_doDrop_8 ⟨Nat.le_of_ble_eq_true rfl, Nat.le_of_ble_eq_true rfl⟩ (fun r_3 u_4 H locs er_3 hP hS => ?_)
  refine lv_pop hx hb dRn_doDrop_11 rfl ?_
  refine lv_aload_n hx hb dRn_doDrop_12 rfl (lv_at hl 0 rfl) ?_
  refine ce_vv (As := []) (rest := []) ⟨hx, hb, hml, hown, hts⟩ (c_Rn_forgetTrouble l D cI a hd P u_4) mRn_forgetTrouble lRn_79 iRn_forgetTrouble (ce_hR (by omega) (by decide)) ⟨rfl, rfl⟩ hK hN hP hS rfl hl.1 rfl (Nat.le_of_ble_eq_true rfl) dRn_doDrop_13 ⟨Nat.le_of_ble_eq_true rfl, Nat.le_of_ble_eq_true rfl⟩ (fun u_6 H locs er_5 hP hS => ?_)
  obtain rfl := er_5
  have hP : va_P D vwCl (wR a cI P (sOwn (sTa (sTr u_4 (-1)) (-1)) (-1))) H := hP
  refine lv_aload_n hx hb dRn_doDrop_16 rfl (lv_at hl 0 rfl) ?_
  refine lv_dup hx hb dRn_doDrop_17 rfl ?_
  refine ce_gR hx hb hts hown hK hP 7 (by decide) rfl lRn_48 rfl dRn_doDrop_18 ?_
  refine lv_topi (fun y_7 ey_7 => ?_)
  obtain rfl : y_7 = gFin u_4 := ey_7.trans (by rw [gFin_sOwn, gFin_sTa, gFin_sTr])
  refine lv_iconst (v := 1) hx hb dRn_doDrop_21 (by decide) ?_
  refine lv_iadd hx hb dRn_doDrop_22 ?_
  refine ce_pFin hx hb hts hown hK hd hP hS lRn_48 dRn_doDrop_23 (fun H locs hP hS => ?_)
  refine lv_iconst (v := 0) hx hb dRn_doDrop_26 (by decide) ?_
  exact W.iret (v := 0) hx hb hr (fun t9 ht hW => ⟨⟨0, sFin (sOwn (sTa (sTr u_4 (-1)) (-1)) (-1)) ((gFin u_4) + 1), rfl, congrArg xDrop er_3, ce_hp ht hP⟩, hS.F ht⟩) hS.2.2 dRn_doDrop_27
set_option maxHeartbeats 4000000 in
set_option maxRecDepth 100000 in
theorem c_Rn_doHold (l : Launch) (D : va_G) (cI : ClassId) (a : Nat → Nat) (hd : dR a) (P : PR) (hp : pOk P) (k d : Nat) (hdk : d + 1 + k = 15) (ih : okDA l D cI a P k) (u : RS) (i z : Nat) (hiz : i < z) (hz : z ≤ P.2.2) : Met l yRn_doHold (ce_ws yRn_doHold cRn_doHold 6 (some .int)) (ce_rm (3 * k + 3)) (ce_Pc D cI [.ref (a 0), .int (nI i), .int (nI z), .int (nI d)] (wR a cI P u)) (va_Qi (fun r u' => (r, u') = xLet P i (xActs P k (i + 1) z (xGrab P i u))) (fun u' t => va_P D vwCl (wR a cI P u') t.heap) (aR a)) 0 0 (aR a) := by
  refine Met.ofW (cc := cRn_doHold) (maxL := 6) (ret := (some .int)) (by decide) rfl ?_
  intro p e s m args below meth c s₁ B hml hv
  obtain ⟨rfl, hP, hK, hN⟩ := hv
  have hx := B.exec
  have hb := B.bytes
  have hr := B.returns
  have hts := atoms_spec (ws := ce_ws yRn_doHold cRn_doHold 6 (some .int)) B.pre
  have hown : s.vm.findClass RRn = some m.cls := findClass_of_methodNamed B.named
  have hlocks := B.notSynchronized
  have hS : va_S (aR a) s.heap s.heap [] := va_S.rf
  have hl := lv_entry ([.ref (a 0), .int (nI i), .int (nI z), .int (nI d)]) (n := 6) (Nat.le_of_ble_eq_true rfl)
  rw [lg_entry_eq]
  generalize (lg_sl ([.ref (a 0), .int (nI i), .int (nI z), .int (nI d)]) ++ List.replicate (6 - (lg_sl ([.ref (a 0), .int (nI i), .int (nI z), .int (nI d)])).length) Slot.unset).toArray = ls at hl ⊢
  have hl : lv_has ls 6 [(0, .ref (a 0)), (1, .int (nI i)), (2, .int (nI z)), (3, .int (nI d))] := hl
  have hi : i < 14 := Nat.lt_of_lt_of_le hiz (Nat.le_trans hz hp.1)
  have h8 : P.2.1 i ≤ 255 := (hp.2 i (by omega)).2
  have h21 : P.1 i ≤ 21 := (hp.2 i (by omega)).1
  have hK16 : pK P i < 16 := by unfold pK; omega
  refine lv_aload_n hx hb dRn_doHold_0 rfl (lv_at hl 0 rfl) ?_
  refine ce_gR hx hb hts hown hK hP 0 (by decide) rfl lRn_18 rfl dRn_doHold_1 ?_
  refine lv_iload_n hx hb dRn_doHold_4 rfl (lv_at hl 1 rfl) ?_
  refine ce_ri (As := [.int (nI i)]) (rest := []) ⟨hx, hb, hml, hown, hts⟩ (c_Pg_high l D cI a P i hi h8) mPg_high lRn_145 iPg_high (ce_hR (by omega) (by decide)) ⟨rfl, rfl⟩ hK hN (hP.sub (ws' := wP a cI P) [1, 2, 3] rfl) 0 rfl rfl rfl hl.1 rfl (Nat.le_of_ble_eq_true rfl) dRn_doHold_5 ⟨Nat.le_of_ble_eq_true rfl, Nat.le_of_ble_eq_true rfl⟩ (fun r_1 er_1 => ?_)
  obtain rfl : r_1 = nI (pK P i) := er_1
  refine lv_iconst (v := 2) hx hb dRn_doHold_8 (by decide) ?_
  refine lv_irem hx hb dRn_doHold_9 (by decide) ?_
  refine lv_topi (fun y_2 ey_2 => ?_)
  obtain rfl : y_2 = nI (pK P i % 2) := ey_2.trans (pk_rem (d := 2) (by omega) (by decide) (by decide))
  refine lv_istore (lv' := [(4, .int (nI (pK P i % 2))), (0, .ref (a 0)), (1, .int (nI i)), (2, .int (nI z)), (3, .int (nI d))]) hx hb dRn_doHold_10 hl (by decide) rfl (fun ls hl => ?_)
  refine lv_aload_n hx hb dRn_doHold_12 rfl (lv_at hl 1 rfl) ?_
  refine ce_gR hx hb hts hown hK hP 2 (by decide) rfl lRn_15 rfl dRn_doHold_13 ?_
  refine lv_iload hx hb dRn_doHold_16 (lv_at hl 0 rfl) ?_
  refine lv_dup2_11 hx hb dRn_doHold_18 rfl rfl ?_
  refine va_iald hx hb hK hP 5 0 rfl rfl (vp_in_nI (Nat.mod_lt _ (by decide)) (by decide)) dRn_doHold_19 ?_
  refine lv_topi (fun y_3 ey_3 => ?_)
  obtain rfl : y_3 = (gHolds u) (pK P i % 2) := ey_3.trans (congrArg (gHolds u) (nI_clamp (by omega)))
  refine lv_iconst (v := 1) hx hb dRn_doHold_20 (by decide) ?_
  refine lv_iadd hx hb dRn_doHold_21 ?_
  refine ce_ast5 hx hb hK hd hP hS (vp_in_nI (Nat.mod_lt _ (by decide)) (by decide)) dRn_doHold_22 (fun H locs hP hS => ?_)
  rw [nI_clamp (n := pK P i % 2) (by omega)] at hP
  have hP : va_P D vwCl (wR a cI P (sHolds u (upd (gHolds u) (pK P i % 2) (((gHolds u) (pK P i % 2)) + 1)))) H := hP
  refine lv_aload_n hx hb dRn_doHold_23 rfl (lv_at hl 1 rfl) ?_
  refine lv_iload_n hx hb dRn_doHold_24 rfl (lv_at hl 2 rfl) ?_
  refine lv_iconst (v := 1) hx hb dRn_doHold_25 (by decide) ?_
  refine lv_iadd hx hb dRn_doHold_26 ?_
  refine lv_topi (fun y_4 ey_4 => ?_)
  obtain rfl : y_4 = nI (i + 1) := ey_4.trans (nI_1 i)
  refine lv_iload_n hx hb dRn_doHold_27 rfl (lv_at hl 3 rfl) ?_
  refine lv_iload_n hx hb dRn_doHold_28 rfl (lv_at hl 4 rfl) ?_
  refine lv_iconst (v := 1) hx hb dRn_doHold_29 (by decide) ?_
  refine lv_iadd hx hb dRn_doHold_30 ?_
  refine lv_topi (fun y_5 ey_5 => ?_)
  obtain rfl : y_5 = nI (d + 1) := ey_5.trans (nI_1 d)
  refine ce_vi (As := [.int (nI (i + 1)), .int (nI z), .int (nI (d + 1))]) (rest := []) ⟨hx, hb, hml, hown, hts⟩ (ih (sHolds u (upd (gHolds u) (pK P i % 2) (((gHolds u) (pK P i % 2)) + 1))) (i + 1) z (d + 1) (by omega) (by omega) hz) mRn_doActions lRn_72 iRn_doActions (ce_hR (by omega) (by decide)) ⟨rfl, rfl⟩ hK hN hP hS rfl hl.1 rfl (Nat.le_of_ble_eq_true rfl) dRn_doHold_31 ⟨Nat.le_of_ble_eq_true rfl, Nat.le_of_ble_eq_true rfl⟩ (fun r_6 u_7 H locs er_6 hP hS => ?_)
  refine lv_istore (lv' := [(5, .int r_6), (4, .int (nI (pK P i % 2))), (0, .ref (a 0)), (1, .int (nI i)), (2, .int (nI z)), (3, .int (nI d))]) hx hb dRn_doHold_34 hl (by decide) rfl (fun ls hl => ?_)
  refine lv_aload_n hx hb dRn_doHold_36 rfl (lv_at hl 2 rfl) ?_
  refine ce_gR hx hb hts hown hK hP 2 (by decide) rfl lRn_15 rfl dRn_doHold_37 ?_
  refine lv_iload hx hb dRn_doHold_40 (lv_at hl 1 rfl) ?_
  refine lv_dup2_11 hx hb dRn_doHold_42 rfl rfl ?_
  refine va_iald hx hb hK hP 5 0 rfl rfl (vp_in_nI (Nat.mod_lt _ (by decide)) (by decide)) dRn_doHold_43 ?_
  refine lv_topi (fun y_8 ey_8 => ?_)
  obtain rfl : y_8 = (gHolds u_7) (pK P i % 2) := ey_8.trans (congrArg (gHolds u_7) (nI_clamp (by omega)))
  refine lv_iconst (v := 1) hx hb dRn_doHold_44 (by decide) ?_
  refine lv_isub hx hb dRn_doHold_45 ?_
  refine ce_ast5 hx hb hK hd hP hS (vp_in_nI (Nat.mod_lt _ (by decide)) (by decide)) dRn_doHold_46 (fun H locs hP hS => ?_)
  rw [nI_clamp (n := pK P i % 2) (by omega)] at hP
  have hP : va_P D vwCl (wR a cI P (sHolds u_7 (upd (gHolds u_7) (pK P i % 2) (((gHolds u_7) (pK P i % 2)) - 1)))) H := hP
  refine lv_iload hx hb dRn_doHold_47 (lv_at hl 0 rfl) ?_
  exact W.iret (v := r_6) hx hb hr (fun t9 ht hW => ⟨⟨r_6, sHolds u_7 (upd (gHolds u_7) (pK P i % 2) (((gHolds u_7) (pK P i % 2)) - 1)), rfl, congrArg (xLet P i) er_6, ce_hp ht hP⟩, hS.F ht⟩) hS.2.2 dRn_doHold_49
set_option maxHeartbeats 4000000 in
set_option maxRecDepth 100000 in
theorem c_Rn_doRepeat (l : Launch) (D : va_G) (cI : ClassId) (a : Nat → Nat) (hd : dR a) (P : PR) (hp : pOk P) (k d : Nat) (hdk : d + 1 + k = 15) (ih : okDA l D cI a P k) (u : RS) (i z : Nat) (hiz : i < z) (hz : z ≤ P.2.2) : Met l yRn_doRepeat (ce_ws yRn_doRepeat cRn_doRepeat 7 (some .int)) (ce_rm (3 * k + 3)) (ce_Pc D cI [.ref (a 0), .int (nI i), .int (nI z), .int (nI d)] (wR a cI P u)) (va_Qi (fun r u' => (r, u') = xRep (xActs P k (i + 1) z) (pK P i) u) (fun u' t => va_P D vwCl (wR a cI P u') t.heap) (aR a)) 0 0 (aR a) := by
  refine Met.ofW (cc := cRn_doRepeat) (maxL := 7) (ret := (some .int)) (by decide) rfl ?_
  intro p e s m args below meth c s₁ B hml hv
  obtain ⟨rfl, hP, hK, hN⟩ := hv
  have hx := B.exec
  have hb := B.bytes
  have hr := B.returns
  have hts := atoms_spec (ws := ce_ws yRn_doRepeat cRn_doRepeat 7 (some .int)) B.pre
  have hown : s.vm.findClass RRn = some m.cls := findClass_of_methodNamed B.named
  have hlocks := B.notSynchronized
  have hS : va_S (aR a) s.heap s.heap [] := va_S.rf
  have hl := lv_entry ([.ref (a 0), .int (nI i), .int (nI z), .int (nI d)]) (n := 7) (Nat.le_of_ble_eq_true rfl)
  rw [lg_entry_eq]
  generalize (lg_sl ([.ref (a 0), .int (nI i), .int (nI z), .int (nI d)]) ++ List.replicate (7 - (lg_sl ([.ref (a 0), .int (nI i), .int (nI z), .int (nI d)])).length) Slot.unset).toArray = ls at hl ⊢
  have hl : lv_has ls 7 [(0, .ref (a 0)), (1, .int (nI i)), (2, .int (nI z)), (3, .int (nI d))] := hl
  have hi : i < 14 := Nat.lt_of_lt_of_le hiz (Nat.le_trans hz hp.1)
  have h8 : P.2.1 i ≤ 255 := (hp.2 i (by omega)).2
  have h21 : P.1 i ≤ 21 := (hp.2 i (by omega)).1
  have hK16 : pK P i < 16 := by unfold pK; omega
  refine lv_aload_n hx hb dRn_doRepeat_0 rfl (lv_at hl 0 rfl) ?_
  refine ce_gR hx hb hts hown hK hP 0 (by decide) rfl lRn_18 rfl dRn_doRepeat_1 ?_
  refine lv_iload_n hx hb dRn_doRepeat_4 rfl (lv_at hl 1 rfl) ?_
  refine ce_ri (As := [.int (nI i)]) (rest := []) ⟨hx, hb, hml, hown, hts⟩ (c_Pg_high l D cI a P i hi h8) mPg_high lRn_145 iPg_high (ce_hR (by omega) (by decide)) ⟨rfl, rfl⟩ hK hN (hP.sub (ws' := wP a cI P) [1, 2, 3] rfl) 0 rfl rfl rfl hl.1 rfl (Nat.le_of_ble_eq_true rfl) dRn_doRepeat_5 ⟨Nat.le_of_ble_eq_true rfl, Nat.le_of_ble_eq_true rfl⟩ (fun r_1 er_1 => ?_)
  obtain rfl : r_1 = nI (pK P i) := er_1
  refine lv_istore (lv' := [(4, .int (nI (pK P i))), (0, .ref (a 0)), (1, .int (nI i)), (2, .int (nI z)), (3, .int (nI d))]) hx hb dRn_doRepeat_8 hl (by decide) rfl (fun ls hl => ?_)
  refine lv_iconst (v := 0) hx hb dRn_doRepeat_10 (by decide) ?_
  refine lv_istore (lv' := [(5, .int 0), (4, .int (nI (pK P i))), (0, .ref (a 0)), (1, .int (nI i)), (2, .int (nI z)), (3, .int (nI d))]) hx hb dRn_doRepeat_11 hl (by decide) rfl (fun ls hl => ?_)
  have loop : ∀ (n j : Nat) (v : RS) (H : Heap) (locs : List Loc) (ls : Array Slot), j + n = pK P i → (∀ rr uu, (rr, uu) = xRep (xActs P k (i + 1) z) n v → (rr, uu) = xRep (xActs P k (i + 1) z) (pK P i) u) → va_P D vwCl (wR a cI P v) H → va_S (aR a) s.heap H locs → lv_has ls 7 [(0, .ref (a 0)), (1, .int (nI i)), (2, .int (nI z)), (3, .int (nI d)), (4, .int (nI (pK P i))), (5, .int (nI j))] → W p l e (headSpec (ce_ws yRn_doRepeat cRn_doRepeat 7 (some .int)) (ce_rm (3 * k + 3))).room s m (([.ref (a 0), .int (nI i), .int (nI z), .int (nI d)] : List Value).toArray) below meth c H locs 0 0 (MQ below (va_Qi (fun r u' => (r, u') = xRep (xActs P k (i + 1) z) (pK P i) u) (fun u' t => va_P D vwCl (wR a cI P u') t.heap) (aR a)) (([.ref (a 0), .int (nI i), .int (nI z), .int (nI d)] : List Value).toArray) s 0 0 (aR a)) (F0 m 13 ls []) := by
    intro n
    induction n with
    | zero =>
      intro j v H locs ls hj hq hP hS hl
      refine lv_iload hx hb dRn_doRepeat_13 (lv_at hl 5 rfl) ?_
      refine lv_iload hx hb dRn_doRepeat_15 (lv_at hl 4 rfl) ?_
      refine lv_icmp_ge (tgt := 47) hx hb dRn_doRepeat_17 (by decide) (fun c_2 => ?_) (fun c_2 => ?_)
      · -- 17 taken
        refine lv_iconst (v := 0) hx hb dRn_doRepeat_47 (by decide) ?_
        exact W.iret (v := 0) hx hb hr (fun t9 ht hW => ⟨⟨0, v, rfl, hq _ _ rfl, ce_hp ht hP⟩, hS.F ht⟩) hS.2.2 dRn_doRepeat_48
      · -- 17 not taken
        exact absurd (nI_le (a := pK P i) (b := j) (by omega) (by omega)) c_2
    | succ n ihn =>
      intro j v H locs ls hj hq hP hS hl
      refine lv_iload hx hb dRn_doRepeat_13 (lv_at hl 5 rfl) ?_
      refine lv_iload hx hb dRn_doRepeat_15 (lv_at hl 4 rfl) ?_
      refine lv_icmp_ge (tgt := 47) hx hb dRn_doRepeat_17 (by decide) (fun c_3 => ?_) (fun c_3 => ?_)
      · -- 17 taken
        exact absurd c_3 (nI_ge (by omega) (by omega))
      · -- 17 not taken
        refine lv_aload_n hx hb dRn_doRepeat_20 rfl (lv_at hl 0 rfl) ?_
        refine lv_iload_n hx hb dRn_doRepeat_21 rfl (lv_at hl 1 rfl) ?_
        refine lv_iconst (v := 1) hx hb dRn_doRepeat_22 (by decide) ?_
        refine lv_iadd hx hb dRn_doRepeat_23 ?_
        refine lv_topi (fun y_4 ey_4 => ?_)
        obtain rfl : y_4 = nI (i + 1) := ey_4.trans (nI_1 i)
        refine lv_iload_n hx hb dRn_doRepeat_24 rfl (lv_at hl 2 rfl) ?_
        refine lv_iload_n hx hb dRn_doRepeat_25 rfl (lv_at hl 3 rfl) ?_
        refine lv_iconst (v := 1) hx hb dRn_doRepeat_26 (by decide) ?_
        refine lv_iadd hx hb dRn_doRepeat_27 ?_
        refine lv_topi (fun y_5 ey_5 => ?_)
        obtain rfl : y_5 = nI (d + 1) := ey_5.trans (nI_1 d)
        refine ce_vi (As := [.int (nI (i + 1)), .int (nI z), .int (nI (d + 1))]) (rest := []) ⟨hx, hb, hml, hown, hts⟩ (ih v (i + 1) z (d + 1) (by omega) (by omega) hz) mRn_doActions lRn_72 iRn_doActions (ce_hR (by omega) (by decide)) ⟨rfl, rfl⟩ hK hN hP hS rfl hl.1 rfl (Nat.le_of_ble_eq_true rfl) dRn_doRepeat_28 ⟨Nat.le_of_ble_eq_true rfl, Nat.le_of_ble_eq_true rfl⟩ (fun r_6 u_7 H locs er_6 hP hS => ?_)
        refine lv_istore (lv' := [(6, .int r_6), (0, .ref (a 0)), (1, .int (nI i)), (2, .int (nI z)), (3, .int (nI d)), (4, .int (nI (pK P i))), (5, .int (nI j))]) hx hb dRn_doRepeat_31 hl (by decide) rfl (fun ls hl => ?_)
        refine lv_iload hx hb dRn_doRepeat_33 (lv_at hl 0 rfl) ?_
        refine lv_if_eq (tgt := 41) hx hb dRn_doRepeat_35 (by decide) (fun c_8 => ?_) (fun c_8 => ?_)
        · -- 35 taken
          refine lv_iinc (v := nI (j + 1)) (lv' := [(5, .int (nI (j + 1))), (6, .int r_6), (0, .ref (a 0)), (1, .int (nI i)), (2, .int (nI z)), (3, .int (nI d)), (4, .int (nI (pK P i)))]) hx hb dRn_doRepeat_41 hl (k := 6) rfl (nI_1 j) (by decide) rfl (fun ls hl => ?_)
          refine lv_goto (tgt := 13) hx hb dRn_doRepeat_44 (by decide) ?_
          exact ihn (j + 1) u_7 _ _ _ (by omega) (fun rr uu h => hq rr uu (h.trans (xRep_go er_6 c_8))) hP hS (lv_sub hl [2, 3, 4, 5, 6, 0] rfl)
        · -- 35 not taken
          refine lv_iload hx hb dRn_doRepeat_38 (lv_at hl 0 rfl) ?_
          exact W.iret (v := r_6) hx hb hr (fun t9 ht hW => ⟨⟨r_6, u_7, rfl, hq _ _ (xRep_end er_6 c_8), ce_hp ht hP⟩, hS.F ht⟩) hS.2.2 dRn_doRepeat_40
  exact loop (pK P i) 0 u _ _ _ (by omega) (fun _ _ h => h) hP hS (lv_sub hl [2, 3, 4, 5, 1, 0] rfl)
set_option maxHeartbeats 4000000 in
set_option maxRecDepth 100000 in
theorem c_Rn_doAction (l : Launch) (D : va_G) (cI : ClassId) (a : Nat → Nat) (hd : dR a) (P : PR) (hp : pOk P) (k d : Nat) (hdk : d + 1 + k = 15) (ih : okDA l D cI a P k) (u : RS) (i z : Nat) (hiz : i < z) (hz : z ≤ P.2.2) : Met l yRn_doAction (ce_ws yRn_doAction cRn_doAction 5 (some .int)) (ce_rm (3 * k + 4)) (ce_Pc D cI [.ref (a 0), .int (nI i), .int (nI z), .int (nI d)] (wR a cI P u)) (va_Qi (fun r u' => (r, u') = xAct (xActs P k) P i z u) (fun u' t => va_P D vwCl (wR a cI P u') t.heap) (aR a)) 0 0 (aR a) := by
  refine Met.ofW (cc := cRn_doAction) (maxL := 5) (ret := (some .int)) (by decide) rfl ?_
  intro p e s m args below meth c s₁ B hml hv
  obtain ⟨rfl, hP, hK, hN⟩ := hv
  have hx := B.exec
  have hb := B.bytes
  have hr := B.returns
  have hts := atoms_spec (ws := ce_ws yRn_doAction cRn_doAction 5 (some .int)) B.pre
  have hown : s.vm.findClass RRn = some m.cls := findClass_of_methodNamed B.named
  have hlocks := B.notSynchronized
  have hS : va_S (aR a) s.heap s.heap [] := va_S.rf
  have hl := lv_entry ([.ref (a 0), .int (nI i), .int (nI z), .int (nI d)]) (n := 5) (Nat.le_of_ble_eq_true rfl)
  rw [lg_entry_eq]
  generalize (lg_sl ([.ref (a 0), .int (nI i), .int (nI z), .int (nI d)]) ++ List.replicate (5 - (lg_sl ([.ref (a 0), .int (nI i), .int (nI z), .int (nI d)])).length) Slot.unset).toArray = ls at hl ⊢
  have hl : lv_has ls 5 [(0, .ref (a 0)), (1, .int (nI i)), (2, .int (nI z)), (3, .int (nI d))] := hl
  have hi : i < 14 := Nat.lt_of_lt_of_le hiz (Nat.le_trans hz hp.1)
  have h8 : P.2.1 i ≤ 255 := (hp.2 i (by omega)).2
  have h21 : P.1 i ≤ 21 := (hp.2 i (by omega)).1
  have hK16 : pK P i < 16 := by unfold pK; omega
  refine lv_aload_n hx hb dRn_doAction_0 rfl (lv_at hl 0 rfl) ?_
  refine ce_gR hx hb hts hown hK hP 0 (by decide) rfl lRn_18 rfl dRn_doAction_1 ?_
  refine lv_iload_n hx hb dRn_doAction_4 rfl (lv_at hl 1 rfl) ?_
  refine ce_ri (As := [.int (nI i)]) (rest := []) ⟨hx, hb, hml, hown, hts⟩ (c_Pg_value l D cI a P i hi) mPg_value lRn_89 iPg_value (ce_hR (by omega) (by decide)) ⟨rfl, rfl⟩ hK hN (hP.sub (ws' := wP a cI P) [1, 2, 3] rfl) 0 rfl rfl rfl hl.1 rfl (Nat.le_of_ble_eq_true rfl) dRn_doAction_5 ⟨Nat.le_of_ble_eq_true rfl, Nat.le_of_ble_eq_true rfl⟩ (fun r_1 er_1 => ?_)
  obtain rfl : r_1 = pV P i := er_1
  refine lv_istore (lv' := [(4, .int (pV P i)), (0, .ref (a 0)), (1, .int (nI i)), (2, .int (nI z)), (3, .int (nI d))]) hx hb dRn_doAction_8 hl (by decide) rfl (fun ls hl => ?_)
  refine lv_aload_n hx hb dRn_doAction_10 rfl (lv_at hl 1 rfl) ?_
  refine ce_gR hx hb hts hown hK hP 0 (by decide) rfl lRn_18 rfl dRn_doAction_11 ?_
  refine lv_iload_n hx hb dRn_doAction_14 rfl (lv_at hl 2 rfl) ?_
  refine ce_ri (As := [.int (nI i)]) (rest := []) ⟨hx, hb, hml, hown, hts⟩ (c_Pg_op l D cI a P i hi) mPg_op lRn_93 iPg_op (ce_hR (by omega) (by decide)) ⟨rfl, rfl⟩ hK hN (hP.sub (ws' := wP a cI P) [1, 2, 3] rfl) 0 rfl rfl rfl hl.1 rfl (Nat.le_of_ble_eq_true rfl) dRn_doAction_15 ⟨Nat.le_of_ble_eq_true rfl, Nat.le_of_ble_eq_true rfl⟩ (fun r_2 er_2 => ?_)
  obtain rfl : r_2 = nI (P.1 i) := er_2
  rcases (show P.1 i = 0 ∨ P.1 i = 1 ∨ P.1 i = 2 ∨ P.1 i = 3 ∨ P.1 i = 4 ∨ P.1 i = 5 ∨ P.1 i = 6 ∨ P.1 i = 7 ∨ P.1 i = 8 ∨ P.1 i = 9 ∨ P.1 i = 10 ∨ P.1 i = 11 ∨ P.1 i = 12 ∨ P.1 i = 13 ∨ P.1 i = 14 ∨ P.1 i = 15 ∨ P.1 i = 16 ∨ P.1 i = 17 ∨ P.1 i = 18 ∨ P.1 i = 19 ∨ P.1 i = 20 ∨ P.1 i = 21 by omega) with hk | hk | hk | hk | hk | hk | hk | hk | hk | hk | hk | hk | hk | hk | hk | hk | hk | hk | hk | hk | hk | hk
  · -- op 0
    refine lv_tableIn (tgt := 120) hx hb dRn_doAction_18 (by rw [hk]; decide) (by rw [hk]; decide) (by rw [hk]; rfl) (by decide) ?_
    refine lv_aload_n hx hb dRn_doAction_120 rfl (lv_at hl 1 rfl) ?_
    refine lv_aload_n hx hb dRn_doAction_121 rfl (lv_at hl 1 rfl) ?_
    refine ce_gR hx hb hts hown hK hP 5 (by decide) rfl lRn_42 rfl dRn_doAction_122 ?_
    refine lv_iload hx hb dRn_doAction_125 (lv_at hl 0 rfl) ?_
    refine lv_iadd hx hb dRn_doAction_127 ?_
    refine ce_vi (As := [.int ((gAcc u) + (pV P i))]) (rest := []) ⟨hx, hb, hml, hown, hts⟩ (c_Rn_become l D cI a hd P u ((gAcc u) + (pV P i))) mRn_become lRn_96 iRn_become (ce_hR (by omega) (by decide)) ⟨rfl, rfl⟩ hK hN hP hS rfl hl.1 rfl (Nat.le_of_ble_eq_true rfl) dRn_doAction_128 ⟨Nat.le_of_ble_eq_true rfl, Nat.le_of_ble_eq_true rfl⟩ (fun r_3 u_4 H locs er_3 hP hS => ?_)
    obtain ⟨rfl, rfl⟩ := Prod.mk.inj er_3
    exact W.iret (v := 0) hx hb hr (fun t9 ht hW => ⟨⟨0, sAcc u ((gAcc u) + (pV P i)), rfl, (xAct_0 hk).symm, ce_hp ht hP⟩, hS.F ht⟩) hS.2.2 dRn_doAction_131
  · -- op 1
    refine lv_tableIn (tgt := 132) hx hb dRn_doAction_18 (by rw [hk]; decide) (by rw [hk]; decide) (by rw [hk]; rfl) (by decide) ?_
    refine lv_aload_n hx hb dRn_doAction_132 rfl (lv_at hl 1 rfl) ?_
    refine lv_aload_n hx hb dRn_doAction_133 rfl (lv_at hl 1 rfl) ?_
    refine ce_gR hx hb hts hown hK hP 5 (by decide) rfl lRn_42 rfl dRn_doAction_134 ?_
    refine lv_iload hx hb dRn_doAction_137 (lv_at hl 0 rfl) ?_
    refine lv_imul hx hb dRn_doAction_139 ?_
    refine ce_vi (As := [.int ((gAcc u) * (pV P i))]) (rest := []) ⟨hx, hb, hml, hown, hts⟩ (c_Rn_become l D cI a hd P u ((gAcc u) * (pV P i))) mRn_become lRn_96 iRn_become (ce_hR (by omega) (by decide)) ⟨rfl, rfl⟩ hK hN hP hS rfl hl.1 rfl (Nat.le_of_ble_eq_true rfl) dRn_doAction_140 ⟨Nat.le_of_ble_eq_true rfl, Nat.le_of_ble_eq_true rfl⟩ (fun r_5 u_6 H locs er_5 hP hS => ?_)
    obtain ⟨rfl, rfl⟩ := Prod.mk.inj er_5
    exact W.iret (v := 0) hx hb hr (fun t9 ht hW => ⟨⟨0, sAcc u ((gAcc u) * (pV P i)), rfl, (xAct_1 hk).symm, ce_hp ht hP⟩, hS.F ht⟩) hS.2.2 dRn_doAction_143
  · -- op 2
    refine lv_tableIn (tgt := 144) hx hb dRn_doAction_18 (by rw [hk]; decide) (by rw [hk]; decide) (by rw [hk]; rfl) (by decide) ?_
    refine lv_iload hx hb dRn_doAction_144 (lv_at hl 0 rfl) ?_
    refine lv_if_ne (tgt := 158) hx hb dRn_doAction_146 (by decide) (fun c_7 => ?_) (fun c_7 => ?_)
    · -- 146 taken
      refine lv_aload_n hx hb dRn_doAction_158 rfl (lv_at hl 1 rfl) ?_
      refine lv_aload_n hx hb dRn_doAction_159 rfl (lv_at hl 1 rfl) ?_
      refine ce_gR hx hb hts hown hK hP 5 (by decide) rfl lRn_42 rfl dRn_doAction_160 ?_
      refine lv_iload hx hb dRn_doAction_163 (lv_at hl 0 rfl) ?_
      refine lv_idiv hx hb dRn_doAction_165 c_7 ?_
      refine ce_vi (As := [.int ((gAcc u) / (pV P i))]) (rest := []) ⟨hx, hb, hml, hown, hts⟩ (c_Rn_become l D cI a hd P u ((gAcc u) / (pV P i))) mRn_become lRn_96 iRn_become (ce_hR (by omega) (by decide)) ⟨rfl, rfl⟩ hK hN hP hS rfl hl.1 rfl (Nat.le_of_ble_eq_true rfl) dRn_doAction_166 ⟨Nat.le_of_ble_eq_true rfl, Nat.le_of_ble_eq_true rfl⟩ (fun r_8 u_9 H locs er_8 hP hS => ?_)
      obtain ⟨rfl, rfl⟩ := Prod.mk.inj er_8
      exact W.iret (v := 0) hx hb hr (fun t9 ht hW => ⟨⟨0, sAcc u ((gAcc u) / (pV P i)), rfl, ((xAct_2 hk).trans (if_neg c_7)).symm, ce_hp ht hP⟩, hS.F ht⟩) hS.2.2 dRn_doAction_169
    · -- 146 not taken
      refine lv_aload_n hx hb dRn_doAction_149 rfl (lv_at hl 1 rfl) ?_
      refine lv_iload_n hx hb dRn_doAction_150 rfl (lv_at hl 2 rfl) ?_
      refine lv_iconst (v := 0) hx hb dRn_doAction_151 (by decide) ?_
      refine ce_vi (As := [.int (nI i), .int 0]) (rest := []) ⟨hx, hb, hml, hown, hts⟩ (c_Rn_comesUp l D cI a hd P u (nI i) 0) mRn_comesUp lRn_99 iRn_comesUp (ce_hR (by omega) (by decide)) ⟨rfl, rfl⟩ hK hN hP hS rfl hl.1 rfl (Nat.le_of_ble_eq_true rfl) dRn_doAction_152 ⟨Nat.le_of_ble_eq_true rfl, Nat.le_of_ble_eq_true rfl⟩ (fun r_10 u_11 H locs er_10 hP hS => ?_)
      obtain ⟨rfl, rfl⟩ := Prod.mk.inj er_10
      refine lv_goto (tgt := 169) hx hb dRn_doAction_155 (by decide) ?_
      exact W.iret (v := 2) hx hb hr (fun t9 ht hW => ⟨⟨2, sOwn (sTa (sTr u 0) (nI i)) (-1), rfl, ((xAct_2 hk).trans (if_pos c_7)).symm, ce_hp ht hP⟩, hS.F ht⟩) hS.2.2 dRn_doAction_169
  · -- op 3
    refine lv_tableIn (tgt := 170) hx hb dRn_doAction_18 (by rw [hk]; decide) (by rw [hk]; decide) (by rw [hk]; rfl) (by decide) ?_
    refine lv_iload hx hb dRn_doAction_170 (lv_at hl 0 rfl) ?_
    refine lv_if_ne (tgt := 184) hx hb dRn_doAction_172 (by decide) (fun c_12 => ?_) (fun c_12 => ?_)
    · -- 172 taken
      refine lv_aload_n hx hb dRn_doAction_184 rfl (lv_at hl 1 rfl) ?_
      refine lv_aload_n hx hb dRn_doAction_185 rfl (lv_at hl 1 rfl) ?_
      refine ce_gR hx hb hts hown hK hP 5 (by decide) rfl lRn_42 rfl dRn_doAction_186 ?_
      refine lv_iload hx hb dRn_doAction_189 (lv_at hl 0 rfl) ?_
      refine lv_irem hx hb dRn_doAction_191 c_12 ?_
      refine ce_vi (As := [.int ((gAcc u) - (gAcc u) / (pV P i) * (pV P i))]) (rest := []) ⟨hx, hb, hml, hown, hts⟩ (c_Rn_become l D cI a hd P u ((gAcc u) - (gAcc u) / (pV P i) * (pV P i))) mRn_become lRn_96 iRn_become (ce_hR (by omega) (by decide)) ⟨rfl, rfl⟩ hK hN hP hS rfl hl.1 rfl (Nat.le_of_ble_eq_true rfl) dRn_doAction_192 ⟨Nat.le_of_ble_eq_true rfl, Nat.le_of_ble_eq_true rfl⟩ (fun r_13 u_14 H locs er_13 hP hS => ?_)
      obtain ⟨rfl, rfl⟩ := Prod.mk.inj er_13
      exact W.iret (v := 0) hx hb hr (fun t9 ht hW => ⟨⟨0, sAcc u ((gAcc u) - (gAcc u) / (pV P i) * (pV P i)), rfl, ((xAct_3 hk).trans (if_neg c_12)).symm, ce_hp ht hP⟩, hS.F ht⟩) hS.2.2 dRn_doAction_195
    · -- 172 not taken
      refine lv_aload_n hx hb dRn_doAction_175 rfl (lv_at hl 1 rfl) ?_
      refine lv_iload_n hx hb dRn_doAction_176 rfl (lv_at hl 2 rfl) ?_
      refine lv_iconst (v := 0) hx hb dRn_doAction_177 (by decide) ?_
      refine ce_vi (As := [.int (nI i), .int 0]) (rest := []) ⟨hx, hb, hml, hown, hts⟩ (c_Rn_comesUp l D cI a hd P u (nI i) 0) mRn_comesUp lRn_99 iRn_comesUp (ce_hR (by omega) (by decide)) ⟨rfl, rfl⟩ hK hN hP hS rfl hl.1 rfl (Nat.le_of_ble_eq_true rfl) dRn_doAction_178 ⟨Nat.le_of_ble_eq_true rfl, Nat.le_of_ble_eq_true rfl⟩ (fun r_15 u_16 H locs er_15 hP hS => ?_)
      obtain ⟨rfl, rfl⟩ := Prod.mk.inj er_15
      refine lv_goto (tgt := 195) hx hb dRn_doAction_181 (by decide) ?_
      exact W.iret (v := 2) hx hb hr (fun t9 ht hW => ⟨⟨2, sOwn (sTa (sTr u 0) (nI i)) (-1), rfl, ((xAct_3 hk).trans (if_pos c_12)).symm, ce_hp ht hP⟩, hS.F ht⟩) hS.2.2 dRn_doAction_195
  · -- op 4
    refine lv_tableIn (tgt := 196) hx hb dRn_doAction_18 (by rw [hk]; decide) (by rw [hk]; decide) (by rw [hk]; rfl) (by decide) ?_
    refine lv_iload hx hb dRn_doAction_196 (lv_at hl 0 rfl) ?_
    refine ce_si (As := [.int (pV P i)]) (rest := []) ⟨hx, hb, hml, hown, hts⟩ (c_Rn_isCell l D cI a _ (pV P i)) mRn_isCell lRn_102 sRn_isCell (ce_hR (by omega) (by decide)) ⟨rfl, rfl⟩ hK hN hP rfl hl.1 rfl (Nat.le_of_ble_eq_true rfl) dRn_doAction_198 ⟨Nat.le_of_ble_eq_true rfl, Nat.le_of_ble_eq_true rfl⟩ (fun r_17 er_17 => ?_)
    obtain rfl : r_17 = bI (isW (pV P i) 7) := er_17
    refine lv_if_eq (tgt := 218) hx hb dRn_doAction_201 (by decide) (fun c_18 => ?_) (fun c_18 => ?_)
    · -- 201 taken
      refine lv_aload_n hx hb dRn_doAction_218 rfl (lv_at hl 1 rfl) ?_
      refine lv_iload_n hx hb dRn_doAction_219 rfl (lv_at hl 2 rfl) ?_
      refine lv_iconst (v := 1) hx hb dRn_doAction_220 (by decide) ?_
      refine ce_vi (As := [.int (nI i), .int 1]) (rest := []) ⟨hx, hb, hml, hown, hts⟩ (c_Rn_comesUp l D cI a hd P u (nI i) 1) mRn_comesUp lRn_99 iRn_comesUp (ce_hR (by omega) (by decide)) ⟨rfl, rfl⟩ hK hN hP hS rfl hl.1 rfl (Nat.le_of_ble_eq_true rfl) dRn_doAction_221 ⟨Nat.le_of_ble_eq_true rfl, Nat.le_of_ble_eq_true rfl⟩ (fun r_19 u_20 H locs er_19 hP hS => ?_)
      obtain ⟨rfl, rfl⟩ := Prod.mk.inj er_19
      exact W.iret (v := 2) hx hb hr (fun t9 ht hW => ⟨⟨2, sOwn (sTa (sTr u 1) (nI i)) (-1), rfl, ((xAct_4 hk).trans (if_neg (by rw [bI0 c_18]; decide))).symm, ce_hp ht hP⟩, hS.F ht⟩) hS.2.2 dRn_doAction_224
    · -- 201 not taken
      refine lv_aload_n hx hb dRn_doAction_204 rfl (lv_at hl 1 rfl) ?_
      refine lv_aload_n hx hb dRn_doAction_205 rfl (lv_at hl 1 rfl) ?_
      refine ce_gR hx hb hts hown hK hP 1 (by decide) rfl lRn_11 rfl dRn_doAction_206 ?_
      refine lv_iload hx hb dRn_doAction_209 (lv_at hl 0 rfl) ?_
      refine va_iald hx hb hK hP 4 0 rfl rfl (isW_in (bI1 c_18)) dRn_doAction_211 ?_
      refine ce_vi (As := [.int ((gCells u) (pV P i).toNatClampNeg)]) (rest := []) ⟨hx, hb, hml, hown, hts⟩ (c_Rn_become l D cI a hd P u ((gCells u) (pV P i).toNatClampNeg)) mRn_become lRn_96 iRn_become (ce_hR (by omega) (by decide)) ⟨rfl, rfl⟩ hK hN hP hS rfl hl.1 rfl (Nat.le_of_ble_eq_true rfl) dRn_doAction_212 ⟨Nat.le_of_ble_eq_true rfl, Nat.le_of_ble_eq_true rfl⟩ (fun r_21 u_22 H locs er_21 hP hS => ?_)
      obtain ⟨rfl, rfl⟩ := Prod.mk.inj er_21
      refine lv_goto (tgt := 224) hx hb dRn_doAction_215 (by decide) ?_
      exact W.iret (v := 0) hx hb hr (fun t9 ht hW => ⟨⟨0, sAcc u ((gCells u) (pV P i).toNatClampNeg), rfl, ((xAct_4 hk).trans (if_pos (bI1 c_18))).symm, ce_hp ht hP⟩, hS.F ht⟩) hS.2.2 dRn_doAction_224
  · -- op 5
    refine lv_tableIn (tgt := 225) hx hb dRn_doAction_18 (by rw [hk]; decide) (by rw [hk]; decide) (by rw [hk]; rfl) (by decide) ?_
    refine lv_aload_n hx hb dRn_doAction_225 rfl (lv_at hl 1 rfl) ?_
    refine lv_iload_n hx hb dRn_doAction_226 rfl (lv_at hl 2 rfl) ?_
    refine ce_vi (As := [.int (nI i)]) (rest := []) ⟨hx, hb, hml, hown, hts⟩ (c_Rn_doKeep l D cI a hd P u i hi h8) mRn_doKeep lRn_106 iRn_doKeep (ce_hR (by omega) (by decide)) ⟨rfl, rfl⟩ hK hN hP hS rfl hl.1 rfl (Nat.le_of_ble_eq_true rfl) dRn_doAction_227 ⟨Nat.le_of_ble_eq_true rfl, Nat.le_of_ble_eq_true rfl⟩ (fun r_23 u_24 H locs er_23 hP hS => ?_)
    exact W.iret (v := r_23) hx hb hr (fun t9 ht hW => ⟨⟨r_23, u_24, rfl, er_23.trans (xAct_5 hk).symm, ce_hp ht hP⟩, hS.F ht⟩) hS.2.2 dRn_doAction_230
  · -- op 6
    refine lv_tableIn (tgt := 231) hx hb dRn_doAction_18 (by rw [hk]; decide) (by rw [hk]; decide) (by rw [hk]; rfl) (by decide) ?_
    refine lv_aload_n hx hb dRn_doAction_231 rfl (lv_at hl 1 rfl) ?_
    refine lv_iload_n hx hb dRn_doAction_232 rfl (lv_at hl 2 rfl) ?_
    refine ce_vi (As := [.int (nI i)]) (rest := []) ⟨hx, hb, hml, hown, hts⟩ (c_Rn_doBreak l D cI a hd P u i hi h8) mRn_doBreak lRn_109 iRn_doBreak (ce_hR (by omega) (by decide)) ⟨rfl, rfl⟩ hK hN hP hS rfl hl.1 rfl (Nat.le_of_ble_eq_true rfl) dRn_doAction_233 ⟨Nat.le_of_ble_eq_true rfl, Nat.le_of_ble_eq_true rfl⟩ (fun r_25 u_26 H locs er_25 hP hS => ?_)
    exact W.iret (v := r_25) hx hb hr (fun t9 ht hW => ⟨⟨r_25, u_26, rfl, er_25.trans (xAct_6 hk).symm, ce_hp ht hP⟩, hS.F ht⟩) hS.2.2 dRn_doAction_236
  · -- op 7
    refine lv_tableIn (tgt := 237) hx hb dRn_doAction_18 (by rw [hk]; decide) (by rw [hk]; decide) (by rw [hk]; rfl) (by decide) ?_
    refine lv_aload_n hx hb dRn_doAction_237 rfl (lv_at hl 1 rfl) ?_
    refine lv_iload_n hx hb dRn_doAction_238 rfl (lv_at hl 2 rfl) ?_
    refine ce_vi (As := [.int (nI i)]) (rest := []) ⟨hx, hb, hml, hown, hts⟩ (c_Rn_doThrow l D cI a hd P u i hi h8) mRn_doThrow lRn_112 iRn_doThrow (ce_hR (by omega) (by decide)) ⟨rfl, rfl⟩ hK hN hP hS rfl hl.1 rfl (Nat.le_of_ble_eq_true rfl) dRn_doAction_239 ⟨Nat.le_of_ble_eq_true rfl, Nat.le_of_ble_eq_true rfl⟩ (fun r_27 u_28 H locs er_27 hP hS => ?_)
    exact W.iret (v := r_27) hx hb hr (fun t9 ht hW => ⟨⟨r_27, u_28, rfl, er_27.trans (xAct_7 hk).symm, ce_hp ht hP⟩, hS.F ht⟩) hS.2.2 dRn_doAction_242
  · -- op 8
    refine lv_tableIn (tgt := 243) hx hb dRn_doAction_18 (by rw [hk]; decide) (by rw [hk]; decide) (by rw [hk]; rfl) (by decide) ?_
    refine lv_aload_n hx hb dRn_doAction_243 rfl (lv_at hl 1 rfl) ?_
    refine ce_vi (As := []) (rest := []) ⟨hx, hb, hml, hown, hts⟩ (c_Rn_doInterrupt l D cI a hd P u) mRn_doInterrupt lRn_115 iRn_doInterrupt (ce_hR (by omega) (by decide)) ⟨rfl, rfl⟩ hK hN hP hS rfl hl.1 rfl (Nat.le_of_ble_eq_true rfl) dRn_doAction_244 ⟨Nat.le_of_ble_eq_true rfl, Nat.le_of_ble_eq_true rfl⟩ (fun r_29 u_30 H locs er_29 hP hS => ?_)
    obtain ⟨rfl, rfl⟩ := Prod.mk.inj er_29
    exact W.iret (v := 0) hx hb hr (fun t9 ht hW => ⟨⟨0, sMark u true, rfl, (xAct_8 hk).symm, ce_hp ht hP⟩, hS.F ht⟩) hS.2.2 dRn_doAction_247
  · -- op 9
    refine lv_tableIn (tgt := 248) hx hb dRn_doAction_18 (by rw [hk]; decide) (by rw [hk]; decide) (by rw [hk]; rfl) (by decide) ?_
    refine lv_aload_n hx hb dRn_doAction_248 rfl (lv_at hl 1 rfl) ?_
    refine ce_vi (As := []) (rest := []) ⟨hx, hb, hml, hown, hts⟩ (c_Rn_doLook l D cI a hd P u) mRn_doLook lRn_118 iRn_doLook (ce_hR (by omega) (by decide)) ⟨rfl, rfl⟩ hK hN hP hS rfl hl.1 rfl (Nat.le_of_ble_eq_true rfl) dRn_doAction_249 ⟨Nat.le_of_ble_eq_true rfl, Nat.le_of_ble_eq_true rfl⟩ (fun r_31 u_32 H locs er_31 hP hS => ?_)
    obtain ⟨rfl, rfl⟩ := Prod.mk.inj er_31
    exact W.iret (v := 0) hx hb hr (fun t9 ht hW => ⟨⟨0, sMark (sAcc u (bI (gMark u))) false, rfl, (xAct_9 hk).symm, ce_hp ht hP⟩, hS.F ht⟩) hS.2.2 dRn_doAction_252
  · -- op 10
    refine lv_tableIn (tgt := 253) hx hb dRn_doAction_18 (by rw [hk]; decide) (by rw [hk]; decide) (by rw [hk]; rfl) (by decide) ?_
    refine lv_aload_n hx hb dRn_doAction_253 rfl (lv_at hl 1 rfl) ?_
    refine lv_iload_n hx hb dRn_doAction_254 rfl (lv_at hl 2 rfl) ?_
    refine lv_iload_n hx hb dRn_doAction_255 rfl (lv_at hl 3 rfl) ?_
    refine lv_iload_n hx hb dRn_doAction_256 rfl (lv_at hl 4 rfl) ?_
    refine ce_vi (As := [.int (nI i), .int (nI z), .int (nI d)]) (rest := []) ⟨hx, hb, hml, hown, hts⟩ (c_Rn_doCatch l D cI a hd P hp k d hdk ih u i z hiz hz) mRn_doCatch lRn_121 iRn_doCatch (ce_hR (by omega) (by decide)) ⟨rfl, rfl⟩ hK hN hP hS rfl hl.1 rfl (Nat.le_of_ble_eq_true rfl) dRn_doAction_257 ⟨Nat.le_of_ble_eq_true rfl, Nat.le_of_ble_eq_true rfl⟩ (fun r_33 u_34 H locs er_33 hP hS => ?_)
    exact W.iret (v := r_33) hx hb hr (fun t9 ht hW => ⟨⟨r_33, u_34, rfl, er_33.trans (xAct_10 hk).symm, ce_hp ht hP⟩, hS.F ht⟩) hS.2.2 dRn_doAction_260
  · -- op 11
    refine lv_tableIn (tgt := 261) hx hb dRn_doAction_18 (by rw [hk]; decide) (by rw [hk]; decide) (by rw [hk]; rfl) (by decide) ?_
    refine lv_aload_n hx hb dRn_doAction_261 rfl (lv_at hl 1 rfl) ?_
    refine lv_iload_n hx hb dRn_doAction_262 rfl (lv_at hl 2 rfl) ?_
    refine lv_iload_n hx hb dRn_doAction_263 rfl (lv_at hl 3 rfl) ?_
    refine lv_iload_n hx hb dRn_doAction_264 rfl (lv_at hl 4 rfl) ?_
    refine ce_vi (As := [.int (nI i), .int (nI z), .int (nI d)]) (rest := []) ⟨hx, hb, hml, hown, hts⟩ (c_Rn_doFinally l D cI a hd P hp k d hdk ih u i z hiz hz) mRn_doFinally lRn_124 iRn_doFinally (ce_hR (by omega) (by decide)) ⟨rfl, rfl⟩ hK hN hP hS rfl hl.1 rfl (Nat.le_of_ble_eq_true rfl) dRn_doAction_265 ⟨Nat.le_of_ble_eq_true rfl, Nat.le_of_ble_eq_true rfl⟩ (fun r_35 u_36 H locs er_35 hP hS => ?_)
    exact W.iret (v := r_35) hx hb hr (fun t9 ht hW => ⟨⟨r_35, u_36, rfl, er_35.trans (xAct_11 hk).symm, ce_hp ht hP⟩, hS.F ht⟩) hS.2.2 dRn_doAction_268
  · -- op 12
    refine lv_tableIn (tgt := 269) hx hb dRn_doAction_18 (by rw [hk]; decide) (by rw [hk]; decide) (by rw [hk]; rfl) (by decide) ?_
    refine lv_aload_n hx hb dRn_doAction_269 rfl (lv_at hl 1 rfl) ?_
    refine lv_iload_n hx hb dRn_doAction_270 rfl (lv_at hl 2 rfl) ?_
    refine lv_iload_n hx hb dRn_doAction_271 rfl (lv_at hl 3 rfl) ?_
    refine lv_iload_n hx hb dRn_doAction_272 rfl (lv_at hl 4 rfl) ?_
    refine ce_vi (As := [.int (nI i), .int (nI z), .int (nI d)]) (rest := []) ⟨hx, hb, hml, hown, hts⟩ (c_Rn_doDrop l D cI a hd P hp k d hdk ih u i z hiz hz) mRn_doDrop lRn_127 iRn_doDrop (ce_hR (by omega) (by decide)) ⟨rfl, rfl⟩ hK hN hP hS rfl hl.1 rfl (Nat.le_of_ble_eq_true rfl) dRn_doAction_273 ⟨Nat.le_of_ble_eq_true rfl, Nat.le_of_ble_eq_true rfl⟩ (fun r_37 u_38 H locs er_37 hP hS => ?_)
    exact W.iret (v := r_37) hx hb hr (fun t9 ht hW => ⟨⟨r_37, u_38, rfl, er_37.trans (xAct_12 hk).symm, ce_hp ht hP⟩, hS.F ht⟩) hS.2.2 dRn_doAction_276
  · -- op 13
    refine lv_tableIn (tgt := 277) hx hb dRn_doAction_18 (by rw [hk]; decide) (by rw [hk]; decide) (by rw [hk]; rfl) (by decide) ?_
    refine lv_aload_n hx hb dRn_doAction_277 rfl (lv_at hl 1 rfl) ?_
    refine lv_iload_n hx hb dRn_doAction_278 rfl (lv_at hl 2 rfl) ?_
    refine lv_iload_n hx hb dRn_doAction_279 rfl (lv_at hl 3 rfl) ?_
    refine lv_iload_n hx hb dRn_doAction_280 rfl (lv_at hl 4 rfl) ?_
    refine ce_vi (As := [.int (nI i), .int (nI z), .int (nI d)]) (rest := []) ⟨hx, hb, hml, hown, hts⟩ (c_Rn_doHold l D cI a hd P hp k d hdk ih u i z hiz hz) mRn_doHold lRn_130 iRn_doHold (ce_hR (by omega) (by decide)) ⟨rfl, rfl⟩ hK hN hP hS rfl hl.1 rfl (Nat.le_of_ble_eq_true rfl) dRn_doAction_281 ⟨Nat.le_of_ble_eq_true rfl, Nat.le_of_ble_eq_true rfl⟩ (fun r_39 u_40 H locs er_39 hP hS => ?_)
    exact W.iret (v := r_39) hx hb hr (fun t9 ht hW => ⟨⟨r_39, u_40, rfl, er_39.trans (xAct_13 hk).symm, ce_hp ht hP⟩, hS.F ht⟩) hS.2.2 dRn_doAction_284
  · -- op 14
    refine lv_tableIn (tgt := 285) hx hb dRn_doAction_18 (by rw [hk]; decide) (by rw [hk]; decide) (by rw [hk]; rfl) (by decide) ?_
    refine lv_aload_n hx hb dRn_doAction_285 rfl (lv_at hl 1 rfl) ?_
    refine lv_iload_n hx hb dRn_doAction_286 rfl (lv_at hl 2 rfl) ?_
    refine lv_iload_n hx hb dRn_doAction_287 rfl (lv_at hl 3 rfl) ?_
    refine lv_iload_n hx hb dRn_doAction_288 rfl (lv_at hl 4 rfl) ?_
    refine ce_vi (As := [.int (nI i), .int (nI z), .int (nI d)]) (rest := []) ⟨hx, hb, hml, hown, hts⟩ (c_Rn_doRepeat l D cI a hd P hp k d hdk ih u i z hiz hz) mRn_doRepeat lRn_133 iRn_doRepeat (ce_hR (by omega) (by decide)) ⟨rfl, rfl⟩ hK hN hP hS rfl hl.1 rfl (Nat.le_of_ble_eq_true rfl) dRn_doAction_289 ⟨Nat.le_of_ble_eq_true rfl, Nat.le_of_ble_eq_true rfl⟩ (fun r_41 u_42 H locs er_41 hP hS => ?_)
    exact W.iret (v := r_41) hx hb hr (fun t9 ht hW => ⟨⟨r_41, u_42, rfl, er_41.trans (xAct_14 hk).symm, ce_hp ht hP⟩, hS.F ht⟩) hS.2.2 dRn_doAction_292
  · -- op 15
    refine lv_tableIn (tgt := 293) hx hb dRn_doAction_18 (by rw [hk]; decide) (by rw [hk]; decide) (by rw [hk]; rfl) (by decide) ?_
    refine lv_aload_n hx hb dRn_doAction_293 rfl (lv_at hl 1 rfl) ?_
    refine lv_iload_n hx hb dRn_doAction_294 rfl (lv_at hl 2 rfl) ?_
    refine ce_ri (As := [.int (nI i)]) (rest := []) ⟨hx, hb, hml, hown, hts⟩ (c_Rn_isHeld l D cI a hd P u i hi h8) mRn_isHeld lRn_136 iRn_isHeld (ce_hR (by omega) (by decide)) ⟨rfl, rfl⟩ hK hN hP 0 rfl rfl rfl hl.1 rfl (Nat.le_of_ble_eq_true rfl) dRn_doAction_295 ⟨Nat.le_of_ble_eq_true rfl, Nat.le_of_ble_eq_true rfl⟩ (fun r_43 er_43 => ?_)
    obtain rfl : r_43 = bI (xHeld P i u) := er_43
    refine lv_if_eq (tgt := 305) hx hb dRn_doAction_298 (by decide) (fun c_44 => ?_) (fun c_44 => ?_)
    · -- 298 taken
      refine lv_aload_n hx hb dRn_doAction_305 rfl (lv_at hl 1 rfl) ?_
      refine lv_iload_n hx hb dRn_doAction_306 rfl (lv_at hl 2 rfl) ?_
      refine lv_bipush (v := 6) hx hb dRn_doAction_307 (by decide) ?_
      refine ce_vi (As := [.int (nI i), .int 6]) (rest := []) ⟨hx, hb, hml, hown, hts⟩ (c_Rn_comesUp l D cI a hd P u (nI i) 6) mRn_comesUp lRn_99 iRn_comesUp (ce_hR (by omega) (by decide)) ⟨rfl, rfl⟩ hK hN hP hS rfl hl.1 rfl (Nat.le_of_ble_eq_true rfl) dRn_doAction_309 ⟨Nat.le_of_ble_eq_true rfl, Nat.le_of_ble_eq_true rfl⟩ (fun r_45 u_46 H locs er_45 hP hS => ?_)
      obtain ⟨rfl, rfl⟩ := Prod.mk.inj er_45
      exact W.iret (v := 2) hx hb hr (fun t9 ht hW => ⟨⟨2, sOwn (sTa (sTr u 6) (nI i)) (-1), rfl, ((xAct_15 hk).trans (if_neg (by rw [bI0 c_44]; decide))).symm, ce_hp ht hP⟩, hS.F ht⟩) hS.2.2 dRn_doAction_312
    · -- 298 not taken
      refine lv_iconst (v := 0) hx hb dRn_doAction_301 (by decide) ?_
      refine lv_goto (tgt := 312) hx hb dRn_doAction_302 (by decide) ?_
      exact W.iret (v := 0) hx hb hr (fun t9 ht hW => ⟨⟨0, u, rfl, ((xAct_15 hk).trans (if_pos (bI1 c_44))).symm, ce_hp ht hP⟩, hS.F ht⟩) hS.2.2 dRn_doAction_312
  · -- op 16
    refine lv_tableIn (tgt := 313) hx hb dRn_doAction_18 (by rw [hk]; decide) (by rw [hk]; decide) (by rw [hk]; rfl) (by decide) ?_
    refine lv_aload_n hx hb dRn_doAction_313 rfl (lv_at hl 1 rfl) ?_
    refine lv_iload_n hx hb dRn_doAction_314 rfl (lv_at hl 2 rfl) ?_
    refine ce_ri (As := [.int (nI i)]) (rest := []) ⟨hx, hb, hml, hown, hts⟩ (c_Rn_isHeld l D cI a hd P u i hi h8) mRn_isHeld lRn_136 iRn_isHeld (ce_hR (by omega) (by decide)) ⟨rfl, rfl⟩ hK hN hP 0 rfl rfl rfl hl.1 rfl (Nat.le_of_ble_eq_true rfl) dRn_doAction_315 ⟨Nat.le_of_ble_eq_true rfl, Nat.le_of_ble_eq_true rfl⟩ (fun r_47 er_47 => ?_)
    obtain rfl : r_47 = bI (xHeld P i u) := er_47
    refine lv_if_eq (tgt := 329) hx hb dRn_doAction_318 (by decide) (fun c_48 => ?_) (fun c_48 => ?_)
    · -- 318 taken
      refine lv_aload_n hx hb dRn_doAction_329 rfl (lv_at hl 1 rfl) ?_
      refine lv_iload_n hx hb dRn_doAction_330 rfl (lv_at hl 2 rfl) ?_
      refine lv_bipush (v := 6) hx hb dRn_doAction_331 (by decide) ?_
      refine ce_vi (As := [.int (nI i), .int 6]) (rest := []) ⟨hx, hb, hml, hown, hts⟩ (c_Rn_comesUp l D cI a hd P u (nI i) 6) mRn_comesUp lRn_99 iRn_comesUp (ce_hR (by omega) (by decide)) ⟨rfl, rfl⟩ hK hN hP hS rfl hl.1 rfl (Nat.le_of_ble_eq_true rfl) dRn_doAction_333 ⟨Nat.le_of_ble_eq_true rfl, Nat.le_of_ble_eq_true rfl⟩ (fun r_49 u_50 H locs er_49 hP hS => ?_)
      obtain ⟨rfl, rfl⟩ := Prod.mk.inj er_49
      exact W.iret (v := 2) hx hb hr (fun t9 ht hW => ⟨⟨2, sOwn (sTa (sTr u 6) (nI i)) (-1), rfl, ((xAct_16 hk).trans (if_neg (by rw [bI0 c_48]; decide))).symm, ce_hp ht hP⟩, hS.F ht⟩) hS.2.2 dRn_doAction_336
    · -- 318 not taken
      refine lv_aload_n hx hb dRn_doAction_321 rfl (lv_at hl 1 rfl) ?_
      refine lv_iload_n hx hb dRn_doAction_322 rfl (lv_at hl 2 rfl) ?_
      refine ce_vi (As := [.int (nI i)]) (rest := []) ⟨hx, hb, hml, hown, hts⟩ (c_Rn_doSleep l D cI a hd P u (nI i)) mRn_doSleep lRn_139 iRn_doSleep (ce_hR (by omega) (by decide)) ⟨rfl, rfl⟩ hK hN hP hS rfl hl.1 rfl (Nat.le_of_ble_eq_true rfl) dRn_doAction_323 ⟨Nat.le_of_ble_eq_true rfl, Nat.le_of_ble_eq_true rfl⟩ (fun r_51 u_52 H locs er_51 hP hS => ?_)
      refine lv_goto (tgt := 336) hx hb dRn_doAction_326 (by decide) ?_
      exact W.iret (v := r_51) hx hb hr (fun t9 ht hW => ⟨⟨r_51, u_52, rfl, er_51.trans ((xAct_16 hk).trans (if_pos (bI1 c_48))).symm, ce_hp ht hP⟩, hS.F ht⟩) hS.2.2 dRn_doAction_336
  · -- op 17
    refine lv_tableIn (tgt := 337) hx hb dRn_doAction_18 (by rw [hk]; decide) (by rw [hk]; decide) (by rw [hk]; rfl) (by decide) ?_
    refine lv_aload_n hx hb dRn_doAction_337 rfl (lv_at hl 1 rfl) ?_
    refine lv_iload_n hx hb dRn_doAction_338 rfl (lv_at hl 2 rfl) ?_
    refine ce_vi (As := [.int (nI i)]) (rest := []) ⟨hx, hb, hml, hown, hts⟩ (c_Rn_doSleep l D cI a hd P u (nI i)) mRn_doSleep lRn_139 iRn_doSleep (ce_hR (by omega) (by decide)) ⟨rfl, rfl⟩ hK hN hP hS rfl hl.1 rfl (Nat.le_of_ble_eq_true rfl) dRn_doAction_339 ⟨Nat.le_of_ble_eq_true rfl, Nat.le_of_ble_eq_true rfl⟩ (fun r_53 u_54 H locs er_53 hP hS => ?_)
    exact W.iret (v := r_53) hx hb hr (fun t9 ht hW => ⟨⟨r_53, u_54, rfl, er_53.trans (xAct_17 hk).symm, ce_hp ht hP⟩, hS.F ht⟩) hS.2.2 dRn_doAction_342
  · -- op 18
    refine lv_tableIn (tgt := 343) hx hb dRn_doAction_18 (by rw [hk]; decide) (by rw [hk]; decide) (by rw [hk]; rfl) (by decide) ?_
    refine lv_aload_n hx hb dRn_doAction_343 rfl (lv_at hl 1 rfl) ?_
    refine lv_aload_n hx hb dRn_doAction_344 rfl (lv_at hl 1 rfl) ?_
    refine lv_iload_n hx hb dRn_doAction_345 rfl (lv_at hl 2 rfl) ?_
    refine ce_ri (As := [.int (nI i)]) (rest := [.ref (a 0)]) ⟨hx, hb, hml, hown, hts⟩ (c_Rn_isHeld l D cI a hd P u i hi h8) mRn_isHeld lRn_136 iRn_isHeld (ce_hR (by omega) (by decide)) ⟨rfl, rfl⟩ hK hN hP 0 rfl rfl rfl hl.1 rfl (Nat.le_of_ble_eq_true rfl) dRn_doAction_346 ⟨Nat.le_of_ble_eq_true rfl, Nat.le_of_ble_eq_true rfl⟩ (fun r_55 er_55 => ?_)
    obtain rfl : r_55 = bI (xHeld P i u) := er_55
    refine lv_if_eq (tgt := 356) hx hb dRn_doAction_349 (by decide) (fun c_56 => ?_) (fun c_56 => ?_)
    · -- 349 taken
      refine lv_iconst (v := 0) hx hb dRn_doAction_356 (by decide) ?_
      refine ce_vi (As := [.int 0]) (rest := []) ⟨hx, hb, hml, hown, hts⟩ (c_Rn_become l D cI a hd P u 0) mRn_become lRn_96 iRn_become (ce_hR (by omega) (by decide)) ⟨rfl, rfl⟩ hK hN hP hS rfl hl.1 rfl (Nat.le_of_ble_eq_true rfl) dRn_doAction_357 ⟨Nat.le_of_ble_eq_true rfl, Nat.le_of_ble_eq_true rfl⟩ (fun r_57 u_58 H locs er_57 hP hS => ?_)
      obtain ⟨rfl, rfl⟩ := Prod.mk.inj er_57
      exact W.iret (v := 0) hx hb hr (fun t9 ht hW => ⟨⟨0, sAcc u 0, rfl, by rw [xAct_18 hk, c_56], ce_hp ht hP⟩, hS.F ht⟩) hS.2.2 dRn_doAction_360
    · -- 349 not taken
      refine lv_iconst (v := 1) hx hb dRn_doAction_352 (by decide) ?_
      refine lv_goto (tgt := 357) hx hb dRn_doAction_353 (by decide) ?_
      refine ce_vi (As := [.int 1]) (rest := []) ⟨hx, hb, hml, hown, hts⟩ (c_Rn_become l D cI a hd P u 1) mRn_become lRn_96 iRn_become (ce_hR (by omega) (by decide)) ⟨rfl, rfl⟩ hK hN hP hS rfl hl.1 rfl (Nat.le_of_ble_eq_true rfl) dRn_doAction_357 ⟨Nat.le_of_ble_eq_true rfl, Nat.le_of_ble_eq_true rfl⟩ (fun r_59 u_60 H locs er_59 hP hS => ?_)
      obtain ⟨rfl, rfl⟩ := Prod.mk.inj er_59
      exact W.iret (v := 0) hx hb hr (fun t9 ht hW => ⟨⟨0, sAcc u 1, rfl, by rw [xAct_18 hk, ← bI_one c_56], ce_hp ht hP⟩, hS.F ht⟩) hS.2.2 dRn_doAction_360
  · -- op 19
    refine lv_tableIn (tgt := 361) hx hb dRn_doAction_18 (by rw [hk]; decide) (by rw [hk]; decide) (by rw [hk]; rfl) (by decide) ?_
    refine lv_aload_n hx hb dRn_doAction_361 rfl (lv_at hl 1 rfl) ?_
    refine lv_iload_n hx hb dRn_doAction_362 rfl (lv_at hl 2 rfl) ?_
    refine ce_vi (As := [.int (nI i)]) (rest := []) ⟨hx, hb, hml, hown, hts⟩ (c_Rn_doCount l D cI a hd P u i hi h8) mRn_doCount lRn_142 iRn_doCount (ce_hR (by omega) (by decide)) ⟨rfl, rfl⟩ hK hN hP hS rfl hl.1 rfl (Nat.le_of_ble_eq_true rfl) dRn_doAction_363 ⟨Nat.le_of_ble_eq_true rfl, Nat.le_of_ble_eq_true rfl⟩ (fun r_61 u_62 H locs er_61 hP hS => ?_)
    obtain ⟨rfl, rfl⟩ := Prod.mk.inj er_61
    exact W.iret (v := 0) hx hb hr (fun t9 ht hW => ⟨⟨0, sCnt u (gCnt u + (pV P i).toInt64), rfl, (xAct_19 hk).symm, ce_hp ht hP⟩, hS.F ht⟩) hS.2.2 dRn_doAction_366
  · -- op 20
    refine lv_tableIn (tgt := 367) hx hb dRn_doAction_18 (by rw [hk]; decide) (by rw [hk]; decide) (by rw [hk]; rfl) (by decide) ?_
    refine lv_iconst (v := 1) hx hb dRn_doAction_367 (by decide) ?_
    exact W.iret (v := 1) hx hb hr (fun t9 ht hW => ⟨⟨1, u, rfl, (xAct_20 hk).symm, ce_hp ht hP⟩, hS.F ht⟩) hS.2.2 dRn_doAction_368
  · -- op 21
    refine lv_tableIn (tgt := 369) hx hb dRn_doAction_18 (by rw [hk]; decide) (by rw [hk]; decide) (by rw [hk]; rfl) (by decide) ?_
    refine lv_aload_n hx hb dRn_doAction_369 rfl (lv_at hl 1 rfl) ?_
    refine lv_aload_n hx hb dRn_doAction_370 rfl (lv_at hl 1 rfl) ?_
    refine ce_gR hx hb hts hown hK hP 4 (by decide) rfl lRn_76 rfl dRn_doAction_371 ?_
    refine ce_vi (As := [.int (gName u)]) (rest := []) ⟨hx, hb, hml, hown, hts⟩ (c_Rn_become l D cI a hd P u (gName u)) mRn_become lRn_96 iRn_become (ce_hR (by omega) (by decide)) ⟨rfl, rfl⟩ hK hN hP hS rfl hl.1 rfl (Nat.le_of_ble_eq_true rfl) dRn_doAction_374 ⟨Nat.le_of_ble_eq_true rfl, Nat.le_of_ble_eq_true rfl⟩ (fun r_63 u_64 H locs er_63 hP hS => ?_)
    obtain ⟨rfl, rfl⟩ := Prod.mk.inj er_63
    exact W.iret (v := 0) hx hb hr (fun t9 ht hW => ⟨⟨0, sAcc u (gName u), rfl, (xAct_21 hk).symm, ce_hp ht hP⟩, hS.F ht⟩) hS.2.2 dRn_doAction_377
set_option maxHeartbeats 4000000 in
set_option maxRecDepth 100000 in
theorem c_Rn_doActions_step (l : Launch) (D : va_G) (cI : ClassId) (a : Nat → Nat) (hd : dR a) (P : PR) (hp : pOk P) (k d : Nat) (hdk : d + k = 15) (hih : ∀ k2, k = k2 + 1 → okDA l D cI a P k2) (u : RS) (i z : Nat) (hiz : i ≤ z) (hz : z ≤ P.2.2) : Met l yRn_doActions (ce_ws yRn_doActions cRn_doActions 7 (some .int)) (ce_rm (3 * k + 2)) (ce_Pc D cI [.ref (a 0), .int (nI i), .int (nI z), .int (nI d)] (wR a cI P u)) (va_Qi (fun r u' => (r, u') = xActs P k i z u) (fun u' t => va_P D vwCl (wR a cI P u') t.heap) (aR a)) 0 0 (aR a) := by
  refine Met.ofW (cc := cRn_doActions) (maxL := 7) (ret := (some .int)) (by decide) rfl ?_
  intro p e s m args below meth c s₁ B hml hv
  obtain ⟨rfl, hP, hK, hN⟩ := hv
  have hx := B.exec
  have hb := B.bytes
  have hr := B.returns
  have hts := atoms_spec (ws := ce_ws yRn_doActions cRn_doActions 7 (some .int)) B.pre
  have hown : s.vm.findClass RRn = some m.cls := findClass_of_methodNamed B.named
  have hlocks := B.notSynchronized
  have hS : va_S (aR a) s.heap s.heap [] := va_S.rf
  have hl := lv_entry ([.ref (a 0), .int (nI i), .int (nI z), .int (nI d)]) (n := 7) (Nat.le_of_ble_eq_true rfl)
  rw [lg_entry_eq]
  generalize (lg_sl ([.ref (a 0), .int (nI i), .int (nI z), .int (nI d)]) ++ List.replicate (7 - (lg_sl ([.ref (a 0), .int (nI i), .int (nI z), .int (nI d)])).length) Slot.unset).toArray = ls at hl ⊢
  have hl : lv_has ls 7 [(0, .ref (a 0)), (1, .int (nI i)), (2, .int (nI z)), (3, .int (nI d))] := hl
  have h14 := hp.1
  match k, hdk with
  | 0, hdk =>
    obtain rfl : d = 15 := by omega
    refine lv_iload_n hx hb dRn_doActions_0 rfl (lv_at hl 3 rfl) ?_
    refine lv_bipush (v := 14) hx hb dRn_doActions_1 (by decide) ?_
    refine lv_icmp_le (tgt := 8) hx hb dRn_doActions_3 (by decide) (fun c_1 => ?_) (fun c_1 => ?_)
    · -- 3 taken
      exact absurd c_1 (by decide)
    · -- 3 not taken
      refine lv_iconst (v := 1) hx hb dRn_doActions_6 (by decide) ?_
      exact W.iret (v := 1) hx hb hr (fun t9 ht hW => ⟨⟨1, u, rfl, rfl, ce_hp ht hP⟩, hS.F ht⟩) hS.2.2 dRn_doActions_7
  | k + 1, hdk =>
    have ih : okDA l D cI a P k := hih k rfl
    have loop : ∀ (n j : Nat) (v : RS) (H : Heap) (locs : List Loc) (ls : Array Slot), j ≤ z → z ≤ j + n → (∀ rr uu, (rr, uu) = xLoop (xAct (xActs P k) P) P z n j v → (rr, uu) = xLoop (xAct (xActs P k) P) P z (z - i) i u) → va_P D vwCl (wR a cI P v) H → va_S (aR a) s.heap H locs → lv_has ls 7 [(0, .ref (a 0)), (2, .int (nI z)), (3, .int (nI d)), (4, .int (nI j))] → W p l e (headSpec (ce_ws yRn_doActions cRn_doActions 7 (some .int)) (ce_rm (3 * (k + 1) + 2))).room s m (([.ref (a 0), .int (nI i), .int (nI z), .int (nI d)] : List Value).toArray) below meth c H locs 0 0 (MQ below (va_Qi (fun r u' => (r, u') = xActs P (k + 1) i z u) (fun u' t => va_P D vwCl (wR a cI P u') t.heap) (aR a)) (([.ref (a 0), .int (nI i), .int (nI z), .int (nI d)] : List Value).toArray) s 0 0 (aR a)) (F0 m 11 ls []) := by
      intro n
      induction n with
      | zero =>
        intro j v H locs ls hjz hzn hq hP hS hl
        refine lv_iload hx hb dRn_doActions_11 (lv_at hl 3 rfl) ?_
        refine lv_iload_n hx hb dRn_doActions_13 rfl (lv_at hl 1 rfl) ?_
        refine lv_icmp_ge (tgt := 88) hx hb dRn_doActions_14 (by decide) (fun c_2 => ?_) (fun c_2 => ?_)
        · -- 14 taken
          refine lv_iconst (v := 0) hx hb dRn_doActions_88 (by decide) ?_
          exact W.iret (v := 0) hx hb hr (fun t9 ht hW => ⟨⟨0, v, rfl, hq _ _ (xLoop_0 ((nI_leI (by omega) (by omega)).mp c_2)), ce_hp ht hP⟩, hS.F ht⟩) hS.2.2 dRn_doActions_89
        · -- 14 not taken
          exact absurd (nI_le (a := z) (b := j) (by omega) (by omega)) c_2
      | succ n ihn =>
        intro j v H locs ls hjz hzn hq hP hS hl
        refine lv_iload hx hb dRn_doActions_11 (lv_at hl 3 rfl) ?_
        refine lv_iload_n hx hb dRn_doActions_13 rfl (lv_at hl 1 rfl) ?_
        refine lv_icmp_ge (tgt := 88) hx hb dRn_doActions_14 (by decide) (fun c_3 => ?_) (fun c_3 => ?_)
        · -- 14 taken
          refine lv_iconst (v := 0) hx hb dRn_doActions_88 (by decide) ?_
          exact W.iret (v := 0) hx hb hr (fun t9 ht hW => ⟨⟨0, v, rfl, hq _ _ (xLoop_0 ((nI_leI (by omega) (by omega)).mp c_3)), ce_hp ht hP⟩, hS.F ht⟩) hS.2.2 dRn_doActions_89
        · -- 14 not taken
          have hlt : ¬ z ≤ j := fun h => c_3 (nI_le h (by omega))
          have hj14 : j < 14 := by omega
          have hj8 : P.2.1 j ≤ 255 := (hp.2 j (by omega)).2
          have hj21 : P.1 j ≤ 21 := (hp.2 j (by omega)).1
          have hB : j + pB P j z + 1 ≤ z := pB_le (by omega)
          refine lv_aload_n hx hb dRn_doActions_17 rfl (lv_at hl 0 rfl) ?_
          refine ce_gR hx hb hts hown hK hP 6 (by decide) rfl lRn_45 rfl dRn_doActions_18 ?_
          refine lv_sipush (v := 400) hx hb dRn_doActions_21 (by decide) ?_
          refine lv_icmp_lt (tgt := 29) hx hb dRn_doActions_24 (by decide) (fun c_4 => ?_) (fun c_4 => ?_)
          · -- 24 taken
            refine lv_aload_n hx hb dRn_doActions_29 rfl (lv_at hl 0 rfl) ?_
            refine lv_dup hx hb dRn_doActions_30 rfl ?_
            refine ce_gR hx hb hts hown hK hP 6 (by decide) rfl lRn_45 rfl dRn_doActions_31 ?_
            refine lv_iconst (v := 1) hx hb dRn_doActions_34 (by decide) ?_
            refine lv_iadd hx hb dRn_doActions_35 ?_
            refine ce_pSteps hx hb hts hown hK hd hP hS lRn_45 dRn_doActions_36 (fun H locs hP hS => ?_)
            refine lv_aload_n hx hb dRn_doActions_39 rfl (lv_at hl 0 rfl) ?_
            refine ce_gR hx hb hts hown hK hP 0 (by decide) rfl lRn_18 rfl dRn_doActions_40 ?_
            refine lv_iload hx hb dRn_doActions_43 (lv_at hl 3 rfl) ?_
            refine lv_iload_n hx hb dRn_doActions_45 rfl (lv_at hl 1 rfl) ?_
            refine ce_ri (As := [.int (nI j), .int (nI z)]) (rest := []) ⟨hx, hb, hml, hown, hts⟩ (c_Pg_blockLength l D cI a P j z (by omega) (by omega) hj8 hj21) mPg_blockLength lRn_82 iPg_blockLength (ce_hR (by omega) (by decide)) ⟨rfl, rfl⟩ hK hN (hP.sub (ws' := wP a cI P) [1, 2, 3] rfl) 0 rfl rfl rfl hl.1 rfl (Nat.le_of_ble_eq_true rfl) dRn_doActions_46 ⟨Nat.le_of_ble_eq_true rfl, Nat.le_of_ble_eq_true rfl⟩ (fun r_5 er_5 => ?_)
            obtain rfl : r_5 = nI (pB P j z) := er_5
            refine lv_istore (lv' := [(5, .int (nI (pB P j z))), (0, .ref (a 0)), (2, .int (nI z)), (3, .int (nI d)), (4, .int (nI j))]) hx hb dRn_doActions_49 hl (by decide) rfl (fun ls hl => ?_)
            refine lv_aload_n hx hb dRn_doActions_51 rfl (lv_at hl 1 rfl) ?_
            refine lv_iload hx hb dRn_doActions_52 (lv_at hl 4 rfl) ?_
            refine lv_iload hx hb dRn_doActions_54 (lv_at hl 4 rfl) ?_
            refine lv_iconst (v := 1) hx hb dRn_doActions_56 (by decide) ?_
            refine lv_iadd hx hb dRn_doActions_57 ?_
            refine lv_topi (fun y_6 ey_6 => ?_)
            obtain rfl : y_6 = nI (j + 1) := ey_6.trans (nI_1 j)
            refine lv_iload hx hb dRn_doActions_58 (lv_at hl 0 rfl) ?_
            refine lv_iadd hx hb dRn_doActions_60 ?_
            refine lv_topi (fun y_7 ey_7 => ?_)
            obtain rfl : y_7 = nI (j + 1 + pB P j z) := ey_7.trans (nI_add _ _)
            refine lv_iload_n hx hb dRn_doActions_61 rfl (lv_at hl 3 rfl) ?_
            refine ce_vi (As := [.int (nI j), .int (nI (j + 1 + pB P j z)), .int (nI d)]) (rest := []) ⟨hx, hb, hml, hown, hts⟩ (c_Rn_doAction l D cI a hd P hp k d (by omega) ih (sSteps v ((gSteps v) + 1)) j (j + 1 + pB P j z) (by omega) (by omega)) mRn_doAction lRn_86 iRn_doAction (ce_hR (by omega) (by decide)) ⟨rfl, rfl⟩ hK hN hP hS rfl hl.1 rfl (Nat.le_of_ble_eq_true rfl) dRn_doActions_62 ⟨Nat.le_of_ble_eq_true rfl, Nat.le_of_ble_eq_true rfl⟩ (fun r_8 u_9 H locs er_8 hP hS => ?_)
            refine lv_istore (lv' := [(6, .int r_8), (5, .int (nI (pB P j z))), (0, .ref (a 0)), (2, .int (nI z)), (3, .int (nI d)), (4, .int (nI j))]) hx hb dRn_doActions_65 hl (by decide) rfl (fun ls hl => ?_)
            refine lv_iload hx hb dRn_doActions_67 (lv_at hl 0 rfl) ?_
            refine lv_if_eq (tgt := 75) hx hb dRn_doActions_69 (by decide) (fun c_10 => ?_) (fun c_10 => ?_)
            · -- 69 taken
              refine lv_iload hx hb dRn_doActions_75 (lv_at hl 5 rfl) ?_
              refine lv_iload hx hb dRn_doActions_77 (lv_at hl 1 rfl) ?_
              refine lv_iadd hx hb dRn_doActions_79 ?_
              refine lv_topi (fun y_11 ey_11 => ?_)
              obtain rfl : y_11 = nI (j + pB P j z) := ey_11.trans (nI_add _ _)
              refine lv_istore (lv' := [(4, .int (nI (j + pB P j z))), (6, .int r_8), (5, .int (nI (pB P j z))), (0, .ref (a 0)), (2, .int (nI z)), (3, .int (nI d))]) hx hb dRn_doActions_80 hl (by decide) rfl (fun ls hl => ?_)
              refine lv_iinc (v := nI (j + pB P j z + 1)) (lv' := [(4, .int (nI (j + pB P j z + 1))), (6, .int r_8), (5, .int (nI (pB P j z))), (0, .ref (a 0)), (2, .int (nI z)), (3, .int (nI d))]) hx hb dRn_doActions_82 hl (k := 0) rfl (nI_1 _) (by decide) rfl (fun ls hl => ?_)
              refine lv_goto (tgt := 11) hx hb dRn_doActions_85 (by decide) ?_
              exact ihn (j + pB P j z + 1) u_9 _ _ _ (by omega) (by omega) (fun rr uu h => hq rr uu (h.trans (xLoop_go hlt c_4 er_8 c_10))) hP hS (lv_sub hl [3, 4, 5, 0] rfl)
            · -- 69 not taken
              refine lv_iload hx hb dRn_doActions_72 (lv_at hl 0 rfl) ?_
              exact W.iret (v := r_8) hx hb hr (fun t9 ht hW => ⟨⟨r_8, u_9, rfl, hq _ _ (xLoop_end hlt c_4 er_8 c_10), ce_hp ht hP⟩, hS.F ht⟩) hS.2.2 dRn_doActions_74
          · -- 24 not taken
            refine lv_iconst (v := 1) hx hb dRn_doActions_27 (by decide) ?_
            exact W.iret (v := 1) hx hb hr (fun t9 ht hW => ⟨⟨1, v, rfl, hq _ _ (xLoop_stop hlt c_4), ce_hp ht hP⟩, hS.F ht⟩) hS.2.2 dRn_doActions_28
    refine lv_iload_n hx hb dRn_doActions_0 rfl (lv_at hl 3 rfl) ?_
    refine lv_bipush (v := 14) hx hb dRn_doActions_1 (by decide) ?_
    refine lv_icmp_le (tgt := 8) hx hb dRn_doActions_3 (by decide) (fun c_12 => ?_) (fun c_12 => ?_)
    · -- 3 taken
      refine lv_iload_n hx hb dRn_doActions_8 rfl (lv_at hl 1 rfl) ?_
      refine lv_istore (lv' := [(4, .int (nI i)), (0, .ref (a 0)), (1, .int (nI i)), (2, .int (nI z)), (3, .int (nI d))]) hx hb dRn_doActions_9 hl (by decide) rfl (fun ls hl => ?_)
      exact loop (z - i) i u _ _ _ hiz (by omega) (fun _ _ h => h) hP hS (lv_sub hl [1, 3, 4, 0] rfl)
    · -- 3 not taken
      exact absurd (nI_le (a := d) (b := 14) (by omega) (by decide)) c_12
end
section
theorem c_Rn_doActions (l : Launch) (D : va_G) (cI : ClassId) (a : Nat → Nat) (hd : dR a) (P : PR) (hp : pOk P) (k : Nat) : okDA l D cI a P k := by
  induction k with
  | zero => exact fun u i z d hdk hiz hz => c_Rn_doActions_step l D cI a hd P hp 0 d hdk (fun k2 h => by omega) u i z hiz hz
  | succ k ih => exact fun u i z d hdk hiz hz => c_Rn_doActions_step l D cI a hd P hp (k + 1) d hdk (fun k2 h => Nat.succ.inj h ▸ ih) u i z hiz hz
theorem zero_upd {f : Nat → Int32} {j : Nat} (h : ∀ q, q < j → f q = 0) : ∀ q, q < j + 1 → upd f j 0 q = 0 := by
  intro q hq
  unfold upd
  split
  · rfl
  · exact h q (by omega)
theorem ce_like {D : va_G} {a : Nat → Nat} {cI : ClassId} {P : PR} {u u' : RS} {H : Heap} (h0 : rF a u = rF a u') (h4 : ∀ j, j < 8 → gCells u j = gCells u' j) (h5 : ∀ j, j < 2 → gHolds u j = gHolds u' j) (hP : va_P D vwCl (wR a cI P u) H) : va_P D vwCl (wR a cI P u') H := by
  intro k q hk
  match k, hk with
  | 0, hk =>
    cases hk
    rw [← h0]
    exact hP 0 _ rfl
  | 1, hk => exact hP 1 q hk
  | 2, hk => exact hP 2 q hk
  | 3, hk => exact hP 3 q hk
  | 4, hk =>
    cases hk
    exact (hP 4 _ rfl).trans (congrArg some (ce_vc h4))
  | 5, hk =>
    cases hk
    exact (hP 5 _ rfl).trans (congrArg some (ce_vc h5))
  | k + 6, hk => exact absurd hk (by simp [wR])
set_option maxHeartbeats 4000000 in
set_option maxRecDepth 100000 in
theorem c_Rn_begin (l : Launch) (D : va_G) (cI : ClassId) (a : Nat → Nat) (hd : dR a) (P : PR) (u : RS) (x : Int32) : Met l yRn_begin (ce_ws yRn_begin cRn_begin 3 none) (ce_rm 1) (ce_Pc D cI [.ref (a 0), .int x] (wR a cI P u)) (va_Qv (fun u' => u' = xBegin x u) (fun u' t => va_P D vwCl (wR a cI P u') t.heap) (aR a)) 0 0 (aR a) := by
  refine Met.ofW (cc := cRn_begin) (maxL := 3) (ret := none) (by decide) rfl ?_
  intro p e s m args below meth c s₁ B hml hv
  obtain ⟨rfl, hP, hK, hN⟩ := hv
  have hx := B.exec
  have hb := B.bytes
  have hr := B.returns
  have hts := atoms_spec (ws := ce_ws yRn_begin cRn_begin 3 none) B.pre
  have hown : s.vm.findClass RRn = some m.cls := findClass_of_methodNamed B.named
  have hlocks := B.notSynchronized
  have hS : va_S (aR a) s.heap s.heap [] := va_S.rf
  have hl := lv_entry ([.ref (a 0), .int x]) (n := 3) (Nat.le_of_ble_eq_true rfl)
  rw [lg_entry_eq]
  generalize (lg_sl ([.ref (a 0), .int x]) ++ List.replicate (3 - (lg_sl ([.ref (a 0), .int x])).length) Slot.unset).toArray = ls at hl ⊢
  have hl : lv_has ls 3 [(0, .ref (a 0)), (1, .int x)] := hl
  refine lv_aload_n hx hb dRn_begin_0 rfl (lv_at hl 0 rfl) ?_
  refine lv_iload_n hx hb dRn_begin_1 rfl (lv_at hl 1 rfl) ?_
  refine ce_pName hx hb hts hown hK hd hP hS lRn_76 dRn_begin_2 (fun H locs hP hS => ?_)
  refine lv_aload_n hx hb dRn_begin_5 rfl (lv_at hl 0 rfl) ?_
  refine lv_iconst (v := 0) hx hb dRn_begin_6 (by decide) ?_
  refine ce_pAcc hx hb hts hown hK hd hP hS lRn_42 dRn_begin_7 (fun H locs hP hS => ?_)
  refine lv_aload_n hx hb dRn_begin_10 rfl (lv_at hl 0 rfl) ?_
  refine lv_iconst (v := 0) hx hb dRn_begin_11 (by decide) ?_
  refine ce_pSteps hx hb hts hown hK hd hP hS lRn_45 dRn_begin_12 (fun H locs hP hS => ?_)
  refine lv_aload_n hx hb dRn_begin_15 rfl (lv_at hl 0 rfl) ?_
  refine lv_iconst (v := 0) hx hb dRn_begin_16 (by decide) ?_
  refine ce_pFin hx hb hts hown hK hd hP hS lRn_48 dRn_begin_17 (fun H locs hP hS => ?_)
  refine lv_aload_n hx hb dRn_begin_20 rfl (lv_at hl 0 rfl) ?_
  refine lv_iconst (v := 0) hx hb dRn_begin_21 (by decide) ?_
  refine ce_pCat hx hb hts hown hK hd hP hS lRn_51 dRn_begin_22 (fun H locs hP hS => ?_)
  refine lv_aload_n hx hb dRn_begin_25 rfl (lv_at hl 0 rfl) ?_
  refine lv_iconst (v := 0) hx hb dRn_begin_26 (by decide) ?_
  refine ce_pMark (x := false) hx hb hts hown hK hd hP hS lRn_60 dRn_begin_27 (fun H locs hP hS => ?_)
  refine lv_aload_n hx hb dRn_begin_30 rfl (lv_at hl 0 rfl) ?_
  refine lv_lconst (v := 0) hx hb dRn_begin_31 (by decide) ?_
  refine ce_pCnt hx hb hts hown hK hd hP hS lRn_34 dRn_begin_32 (fun H locs hP hS => ?_)
  refine lv_iconst (v := 0) hx hb dRn_begin_35 (by decide) ?_
  refine lv_istore_n (lv' := [(2, .int 0), (0, .ref (a 0)), (1, .int x)]) hx hb dRn_begin_36 rfl hl (by decide) rfl (fun ls hl => ?_)
  generalize hU : sCnt (sMark (sCat (sFin (sSteps (sAcc (sName u x) 0) 0) 0) 0) false) 0 = g0 at hP
  have loop58 : ∀ (n j : Nat) (f : Nat → Int32) (H : Heap) (locs : List Loc) (ls : Array Slot), j + n = 2 → (∀ q, q < j → f q = 0) → va_P D vwCl (wR a cI P (sHolds (sCells g0 (fun _ => 0)) f)) H → va_S (aR a) s.heap H locs → lv_has ls 3 [(0, .ref (a 0)), (2, .int (nI j))] → W p l e (headSpec (ce_ws yRn_begin cRn_begin 3 none) (ce_rm 1)).room s m (([.ref (a 0), .int x] : List Value).toArray) below meth c H locs 0 0 (MQ below (va_Qv (fun u' => u' = xBegin x u) (fun u' t => va_P D vwCl (wR a cI P u') t.heap) (aR a)) (([.ref (a 0), .int x] : List Value).toArray) s 0 0 (aR a)) (F0 m 58 ls []) := by
    intro n
    induction n with
    | zero =>
      intro j f H locs ls hj hf hP hS hl
      refine lv_iload_n hx hb dRn_begin_58 rfl (lv_at hl 1 rfl) ?_
      refine lv_iconst (v := 2) hx hb dRn_begin_59 (by decide) ?_
      refine lv_icmp_ge (tgt := 76) hx hb dRn_begin_60 (by decide) (fun c_1 => ?_) (fun c_1 => ?_)
      · -- 60 taken
        obtain rfl : j = 2 := by omega
        have hP := ce_like (u := sHolds (sCells g0 (fun _ => 0)) f) (u' := sHolds (sCells g0 (fun _ => 0)) (fun _ => 0)) rfl (fun _ _ => rfl) (fun q h => hf q h) hP
        refine lv_aload_n hx hb dRn_begin_76 rfl (lv_at hl 0 rfl) ?_
        refine ce_vv (As := []) (rest := []) ⟨hx, hb, hml, hown, hts⟩ (c_Rn_forgetTrouble l D cI a hd P (sHolds (sCells g0 (fun _ => 0)) (fun _ => 0))) mRn_forgetTrouble lRn_79 iRn_forgetTrouble ⟨Nat.le_of_ble_eq_true rfl, Nat.le_of_ble_eq_true rfl⟩ ⟨rfl, rfl⟩ hK hN hP hS rfl hl.1 rfl (Nat.le_of_ble_eq_true rfl) dRn_begin_77 ⟨Nat.le_of_ble_eq_true rfl, Nat.le_of_ble_eq_true rfl⟩ (fun u_3 H locs er_2 hP hS => ?_)
        obtain rfl := er_2
        have hP : va_P D vwCl (wR a cI P (sOwn (sTa (sTr (sHolds (sCells g0 (fun _ => 0)) (fun _ => 0)) (-1)) (-1)) (-1))) H := hP
        exact W.vret hx hb hr (fun t9 ht hW => ⟨⟨sOwn (sTa (sTr (sHolds (sCells g0 (fun _ => 0)) (fun _ => 0)) (-1)) (-1)) (-1), rfl, by rw [← hU]; rfl, ce_hp ht hP⟩, hS.F ht⟩) hS.2.2 dRn_begin_80
      · -- 60 not taken
        exact absurd (nI_le (a := 2) (b := j) (by omega) (by omega)) c_1
    | succ n ihn =>
      intro j f H locs ls hj hf hP hS hl
      refine lv_iload_n hx hb dRn_begin_58 rfl (lv_at hl 1 rfl) ?_
      refine lv_iconst (v := 2) hx hb dRn_begin_59 (by decide) ?_
      refine lv_icmp_ge (tgt := 76) hx hb dRn_begin_60 (by decide) (fun c_4 => ?_) (fun c_4 => ?_)
      · -- 60 taken
        exact absurd c_4 (nI_ge (a := j) (b := 2) (by omega) (by omega))
      · -- 60 not taken
        refine lv_aload_n hx hb dRn_begin_63 rfl (lv_at hl 0 rfl) ?_
        refine ce_gR hx hb hts hown hK hP 2 (by decide) rfl lRn_15 rfl dRn_begin_64 ?_
        refine lv_iload_n hx hb dRn_begin_67 rfl (lv_at hl 1 rfl) ?_
        refine lv_iconst (v := 0) hx hb dRn_begin_68 (by decide) ?_
        refine ce_ast5 hx hb hK hd hP hS (vp_in_nI (by omega) (by decide)) dRn_begin_69 (fun H locs hP hS => ?_)
        rw [gHolds_sHolds] at hP
        rw [nI_clamp (n := j) (by omega)] at hP
        have hP : va_P D vwCl (wR a cI P (sHolds (sHolds (sCells g0 (fun _ => 0)) f) (upd f j 0))) H := hP
        refine lv_iinc (v := nI (j + 1)) (lv' := [(2, .int (nI (j + 1))), (0, .ref (a 0))]) hx hb dRn_begin_70 hl (k := 1) rfl (nI_1 j) (by decide) rfl (fun ls hl => ?_)
        refine lv_goto (tgt := 58) hx hb dRn_begin_73 (by decide) ?_
        exact ihn (j + 1) (upd f j 0) _ _ _ (by omega) (zero_upd hf) hP hS (lv_sub hl [1, 0] rfl)
  have loop37 : ∀ (n j : Nat) (f : Nat → Int32) (H : Heap) (locs : List Loc) (ls : Array Slot), j + n = 8 → (∀ q, q < j → f q = 0) → va_P D vwCl (wR a cI P (sCells g0 f)) H → va_S (aR a) s.heap H locs → lv_has ls 3 [(0, .ref (a 0)), (2, .int (nI j))] → W p l e (headSpec (ce_ws yRn_begin cRn_begin 3 none) (ce_rm 1)).room s m (([.ref (a 0), .int x] : List Value).toArray) below meth c H locs 0 0 (MQ below (va_Qv (fun u' => u' = xBegin x u) (fun u' t => va_P D vwCl (wR a cI P u') t.heap) (aR a)) (([.ref (a 0), .int x] : List Value).toArray) s 0 0 (aR a)) (F0 m 37 ls []) := by
    intro n
    induction n with
    | zero =>
      intro j f H locs ls hj hf hP hS hl
      refine lv_iload_n hx hb dRn_begin_37 rfl (lv_at hl 1 rfl) ?_
      refine lv_bipush (v := 8) hx hb dRn_begin_38 (by decide) ?_
      refine lv_icmp_ge (tgt := 56) hx hb dRn_begin_40 (by decide) (fun c_5 => ?_) (fun c_5 => ?_)
      · -- 40 taken
        obtain rfl : j = 8 := by omega
        have hP := ce_like (u := sCells g0 f) (u' := sHolds (sCells g0 (fun _ => 0)) (gHolds g0)) rfl (fun q h => hf q h) (fun _ _ => rfl) hP
        refine lv_iconst (v := 0) hx hb dRn_begin_56 (by decide) ?_
        refine lv_istore_n (lv' := [(2, .int 0), (0, .ref (a 0))]) hx hb dRn_begin_57 rfl hl (by decide) rfl (fun ls hl => ?_)
        exact loop58 2 0 (gHolds g0) _ _ _ rfl (fun q h => absurd h (Nat.not_lt_zero q)) hP hS (lv_sub hl [1, 0] rfl)
      · -- 40 not taken
        exact absurd (nI_le (a := 8) (b := j) (by omega) (by omega)) c_5
    | succ n ihn =>
      intro j f H locs ls hj hf hP hS hl
      refine lv_iload_n hx hb dRn_begin_37 rfl (lv_at hl 1 rfl) ?_
      refine lv_bipush (v := 8) hx hb dRn_begin_38 (by decide) ?_
      refine lv_icmp_ge (tgt := 56) hx hb dRn_begin_40 (by decide) (fun c_6 => ?_) (fun c_6 => ?_)
      · -- 40 taken
        exact absurd c_6 (nI_ge (a := j) (b := 8) (by omega) (by omega))
      · -- 40 not taken
        refine lv_aload_n hx hb dRn_begin_43 rfl (lv_at hl 0 rfl) ?_
        refine ce_gR hx hb hts hown hK hP 1 (by decide) rfl lRn_11 rfl dRn_begin_44 ?_
        refine lv_iload_n hx hb dRn_begin_47 rfl (lv_at hl 1 rfl) ?_
        refine lv_iconst (v := 0) hx hb dRn_begin_48 (by decide) ?_
        refine ce_ast4 hx hb hK hd hP hS (vp_in_nI (by omega) (by decide)) dRn_begin_49 (fun H locs hP hS => ?_)
        rw [gCells_sCells] at hP
        rw [nI_clamp (n := j) (by omega)] at hP
        have hP : va_P D vwCl (wR a cI P (sCells (sCells g0 f) (upd f j 0))) H := hP
        refine lv_iinc (v := nI (j + 1)) (lv' := [(2, .int (nI (j + 1))), (0, .ref (a 0))]) hx hb dRn_begin_50 hl (k := 1) rfl (nI_1 j) (by decide) rfl (fun ls hl => ?_)
        refine lv_goto (tgt := 37) hx hb dRn_begin_53 (by decide) ?_
        exact ihn (j + 1) (upd f j 0) _ _ _ (by omega) (zero_upd hf) hP hS (lv_sub hl [1, 0] rfl)
  exact loop37 8 0 (gCells g0) _ _ _ rfl (fun q h => absurd h (Nat.not_lt_zero q)) hP hS (lv_sub hl [1, 0] rfl)
set_option maxHeartbeats 4000000 in
set_option maxRecDepth 100000 in
theorem c_Rn_perform (l : Launch) (D : va_G) (cI : ClassId) (a : Nat → Nat) (hd : dR a) (P : PR) (hp : pOk P) (u : RS) (x : Int32) : Met l yRn_perform (ce_ws yRn_perform cRn_perform 2 none) (ce_rm 48) (ce_Pc D cI [.ref (a 0), .int x] (wR a cI P u)) (va_Qv (fun u' => u' = xRun P x u) (fun u' t => va_P D vwCl (wR a cI P u') t.heap) (aR a)) 0 0 (aR a) := by
  refine Met.ofW (cc := cRn_perform) (maxL := 2) (ret := none) (by decide) rfl ?_
  intro p e s m args below meth c s₁ B hml hv
  obtain ⟨rfl, hP, hK, hN⟩ := hv
  have hx := B.exec
  have hb := B.bytes
  have hr := B.returns
  have hts := atoms_spec (ws := ce_ws yRn_perform cRn_perform 2 none) B.pre
  have hown : s.vm.findClass RRn = some m.cls := findClass_of_methodNamed B.named
  have hlocks := B.notSynchronized
  have hS : va_S (aR a) s.heap s.heap [] := va_S.rf
  have hl := lv_entry ([.ref (a 0), .int x]) (n := 2) (Nat.le_of_ble_eq_true rfl)
  rw [lg_entry_eq]
  generalize (lg_sl ([.ref (a 0), .int x]) ++ List.replicate (2 - (lg_sl ([.ref (a 0), .int x])).length) Slot.unset).toArray = ls at hl ⊢
  have hl : lv_has ls 2 [(0, .ref (a 0)), (1, .int x)] := hl
  refine lv_aload_n hx hb dRn_perform_0 rfl (lv_at hl 0 rfl) ?_
  refine lv_iload_n hx hb dRn_perform_1 rfl (lv_at hl 1 rfl) ?_
  refine ce_vv (As := [.int x]) (rest := []) ⟨hx, hb, hml, hown, hts⟩ (c_Rn_begin l D cI a hd P u x) mRn_begin lRn_63 iRn_begin ⟨Nat.le_of_ble_eq_true rfl, Nat.le_of_ble_eq_true rfl⟩ ⟨rfl, rfl⟩ hK hN hP hS rfl hl.1 rfl (Nat.le_of_ble_eq_true rfl) dRn_perform_2 ⟨Nat.le_of_ble_eq_true rfl, Nat.le_of_ble_eq_true rfl⟩ (fun u_2 H locs er_1 hP hS => ?_)
  obtain rfl := er_1
  refine lv_aload_n hx hb dRn_perform_5 rfl (lv_at hl 0 rfl) ?_
  refine lv_iconst (v := 0) hx hb dRn_perform_6 (by decide) ?_
  refine lv_aload_n hx hb dRn_perform_7 rfl (lv_at hl 0 rfl) ?_
  refine ce_gR hx hb hts hown hK hP 0 (by decide) rfl lRn_18 rfl dRn_perform_8 ?_
  refine ce_ri (As := []) (rest := [.int 0, .ref (a 0)]) ⟨hx, hb, hml, hown, hts⟩ (c_Pg_size l D cI a P) mPg_size lRn_67 iPg_size ⟨Nat.le_of_ble_eq_true rfl, Nat.le_of_ble_eq_true rfl⟩ ⟨rfl, rfl⟩ hK hN (hP.sub (ws' := wP a cI P) [1, 2, 3] rfl) 0 rfl rfl rfl hl.1 rfl (Nat.le_of_ble_eq_true rfl) dRn_perform_11 ⟨Nat.le_of_ble_eq_true rfl, Nat.le_of_ble_eq_true rfl⟩ (fun r_3 er_3 => ?_)
  obtain rfl : r_3 = nI P.2.2 := er_3
  refine lv_iconst (v := 0) hx hb dRn_perform_14 (by decide) ?_
  refine ce_vi (As := [.int 0, .int (nI P.2.2), .int 0]) (rest := []) ⟨hx, hb, hml, hown, hts⟩ (c_Rn_doActions l D cI a hd P hp 15 (xBegin x u) 0 P.2.2 0 rfl (Nat.zero_le _) (Nat.le_refl _)) mRn_doActions lRn_72 iRn_doActions ⟨Nat.le_of_ble_eq_true rfl, Nat.le_of_ble_eq_true rfl⟩ ⟨rfl, rfl⟩ hK hN hP hS rfl hl.1 rfl (Nat.le_of_ble_eq_true rfl) dRn_perform_15 ⟨Nat.le_of_ble_eq_true rfl, Nat.le_of_ble_eq_true rfl⟩ (fun r_4 u_5 H locs er_4 hP hS => ?_)
  refine lv_pop hx hb dRn_perform_18 rfl ?_
  refine lv_aload_n hx hb dRn_perform_19 rfl (lv_at hl 0 rfl) ?_
  refine lv_iconst (v := 1) hx hb dRn_perform_20 (by decide) ?_
  refine ce_pKnown (x := true) hx hb hts hown hK hd hP hS lRn_26 dRn_perform_21 (fun H locs hP hS => ?_)
  exact W.vret hx hb hr (fun t9 ht hW => ⟨⟨sKnown u_5 true, rfl, congrArg (fun q : Int32 × RS => sKnown q.2 true) er_4, ce_hp ht hP⟩, hS.F ht⟩) hS.2.2 dRn_perform_24
end
section
-- THE REFERENCE'S STATE: its arrays and numbers
abbrev MS : Type := (Nat → Nat) × (Nat → Nat) × (Nat → Nat) × (Nat → Int32) × (Nat → Int32) × (Nat → Bool) × (Int64) × (Int32) × (Int32) × (Int32) × (Nat → Nat) × (Nat → Nat) × (Nat → Nat) × (Nat) × (Nat → Int32) × (Nat → Int32) × (Nat) × (Nat) × (Int32) × (Int32) × (Int32) × (Int32) × (Int32) × (Int32) × (Int32) × (Bool) × (Bool)
def qOp (m : MS) : Nat → Nat := m.1
def qArg (m : MS) : Nat → Nat := m.2.1
def qSize (m : MS) : Nat → Nat := m.2.2.1
def qTold (m : MS) : Nat → Int32 := m.2.2.2.1
def qCls (m : MS) : Nat → Int32 := m.2.2.2.2.1
def qRan (m : MS) : Nat → Bool := m.2.2.2.2.2.1
def qCtr (m : MS) : Int64 := m.2.2.2.2.2.2.1
def qRuns (m : MS) : Int32 := m.2.2.2.2.2.2.2.1
def qThr (m : MS) : Int32 := m.2.2.2.2.2.2.2.2.1
def qTrd (m : MS) : Int32 := m.2.2.2.2.2.2.2.2.2.1
def qBlk (m : MS) : Nat → Nat := m.2.2.2.2.2.2.2.2.2.2.1
def qEnd (m : MS) : Nat → Nat := m.2.2.2.2.2.2.2.2.2.2.2.1
def qLeft (m : MS) : Nat → Nat := m.2.2.2.2.2.2.2.2.2.2.2.2.1
def qOpen (m : MS) : Nat := m.2.2.2.2.2.2.2.2.2.2.2.2.2.1
def qCell (m : MS) : Nat → Int32 := m.2.2.2.2.2.2.2.2.2.2.2.2.2.2.1
def qHeld (m : MS) : Nat → Int32 := m.2.2.2.2.2.2.2.2.2.2.2.2.2.2.2.1
def qProg (m : MS) : Nat := m.2.2.2.2.2.2.2.2.2.2.2.2.2.2.2.2.1
def qAt (m : MS) : Nat := m.2.2.2.2.2.2.2.2.2.2.2.2.2.2.2.2.2.1
def qAcc (m : MS) : Int32 := m.2.2.2.2.2.2.2.2.2.2.2.2.2.2.2.2.2.2.1
def qSteps (m : MS) : Int32 := m.2.2.2.2.2.2.2.2.2.2.2.2.2.2.2.2.2.2.2.1
def qFin (m : MS) : Int32 := m.2.2.2.2.2.2.2.2.2.2.2.2.2.2.2.2.2.2.2.2.1
def qCat (m : MS) : Int32 := m.2.2.2.2.2.2.2.2.2.2.2.2.2.2.2.2.2.2.2.2.2.1
def qTr (m : MS) : Int32 := m.2.2.2.2.2.2.2.2.2.2.2.2.2.2.2.2.2.2.2.2.2.2.1
def qNum (m : MS) : Int32 := m.2.2.2.2.2.2.2.2.2.2.2.2.2.2.2.2.2.2.2.2.2.2.2.1
def qOrg (m : MS) : Int32 := m.2.2.2.2.2.2.2.2.2.2.2.2.2.2.2.2.2.2.2.2.2.2.2.2.1
def qMark (m : MS) : Bool := m.2.2.2.2.2.2.2.2.2.2.2.2.2.2.2.2.2.2.2.2.2.2.2.2.2.1
def qStop (m : MS) : Bool := m.2.2.2.2.2.2.2.2.2.2.2.2.2.2.2.2.2.2.2.2.2.2.2.2.2.2
def mkM (x0 : Nat → Nat) (x1 : Nat → Nat) (x2 : Nat → Nat) (x3 : Nat → Int32) (x4 : Nat → Int32) (x5 : Nat → Bool) (x6 : Int64) (x7 : Int32) (x8 : Int32) (x9 : Int32) (x10 : Nat → Nat) (x11 : Nat → Nat) (x12 : Nat → Nat) (x13 : Nat) (x14 : Nat → Int32) (x15 : Nat → Int32) (x16 : Nat) (x17 : Nat) (x18 : Int32) (x19 : Int32) (x20 : Int32) (x21 : Int32) (x22 : Int32) (x23 : Int32) (x24 : Int32) (x25 : Bool) (x26 : Bool) : MS := (x0, x1, x2, x3, x4, x5, x6, x7, x8, x9, x10, x11, x12, x13, x14, x15, x16, x17, x18, x19, x20, x21, x22, x23, x24, x25, x26)
def zOp (m : MS) (x : Nat → Nat) : MS := mkM x (qArg m) (qSize m) (qTold m) (qCls m) (qRan m) (qCtr m) (qRuns m) (qThr m) (qTrd m) (qBlk m) (qEnd m) (qLeft m) (qOpen m) (qCell m) (qHeld m) (qProg m) (qAt m) (qAcc m) (qSteps m) (qFin m) (qCat m) (qTr m) (qNum m) (qOrg m) (qMark m) (qStop m)
def zArg (m : MS) (x : Nat → Nat) : MS := mkM (qOp m) x (qSize m) (qTold m) (qCls m) (qRan m) (qCtr m) (qRuns m) (qThr m) (qTrd m) (qBlk m) (qEnd m) (qLeft m) (qOpen m) (qCell m) (qHeld m) (qProg m) (qAt m) (qAcc m) (qSteps m) (qFin m) (qCat m) (qTr m) (qNum m) (qOrg m) (qMark m) (qStop m)
def zSize (m : MS) (x : Nat → Nat) : MS := mkM (qOp m) (qArg m) x (qTold m) (qCls m) (qRan m) (qCtr m) (qRuns m) (qThr m) (qTrd m) (qBlk m) (qEnd m) (qLeft m) (qOpen m) (qCell m) (qHeld m) (qProg m) (qAt m) (qAcc m) (qSteps m) (qFin m) (qCat m) (qTr m) (qNum m) (qOrg m) (qMark m) (qStop m)
def zTold (m : MS) (x : Nat → Int32) : MS := mkM (qOp m) (qArg m) (qSize m) x (qCls m) (qRan m) (qCtr m) (qRuns m) (qThr m) (qTrd m) (qBlk m) (qEnd m) (qLeft m) (qOpen m) (qCell m) (qHeld m) (qProg m) (qAt m) (qAcc m) (qSteps m) (qFin m) (qCat m) (qTr m) (qNum m) (qOrg m) (qMark m) (qStop m)
def zCls (m : MS) (x : Nat → Int32) : MS := mkM (qOp m) (qArg m) (qSize m) (qTold m) x (qRan m) (qCtr m) (qRuns m) (qThr m) (qTrd m) (qBlk m) (qEnd m) (qLeft m) (qOpen m) (qCell m) (qHeld m) (qProg m) (qAt m) (qAcc m) (qSteps m) (qFin m) (qCat m) (qTr m) (qNum m) (qOrg m) (qMark m) (qStop m)
def zRan (m : MS) (x : Nat → Bool) : MS := mkM (qOp m) (qArg m) (qSize m) (qTold m) (qCls m) x (qCtr m) (qRuns m) (qThr m) (qTrd m) (qBlk m) (qEnd m) (qLeft m) (qOpen m) (qCell m) (qHeld m) (qProg m) (qAt m) (qAcc m) (qSteps m) (qFin m) (qCat m) (qTr m) (qNum m) (qOrg m) (qMark m) (qStop m)
def zCtr (m : MS) (x : Int64) : MS := mkM (qOp m) (qArg m) (qSize m) (qTold m) (qCls m) (qRan m) x (qRuns m) (qThr m) (qTrd m) (qBlk m) (qEnd m) (qLeft m) (qOpen m) (qCell m) (qHeld m) (qProg m) (qAt m) (qAcc m) (qSteps m) (qFin m) (qCat m) (qTr m) (qNum m) (qOrg m) (qMark m) (qStop m)
def zRuns (m : MS) (x : Int32) : MS := mkM (qOp m) (qArg m) (qSize m) (qTold m) (qCls m) (qRan m) (qCtr m) x (qThr m) (qTrd m) (qBlk m) (qEnd m) (qLeft m) (qOpen m) (qCell m) (qHeld m) (qProg m) (qAt m) (qAcc m) (qSteps m) (qFin m) (qCat m) (qTr m) (qNum m) (qOrg m) (qMark m) (qStop m)
def zThr (m : MS) (x : Int32) : MS := mkM (qOp m) (qArg m) (qSize m) (qTold m) (qCls m) (qRan m) (qCtr m) (qRuns m) x (qTrd m) (qBlk m) (qEnd m) (qLeft m) (qOpen m) (qCell m) (qHeld m) (qProg m) (qAt m) (qAcc m) (qSteps m) (qFin m) (qCat m) (qTr m) (qNum m) (qOrg m) (qMark m) (qStop m)
def zTrd (m : MS) (x : Int32) : MS := mkM (qOp m) (qArg m) (qSize m) (qTold m) (qCls m) (qRan m) (qCtr m) (qRuns m) (qThr m) x (qBlk m) (qEnd m) (qLeft m) (qOpen m) (qCell m) (qHeld m) (qProg m) (qAt m) (qAcc m) (qSteps m) (qFin m) (qCat m) (qTr m) (qNum m) (qOrg m) (qMark m) (qStop m)
def zBlk (m : MS) (x : Nat → Nat) : MS := mkM (qOp m) (qArg m) (qSize m) (qTold m) (qCls m) (qRan m) (qCtr m) (qRuns m) (qThr m) (qTrd m) x (qEnd m) (qLeft m) (qOpen m) (qCell m) (qHeld m) (qProg m) (qAt m) (qAcc m) (qSteps m) (qFin m) (qCat m) (qTr m) (qNum m) (qOrg m) (qMark m) (qStop m)
def zEnd (m : MS) (x : Nat → Nat) : MS := mkM (qOp m) (qArg m) (qSize m) (qTold m) (qCls m) (qRan m) (qCtr m) (qRuns m) (qThr m) (qTrd m) (qBlk m) x (qLeft m) (qOpen m) (qCell m) (qHeld m) (qProg m) (qAt m) (qAcc m) (qSteps m) (qFin m) (qCat m) (qTr m) (qNum m) (qOrg m) (qMark m) (qStop m)
def zLeft (m : MS) (x : Nat → Nat) : MS := mkM (qOp m) (qArg m) (qSize m) (qTold m) (qCls m) (qRan m) (qCtr m) (qRuns m) (qThr m) (qTrd m) (qBlk m) (qEnd m) x (qOpen m) (qCell m) (qHeld m) (qProg m) (qAt m) (qAcc m) (qSteps m) (qFin m) (qCat m) (qTr m) (qNum m) (qOrg m) (qMark m) (qStop m)
def zOpen (m : MS) (x : Nat) : MS := mkM (qOp m) (qArg m) (qSize m) (qTold m) (qCls m) (qRan m) (qCtr m) (qRuns m) (qThr m) (qTrd m) (qBlk m) (qEnd m) (qLeft m) x (qCell m) (qHeld m) (qProg m) (qAt m) (qAcc m) (qSteps m) (qFin m) (qCat m) (qTr m) (qNum m) (qOrg m) (qMark m) (qStop m)
def zCell (m : MS) (x : Nat → Int32) : MS := mkM (qOp m) (qArg m) (qSize m) (qTold m) (qCls m) (qRan m) (qCtr m) (qRuns m) (qThr m) (qTrd m) (qBlk m) (qEnd m) (qLeft m) (qOpen m) x (qHeld m) (qProg m) (qAt m) (qAcc m) (qSteps m) (qFin m) (qCat m) (qTr m) (qNum m) (qOrg m) (qMark m) (qStop m)
def zHeld (m : MS) (x : Nat → Int32) : MS := mkM (qOp m) (qArg m) (qSize m) (qTold m) (qCls m) (qRan m) (qCtr m) (qRuns m) (qThr m) (qTrd m) (qBlk m) (qEnd m) (qLeft m) (qOpen m) (qCell m) x (qProg m) (qAt m) (qAcc m) (qSteps m) (qFin m) (qCat m) (qTr m) (qNum m) (qOrg m) (qMark m) (qStop m)
def zProg (m : MS) (x : Nat) : MS := mkM (qOp m) (qArg m) (qSize m) (qTold m) (qCls m) (qRan m) (qCtr m) (qRuns m) (qThr m) (qTrd m) (qBlk m) (qEnd m) (qLeft m) (qOpen m) (qCell m) (qHeld m) x (qAt m) (qAcc m) (qSteps m) (qFin m) (qCat m) (qTr m) (qNum m) (qOrg m) (qMark m) (qStop m)
def zAt (m : MS) (x : Nat) : MS := mkM (qOp m) (qArg m) (qSize m) (qTold m) (qCls m) (qRan m) (qCtr m) (qRuns m) (qThr m) (qTrd m) (qBlk m) (qEnd m) (qLeft m) (qOpen m) (qCell m) (qHeld m) (qProg m) x (qAcc m) (qSteps m) (qFin m) (qCat m) (qTr m) (qNum m) (qOrg m) (qMark m) (qStop m)
def zAcc (m : MS) (x : Int32) : MS := mkM (qOp m) (qArg m) (qSize m) (qTold m) (qCls m) (qRan m) (qCtr m) (qRuns m) (qThr m) (qTrd m) (qBlk m) (qEnd m) (qLeft m) (qOpen m) (qCell m) (qHeld m) (qProg m) (qAt m) x (qSteps m) (qFin m) (qCat m) (qTr m) (qNum m) (qOrg m) (qMark m) (qStop m)
def zSteps (m : MS) (x : Int32) : MS := mkM (qOp m) (qArg m) (qSize m) (qTold m) (qCls m) (qRan m) (qCtr m) (qRuns m) (qThr m) (qTrd m) (qBlk m) (qEnd m) (qLeft m) (qOpen m) (qCell m) (qHeld m) (qProg m) (qAt m) (qAcc m) x (qFin m) (qCat m) (qTr m) (qNum m) (qOrg m) (qMark m) (qStop m)
def zFin (m : MS) (x : Int32) : MS := mkM (qOp m) (qArg m) (qSize m) (qTold m) (qCls m) (qRan m) (qCtr m) (qRuns m) (qThr m) (qTrd m) (qBlk m) (qEnd m) (qLeft m) (qOpen m) (qCell m) (qHeld m) (qProg m) (qAt m) (qAcc m) (qSteps m) x (qCat m) (qTr m) (qNum m) (qOrg m) (qMark m) (qStop m)
def zCat (m : MS) (x : Int32) : MS := mkM (qOp m) (qArg m) (qSize m) (qTold m) (qCls m) (qRan m) (qCtr m) (qRuns m) (qThr m) (qTrd m) (qBlk m) (qEnd m) (qLeft m) (qOpen m) (qCell m) (qHeld m) (qProg m) (qAt m) (qAcc m) (qSteps m) (qFin m) x (qTr m) (qNum m) (qOrg m) (qMark m) (qStop m)
def zTr (m : MS) (x : Int32) : MS := mkM (qOp m) (qArg m) (qSize m) (qTold m) (qCls m) (qRan m) (qCtr m) (qRuns m) (qThr m) (qTrd m) (qBlk m) (qEnd m) (qLeft m) (qOpen m) (qCell m) (qHeld m) (qProg m) (qAt m) (qAcc m) (qSteps m) (qFin m) (qCat m) x (qNum m) (qOrg m) (qMark m) (qStop m)
def zNum (m : MS) (x : Int32) : MS := mkM (qOp m) (qArg m) (qSize m) (qTold m) (qCls m) (qRan m) (qCtr m) (qRuns m) (qThr m) (qTrd m) (qBlk m) (qEnd m) (qLeft m) (qOpen m) (qCell m) (qHeld m) (qProg m) (qAt m) (qAcc m) (qSteps m) (qFin m) (qCat m) (qTr m) x (qOrg m) (qMark m) (qStop m)
def zOrg (m : MS) (x : Int32) : MS := mkM (qOp m) (qArg m) (qSize m) (qTold m) (qCls m) (qRan m) (qCtr m) (qRuns m) (qThr m) (qTrd m) (qBlk m) (qEnd m) (qLeft m) (qOpen m) (qCell m) (qHeld m) (qProg m) (qAt m) (qAcc m) (qSteps m) (qFin m) (qCat m) (qTr m) (qNum m) x (qMark m) (qStop m)
def zMark (m : MS) (x : Bool) : MS := mkM (qOp m) (qArg m) (qSize m) (qTold m) (qCls m) (qRan m) (qCtr m) (qRuns m) (qThr m) (qTrd m) (qBlk m) (qEnd m) (qLeft m) (qOpen m) (qCell m) (qHeld m) (qProg m) (qAt m) (qAcc m) (qSteps m) (qFin m) (qCat m) (qTr m) (qNum m) (qOrg m) x (qStop m)
def zStop (m : MS) (x : Bool) : MS := mkM (qOp m) (qArg m) (qSize m) (qTold m) (qCls m) (qRan m) (qCtr m) (qRuns m) (qThr m) (qTrd m) (qBlk m) (qEnd m) (qLeft m) (qOpen m) (qCell m) (qHeld m) (qProg m) (qAt m) (qAcc m) (qSteps m) (qFin m) (qCat m) (qTr m) (qNum m) (qOrg m) (qMark m) x
theorem qOp_zOp (m : MS) (x : Nat → Nat) : qOp (zOp m x) = x := rfl
theorem qOp_zArg (m : MS) (x : Nat → Nat) : qOp (zArg m x) = qOp m := rfl
theorem qOp_zSize (m : MS) (x : Nat → Nat) : qOp (zSize m x) = qOp m := rfl
theorem qOp_zTold (m : MS) (x : Nat → Int32) : qOp (zTold m x) = qOp m := rfl
theorem qOp_zCls (m : MS) (x : Nat → Int32) : qOp (zCls m x) = qOp m := rfl
theorem qOp_zRan (m : MS) (x : Nat → Bool) : qOp (zRan m x) = qOp m := rfl
theorem qOp_zCtr (m : MS) (x : Int64) : qOp (zCtr m x) = qOp m := rfl
theorem qOp_zRuns (m : MS) (x : Int32) : qOp (zRuns m x) = qOp m := rfl
theorem qOp_zThr (m : MS) (x : Int32) : qOp (zThr m x) = qOp m := rfl
theorem qOp_zTrd (m : MS) (x : Int32) : qOp (zTrd m x) = qOp m := rfl
theorem qOp_zBlk (m : MS) (x : Nat → Nat) : qOp (zBlk m x) = qOp m := rfl
theorem qOp_zEnd (m : MS) (x : Nat → Nat) : qOp (zEnd m x) = qOp m := rfl
theorem qOp_zLeft (m : MS) (x : Nat → Nat) : qOp (zLeft m x) = qOp m := rfl
theorem qOp_zOpen (m : MS) (x : Nat) : qOp (zOpen m x) = qOp m := rfl
theorem qOp_zCell (m : MS) (x : Nat → Int32) : qOp (zCell m x) = qOp m := rfl
theorem qOp_zHeld (m : MS) (x : Nat → Int32) : qOp (zHeld m x) = qOp m := rfl
theorem qOp_zProg (m : MS) (x : Nat) : qOp (zProg m x) = qOp m := rfl
theorem qOp_zAt (m : MS) (x : Nat) : qOp (zAt m x) = qOp m := rfl
theorem qOp_zAcc (m : MS) (x : Int32) : qOp (zAcc m x) = qOp m := rfl
theorem qOp_zSteps (m : MS) (x : Int32) : qOp (zSteps m x) = qOp m := rfl
theorem qOp_zFin (m : MS) (x : Int32) : qOp (zFin m x) = qOp m := rfl
theorem qOp_zCat (m : MS) (x : Int32) : qOp (zCat m x) = qOp m := rfl
theorem qOp_zTr (m : MS) (x : Int32) : qOp (zTr m x) = qOp m := rfl
theorem qOp_zNum (m : MS) (x : Int32) : qOp (zNum m x) = qOp m := rfl
theorem qOp_zOrg (m : MS) (x : Int32) : qOp (zOrg m x) = qOp m := rfl
theorem qOp_zMark (m : MS) (x : Bool) : qOp (zMark m x) = qOp m := rfl
theorem qOp_zStop (m : MS) (x : Bool) : qOp (zStop m x) = qOp m := rfl
theorem qArg_zOp (m : MS) (x : Nat → Nat) : qArg (zOp m x) = qArg m := rfl
theorem qArg_zArg (m : MS) (x : Nat → Nat) : qArg (zArg m x) = x := rfl
theorem qArg_zSize (m : MS) (x : Nat → Nat) : qArg (zSize m x) = qArg m := rfl
theorem qArg_zTold (m : MS) (x : Nat → Int32) : qArg (zTold m x) = qArg m := rfl
theorem qArg_zCls (m : MS) (x : Nat → Int32) : qArg (zCls m x) = qArg m := rfl
theorem qArg_zRan (m : MS) (x : Nat → Bool) : qArg (zRan m x) = qArg m := rfl
theorem qArg_zCtr (m : MS) (x : Int64) : qArg (zCtr m x) = qArg m := rfl
theorem qArg_zRuns (m : MS) (x : Int32) : qArg (zRuns m x) = qArg m := rfl
theorem qArg_zThr (m : MS) (x : Int32) : qArg (zThr m x) = qArg m := rfl
theorem qArg_zTrd (m : MS) (x : Int32) : qArg (zTrd m x) = qArg m := rfl
theorem qArg_zBlk (m : MS) (x : Nat → Nat) : qArg (zBlk m x) = qArg m := rfl
theorem qArg_zEnd (m : MS) (x : Nat → Nat) : qArg (zEnd m x) = qArg m := rfl
theorem qArg_zLeft (m : MS) (x : Nat → Nat) : qArg (zLeft m x) = qArg m := rfl
theorem qArg_zOpen (m : MS) (x : Nat) : qArg (zOpen m x) = qArg m := rfl
theorem qArg_zCell (m : MS) (x : Nat → Int32) : qArg (zCell m x) = qArg m := rfl
theorem qArg_zHeld (m : MS) (x : Nat → Int32) : qArg (zHeld m x) = qArg m := rfl
theorem qArg_zProg (m : MS) (x : Nat) : qArg (zProg m x) = qArg m := rfl
theorem qArg_zAt (m : MS) (x : Nat) : qArg (zAt m x) = qArg m := rfl
theorem qArg_zAcc (m : MS) (x : Int32) : qArg (zAcc m x) = qArg m := rfl
theorem qArg_zSteps (m : MS) (x : Int32) : qArg (zSteps m x) = qArg m := rfl
theorem qArg_zFin (m : MS) (x : Int32) : qArg (zFin m x) = qArg m := rfl
theorem qArg_zCat (m : MS) (x : Int32) : qArg (zCat m x) = qArg m := rfl
theorem qArg_zTr (m : MS) (x : Int32) : qArg (zTr m x) = qArg m := rfl
theorem qArg_zNum (m : MS) (x : Int32) : qArg (zNum m x) = qArg m := rfl
theorem qArg_zOrg (m : MS) (x : Int32) : qArg (zOrg m x) = qArg m := rfl
theorem qArg_zMark (m : MS) (x : Bool) : qArg (zMark m x) = qArg m := rfl
theorem qArg_zStop (m : MS) (x : Bool) : qArg (zStop m x) = qArg m := rfl
theorem qSize_zOp (m : MS) (x : Nat → Nat) : qSize (zOp m x) = qSize m := rfl
theorem qSize_zArg (m : MS) (x : Nat → Nat) : qSize (zArg m x) = qSize m := rfl
theorem qSize_zSize (m : MS) (x : Nat → Nat) : qSize (zSize m x) = x := rfl
theorem qSize_zTold (m : MS) (x : Nat → Int32) : qSize (zTold m x) = qSize m := rfl
theorem qSize_zCls (m : MS) (x : Nat → Int32) : qSize (zCls m x) = qSize m := rfl
theorem qSize_zRan (m : MS) (x : Nat → Bool) : qSize (zRan m x) = qSize m := rfl
theorem qSize_zCtr (m : MS) (x : Int64) : qSize (zCtr m x) = qSize m := rfl
theorem qSize_zRuns (m : MS) (x : Int32) : qSize (zRuns m x) = qSize m := rfl
theorem qSize_zThr (m : MS) (x : Int32) : qSize (zThr m x) = qSize m := rfl
theorem qSize_zTrd (m : MS) (x : Int32) : qSize (zTrd m x) = qSize m := rfl
theorem qSize_zBlk (m : MS) (x : Nat → Nat) : qSize (zBlk m x) = qSize m := rfl
theorem qSize_zEnd (m : MS) (x : Nat → Nat) : qSize (zEnd m x) = qSize m := rfl
theorem qSize_zLeft (m : MS) (x : Nat → Nat) : qSize (zLeft m x) = qSize m := rfl
theorem qSize_zOpen (m : MS) (x : Nat) : qSize (zOpen m x) = qSize m := rfl
theorem qSize_zCell (m : MS) (x : Nat → Int32) : qSize (zCell m x) = qSize m := rfl
theorem qSize_zHeld (m : MS) (x : Nat → Int32) : qSize (zHeld m x) = qSize m := rfl
theorem qSize_zProg (m : MS) (x : Nat) : qSize (zProg m x) = qSize m := rfl
theorem qSize_zAt (m : MS) (x : Nat) : qSize (zAt m x) = qSize m := rfl
theorem qSize_zAcc (m : MS) (x : Int32) : qSize (zAcc m x) = qSize m := rfl
theorem qSize_zSteps (m : MS) (x : Int32) : qSize (zSteps m x) = qSize m := rfl
theorem qSize_zFin (m : MS) (x : Int32) : qSize (zFin m x) = qSize m := rfl
theorem qSize_zCat (m : MS) (x : Int32) : qSize (zCat m x) = qSize m := rfl
theorem qSize_zTr (m : MS) (x : Int32) : qSize (zTr m x) = qSize m := rfl
theorem qSize_zNum (m : MS) (x : Int32) : qSize (zNum m x) = qSize m := rfl
theorem qSize_zOrg (m : MS) (x : Int32) : qSize (zOrg m x) = qSize m := rfl
theorem qSize_zMark (m : MS) (x : Bool) : qSize (zMark m x) = qSize m := rfl
theorem qSize_zStop (m : MS) (x : Bool) : qSize (zStop m x) = qSize m := rfl
theorem qTold_zOp (m : MS) (x : Nat → Nat) : qTold (zOp m x) = qTold m := rfl
theorem qTold_zArg (m : MS) (x : Nat → Nat) : qTold (zArg m x) = qTold m := rfl
theorem qTold_zSize (m : MS) (x : Nat → Nat) : qTold (zSize m x) = qTold m := rfl
theorem qTold_zTold (m : MS) (x : Nat → Int32) : qTold (zTold m x) = x := rfl
theorem qTold_zCls (m : MS) (x : Nat → Int32) : qTold (zCls m x) = qTold m := rfl
theorem qTold_zRan (m : MS) (x : Nat → Bool) : qTold (zRan m x) = qTold m := rfl
theorem qTold_zCtr (m : MS) (x : Int64) : qTold (zCtr m x) = qTold m := rfl
theorem qTold_zRuns (m : MS) (x : Int32) : qTold (zRuns m x) = qTold m := rfl
theorem qTold_zThr (m : MS) (x : Int32) : qTold (zThr m x) = qTold m := rfl
theorem qTold_zTrd (m : MS) (x : Int32) : qTold (zTrd m x) = qTold m := rfl
theorem qTold_zBlk (m : MS) (x : Nat → Nat) : qTold (zBlk m x) = qTold m := rfl
theorem qTold_zEnd (m : MS) (x : Nat → Nat) : qTold (zEnd m x) = qTold m := rfl
theorem qTold_zLeft (m : MS) (x : Nat → Nat) : qTold (zLeft m x) = qTold m := rfl
theorem qTold_zOpen (m : MS) (x : Nat) : qTold (zOpen m x) = qTold m := rfl
theorem qTold_zCell (m : MS) (x : Nat → Int32) : qTold (zCell m x) = qTold m := rfl
theorem qTold_zHeld (m : MS) (x : Nat → Int32) : qTold (zHeld m x) = qTold m := rfl
theorem qTold_zProg (m : MS) (x : Nat) : qTold (zProg m x) = qTold m := rfl
theorem qTold_zAt (m : MS) (x : Nat) : qTold (zAt m x) = qTold m := rfl
theorem qTold_zAcc (m : MS) (x : Int32) : qTold (zAcc m x) = qTold m := rfl
theorem qTold_zSteps (m : MS) (x : Int32) : qTold (zSteps m x) = qTold m := rfl
theorem qTold_zFin (m : MS) (x : Int32) : qTold (zFin m x) = qTold m := rfl
theorem qTold_zCat (m : MS) (x : Int32) : qTold (zCat m x) = qTold m := rfl
theorem qTold_zTr (m : MS) (x : Int32) : qTold (zTr m x) = qTold m := rfl
theorem qTold_zNum (m : MS) (x : Int32) : qTold (zNum m x) = qTold m := rfl
theorem qTold_zOrg (m : MS) (x : Int32) : qTold (zOrg m x) = qTold m := rfl
theorem qTold_zMark (m : MS) (x : Bool) : qTold (zMark m x) = qTold m := rfl
theorem qTold_zStop (m : MS) (x : Bool) : qTold (zStop m x) = qTold m := rfl
theorem qCls_zOp (m : MS) (x : Nat → Nat) : qCls (zOp m x) = qCls m := rfl
theorem qCls_zArg (m : MS) (x : Nat → Nat) : qCls (zArg m x) = qCls m := rfl
theorem qCls_zSize (m : MS) (x : Nat → Nat) : qCls (zSize m x) = qCls m := rfl
theorem qCls_zTold (m : MS) (x : Nat → Int32) : qCls (zTold m x) = qCls m := rfl
theorem qCls_zCls (m : MS) (x : Nat → Int32) : qCls (zCls m x) = x := rfl
theorem qCls_zRan (m : MS) (x : Nat → Bool) : qCls (zRan m x) = qCls m := rfl
theorem qCls_zCtr (m : MS) (x : Int64) : qCls (zCtr m x) = qCls m := rfl
theorem qCls_zRuns (m : MS) (x : Int32) : qCls (zRuns m x) = qCls m := rfl
theorem qCls_zThr (m : MS) (x : Int32) : qCls (zThr m x) = qCls m := rfl
theorem qCls_zTrd (m : MS) (x : Int32) : qCls (zTrd m x) = qCls m := rfl
theorem qCls_zBlk (m : MS) (x : Nat → Nat) : qCls (zBlk m x) = qCls m := rfl
theorem qCls_zEnd (m : MS) (x : Nat → Nat) : qCls (zEnd m x) = qCls m := rfl
theorem qCls_zLeft (m : MS) (x : Nat → Nat) : qCls (zLeft m x) = qCls m := rfl
theorem qCls_zOpen (m : MS) (x : Nat) : qCls (zOpen m x) = qCls m := rfl
theorem qCls_zCell (m : MS) (x : Nat → Int32) : qCls (zCell m x) = qCls m := rfl
theorem qCls_zHeld (m : MS) (x : Nat → Int32) : qCls (zHeld m x) = qCls m := rfl
theorem qCls_zProg (m : MS) (x : Nat) : qCls (zProg m x) = qCls m := rfl
theorem qCls_zAt (m : MS) (x : Nat) : qCls (zAt m x) = qCls m := rfl
theorem qCls_zAcc (m : MS) (x : Int32) : qCls (zAcc m x) = qCls m := rfl
theorem qCls_zSteps (m : MS) (x : Int32) : qCls (zSteps m x) = qCls m := rfl
theorem qCls_zFin (m : MS) (x : Int32) : qCls (zFin m x) = qCls m := rfl
theorem qCls_zCat (m : MS) (x : Int32) : qCls (zCat m x) = qCls m := rfl
theorem qCls_zTr (m : MS) (x : Int32) : qCls (zTr m x) = qCls m := rfl
theorem qCls_zNum (m : MS) (x : Int32) : qCls (zNum m x) = qCls m := rfl
theorem qCls_zOrg (m : MS) (x : Int32) : qCls (zOrg m x) = qCls m := rfl
theorem qCls_zMark (m : MS) (x : Bool) : qCls (zMark m x) = qCls m := rfl
theorem qCls_zStop (m : MS) (x : Bool) : qCls (zStop m x) = qCls m := rfl
theorem qRan_zOp (m : MS) (x : Nat → Nat) : qRan (zOp m x) = qRan m := rfl
theorem qRan_zArg (m : MS) (x : Nat → Nat) : qRan (zArg m x) = qRan m := rfl
theorem qRan_zSize (m : MS) (x : Nat → Nat) : qRan (zSize m x) = qRan m := rfl
theorem qRan_zTold (m : MS) (x : Nat → Int32) : qRan (zTold m x) = qRan m := rfl
theorem qRan_zCls (m : MS) (x : Nat → Int32) : qRan (zCls m x) = qRan m := rfl
theorem qRan_zRan (m : MS) (x : Nat → Bool) : qRan (zRan m x) = x := rfl
theorem qRan_zCtr (m : MS) (x : Int64) : qRan (zCtr m x) = qRan m := rfl
theorem qRan_zRuns (m : MS) (x : Int32) : qRan (zRuns m x) = qRan m := rfl
theorem qRan_zThr (m : MS) (x : Int32) : qRan (zThr m x) = qRan m := rfl
theorem qRan_zTrd (m : MS) (x : Int32) : qRan (zTrd m x) = qRan m := rfl
theorem qRan_zBlk (m : MS) (x : Nat → Nat) : qRan (zBlk m x) = qRan m := rfl
theorem qRan_zEnd (m : MS) (x : Nat → Nat) : qRan (zEnd m x) = qRan m := rfl
theorem qRan_zLeft (m : MS) (x : Nat → Nat) : qRan (zLeft m x) = qRan m := rfl
theorem qRan_zOpen (m : MS) (x : Nat) : qRan (zOpen m x) = qRan m := rfl
theorem qRan_zCell (m : MS) (x : Nat → Int32) : qRan (zCell m x) = qRan m := rfl
theorem qRan_zHeld (m : MS) (x : Nat → Int32) : qRan (zHeld m x) = qRan m := rfl
theorem qRan_zProg (m : MS) (x : Nat) : qRan (zProg m x) = qRan m := rfl
theorem qRan_zAt (m : MS) (x : Nat) : qRan (zAt m x) = qRan m := rfl
theorem qRan_zAcc (m : MS) (x : Int32) : qRan (zAcc m x) = qRan m := rfl
theorem qRan_zSteps (m : MS) (x : Int32) : qRan (zSteps m x) = qRan m := rfl
theorem qRan_zFin (m : MS) (x : Int32) : qRan (zFin m x) = qRan m := rfl
theorem qRan_zCat (m : MS) (x : Int32) : qRan (zCat m x) = qRan m := rfl
theorem qRan_zTr (m : MS) (x : Int32) : qRan (zTr m x) = qRan m := rfl
theorem qRan_zNum (m : MS) (x : Int32) : qRan (zNum m x) = qRan m := rfl
theorem qRan_zOrg (m : MS) (x : Int32) : qRan (zOrg m x) = qRan m := rfl
theorem qRan_zMark (m : MS) (x : Bool) : qRan (zMark m x) = qRan m := rfl
theorem qRan_zStop (m : MS) (x : Bool) : qRan (zStop m x) = qRan m := rfl
theorem qCtr_zOp (m : MS) (x : Nat → Nat) : qCtr (zOp m x) = qCtr m := rfl
theorem qCtr_zArg (m : MS) (x : Nat → Nat) : qCtr (zArg m x) = qCtr m := rfl
theorem qCtr_zSize (m : MS) (x : Nat → Nat) : qCtr (zSize m x) = qCtr m := rfl
theorem qCtr_zTold (m : MS) (x : Nat → Int32) : qCtr (zTold m x) = qCtr m := rfl
theorem qCtr_zCls (m : MS) (x : Nat → Int32) : qCtr (zCls m x) = qCtr m := rfl
theorem qCtr_zRan (m : MS) (x : Nat → Bool) : qCtr (zRan m x) = qCtr m := rfl
theorem qCtr_zCtr (m : MS) (x : Int64) : qCtr (zCtr m x) = x := rfl
theorem qCtr_zRuns (m : MS) (x : Int32) : qCtr (zRuns m x) = qCtr m := rfl
theorem qCtr_zThr (m : MS) (x : Int32) : qCtr (zThr m x) = qCtr m := rfl
theorem qCtr_zTrd (m : MS) (x : Int32) : qCtr (zTrd m x) = qCtr m := rfl
theorem qCtr_zBlk (m : MS) (x : Nat → Nat) : qCtr (zBlk m x) = qCtr m := rfl
theorem qCtr_zEnd (m : MS) (x : Nat → Nat) : qCtr (zEnd m x) = qCtr m := rfl
theorem qCtr_zLeft (m : MS) (x : Nat → Nat) : qCtr (zLeft m x) = qCtr m := rfl
theorem qCtr_zOpen (m : MS) (x : Nat) : qCtr (zOpen m x) = qCtr m := rfl
theorem qCtr_zCell (m : MS) (x : Nat → Int32) : qCtr (zCell m x) = qCtr m := rfl
theorem qCtr_zHeld (m : MS) (x : Nat → Int32) : qCtr (zHeld m x) = qCtr m := rfl
theorem qCtr_zProg (m : MS) (x : Nat) : qCtr (zProg m x) = qCtr m := rfl
theorem qCtr_zAt (m : MS) (x : Nat) : qCtr (zAt m x) = qCtr m := rfl
theorem qCtr_zAcc (m : MS) (x : Int32) : qCtr (zAcc m x) = qCtr m := rfl
theorem qCtr_zSteps (m : MS) (x : Int32) : qCtr (zSteps m x) = qCtr m := rfl
theorem qCtr_zFin (m : MS) (x : Int32) : qCtr (zFin m x) = qCtr m := rfl
theorem qCtr_zCat (m : MS) (x : Int32) : qCtr (zCat m x) = qCtr m := rfl
theorem qCtr_zTr (m : MS) (x : Int32) : qCtr (zTr m x) = qCtr m := rfl
theorem qCtr_zNum (m : MS) (x : Int32) : qCtr (zNum m x) = qCtr m := rfl
theorem qCtr_zOrg (m : MS) (x : Int32) : qCtr (zOrg m x) = qCtr m := rfl
theorem qCtr_zMark (m : MS) (x : Bool) : qCtr (zMark m x) = qCtr m := rfl
theorem qCtr_zStop (m : MS) (x : Bool) : qCtr (zStop m x) = qCtr m := rfl
theorem qRuns_zOp (m : MS) (x : Nat → Nat) : qRuns (zOp m x) = qRuns m := rfl
theorem qRuns_zArg (m : MS) (x : Nat → Nat) : qRuns (zArg m x) = qRuns m := rfl
theorem qRuns_zSize (m : MS) (x : Nat → Nat) : qRuns (zSize m x) = qRuns m := rfl
theorem qRuns_zTold (m : MS) (x : Nat → Int32) : qRuns (zTold m x) = qRuns m := rfl
theorem qRuns_zCls (m : MS) (x : Nat → Int32) : qRuns (zCls m x) = qRuns m := rfl
theorem qRuns_zRan (m : MS) (x : Nat → Bool) : qRuns (zRan m x) = qRuns m := rfl
theorem qRuns_zCtr (m : MS) (x : Int64) : qRuns (zCtr m x) = qRuns m := rfl
theorem qRuns_zRuns (m : MS) (x : Int32) : qRuns (zRuns m x) = x := rfl
theorem qRuns_zThr (m : MS) (x : Int32) : qRuns (zThr m x) = qRuns m := rfl
theorem qRuns_zTrd (m : MS) (x : Int32) : qRuns (zTrd m x) = qRuns m := rfl
theorem qRuns_zBlk (m : MS) (x : Nat → Nat) : qRuns (zBlk m x) = qRuns m := rfl
theorem qRuns_zEnd (m : MS) (x : Nat → Nat) : qRuns (zEnd m x) = qRuns m := rfl
theorem qRuns_zLeft (m : MS) (x : Nat → Nat) : qRuns (zLeft m x) = qRuns m := rfl
theorem qRuns_zOpen (m : MS) (x : Nat) : qRuns (zOpen m x) = qRuns m := rfl
theorem qRuns_zCell (m : MS) (x : Nat → Int32) : qRuns (zCell m x) = qRuns m := rfl
theorem qRuns_zHeld (m : MS) (x : Nat → Int32) : qRuns (zHeld m x) = qRuns m := rfl
theorem qRuns_zProg (m : MS) (x : Nat) : qRuns (zProg m x) = qRuns m := rfl
theorem qRuns_zAt (m : MS) (x : Nat) : qRuns (zAt m x) = qRuns m := rfl
theorem qRuns_zAcc (m : MS) (x : Int32) : qRuns (zAcc m x) = qRuns m := rfl
theorem qRuns_zSteps (m : MS) (x : Int32) : qRuns (zSteps m x) = qRuns m := rfl
theorem qRuns_zFin (m : MS) (x : Int32) : qRuns (zFin m x) = qRuns m := rfl
theorem qRuns_zCat (m : MS) (x : Int32) : qRuns (zCat m x) = qRuns m := rfl
theorem qRuns_zTr (m : MS) (x : Int32) : qRuns (zTr m x) = qRuns m := rfl
theorem qRuns_zNum (m : MS) (x : Int32) : qRuns (zNum m x) = qRuns m := rfl
theorem qRuns_zOrg (m : MS) (x : Int32) : qRuns (zOrg m x) = qRuns m := rfl
theorem qRuns_zMark (m : MS) (x : Bool) : qRuns (zMark m x) = qRuns m := rfl
theorem qRuns_zStop (m : MS) (x : Bool) : qRuns (zStop m x) = qRuns m := rfl
theorem qThr_zOp (m : MS) (x : Nat → Nat) : qThr (zOp m x) = qThr m := rfl
theorem qThr_zArg (m : MS) (x : Nat → Nat) : qThr (zArg m x) = qThr m := rfl
theorem qThr_zSize (m : MS) (x : Nat → Nat) : qThr (zSize m x) = qThr m := rfl
theorem qThr_zTold (m : MS) (x : Nat → Int32) : qThr (zTold m x) = qThr m := rfl
theorem qThr_zCls (m : MS) (x : Nat → Int32) : qThr (zCls m x) = qThr m := rfl
theorem qThr_zRan (m : MS) (x : Nat → Bool) : qThr (zRan m x) = qThr m := rfl
theorem qThr_zCtr (m : MS) (x : Int64) : qThr (zCtr m x) = qThr m := rfl
theorem qThr_zRuns (m : MS) (x : Int32) : qThr (zRuns m x) = qThr m := rfl
theorem qThr_zThr (m : MS) (x : Int32) : qThr (zThr m x) = x := rfl
theorem qThr_zTrd (m : MS) (x : Int32) : qThr (zTrd m x) = qThr m := rfl
theorem qThr_zBlk (m : MS) (x : Nat → Nat) : qThr (zBlk m x) = qThr m := rfl
theorem qThr_zEnd (m : MS) (x : Nat → Nat) : qThr (zEnd m x) = qThr m := rfl
theorem qThr_zLeft (m : MS) (x : Nat → Nat) : qThr (zLeft m x) = qThr m := rfl
theorem qThr_zOpen (m : MS) (x : Nat) : qThr (zOpen m x) = qThr m := rfl
theorem qThr_zCell (m : MS) (x : Nat → Int32) : qThr (zCell m x) = qThr m := rfl
theorem qThr_zHeld (m : MS) (x : Nat → Int32) : qThr (zHeld m x) = qThr m := rfl
theorem qThr_zProg (m : MS) (x : Nat) : qThr (zProg m x) = qThr m := rfl
theorem qThr_zAt (m : MS) (x : Nat) : qThr (zAt m x) = qThr m := rfl
theorem qThr_zAcc (m : MS) (x : Int32) : qThr (zAcc m x) = qThr m := rfl
theorem qThr_zSteps (m : MS) (x : Int32) : qThr (zSteps m x) = qThr m := rfl
theorem qThr_zFin (m : MS) (x : Int32) : qThr (zFin m x) = qThr m := rfl
theorem qThr_zCat (m : MS) (x : Int32) : qThr (zCat m x) = qThr m := rfl
theorem qThr_zTr (m : MS) (x : Int32) : qThr (zTr m x) = qThr m := rfl
theorem qThr_zNum (m : MS) (x : Int32) : qThr (zNum m x) = qThr m := rfl
theorem qThr_zOrg (m : MS) (x : Int32) : qThr (zOrg m x) = qThr m := rfl
theorem qThr_zMark (m : MS) (x : Bool) : qThr (zMark m x) = qThr m := rfl
theorem qThr_zStop (m : MS) (x : Bool) : qThr (zStop m x) = qThr m := rfl
theorem qTrd_zOp (m : MS) (x : Nat → Nat) : qTrd (zOp m x) = qTrd m := rfl
theorem qTrd_zArg (m : MS) (x : Nat → Nat) : qTrd (zArg m x) = qTrd m := rfl
theorem qTrd_zSize (m : MS) (x : Nat → Nat) : qTrd (zSize m x) = qTrd m := rfl
theorem qTrd_zTold (m : MS) (x : Nat → Int32) : qTrd (zTold m x) = qTrd m := rfl
theorem qTrd_zCls (m : MS) (x : Nat → Int32) : qTrd (zCls m x) = qTrd m := rfl
theorem qTrd_zRan (m : MS) (x : Nat → Bool) : qTrd (zRan m x) = qTrd m := rfl
theorem qTrd_zCtr (m : MS) (x : Int64) : qTrd (zCtr m x) = qTrd m := rfl
theorem qTrd_zRuns (m : MS) (x : Int32) : qTrd (zRuns m x) = qTrd m := rfl
theorem qTrd_zThr (m : MS) (x : Int32) : qTrd (zThr m x) = qTrd m := rfl
theorem qTrd_zTrd (m : MS) (x : Int32) : qTrd (zTrd m x) = x := rfl
theorem qTrd_zBlk (m : MS) (x : Nat → Nat) : qTrd (zBlk m x) = qTrd m := rfl
theorem qTrd_zEnd (m : MS) (x : Nat → Nat) : qTrd (zEnd m x) = qTrd m := rfl
theorem qTrd_zLeft (m : MS) (x : Nat → Nat) : qTrd (zLeft m x) = qTrd m := rfl
theorem qTrd_zOpen (m : MS) (x : Nat) : qTrd (zOpen m x) = qTrd m := rfl
theorem qTrd_zCell (m : MS) (x : Nat → Int32) : qTrd (zCell m x) = qTrd m := rfl
theorem qTrd_zHeld (m : MS) (x : Nat → Int32) : qTrd (zHeld m x) = qTrd m := rfl
theorem qTrd_zProg (m : MS) (x : Nat) : qTrd (zProg m x) = qTrd m := rfl
theorem qTrd_zAt (m : MS) (x : Nat) : qTrd (zAt m x) = qTrd m := rfl
theorem qTrd_zAcc (m : MS) (x : Int32) : qTrd (zAcc m x) = qTrd m := rfl
theorem qTrd_zSteps (m : MS) (x : Int32) : qTrd (zSteps m x) = qTrd m := rfl
theorem qTrd_zFin (m : MS) (x : Int32) : qTrd (zFin m x) = qTrd m := rfl
theorem qTrd_zCat (m : MS) (x : Int32) : qTrd (zCat m x) = qTrd m := rfl
theorem qTrd_zTr (m : MS) (x : Int32) : qTrd (zTr m x) = qTrd m := rfl
theorem qTrd_zNum (m : MS) (x : Int32) : qTrd (zNum m x) = qTrd m := rfl
theorem qTrd_zOrg (m : MS) (x : Int32) : qTrd (zOrg m x) = qTrd m := rfl
theorem qTrd_zMark (m : MS) (x : Bool) : qTrd (zMark m x) = qTrd m := rfl
theorem qTrd_zStop (m : MS) (x : Bool) : qTrd (zStop m x) = qTrd m := rfl
theorem qBlk_zOp (m : MS) (x : Nat → Nat) : qBlk (zOp m x) = qBlk m := rfl
theorem qBlk_zArg (m : MS) (x : Nat → Nat) : qBlk (zArg m x) = qBlk m := rfl
theorem qBlk_zSize (m : MS) (x : Nat → Nat) : qBlk (zSize m x) = qBlk m := rfl
theorem qBlk_zTold (m : MS) (x : Nat → Int32) : qBlk (zTold m x) = qBlk m := rfl
theorem qBlk_zCls (m : MS) (x : Nat → Int32) : qBlk (zCls m x) = qBlk m := rfl
theorem qBlk_zRan (m : MS) (x : Nat → Bool) : qBlk (zRan m x) = qBlk m := rfl
theorem qBlk_zCtr (m : MS) (x : Int64) : qBlk (zCtr m x) = qBlk m := rfl
theorem qBlk_zRuns (m : MS) (x : Int32) : qBlk (zRuns m x) = qBlk m := rfl
theorem qBlk_zThr (m : MS) (x : Int32) : qBlk (zThr m x) = qBlk m := rfl
theorem qBlk_zTrd (m : MS) (x : Int32) : qBlk (zTrd m x) = qBlk m := rfl
theorem qBlk_zBlk (m : MS) (x : Nat → Nat) : qBlk (zBlk m x) = x := rfl
theorem qBlk_zEnd (m : MS) (x : Nat → Nat) : qBlk (zEnd m x) = qBlk m := rfl
theorem qBlk_zLeft (m : MS) (x : Nat → Nat) : qBlk (zLeft m x) = qBlk m := rfl
theorem qBlk_zOpen (m : MS) (x : Nat) : qBlk (zOpen m x) = qBlk m := rfl
theorem qBlk_zCell (m : MS) (x : Nat → Int32) : qBlk (zCell m x) = qBlk m := rfl
theorem qBlk_zHeld (m : MS) (x : Nat → Int32) : qBlk (zHeld m x) = qBlk m := rfl
theorem qBlk_zProg (m : MS) (x : Nat) : qBlk (zProg m x) = qBlk m := rfl
theorem qBlk_zAt (m : MS) (x : Nat) : qBlk (zAt m x) = qBlk m := rfl
theorem qBlk_zAcc (m : MS) (x : Int32) : qBlk (zAcc m x) = qBlk m := rfl
theorem qBlk_zSteps (m : MS) (x : Int32) : qBlk (zSteps m x) = qBlk m := rfl
theorem qBlk_zFin (m : MS) (x : Int32) : qBlk (zFin m x) = qBlk m := rfl
theorem qBlk_zCat (m : MS) (x : Int32) : qBlk (zCat m x) = qBlk m := rfl
theorem qBlk_zTr (m : MS) (x : Int32) : qBlk (zTr m x) = qBlk m := rfl
theorem qBlk_zNum (m : MS) (x : Int32) : qBlk (zNum m x) = qBlk m := rfl
theorem qBlk_zOrg (m : MS) (x : Int32) : qBlk (zOrg m x) = qBlk m := rfl
theorem qBlk_zMark (m : MS) (x : Bool) : qBlk (zMark m x) = qBlk m := rfl
theorem qBlk_zStop (m : MS) (x : Bool) : qBlk (zStop m x) = qBlk m := rfl
theorem qEnd_zOp (m : MS) (x : Nat → Nat) : qEnd (zOp m x) = qEnd m := rfl
theorem qEnd_zArg (m : MS) (x : Nat → Nat) : qEnd (zArg m x) = qEnd m := rfl
theorem qEnd_zSize (m : MS) (x : Nat → Nat) : qEnd (zSize m x) = qEnd m := rfl
theorem qEnd_zTold (m : MS) (x : Nat → Int32) : qEnd (zTold m x) = qEnd m := rfl
theorem qEnd_zCls (m : MS) (x : Nat → Int32) : qEnd (zCls m x) = qEnd m := rfl
theorem qEnd_zRan (m : MS) (x : Nat → Bool) : qEnd (zRan m x) = qEnd m := rfl
theorem qEnd_zCtr (m : MS) (x : Int64) : qEnd (zCtr m x) = qEnd m := rfl
theorem qEnd_zRuns (m : MS) (x : Int32) : qEnd (zRuns m x) = qEnd m := rfl
theorem qEnd_zThr (m : MS) (x : Int32) : qEnd (zThr m x) = qEnd m := rfl
theorem qEnd_zTrd (m : MS) (x : Int32) : qEnd (zTrd m x) = qEnd m := rfl
theorem qEnd_zBlk (m : MS) (x : Nat → Nat) : qEnd (zBlk m x) = qEnd m := rfl
theorem qEnd_zEnd (m : MS) (x : Nat → Nat) : qEnd (zEnd m x) = x := rfl
theorem qEnd_zLeft (m : MS) (x : Nat → Nat) : qEnd (zLeft m x) = qEnd m := rfl
theorem qEnd_zOpen (m : MS) (x : Nat) : qEnd (zOpen m x) = qEnd m := rfl
theorem qEnd_zCell (m : MS) (x : Nat → Int32) : qEnd (zCell m x) = qEnd m := rfl
theorem qEnd_zHeld (m : MS) (x : Nat → Int32) : qEnd (zHeld m x) = qEnd m := rfl
theorem qEnd_zProg (m : MS) (x : Nat) : qEnd (zProg m x) = qEnd m := rfl
theorem qEnd_zAt (m : MS) (x : Nat) : qEnd (zAt m x) = qEnd m := rfl
theorem qEnd_zAcc (m : MS) (x : Int32) : qEnd (zAcc m x) = qEnd m := rfl
theorem qEnd_zSteps (m : MS) (x : Int32) : qEnd (zSteps m x) = qEnd m := rfl
theorem qEnd_zFin (m : MS) (x : Int32) : qEnd (zFin m x) = qEnd m := rfl
theorem qEnd_zCat (m : MS) (x : Int32) : qEnd (zCat m x) = qEnd m := rfl
theorem qEnd_zTr (m : MS) (x : Int32) : qEnd (zTr m x) = qEnd m := rfl
theorem qEnd_zNum (m : MS) (x : Int32) : qEnd (zNum m x) = qEnd m := rfl
theorem qEnd_zOrg (m : MS) (x : Int32) : qEnd (zOrg m x) = qEnd m := rfl
theorem qEnd_zMark (m : MS) (x : Bool) : qEnd (zMark m x) = qEnd m := rfl
theorem qEnd_zStop (m : MS) (x : Bool) : qEnd (zStop m x) = qEnd m := rfl
theorem qLeft_zOp (m : MS) (x : Nat → Nat) : qLeft (zOp m x) = qLeft m := rfl
theorem qLeft_zArg (m : MS) (x : Nat → Nat) : qLeft (zArg m x) = qLeft m := rfl
theorem qLeft_zSize (m : MS) (x : Nat → Nat) : qLeft (zSize m x) = qLeft m := rfl
theorem qLeft_zTold (m : MS) (x : Nat → Int32) : qLeft (zTold m x) = qLeft m := rfl
theorem qLeft_zCls (m : MS) (x : Nat → Int32) : qLeft (zCls m x) = qLeft m := rfl
theorem qLeft_zRan (m : MS) (x : Nat → Bool) : qLeft (zRan m x) = qLeft m := rfl
theorem qLeft_zCtr (m : MS) (x : Int64) : qLeft (zCtr m x) = qLeft m := rfl
theorem qLeft_zRuns (m : MS) (x : Int32) : qLeft (zRuns m x) = qLeft m := rfl
theorem qLeft_zThr (m : MS) (x : Int32) : qLeft (zThr m x) = qLeft m := rfl
theorem qLeft_zTrd (m : MS) (x : Int32) : qLeft (zTrd m x) = qLeft m := rfl
theorem qLeft_zBlk (m : MS) (x : Nat → Nat) : qLeft (zBlk m x) = qLeft m := rfl
theorem qLeft_zEnd (m : MS) (x : Nat → Nat) : qLeft (zEnd m x) = qLeft m := rfl
theorem qLeft_zLeft (m : MS) (x : Nat → Nat) : qLeft (zLeft m x) = x := rfl
theorem qLeft_zOpen (m : MS) (x : Nat) : qLeft (zOpen m x) = qLeft m := rfl
theorem qLeft_zCell (m : MS) (x : Nat → Int32) : qLeft (zCell m x) = qLeft m := rfl
theorem qLeft_zHeld (m : MS) (x : Nat → Int32) : qLeft (zHeld m x) = qLeft m := rfl
theorem qLeft_zProg (m : MS) (x : Nat) : qLeft (zProg m x) = qLeft m := rfl
theorem qLeft_zAt (m : MS) (x : Nat) : qLeft (zAt m x) = qLeft m := rfl
theorem qLeft_zAcc (m : MS) (x : Int32) : qLeft (zAcc m x) = qLeft m := rfl
theorem qLeft_zSteps (m : MS) (x : Int32) : qLeft (zSteps m x) = qLeft m := rfl
theorem qLeft_zFin (m : MS) (x : Int32) : qLeft (zFin m x) = qLeft m := rfl
theorem qLeft_zCat (m : MS) (x : Int32) : qLeft (zCat m x) = qLeft m := rfl
theorem qLeft_zTr (m : MS) (x : Int32) : qLeft (zTr m x) = qLeft m := rfl
theorem qLeft_zNum (m : MS) (x : Int32) : qLeft (zNum m x) = qLeft m := rfl
theorem qLeft_zOrg (m : MS) (x : Int32) : qLeft (zOrg m x) = qLeft m := rfl
theorem qLeft_zMark (m : MS) (x : Bool) : qLeft (zMark m x) = qLeft m := rfl
theorem qLeft_zStop (m : MS) (x : Bool) : qLeft (zStop m x) = qLeft m := rfl
theorem qOpen_zOp (m : MS) (x : Nat → Nat) : qOpen (zOp m x) = qOpen m := rfl
theorem qOpen_zArg (m : MS) (x : Nat → Nat) : qOpen (zArg m x) = qOpen m := rfl
theorem qOpen_zSize (m : MS) (x : Nat → Nat) : qOpen (zSize m x) = qOpen m := rfl
theorem qOpen_zTold (m : MS) (x : Nat → Int32) : qOpen (zTold m x) = qOpen m := rfl
theorem qOpen_zCls (m : MS) (x : Nat → Int32) : qOpen (zCls m x) = qOpen m := rfl
theorem qOpen_zRan (m : MS) (x : Nat → Bool) : qOpen (zRan m x) = qOpen m := rfl
theorem qOpen_zCtr (m : MS) (x : Int64) : qOpen (zCtr m x) = qOpen m := rfl
theorem qOpen_zRuns (m : MS) (x : Int32) : qOpen (zRuns m x) = qOpen m := rfl
theorem qOpen_zThr (m : MS) (x : Int32) : qOpen (zThr m x) = qOpen m := rfl
theorem qOpen_zTrd (m : MS) (x : Int32) : qOpen (zTrd m x) = qOpen m := rfl
theorem qOpen_zBlk (m : MS) (x : Nat → Nat) : qOpen (zBlk m x) = qOpen m := rfl
theorem qOpen_zEnd (m : MS) (x : Nat → Nat) : qOpen (zEnd m x) = qOpen m := rfl
theorem qOpen_zLeft (m : MS) (x : Nat → Nat) : qOpen (zLeft m x) = qOpen m := rfl
theorem qOpen_zOpen (m : MS) (x : Nat) : qOpen (zOpen m x) = x := rfl
theorem qOpen_zCell (m : MS) (x : Nat → Int32) : qOpen (zCell m x) = qOpen m := rfl
theorem qOpen_zHeld (m : MS) (x : Nat → Int32) : qOpen (zHeld m x) = qOpen m := rfl
theorem qOpen_zProg (m : MS) (x : Nat) : qOpen (zProg m x) = qOpen m := rfl
theorem qOpen_zAt (m : MS) (x : Nat) : qOpen (zAt m x) = qOpen m := rfl
theorem qOpen_zAcc (m : MS) (x : Int32) : qOpen (zAcc m x) = qOpen m := rfl
theorem qOpen_zSteps (m : MS) (x : Int32) : qOpen (zSteps m x) = qOpen m := rfl
theorem qOpen_zFin (m : MS) (x : Int32) : qOpen (zFin m x) = qOpen m := rfl
theorem qOpen_zCat (m : MS) (x : Int32) : qOpen (zCat m x) = qOpen m := rfl
theorem qOpen_zTr (m : MS) (x : Int32) : qOpen (zTr m x) = qOpen m := rfl
theorem qOpen_zNum (m : MS) (x : Int32) : qOpen (zNum m x) = qOpen m := rfl
theorem qOpen_zOrg (m : MS) (x : Int32) : qOpen (zOrg m x) = qOpen m := rfl
theorem qOpen_zMark (m : MS) (x : Bool) : qOpen (zMark m x) = qOpen m := rfl
theorem qOpen_zStop (m : MS) (x : Bool) : qOpen (zStop m x) = qOpen m := rfl
theorem qCell_zOp (m : MS) (x : Nat → Nat) : qCell (zOp m x) = qCell m := rfl
theorem qCell_zArg (m : MS) (x : Nat → Nat) : qCell (zArg m x) = qCell m := rfl
theorem qCell_zSize (m : MS) (x : Nat → Nat) : qCell (zSize m x) = qCell m := rfl
theorem qCell_zTold (m : MS) (x : Nat → Int32) : qCell (zTold m x) = qCell m := rfl
theorem qCell_zCls (m : MS) (x : Nat → Int32) : qCell (zCls m x) = qCell m := rfl
theorem qCell_zRan (m : MS) (x : Nat → Bool) : qCell (zRan m x) = qCell m := rfl
theorem qCell_zCtr (m : MS) (x : Int64) : qCell (zCtr m x) = qCell m := rfl
theorem qCell_zRuns (m : MS) (x : Int32) : qCell (zRuns m x) = qCell m := rfl
theorem qCell_zThr (m : MS) (x : Int32) : qCell (zThr m x) = qCell m := rfl
theorem qCell_zTrd (m : MS) (x : Int32) : qCell (zTrd m x) = qCell m := rfl
theorem qCell_zBlk (m : MS) (x : Nat → Nat) : qCell (zBlk m x) = qCell m := rfl
theorem qCell_zEnd (m : MS) (x : Nat → Nat) : qCell (zEnd m x) = qCell m := rfl
theorem qCell_zLeft (m : MS) (x : Nat → Nat) : qCell (zLeft m x) = qCell m := rfl
theorem qCell_zOpen (m : MS) (x : Nat) : qCell (zOpen m x) = qCell m := rfl
theorem qCell_zCell (m : MS) (x : Nat → Int32) : qCell (zCell m x) = x := rfl
theorem qCell_zHeld (m : MS) (x : Nat → Int32) : qCell (zHeld m x) = qCell m := rfl
theorem qCell_zProg (m : MS) (x : Nat) : qCell (zProg m x) = qCell m := rfl
theorem qCell_zAt (m : MS) (x : Nat) : qCell (zAt m x) = qCell m := rfl
theorem qCell_zAcc (m : MS) (x : Int32) : qCell (zAcc m x) = qCell m := rfl
theorem qCell_zSteps (m : MS) (x : Int32) : qCell (zSteps m x) = qCell m := rfl
theorem qCell_zFin (m : MS) (x : Int32) : qCell (zFin m x) = qCell m := rfl
theorem qCell_zCat (m : MS) (x : Int32) : qCell (zCat m x) = qCell m := rfl
theorem qCell_zTr (m : MS) (x : Int32) : qCell (zTr m x) = qCell m := rfl
theorem qCell_zNum (m : MS) (x : Int32) : qCell (zNum m x) = qCell m := rfl
theorem qCell_zOrg (m : MS) (x : Int32) : qCell (zOrg m x) = qCell m := rfl
theorem qCell_zMark (m : MS) (x : Bool) : qCell (zMark m x) = qCell m := rfl
theorem qCell_zStop (m : MS) (x : Bool) : qCell (zStop m x) = qCell m := rfl
theorem qHeld_zOp (m : MS) (x : Nat → Nat) : qHeld (zOp m x) = qHeld m := rfl
theorem qHeld_zArg (m : MS) (x : Nat → Nat) : qHeld (zArg m x) = qHeld m := rfl
theorem qHeld_zSize (m : MS) (x : Nat → Nat) : qHeld (zSize m x) = qHeld m := rfl
theorem qHeld_zTold (m : MS) (x : Nat → Int32) : qHeld (zTold m x) = qHeld m := rfl
theorem qHeld_zCls (m : MS) (x : Nat → Int32) : qHeld (zCls m x) = qHeld m := rfl
theorem qHeld_zRan (m : MS) (x : Nat → Bool) : qHeld (zRan m x) = qHeld m := rfl
theorem qHeld_zCtr (m : MS) (x : Int64) : qHeld (zCtr m x) = qHeld m := rfl
theorem qHeld_zRuns (m : MS) (x : Int32) : qHeld (zRuns m x) = qHeld m := rfl
theorem qHeld_zThr (m : MS) (x : Int32) : qHeld (zThr m x) = qHeld m := rfl
theorem qHeld_zTrd (m : MS) (x : Int32) : qHeld (zTrd m x) = qHeld m := rfl
theorem qHeld_zBlk (m : MS) (x : Nat → Nat) : qHeld (zBlk m x) = qHeld m := rfl
theorem qHeld_zEnd (m : MS) (x : Nat → Nat) : qHeld (zEnd m x) = qHeld m := rfl
theorem qHeld_zLeft (m : MS) (x : Nat → Nat) : qHeld (zLeft m x) = qHeld m := rfl
theorem qHeld_zOpen (m : MS) (x : Nat) : qHeld (zOpen m x) = qHeld m := rfl
theorem qHeld_zCell (m : MS) (x : Nat → Int32) : qHeld (zCell m x) = qHeld m := rfl
theorem qHeld_zHeld (m : MS) (x : Nat → Int32) : qHeld (zHeld m x) = x := rfl
theorem qHeld_zProg (m : MS) (x : Nat) : qHeld (zProg m x) = qHeld m := rfl
theorem qHeld_zAt (m : MS) (x : Nat) : qHeld (zAt m x) = qHeld m := rfl
theorem qHeld_zAcc (m : MS) (x : Int32) : qHeld (zAcc m x) = qHeld m := rfl
theorem qHeld_zSteps (m : MS) (x : Int32) : qHeld (zSteps m x) = qHeld m := rfl
theorem qHeld_zFin (m : MS) (x : Int32) : qHeld (zFin m x) = qHeld m := rfl
theorem qHeld_zCat (m : MS) (x : Int32) : qHeld (zCat m x) = qHeld m := rfl
theorem qHeld_zTr (m : MS) (x : Int32) : qHeld (zTr m x) = qHeld m := rfl
theorem qHeld_zNum (m : MS) (x : Int32) : qHeld (zNum m x) = qHeld m := rfl
theorem qHeld_zOrg (m : MS) (x : Int32) : qHeld (zOrg m x) = qHeld m := rfl
theorem qHeld_zMark (m : MS) (x : Bool) : qHeld (zMark m x) = qHeld m := rfl
theorem qHeld_zStop (m : MS) (x : Bool) : qHeld (zStop m x) = qHeld m := rfl
theorem qProg_zOp (m : MS) (x : Nat → Nat) : qProg (zOp m x) = qProg m := rfl
theorem qProg_zArg (m : MS) (x : Nat → Nat) : qProg (zArg m x) = qProg m := rfl
theorem qProg_zSize (m : MS) (x : Nat → Nat) : qProg (zSize m x) = qProg m := rfl
theorem qProg_zTold (m : MS) (x : Nat → Int32) : qProg (zTold m x) = qProg m := rfl
theorem qProg_zCls (m : MS) (x : Nat → Int32) : qProg (zCls m x) = qProg m := rfl
theorem qProg_zRan (m : MS) (x : Nat → Bool) : qProg (zRan m x) = qProg m := rfl
theorem qProg_zCtr (m : MS) (x : Int64) : qProg (zCtr m x) = qProg m := rfl
theorem qProg_zRuns (m : MS) (x : Int32) : qProg (zRuns m x) = qProg m := rfl
theorem qProg_zThr (m : MS) (x : Int32) : qProg (zThr m x) = qProg m := rfl
theorem qProg_zTrd (m : MS) (x : Int32) : qProg (zTrd m x) = qProg m := rfl
theorem qProg_zBlk (m : MS) (x : Nat → Nat) : qProg (zBlk m x) = qProg m := rfl
theorem qProg_zEnd (m : MS) (x : Nat → Nat) : qProg (zEnd m x) = qProg m := rfl
theorem qProg_zLeft (m : MS) (x : Nat → Nat) : qProg (zLeft m x) = qProg m := rfl
theorem qProg_zOpen (m : MS) (x : Nat) : qProg (zOpen m x) = qProg m := rfl
theorem qProg_zCell (m : MS) (x : Nat → Int32) : qProg (zCell m x) = qProg m := rfl
theorem qProg_zHeld (m : MS) (x : Nat → Int32) : qProg (zHeld m x) = qProg m := rfl
theorem qProg_zProg (m : MS) (x : Nat) : qProg (zProg m x) = x := rfl
theorem qProg_zAt (m : MS) (x : Nat) : qProg (zAt m x) = qProg m := rfl
theorem qProg_zAcc (m : MS) (x : Int32) : qProg (zAcc m x) = qProg m := rfl
theorem qProg_zSteps (m : MS) (x : Int32) : qProg (zSteps m x) = qProg m := rfl
theorem qProg_zFin (m : MS) (x : Int32) : qProg (zFin m x) = qProg m := rfl
theorem qProg_zCat (m : MS) (x : Int32) : qProg (zCat m x) = qProg m := rfl
theorem qProg_zTr (m : MS) (x : Int32) : qProg (zTr m x) = qProg m := rfl
theorem qProg_zNum (m : MS) (x : Int32) : qProg (zNum m x) = qProg m := rfl
theorem qProg_zOrg (m : MS) (x : Int32) : qProg (zOrg m x) = qProg m := rfl
theorem qProg_zMark (m : MS) (x : Bool) : qProg (zMark m x) = qProg m := rfl
theorem qProg_zStop (m : MS) (x : Bool) : qProg (zStop m x) = qProg m := rfl
theorem qAt_zOp (m : MS) (x : Nat → Nat) : qAt (zOp m x) = qAt m := rfl
theorem qAt_zArg (m : MS) (x : Nat → Nat) : qAt (zArg m x) = qAt m := rfl
theorem qAt_zSize (m : MS) (x : Nat → Nat) : qAt (zSize m x) = qAt m := rfl
theorem qAt_zTold (m : MS) (x : Nat → Int32) : qAt (zTold m x) = qAt m := rfl
theorem qAt_zCls (m : MS) (x : Nat → Int32) : qAt (zCls m x) = qAt m := rfl
theorem qAt_zRan (m : MS) (x : Nat → Bool) : qAt (zRan m x) = qAt m := rfl
theorem qAt_zCtr (m : MS) (x : Int64) : qAt (zCtr m x) = qAt m := rfl
theorem qAt_zRuns (m : MS) (x : Int32) : qAt (zRuns m x) = qAt m := rfl
theorem qAt_zThr (m : MS) (x : Int32) : qAt (zThr m x) = qAt m := rfl
theorem qAt_zTrd (m : MS) (x : Int32) : qAt (zTrd m x) = qAt m := rfl
theorem qAt_zBlk (m : MS) (x : Nat → Nat) : qAt (zBlk m x) = qAt m := rfl
theorem qAt_zEnd (m : MS) (x : Nat → Nat) : qAt (zEnd m x) = qAt m := rfl
theorem qAt_zLeft (m : MS) (x : Nat → Nat) : qAt (zLeft m x) = qAt m := rfl
theorem qAt_zOpen (m : MS) (x : Nat) : qAt (zOpen m x) = qAt m := rfl
theorem qAt_zCell (m : MS) (x : Nat → Int32) : qAt (zCell m x) = qAt m := rfl
theorem qAt_zHeld (m : MS) (x : Nat → Int32) : qAt (zHeld m x) = qAt m := rfl
theorem qAt_zProg (m : MS) (x : Nat) : qAt (zProg m x) = qAt m := rfl
theorem qAt_zAt (m : MS) (x : Nat) : qAt (zAt m x) = x := rfl
theorem qAt_zAcc (m : MS) (x : Int32) : qAt (zAcc m x) = qAt m := rfl
theorem qAt_zSteps (m : MS) (x : Int32) : qAt (zSteps m x) = qAt m := rfl
theorem qAt_zFin (m : MS) (x : Int32) : qAt (zFin m x) = qAt m := rfl
theorem qAt_zCat (m : MS) (x : Int32) : qAt (zCat m x) = qAt m := rfl
theorem qAt_zTr (m : MS) (x : Int32) : qAt (zTr m x) = qAt m := rfl
theorem qAt_zNum (m : MS) (x : Int32) : qAt (zNum m x) = qAt m := rfl
theorem qAt_zOrg (m : MS) (x : Int32) : qAt (zOrg m x) = qAt m := rfl
theorem qAt_zMark (m : MS) (x : Bool) : qAt (zMark m x) = qAt m := rfl
theorem qAt_zStop (m : MS) (x : Bool) : qAt (zStop m x) = qAt m := rfl
theorem qAcc_zOp (m : MS) (x : Nat → Nat) : qAcc (zOp m x) = qAcc m := rfl
theorem qAcc_zArg (m : MS) (x : Nat → Nat) : qAcc (zArg m x) = qAcc m := rfl
theorem qAcc_zSize (m : MS) (x : Nat → Nat) : qAcc (zSize m x) = qAcc m := rfl
theorem qAcc_zTold (m : MS) (x : Nat → Int32) : qAcc (zTold m x) = qAcc m := rfl
theorem qAcc_zCls (m : MS) (x : Nat → Int32) : qAcc (zCls m x) = qAcc m := rfl
theorem qAcc_zRan (m : MS) (x : Nat → Bool) : qAcc (zRan m x) = qAcc m := rfl
theorem qAcc_zCtr (m : MS) (x : Int64) : qAcc (zCtr m x) = qAcc m := rfl
theorem qAcc_zRuns (m : MS) (x : Int32) : qAcc (zRuns m x) = qAcc m := rfl
theorem qAcc_zThr (m : MS) (x : Int32) : qAcc (zThr m x) = qAcc m := rfl
theorem qAcc_zTrd (m : MS) (x : Int32) : qAcc (zTrd m x) = qAcc m := rfl
theorem qAcc_zBlk (m : MS) (x : Nat → Nat) : qAcc (zBlk m x) = qAcc m := rfl
theorem qAcc_zEnd (m : MS) (x : Nat → Nat) : qAcc (zEnd m x) = qAcc m := rfl
theorem qAcc_zLeft (m : MS) (x : Nat → Nat) : qAcc (zLeft m x) = qAcc m := rfl
theorem qAcc_zOpen (m : MS) (x : Nat) : qAcc (zOpen m x) = qAcc m := rfl
theorem qAcc_zCell (m : MS) (x : Nat → Int32) : qAcc (zCell m x) = qAcc m := rfl
theorem qAcc_zHeld (m : MS) (x : Nat → Int32) : qAcc (zHeld m x) = qAcc m := rfl
theorem qAcc_zProg (m : MS) (x : Nat) : qAcc (zProg m x) = qAcc m := rfl
theorem qAcc_zAt (m : MS) (x : Nat) : qAcc (zAt m x) = qAcc m := rfl
theorem qAcc_zAcc (m : MS) (x : Int32) : qAcc (zAcc m x) = x := rfl
theorem qAcc_zSteps (m : MS) (x : Int32) : qAcc (zSteps m x) = qAcc m := rfl
theorem qAcc_zFin (m : MS) (x : Int32) : qAcc (zFin m x) = qAcc m := rfl
theorem qAcc_zCat (m : MS) (x : Int32) : qAcc (zCat m x) = qAcc m := rfl
theorem qAcc_zTr (m : MS) (x : Int32) : qAcc (zTr m x) = qAcc m := rfl
theorem qAcc_zNum (m : MS) (x : Int32) : qAcc (zNum m x) = qAcc m := rfl
theorem qAcc_zOrg (m : MS) (x : Int32) : qAcc (zOrg m x) = qAcc m := rfl
theorem qAcc_zMark (m : MS) (x : Bool) : qAcc (zMark m x) = qAcc m := rfl
theorem qAcc_zStop (m : MS) (x : Bool) : qAcc (zStop m x) = qAcc m := rfl
theorem qSteps_zOp (m : MS) (x : Nat → Nat) : qSteps (zOp m x) = qSteps m := rfl
theorem qSteps_zArg (m : MS) (x : Nat → Nat) : qSteps (zArg m x) = qSteps m := rfl
theorem qSteps_zSize (m : MS) (x : Nat → Nat) : qSteps (zSize m x) = qSteps m := rfl
theorem qSteps_zTold (m : MS) (x : Nat → Int32) : qSteps (zTold m x) = qSteps m := rfl
theorem qSteps_zCls (m : MS) (x : Nat → Int32) : qSteps (zCls m x) = qSteps m := rfl
theorem qSteps_zRan (m : MS) (x : Nat → Bool) : qSteps (zRan m x) = qSteps m := rfl
theorem qSteps_zCtr (m : MS) (x : Int64) : qSteps (zCtr m x) = qSteps m := rfl
theorem qSteps_zRuns (m : MS) (x : Int32) : qSteps (zRuns m x) = qSteps m := rfl
theorem qSteps_zThr (m : MS) (x : Int32) : qSteps (zThr m x) = qSteps m := rfl
theorem qSteps_zTrd (m : MS) (x : Int32) : qSteps (zTrd m x) = qSteps m := rfl
theorem qSteps_zBlk (m : MS) (x : Nat → Nat) : qSteps (zBlk m x) = qSteps m := rfl
theorem qSteps_zEnd (m : MS) (x : Nat → Nat) : qSteps (zEnd m x) = qSteps m := rfl
theorem qSteps_zLeft (m : MS) (x : Nat → Nat) : qSteps (zLeft m x) = qSteps m := rfl
theorem qSteps_zOpen (m : MS) (x : Nat) : qSteps (zOpen m x) = qSteps m := rfl
theorem qSteps_zCell (m : MS) (x : Nat → Int32) : qSteps (zCell m x) = qSteps m := rfl
theorem qSteps_zHeld (m : MS) (x : Nat → Int32) : qSteps (zHeld m x) = qSteps m := rfl
theorem qSteps_zProg (m : MS) (x : Nat) : qSteps (zProg m x) = qSteps m := rfl
theorem qSteps_zAt (m : MS) (x : Nat) : qSteps (zAt m x) = qSteps m := rfl
theorem qSteps_zAcc (m : MS) (x : Int32) : qSteps (zAcc m x) = qSteps m := rfl
theorem qSteps_zSteps (m : MS) (x : Int32) : qSteps (zSteps m x) = x := rfl
theorem qSteps_zFin (m : MS) (x : Int32) : qSteps (zFin m x) = qSteps m := rfl
theorem qSteps_zCat (m : MS) (x : Int32) : qSteps (zCat m x) = qSteps m := rfl
theorem qSteps_zTr (m : MS) (x : Int32) : qSteps (zTr m x) = qSteps m := rfl
theorem qSteps_zNum (m : MS) (x : Int32) : qSteps (zNum m x) = qSteps m := rfl
theorem qSteps_zOrg (m : MS) (x : Int32) : qSteps (zOrg m x) = qSteps m := rfl
theorem qSteps_zMark (m : MS) (x : Bool) : qSteps (zMark m x) = qSteps m := rfl
theorem qSteps_zStop (m : MS) (x : Bool) : qSteps (zStop m x) = qSteps m := rfl
theorem qFin_zOp (m : MS) (x : Nat → Nat) : qFin (zOp m x) = qFin m := rfl
theorem qFin_zArg (m : MS) (x : Nat → Nat) : qFin (zArg m x) = qFin m := rfl
theorem qFin_zSize (m : MS) (x : Nat → Nat) : qFin (zSize m x) = qFin m := rfl
theorem qFin_zTold (m : MS) (x : Nat → Int32) : qFin (zTold m x) = qFin m := rfl
theorem qFin_zCls (m : MS) (x : Nat → Int32) : qFin (zCls m x) = qFin m := rfl
theorem qFin_zRan (m : MS) (x : Nat → Bool) : qFin (zRan m x) = qFin m := rfl
theorem qFin_zCtr (m : MS) (x : Int64) : qFin (zCtr m x) = qFin m := rfl
theorem qFin_zRuns (m : MS) (x : Int32) : qFin (zRuns m x) = qFin m := rfl
theorem qFin_zThr (m : MS) (x : Int32) : qFin (zThr m x) = qFin m := rfl
theorem qFin_zTrd (m : MS) (x : Int32) : qFin (zTrd m x) = qFin m := rfl
theorem qFin_zBlk (m : MS) (x : Nat → Nat) : qFin (zBlk m x) = qFin m := rfl
theorem qFin_zEnd (m : MS) (x : Nat → Nat) : qFin (zEnd m x) = qFin m := rfl
theorem qFin_zLeft (m : MS) (x : Nat → Nat) : qFin (zLeft m x) = qFin m := rfl
theorem qFin_zOpen (m : MS) (x : Nat) : qFin (zOpen m x) = qFin m := rfl
theorem qFin_zCell (m : MS) (x : Nat → Int32) : qFin (zCell m x) = qFin m := rfl
theorem qFin_zHeld (m : MS) (x : Nat → Int32) : qFin (zHeld m x) = qFin m := rfl
theorem qFin_zProg (m : MS) (x : Nat) : qFin (zProg m x) = qFin m := rfl
theorem qFin_zAt (m : MS) (x : Nat) : qFin (zAt m x) = qFin m := rfl
theorem qFin_zAcc (m : MS) (x : Int32) : qFin (zAcc m x) = qFin m := rfl
theorem qFin_zSteps (m : MS) (x : Int32) : qFin (zSteps m x) = qFin m := rfl
theorem qFin_zFin (m : MS) (x : Int32) : qFin (zFin m x) = x := rfl
theorem qFin_zCat (m : MS) (x : Int32) : qFin (zCat m x) = qFin m := rfl
theorem qFin_zTr (m : MS) (x : Int32) : qFin (zTr m x) = qFin m := rfl
theorem qFin_zNum (m : MS) (x : Int32) : qFin (zNum m x) = qFin m := rfl
theorem qFin_zOrg (m : MS) (x : Int32) : qFin (zOrg m x) = qFin m := rfl
theorem qFin_zMark (m : MS) (x : Bool) : qFin (zMark m x) = qFin m := rfl
theorem qFin_zStop (m : MS) (x : Bool) : qFin (zStop m x) = qFin m := rfl
theorem qCat_zOp (m : MS) (x : Nat → Nat) : qCat (zOp m x) = qCat m := rfl
theorem qCat_zArg (m : MS) (x : Nat → Nat) : qCat (zArg m x) = qCat m := rfl
theorem qCat_zSize (m : MS) (x : Nat → Nat) : qCat (zSize m x) = qCat m := rfl
theorem qCat_zTold (m : MS) (x : Nat → Int32) : qCat (zTold m x) = qCat m := rfl
theorem qCat_zCls (m : MS) (x : Nat → Int32) : qCat (zCls m x) = qCat m := rfl
theorem qCat_zRan (m : MS) (x : Nat → Bool) : qCat (zRan m x) = qCat m := rfl
theorem qCat_zCtr (m : MS) (x : Int64) : qCat (zCtr m x) = qCat m := rfl
theorem qCat_zRuns (m : MS) (x : Int32) : qCat (zRuns m x) = qCat m := rfl
theorem qCat_zThr (m : MS) (x : Int32) : qCat (zThr m x) = qCat m := rfl
theorem qCat_zTrd (m : MS) (x : Int32) : qCat (zTrd m x) = qCat m := rfl
theorem qCat_zBlk (m : MS) (x : Nat → Nat) : qCat (zBlk m x) = qCat m := rfl
theorem qCat_zEnd (m : MS) (x : Nat → Nat) : qCat (zEnd m x) = qCat m := rfl
theorem qCat_zLeft (m : MS) (x : Nat → Nat) : qCat (zLeft m x) = qCat m := rfl
theorem qCat_zOpen (m : MS) (x : Nat) : qCat (zOpen m x) = qCat m := rfl
theorem qCat_zCell (m : MS) (x : Nat → Int32) : qCat (zCell m x) = qCat m := rfl
theorem qCat_zHeld (m : MS) (x : Nat → Int32) : qCat (zHeld m x) = qCat m := rfl
theorem qCat_zProg (m : MS) (x : Nat) : qCat (zProg m x) = qCat m := rfl
theorem qCat_zAt (m : MS) (x : Nat) : qCat (zAt m x) = qCat m := rfl
theorem qCat_zAcc (m : MS) (x : Int32) : qCat (zAcc m x) = qCat m := rfl
theorem qCat_zSteps (m : MS) (x : Int32) : qCat (zSteps m x) = qCat m := rfl
theorem qCat_zFin (m : MS) (x : Int32) : qCat (zFin m x) = qCat m := rfl
theorem qCat_zCat (m : MS) (x : Int32) : qCat (zCat m x) = x := rfl
theorem qCat_zTr (m : MS) (x : Int32) : qCat (zTr m x) = qCat m := rfl
theorem qCat_zNum (m : MS) (x : Int32) : qCat (zNum m x) = qCat m := rfl
theorem qCat_zOrg (m : MS) (x : Int32) : qCat (zOrg m x) = qCat m := rfl
theorem qCat_zMark (m : MS) (x : Bool) : qCat (zMark m x) = qCat m := rfl
theorem qCat_zStop (m : MS) (x : Bool) : qCat (zStop m x) = qCat m := rfl
theorem qTr_zOp (m : MS) (x : Nat → Nat) : qTr (zOp m x) = qTr m := rfl
theorem qTr_zArg (m : MS) (x : Nat → Nat) : qTr (zArg m x) = qTr m := rfl
theorem qTr_zSize (m : MS) (x : Nat → Nat) : qTr (zSize m x) = qTr m := rfl
theorem qTr_zTold (m : MS) (x : Nat → Int32) : qTr (zTold m x) = qTr m := rfl
theorem qTr_zCls (m : MS) (x : Nat → Int32) : qTr (zCls m x) = qTr m := rfl
theorem qTr_zRan (m : MS) (x : Nat → Bool) : qTr (zRan m x) = qTr m := rfl
theorem qTr_zCtr (m : MS) (x : Int64) : qTr (zCtr m x) = qTr m := rfl
theorem qTr_zRuns (m : MS) (x : Int32) : qTr (zRuns m x) = qTr m := rfl
theorem qTr_zThr (m : MS) (x : Int32) : qTr (zThr m x) = qTr m := rfl
theorem qTr_zTrd (m : MS) (x : Int32) : qTr (zTrd m x) = qTr m := rfl
theorem qTr_zBlk (m : MS) (x : Nat → Nat) : qTr (zBlk m x) = qTr m := rfl
theorem qTr_zEnd (m : MS) (x : Nat → Nat) : qTr (zEnd m x) = qTr m := rfl
theorem qTr_zLeft (m : MS) (x : Nat → Nat) : qTr (zLeft m x) = qTr m := rfl
theorem qTr_zOpen (m : MS) (x : Nat) : qTr (zOpen m x) = qTr m := rfl
theorem qTr_zCell (m : MS) (x : Nat → Int32) : qTr (zCell m x) = qTr m := rfl
theorem qTr_zHeld (m : MS) (x : Nat → Int32) : qTr (zHeld m x) = qTr m := rfl
theorem qTr_zProg (m : MS) (x : Nat) : qTr (zProg m x) = qTr m := rfl
theorem qTr_zAt (m : MS) (x : Nat) : qTr (zAt m x) = qTr m := rfl
theorem qTr_zAcc (m : MS) (x : Int32) : qTr (zAcc m x) = qTr m := rfl
theorem qTr_zSteps (m : MS) (x : Int32) : qTr (zSteps m x) = qTr m := rfl
theorem qTr_zFin (m : MS) (x : Int32) : qTr (zFin m x) = qTr m := rfl
theorem qTr_zCat (m : MS) (x : Int32) : qTr (zCat m x) = qTr m := rfl
theorem qTr_zTr (m : MS) (x : Int32) : qTr (zTr m x) = x := rfl
theorem qTr_zNum (m : MS) (x : Int32) : qTr (zNum m x) = qTr m := rfl
theorem qTr_zOrg (m : MS) (x : Int32) : qTr (zOrg m x) = qTr m := rfl
theorem qTr_zMark (m : MS) (x : Bool) : qTr (zMark m x) = qTr m := rfl
theorem qTr_zStop (m : MS) (x : Bool) : qTr (zStop m x) = qTr m := rfl
theorem qNum_zOp (m : MS) (x : Nat → Nat) : qNum (zOp m x) = qNum m := rfl
theorem qNum_zArg (m : MS) (x : Nat → Nat) : qNum (zArg m x) = qNum m := rfl
theorem qNum_zSize (m : MS) (x : Nat → Nat) : qNum (zSize m x) = qNum m := rfl
theorem qNum_zTold (m : MS) (x : Nat → Int32) : qNum (zTold m x) = qNum m := rfl
theorem qNum_zCls (m : MS) (x : Nat → Int32) : qNum (zCls m x) = qNum m := rfl
theorem qNum_zRan (m : MS) (x : Nat → Bool) : qNum (zRan m x) = qNum m := rfl
theorem qNum_zCtr (m : MS) (x : Int64) : qNum (zCtr m x) = qNum m := rfl
theorem qNum_zRuns (m : MS) (x : Int32) : qNum (zRuns m x) = qNum m := rfl
theorem qNum_zThr (m : MS) (x : Int32) : qNum (zThr m x) = qNum m := rfl
theorem qNum_zTrd (m : MS) (x : Int32) : qNum (zTrd m x) = qNum m := rfl
theorem qNum_zBlk (m : MS) (x : Nat → Nat) : qNum (zBlk m x) = qNum m := rfl
theorem qNum_zEnd (m : MS) (x : Nat → Nat) : qNum (zEnd m x) = qNum m := rfl
theorem qNum_zLeft (m : MS) (x : Nat → Nat) : qNum (zLeft m x) = qNum m := rfl
theorem qNum_zOpen (m : MS) (x : Nat) : qNum (zOpen m x) = qNum m := rfl
theorem qNum_zCell (m : MS) (x : Nat → Int32) : qNum (zCell m x) = qNum m := rfl
theorem qNum_zHeld (m : MS) (x : Nat → Int32) : qNum (zHeld m x) = qNum m := rfl
theorem qNum_zProg (m : MS) (x : Nat) : qNum (zProg m x) = qNum m := rfl
theorem qNum_zAt (m : MS) (x : Nat) : qNum (zAt m x) = qNum m := rfl
theorem qNum_zAcc (m : MS) (x : Int32) : qNum (zAcc m x) = qNum m := rfl
theorem qNum_zSteps (m : MS) (x : Int32) : qNum (zSteps m x) = qNum m := rfl
theorem qNum_zFin (m : MS) (x : Int32) : qNum (zFin m x) = qNum m := rfl
theorem qNum_zCat (m : MS) (x : Int32) : qNum (zCat m x) = qNum m := rfl
theorem qNum_zTr (m : MS) (x : Int32) : qNum (zTr m x) = qNum m := rfl
theorem qNum_zNum (m : MS) (x : Int32) : qNum (zNum m x) = x := rfl
theorem qNum_zOrg (m : MS) (x : Int32) : qNum (zOrg m x) = qNum m := rfl
theorem qNum_zMark (m : MS) (x : Bool) : qNum (zMark m x) = qNum m := rfl
theorem qNum_zStop (m : MS) (x : Bool) : qNum (zStop m x) = qNum m := rfl
theorem qOrg_zOp (m : MS) (x : Nat → Nat) : qOrg (zOp m x) = qOrg m := rfl
theorem qOrg_zArg (m : MS) (x : Nat → Nat) : qOrg (zArg m x) = qOrg m := rfl
theorem qOrg_zSize (m : MS) (x : Nat → Nat) : qOrg (zSize m x) = qOrg m := rfl
theorem qOrg_zTold (m : MS) (x : Nat → Int32) : qOrg (zTold m x) = qOrg m := rfl
theorem qOrg_zCls (m : MS) (x : Nat → Int32) : qOrg (zCls m x) = qOrg m := rfl
theorem qOrg_zRan (m : MS) (x : Nat → Bool) : qOrg (zRan m x) = qOrg m := rfl
theorem qOrg_zCtr (m : MS) (x : Int64) : qOrg (zCtr m x) = qOrg m := rfl
theorem qOrg_zRuns (m : MS) (x : Int32) : qOrg (zRuns m x) = qOrg m := rfl
theorem qOrg_zThr (m : MS) (x : Int32) : qOrg (zThr m x) = qOrg m := rfl
theorem qOrg_zTrd (m : MS) (x : Int32) : qOrg (zTrd m x) = qOrg m := rfl
theorem qOrg_zBlk (m : MS) (x : Nat → Nat) : qOrg (zBlk m x) = qOrg m := rfl
theorem qOrg_zEnd (m : MS) (x : Nat → Nat) : qOrg (zEnd m x) = qOrg m := rfl
theorem qOrg_zLeft (m : MS) (x : Nat → Nat) : qOrg (zLeft m x) = qOrg m := rfl
theorem qOrg_zOpen (m : MS) (x : Nat) : qOrg (zOpen m x) = qOrg m := rfl
theorem qOrg_zCell (m : MS) (x : Nat → Int32) : qOrg (zCell m x) = qOrg m := rfl
theorem qOrg_zHeld (m : MS) (x : Nat → Int32) : qOrg (zHeld m x) = qOrg m := rfl
theorem qOrg_zProg (m : MS) (x : Nat) : qOrg (zProg m x) = qOrg m := rfl
theorem qOrg_zAt (m : MS) (x : Nat) : qOrg (zAt m x) = qOrg m := rfl
theorem qOrg_zAcc (m : MS) (x : Int32) : qOrg (zAcc m x) = qOrg m := rfl
theorem qOrg_zSteps (m : MS) (x : Int32) : qOrg (zSteps m x) = qOrg m := rfl
theorem qOrg_zFin (m : MS) (x : Int32) : qOrg (zFin m x) = qOrg m := rfl
theorem qOrg_zCat (m : MS) (x : Int32) : qOrg (zCat m x) = qOrg m := rfl
theorem qOrg_zTr (m : MS) (x : Int32) : qOrg (zTr m x) = qOrg m := rfl
theorem qOrg_zNum (m : MS) (x : Int32) : qOrg (zNum m x) = qOrg m := rfl
theorem qOrg_zOrg (m : MS) (x : Int32) : qOrg (zOrg m x) = x := rfl
theorem qOrg_zMark (m : MS) (x : Bool) : qOrg (zMark m x) = qOrg m := rfl
theorem qOrg_zStop (m : MS) (x : Bool) : qOrg (zStop m x) = qOrg m := rfl
theorem qMark_zOp (m : MS) (x : Nat → Nat) : qMark (zOp m x) = qMark m := rfl
theorem qMark_zArg (m : MS) (x : Nat → Nat) : qMark (zArg m x) = qMark m := rfl
theorem qMark_zSize (m : MS) (x : Nat → Nat) : qMark (zSize m x) = qMark m := rfl
theorem qMark_zTold (m : MS) (x : Nat → Int32) : qMark (zTold m x) = qMark m := rfl
theorem qMark_zCls (m : MS) (x : Nat → Int32) : qMark (zCls m x) = qMark m := rfl
theorem qMark_zRan (m : MS) (x : Nat → Bool) : qMark (zRan m x) = qMark m := rfl
theorem qMark_zCtr (m : MS) (x : Int64) : qMark (zCtr m x) = qMark m := rfl
theorem qMark_zRuns (m : MS) (x : Int32) : qMark (zRuns m x) = qMark m := rfl
theorem qMark_zThr (m : MS) (x : Int32) : qMark (zThr m x) = qMark m := rfl
theorem qMark_zTrd (m : MS) (x : Int32) : qMark (zTrd m x) = qMark m := rfl
theorem qMark_zBlk (m : MS) (x : Nat → Nat) : qMark (zBlk m x) = qMark m := rfl
theorem qMark_zEnd (m : MS) (x : Nat → Nat) : qMark (zEnd m x) = qMark m := rfl
theorem qMark_zLeft (m : MS) (x : Nat → Nat) : qMark (zLeft m x) = qMark m := rfl
theorem qMark_zOpen (m : MS) (x : Nat) : qMark (zOpen m x) = qMark m := rfl
theorem qMark_zCell (m : MS) (x : Nat → Int32) : qMark (zCell m x) = qMark m := rfl
theorem qMark_zHeld (m : MS) (x : Nat → Int32) : qMark (zHeld m x) = qMark m := rfl
theorem qMark_zProg (m : MS) (x : Nat) : qMark (zProg m x) = qMark m := rfl
theorem qMark_zAt (m : MS) (x : Nat) : qMark (zAt m x) = qMark m := rfl
theorem qMark_zAcc (m : MS) (x : Int32) : qMark (zAcc m x) = qMark m := rfl
theorem qMark_zSteps (m : MS) (x : Int32) : qMark (zSteps m x) = qMark m := rfl
theorem qMark_zFin (m : MS) (x : Int32) : qMark (zFin m x) = qMark m := rfl
theorem qMark_zCat (m : MS) (x : Int32) : qMark (zCat m x) = qMark m := rfl
theorem qMark_zTr (m : MS) (x : Int32) : qMark (zTr m x) = qMark m := rfl
theorem qMark_zNum (m : MS) (x : Int32) : qMark (zNum m x) = qMark m := rfl
theorem qMark_zOrg (m : MS) (x : Int32) : qMark (zOrg m x) = qMark m := rfl
theorem qMark_zMark (m : MS) (x : Bool) : qMark (zMark m x) = x := rfl
theorem qMark_zStop (m : MS) (x : Bool) : qMark (zStop m x) = qMark m := rfl
theorem qStop_zOp (m : MS) (x : Nat → Nat) : qStop (zOp m x) = qStop m := rfl
theorem qStop_zArg (m : MS) (x : Nat → Nat) : qStop (zArg m x) = qStop m := rfl
theorem qStop_zSize (m : MS) (x : Nat → Nat) : qStop (zSize m x) = qStop m := rfl
theorem qStop_zTold (m : MS) (x : Nat → Int32) : qStop (zTold m x) = qStop m := rfl
theorem qStop_zCls (m : MS) (x : Nat → Int32) : qStop (zCls m x) = qStop m := rfl
theorem qStop_zRan (m : MS) (x : Nat → Bool) : qStop (zRan m x) = qStop m := rfl
theorem qStop_zCtr (m : MS) (x : Int64) : qStop (zCtr m x) = qStop m := rfl
theorem qStop_zRuns (m : MS) (x : Int32) : qStop (zRuns m x) = qStop m := rfl
theorem qStop_zThr (m : MS) (x : Int32) : qStop (zThr m x) = qStop m := rfl
theorem qStop_zTrd (m : MS) (x : Int32) : qStop (zTrd m x) = qStop m := rfl
theorem qStop_zBlk (m : MS) (x : Nat → Nat) : qStop (zBlk m x) = qStop m := rfl
theorem qStop_zEnd (m : MS) (x : Nat → Nat) : qStop (zEnd m x) = qStop m := rfl
theorem qStop_zLeft (m : MS) (x : Nat → Nat) : qStop (zLeft m x) = qStop m := rfl
theorem qStop_zOpen (m : MS) (x : Nat) : qStop (zOpen m x) = qStop m := rfl
theorem qStop_zCell (m : MS) (x : Nat → Int32) : qStop (zCell m x) = qStop m := rfl
theorem qStop_zHeld (m : MS) (x : Nat → Int32) : qStop (zHeld m x) = qStop m := rfl
theorem qStop_zProg (m : MS) (x : Nat) : qStop (zProg m x) = qStop m := rfl
theorem qStop_zAt (m : MS) (x : Nat) : qStop (zAt m x) = qStop m := rfl
theorem qStop_zAcc (m : MS) (x : Int32) : qStop (zAcc m x) = qStop m := rfl
theorem qStop_zSteps (m : MS) (x : Int32) : qStop (zSteps m x) = qStop m := rfl
theorem qStop_zFin (m : MS) (x : Int32) : qStop (zFin m x) = qStop m := rfl
theorem qStop_zCat (m : MS) (x : Int32) : qStop (zCat m x) = qStop m := rfl
theorem qStop_zTr (m : MS) (x : Int32) : qStop (zTr m x) = qStop m := rfl
theorem qStop_zNum (m : MS) (x : Int32) : qStop (zNum m x) = qStop m := rfl
theorem qStop_zOrg (m : MS) (x : Int32) : qStop (zOrg m x) = qStop m := rfl
theorem qStop_zMark (m : MS) (x : Bool) : qStop (zMark m x) = qStop m := rfl
theorem qStop_zStop (m : MS) (x : Bool) : qStop (zStop m x) = x := rfl
theorem zOp_zOp (m : MS) (x y : Nat → Nat) : zOp (zOp m x) y = zOp m y := rfl
theorem zArg_zArg (m : MS) (x y : Nat → Nat) : zArg (zArg m x) y = zArg m y := rfl
theorem zSize_zSize (m : MS) (x y : Nat → Nat) : zSize (zSize m x) y = zSize m y := rfl
theorem zTold_zTold (m : MS) (x y : Nat → Int32) : zTold (zTold m x) y = zTold m y := rfl
theorem zCls_zCls (m : MS) (x y : Nat → Int32) : zCls (zCls m x) y = zCls m y := rfl
theorem zRan_zRan (m : MS) (x y : Nat → Bool) : zRan (zRan m x) y = zRan m y := rfl
theorem zCtr_zCtr (m : MS) (x y : Int64) : zCtr (zCtr m x) y = zCtr m y := rfl
theorem zRuns_zRuns (m : MS) (x y : Int32) : zRuns (zRuns m x) y = zRuns m y := rfl
theorem zThr_zThr (m : MS) (x y : Int32) : zThr (zThr m x) y = zThr m y := rfl
theorem zTrd_zTrd (m : MS) (x y : Int32) : zTrd (zTrd m x) y = zTrd m y := rfl
theorem zBlk_zBlk (m : MS) (x y : Nat → Nat) : zBlk (zBlk m x) y = zBlk m y := rfl
theorem zEnd_zEnd (m : MS) (x y : Nat → Nat) : zEnd (zEnd m x) y = zEnd m y := rfl
theorem zLeft_zLeft (m : MS) (x y : Nat → Nat) : zLeft (zLeft m x) y = zLeft m y := rfl
theorem zOpen_zOpen (m : MS) (x y : Nat) : zOpen (zOpen m x) y = zOpen m y := rfl
theorem zCell_zCell (m : MS) (x y : Nat → Int32) : zCell (zCell m x) y = zCell m y := rfl
theorem zHeld_zHeld (m : MS) (x y : Nat → Int32) : zHeld (zHeld m x) y = zHeld m y := rfl
theorem zProg_zProg (m : MS) (x y : Nat) : zProg (zProg m x) y = zProg m y := rfl
theorem zAt_zAt (m : MS) (x y : Nat) : zAt (zAt m x) y = zAt m y := rfl
theorem zAcc_zAcc (m : MS) (x y : Int32) : zAcc (zAcc m x) y = zAcc m y := rfl
theorem zSteps_zSteps (m : MS) (x y : Int32) : zSteps (zSteps m x) y = zSteps m y := rfl
theorem zFin_zFin (m : MS) (x y : Int32) : zFin (zFin m x) y = zFin m y := rfl
theorem zCat_zCat (m : MS) (x y : Int32) : zCat (zCat m x) y = zCat m y := rfl
theorem zTr_zTr (m : MS) (x y : Int32) : zTr (zTr m x) y = zTr m y := rfl
theorem zNum_zNum (m : MS) (x y : Int32) : zNum (zNum m x) y = zNum m y := rfl
theorem zOrg_zOrg (m : MS) (x y : Int32) : zOrg (zOrg m x) y = zOrg m y := rfl
theorem zMark_zMark (m : MS) (x y : Bool) : zMark (zMark m x) y = zMark m y := rfl
theorem zStop_zStop (m : MS) (x y : Bool) : zStop (zStop m x) y = zStop m y := rfl
end
section
theorem cm_iM : ∀ w ∈ u_ws RMd TMd 27, w ∈ ce_W := by decide +kernel
def mF (a : Nat → Nat) (m : MS) : List Value := [.ref (a 1), .ref (a 2), .ref (a 3), .ref (a 4), .ref (a 5), .ref (a 6), .long (qCtr m), .int (qRuns m), .int (qThr m), .int (qTrd m), .ref (a 7), .ref (a 8), .ref (a 9), .int (nI (qOpen m)), .ref (a 10), .ref (a 11), .int (nI (qProg m)), .int (nI (qAt m)), .int (qAcc m), .int (qSteps m), .int (qFin m), .int (qCat m), .int (qTr m), .int (qNum m), .int (qOrg m), .int (bI (qMark m)), .int (bI (qStop m))]
def wM (a : Nat → Nat) (cI cZ : ClassId) (m : MS) : va_W := [(a 0, .inr (3, mF a m)), (a 1, .inl (cI, 84, .inl (fun i => nI (qOp m i)))), (a 2, .inl (cI, 84, .inl (fun i => nI (qArg m i)))), (a 3, .inl (cI, 6, .inl (fun i => nI (qSize m i)))), (a 4, .inl (cI, 48, .inl (qTold m))), (a 5, .inl (cI, 48, .inl (qCls m))), (a 6, .inl (cZ, 6, .inl (fun i => bI (qRan m i)))), (a 7, .inl (cI, 15, .inl (fun i => nI (qBlk m i)))), (a 8, .inl (cI, 15, .inl (fun i => nI (qEnd m i)))), (a 9, .inl (cI, 15, .inl (fun i => nI (qLeft m i)))), (a 10, .inl (cI, 8, .inl (qCell m))), (a 11, .inl (cI, 2, .inl (qHeld m)))]
def dM (a : Nat → Nat) : Prop := ∀ i j, i < 12 → j < 12 → a i = a j → i = j
def aM (a : Nat → Nat) : Nat → Prop := fun q => ∃ i, i < 12 ∧ q = a i
theorem wM_fst (a : Nat → Nat) (cI cZ : ClassId) (m : MS) : (wM a cI cZ m).map Prod.fst = (List.range 12).map a := rfl
theorem dDM {a : Nat → Nat} (h : dM a) (cI cZ : ClassId) (m : MS) : va_D (aM a) (wM a cI cZ m) := by
  have key : ∀ (k : Nat) (q : Nat × va_E), (wM a cI cZ m)[k]? = some q → k < 12 ∧ q.1 = a k := by
    intro k q hk
    have h1 : ((wM a cI cZ m).map Prod.fst)[k]? = some q.1 := by rw [List.getElem?_map, hk]; rfl
    rw [wM_fst, List.getElem?_map] at h1
    cases h2 : (List.range 12)[k]? with
    | none => rw [h2] at h1; cases h1
    | some j =>
      rw [h2] at h1
      obtain ⟨h4, h5⟩ := List.getElem?_eq_some_iff.mp h2
      rw [List.length_range] at h4
      rw [List.getElem_range] at h5
      subst h5
      exact ⟨h4, (Option.some.inj h1).symm⟩
  refine ⟨fun i j x y hi hj hxy => ?_, fun k q hk => ?_⟩
  · obtain ⟨h1, h2⟩ := key i x hi
    obtain ⟨h3, h4⟩ := key j y hj
    exact h i j h1 h3 (by rw [← h2, ← h4]; exact hxy)
  · obtain ⟨h1, h2⟩ := key k q hk
    exact ⟨k, h1, h2⟩
def cm_Pc (D : va_G) (cI cZ : ClassId) (av : List Value) (ws : va_W) : Array Value → State → Prop := va_Pc av (fun U => va_P D vwCl ws U.heap ∧ va_K D vwCl [(cI, .int), (cZ, .boolean)] U)
theorem cm_blind {D : va_G} {cI cZ : ClassId} {av : List Value} {ws : va_W} : FrameBlind (cm_Pc D cI cZ av ws) := fun a U g mk q => ⟨q.1, q.2.1, va_K.moved (u := U) (U := U.calling g mk a) (Vm.Alike.refl U.vm) q.2.2⟩
theorem cm_at {D : va_G} {cI cZ : ClassId} {av : List Value} {ws : va_W} {s : State} {H : Heap} (hP : va_P D vwCl ws H) (hK : va_K D vwCl [(cI, .int), (cZ, .boolean)] s) : ∀ U : State, U.heap = H → s.WarmedH U.vm → cm_Pc D cI cZ av ws av.toArray U := fun U hU hW => ⟨rfl, by rw [hU]; exact hP, va_K.moved hW.alike hK⟩
theorem up_nI (f : Nat → Nat) (i x : Nat) : upd (fun j => nI (f j)) i (nI x) = fun j => nI (va_up f i x j) := by
  funext j
  unfold upd va_up
  split <;> rfl
theorem up_bI (f : Nat → Bool) (i : Nat) (x : Bool) : upd (fun j => bI (f j)) i (vp_nar .boolean (bI x)) = fun j => bI (va_up f i x j) := by
  have e : vp_nar .boolean (bI x) = bI x := by cases x <;> rfl
  rw [e]
  funext j
  unfold upd va_up
  split <;> rfl
theorem cm_like {D : va_G} {a : Nat → Nat} {cI cZ : ClassId} {m m2 : MS} {H : Heap} (h0 : mF a m = mF a m2) (h1 : qOp m = qOp m2) (h2 : qArg m = qArg m2) (h3 : qSize m = qSize m2) (h4 : ∀ j, j < 48 → qTold m j = qTold m2 j) (h5 : ∀ j, j < 48 → qCls m j = qCls m2 j) (h6 : qRan m = qRan m2) (h7 : qBlk m = qBlk m2) (h8 : qEnd m = qEnd m2) (h9 : qLeft m = qLeft m2) (h10 : ∀ j, j < 8 → qCell m j = qCell m2 j) (h11 : ∀ j, j < 2 → qHeld m j = qHeld m2 j) (hP : va_P D vwCl (wM a cI cZ m) H) : va_P D vwCl (wM a cI cZ m2) H := by
  intro k q hk
  match k, hk with
  | 0, hk =>
    cases hk
    rw [← h0]
    exact hP 0 _ rfl
  | 1, hk =>
    cases hk
    have h := hP 1 _ rfl
    rw [h1] at h
    exact h
  | 2, hk =>
    cases hk
    have h := hP 2 _ rfl
    rw [h2] at h
    exact h
  | 3, hk =>
    cases hk
    have h := hP 3 _ rfl
    rw [h3] at h
    exact h
  | 4, hk =>
    cases hk
    exact (hP 4 _ rfl).trans (congrArg some (ce_vc h4))
  | 5, hk =>
    cases hk
    exact (hP 5 _ rfl).trans (congrArg some (ce_vc h5))
  | 6, hk =>
    cases hk
    have h := hP 6 _ rfl
    rw [h6] at h
    exact h
  | 7, hk =>
    cases hk
    have h := hP 7 _ rfl
    rw [h7] at h
    exact h
  | 8, hk =>
    cases hk
    have h := hP 8 _ rfl
    rw [h8] at h
    exact h
  | 9, hk =>
    cases hk
    have h := hP 9 _ rfl
    rw [h9] at h
    exact h
  | 10, hk =>
    cases hk
    exact (hP 10 _ rfl).trans (congrArg some (ce_vc h10))
  | 11, hk =>
    cases hk
    exact (hP 11 _ rfl).trans (congrArg some (ce_vc h11))
  | k + 12, hk => exact absurd hk (by simp [wM])
section CM1
variable {p : Program} {l : Launch} {e : Env} {R : Room} {s : State} {mi : MethodId} {args : Array Value} {below : List Frame} {meth : Method} {c : Code} {H : Heap} {locs : List Loc} {cells slots : Nat} {Q : State → Prop}
variable {cc : ByteArray} {pc nL : Nat} {ls : Array Slot} {rest st0 : List Value} {D : va_G} {cI cZ : ClassId} {a : Nat → Nat} {m : MS} {w0 : Cond} {H0 : Heap} {own : String} {index : Nat}
theorem cm_g (hx : p.tables.exec = Jvm.exec) (hb : c.code = cc) (hts : ∀ w ∈ w0 :: ce_W, w.before args s = true) (hown : s.vm.findClass own = some mi.cls) (hK : va_K D vwCl [(cI, .int), (cZ, .boolean)] s) (hP : va_P D vwCl (wM a cI cZ m) H) (k : Nat) (hk : k < 27) {v : Value} (hv : (mF a m)[k]? = some v) (hl : Cond.fieldLink own index RMd (TMd k).2.1 (TMd k).2.2.1 ∈ ce_W) (hs : (TMd k).1 = RMd) (hdg : decode cc pc = .ok (.getfield index, 3))
    (kk : W p l e R s mi args below meth c H locs cells slots Q (F0 mi (pc + 3) ls (v :: rest))) : W p l e R s mi args below meth c H locs cells slots Q (F0 mi pc ls (.ref (a 0) :: rest)) :=
  va_get (ci := 3) (C := RMd) (T := TMd) (N := 27) hx hb hts (fun w h => List.mem_cons_of_mem _ (cm_iM w h)) hown hK hP 0 rfl rfl k hk (hts _ (List.mem_cons_of_mem _ hl)) (fun x h => by rw [hs] at h; exact h) hv hdg kk
theorem cm_p (hx : p.tables.exec = Jvm.exec) (hb : c.code = cc) (hts : ∀ w ∈ w0 :: ce_W, w.before args s = true) (hown : s.vm.findClass own = some mi.cls) (hK : va_K D vwCl [(cI, .int), (cZ, .boolean)] s) (hd : dM a) (hP : va_P D vwCl (wM a cI cZ m) H) (hS : va_S (aM a) H0 H locs) (k : Nat) (hk : k < 27) {ty : FieldType} {v : Value} {m2 : MS} (hl : Cond.fieldLink own index RMd (TMd k).2.1 (TMd k).2.2.1 ∈ ce_W) (hs : (TMd k).1 = RMd) (hfin : (TMd k).2.2.2 = false) (hty : parseFieldDescriptor (TMd k).2.2.1 = some ty) (hn : narrow ty v = v) (hfit : fits ty v = true) (hw : (wM a cI cZ m).set 0 (a 0, .inr (3, (mF a m).set k v)) = wM a cI cZ m2) (hdg : decode cc pc = .ok (.putfield index, 3))
    (kk : ∀ (H1 : Heap) (locs1 : List Loc), va_P D vwCl (wM a cI cZ m2) H1 → va_S (aM a) H0 H1 locs1 → W p l e R s mi args below meth c H1 locs1 cells slots Q (F0 mi (pc + 3) ls rest)) : W p l e R s mi args below meth c H locs cells slots Q (F0 mi pc ls (v :: .ref (a 0) :: rest)) :=
  va_put (ci := 3) (C := RMd) (T := TMd) (N := 27) hx hb hts (fun w h => List.mem_cons_of_mem _ (cm_iM w h)) tyMd tyMd_ok nmMd hown hK hP (dDM hd cI cZ m) hS 0 rfl rfl k hk (hts _ (List.mem_cons_of_mem _ hl)) (fun x h => by rw [hs] at h; exact h) hfin hty hn hfit hk hdg (fun H1 locs1 h1 _ h3 => kk H1 locs1 (hw ▸ h1) h3)
theorem cm_pCtr {x : Int64} (hx : p.tables.exec = Jvm.exec) (hb : c.code = cc) (hts : ∀ w ∈ w0 :: ce_W, w.before args s = true) (hown : s.vm.findClass own = some mi.cls) (hK : va_K D vwCl [(cI, .int), (cZ, .boolean)] s) (hd : dM a) (hP : va_P D vwCl (wM a cI cZ m) H) (hS : va_S (aM a) H0 H locs) (hl : Cond.fieldLink own index RMd "counter" "J" ∈ ce_W) (hdg : decode cc pc = .ok (.putfield index, 3))
    (kk : ∀ (H1 : Heap) (locs1 : List Loc), va_P D vwCl (wM a cI cZ (zCtr m x)) H1 → va_S (aM a) H0 H1 locs1 → W p l e R s mi args below meth c H1 locs1 cells slots Q (F0 mi (pc + 3) ls rest)) : W p l e R s mi args below meth c H locs cells slots Q (F0 mi pc ls (.long x :: .ref (a 0) :: rest)) :=
  cm_p (ty := .long) (v := .long x) (m2 := zCtr m x) hx hb hts hown hK hd hP hS 6 (by decide) hl rfl rfl (by decide +kernel) rfl rfl rfl hdg kk
theorem cm_pRuns {x : Int32} (hx : p.tables.exec = Jvm.exec) (hb : c.code = cc) (hts : ∀ w ∈ w0 :: ce_W, w.before args s = true) (hown : s.vm.findClass own = some mi.cls) (hK : va_K D vwCl [(cI, .int), (cZ, .boolean)] s) (hd : dM a) (hP : va_P D vwCl (wM a cI cZ m) H) (hS : va_S (aM a) H0 H locs) (hl : Cond.fieldLink own index RMd "runs" "I" ∈ ce_W) (hdg : decode cc pc = .ok (.putfield index, 3))
    (kk : ∀ (H1 : Heap) (locs1 : List Loc), va_P D vwCl (wM a cI cZ (zRuns m x)) H1 → va_S (aM a) H0 H1 locs1 → W p l e R s mi args below meth c H1 locs1 cells slots Q (F0 mi (pc + 3) ls rest)) : W p l e R s mi args below meth c H locs cells slots Q (F0 mi pc ls (.int x :: .ref (a 0) :: rest)) :=
  cm_p (ty := .int) (v := .int x) (m2 := zRuns m x) hx hb hts hown hK hd hP hS 7 (by decide) hl rfl rfl (by decide +kernel) rfl rfl rfl hdg kk
theorem cm_pThr {x : Int32} (hx : p.tables.exec = Jvm.exec) (hb : c.code = cc) (hts : ∀ w ∈ w0 :: ce_W, w.before args s = true) (hown : s.vm.findClass own = some mi.cls) (hK : va_K D vwCl [(cI, .int), (cZ, .boolean)] s) (hd : dM a) (hP : va_P D vwCl (wM a cI cZ m) H) (hS : va_S (aM a) H0 H locs) (hl : Cond.fieldLink own index RMd "threads" "I" ∈ ce_W) (hdg : decode cc pc = .ok (.putfield index, 3))
    (kk : ∀ (H1 : Heap) (locs1 : List Loc), va_P D vwCl (wM a cI cZ (zThr m x)) H1 → va_S (aM a) H0 H1 locs1 → W p l e R s mi args below meth c H1 locs1 cells slots Q (F0 mi (pc + 3) ls rest)) : W p l e R s mi args below meth c H locs cells slots Q (F0 mi pc ls (.int x :: .ref (a 0) :: rest)) :=
  cm_p (ty := .int) (v := .int x) (m2 := zThr m x) hx hb hts hown hK hd hP hS 8 (by decide) hl rfl rfl (by decide +kernel) rfl rfl rfl hdg kk
theorem cm_pTrd {x : Int32} (hx : p.tables.exec = Jvm.exec) (hb : c.code = cc) (hts : ∀ w ∈ w0 :: ce_W, w.before args s = true) (hown : s.vm.findClass own = some mi.cls) (hK : va_K D vwCl [(cI, .int), (cZ, .boolean)] s) (hd : dM a) (hP : va_P D vwCl (wM a cI cZ m) H) (hS : va_S (aM a) H0 H locs) (hl : Cond.fieldLink own index RMd "troubled" "I" ∈ ce_W) (hdg : decode cc pc = .ok (.putfield index, 3))
    (kk : ∀ (H1 : Heap) (locs1 : List Loc), va_P D vwCl (wM a cI cZ (zTrd m x)) H1 → va_S (aM a) H0 H1 locs1 → W p l e R s mi args below meth c H1 locs1 cells slots Q (F0 mi (pc + 3) ls rest)) : W p l e R s mi args below meth c H locs cells slots Q (F0 mi pc ls (.int x :: .ref (a 0) :: rest)) :=
  cm_p (ty := .int) (v := .int x) (m2 := zTrd m x) hx hb hts hown hK hd hP hS 9 (by decide) hl rfl rfl (by decide +kernel) rfl rfl rfl hdg kk
theorem cm_pOpen {x : Nat} (hx : p.tables.exec = Jvm.exec) (hb : c.code = cc) (hts : ∀ w ∈ w0 :: ce_W, w.before args s = true) (hown : s.vm.findClass own = some mi.cls) (hK : va_K D vwCl [(cI, .int), (cZ, .boolean)] s) (hd : dM a) (hP : va_P D vwCl (wM a cI cZ m) H) (hS : va_S (aM a) H0 H locs) (hl : Cond.fieldLink own index RMd "open" "I" ∈ ce_W) (hdg : decode cc pc = .ok (.putfield index, 3))
    (kk : ∀ (H1 : Heap) (locs1 : List Loc), va_P D vwCl (wM a cI cZ (zOpen m x)) H1 → va_S (aM a) H0 H1 locs1 → W p l e R s mi args below meth c H1 locs1 cells slots Q (F0 mi (pc + 3) ls rest)) : W p l e R s mi args below meth c H locs cells slots Q (F0 mi pc ls (.int (nI x) :: .ref (a 0) :: rest)) :=
  cm_p (ty := .int) (v := .int (nI x)) (m2 := zOpen m x) hx hb hts hown hK hd hP hS 13 (by decide) hl rfl rfl (by decide +kernel) rfl rfl rfl hdg kk
theorem cm_pProg {x : Nat} (hx : p.tables.exec = Jvm.exec) (hb : c.code = cc) (hts : ∀ w ∈ w0 :: ce_W, w.before args s = true) (hown : s.vm.findClass own = some mi.cls) (hK : va_K D vwCl [(cI, .int), (cZ, .boolean)] s) (hd : dM a) (hP : va_P D vwCl (wM a cI cZ m) H) (hS : va_S (aM a) H0 H locs) (hl : Cond.fieldLink own index RMd "program" "I" ∈ ce_W) (hdg : decode cc pc = .ok (.putfield index, 3))
    (kk : ∀ (H1 : Heap) (locs1 : List Loc), va_P D vwCl (wM a cI cZ (zProg m x)) H1 → va_S (aM a) H0 H1 locs1 → W p l e R s mi args below meth c H1 locs1 cells slots Q (F0 mi (pc + 3) ls rest)) : W p l e R s mi args below meth c H locs cells slots Q (F0 mi pc ls (.int (nI x) :: .ref (a 0) :: rest)) :=
  cm_p (ty := .int) (v := .int (nI x)) (m2 := zProg m x) hx hb hts hown hK hd hP hS 16 (by decide) hl rfl rfl (by decide +kernel) rfl rfl rfl hdg kk
theorem cm_pAt {x : Nat} (hx : p.tables.exec = Jvm.exec) (hb : c.code = cc) (hts : ∀ w ∈ w0 :: ce_W, w.before args s = true) (hown : s.vm.findClass own = some mi.cls) (hK : va_K D vwCl [(cI, .int), (cZ, .boolean)] s) (hd : dM a) (hP : va_P D vwCl (wM a cI cZ m) H) (hS : va_S (aM a) H0 H locs) (hl : Cond.fieldLink own index RMd "at" "I" ∈ ce_W) (hdg : decode cc pc = .ok (.putfield index, 3))
    (kk : ∀ (H1 : Heap) (locs1 : List Loc), va_P D vwCl (wM a cI cZ (zAt m x)) H1 → va_S (aM a) H0 H1 locs1 → W p l e R s mi args below meth c H1 locs1 cells slots Q (F0 mi (pc + 3) ls rest)) : W p l e R s mi args below meth c H locs cells slots Q (F0 mi pc ls (.int (nI x) :: .ref (a 0) :: rest)) :=
  cm_p (ty := .int) (v := .int (nI x)) (m2 := zAt m x) hx hb hts hown hK hd hP hS 17 (by decide) hl rfl rfl (by decide +kernel) rfl rfl rfl hdg kk
theorem cm_pAcc {x : Int32} (hx : p.tables.exec = Jvm.exec) (hb : c.code = cc) (hts : ∀ w ∈ w0 :: ce_W, w.before args s = true) (hown : s.vm.findClass own = some mi.cls) (hK : va_K D vwCl [(cI, .int), (cZ, .boolean)] s) (hd : dM a) (hP : va_P D vwCl (wM a cI cZ m) H) (hS : va_S (aM a) H0 H locs) (hl : Cond.fieldLink own index RMd "accumulator" "I" ∈ ce_W) (hdg : decode cc pc = .ok (.putfield index, 3))
    (kk : ∀ (H1 : Heap) (locs1 : List Loc), va_P D vwCl (wM a cI cZ (zAcc m x)) H1 → va_S (aM a) H0 H1 locs1 → W p l e R s mi args below meth c H1 locs1 cells slots Q (F0 mi (pc + 3) ls rest)) : W p l e R s mi args below meth c H locs cells slots Q (F0 mi pc ls (.int x :: .ref (a 0) :: rest)) :=
  cm_p (ty := .int) (v := .int x) (m2 := zAcc m x) hx hb hts hown hK hd hP hS 18 (by decide) hl rfl rfl (by decide +kernel) rfl rfl rfl hdg kk
theorem cm_pSteps {x : Int32} (hx : p.tables.exec = Jvm.exec) (hb : c.code = cc) (hts : ∀ w ∈ w0 :: ce_W, w.before args s = true) (hown : s.vm.findClass own = some mi.cls) (hK : va_K D vwCl [(cI, .int), (cZ, .boolean)] s) (hd : dM a) (hP : va_P D vwCl (wM a cI cZ m) H) (hS : va_S (aM a) H0 H locs) (hl : Cond.fieldLink own index RMd "steps" "I" ∈ ce_W) (hdg : decode cc pc = .ok (.putfield index, 3))
    (kk : ∀ (H1 : Heap) (locs1 : List Loc), va_P D vwCl (wM a cI cZ (zSteps m x)) H1 → va_S (aM a) H0 H1 locs1 → W p l e R s mi args below meth c H1 locs1 cells slots Q (F0 mi (pc + 3) ls rest)) : W p l e R s mi args below meth c H locs cells slots Q (F0 mi pc ls (.int x :: .ref (a 0) :: rest)) :=
  cm_p (ty := .int) (v := .int x) (m2 := zSteps m x) hx hb hts hown hK hd hP hS 19 (by decide) hl rfl rfl (by decide +kernel) rfl rfl rfl hdg kk
theorem cm_pFin {x : Int32} (hx : p.tables.exec = Jvm.exec) (hb : c.code = cc) (hts : ∀ w ∈ w0 :: ce_W, w.before args s = true) (hown : s.vm.findClass own = some mi.cls) (hK : va_K D vwCl [(cI, .int), (cZ, .boolean)] s) (hd : dM a) (hP : va_P D vwCl (wM a cI cZ m) H) (hS : va_S (aM a) H0 H locs) (hl : Cond.fieldLink own index RMd "finals" "I" ∈ ce_W) (hdg : decode cc pc = .ok (.putfield index, 3))
    (kk : ∀ (H1 : Heap) (locs1 : List Loc), va_P D vwCl (wM a cI cZ (zFin m x)) H1 → va_S (aM a) H0 H1 locs1 → W p l e R s mi args below meth c H1 locs1 cells slots Q (F0 mi (pc + 3) ls rest)) : W p l e R s mi args below meth c H locs cells slots Q (F0 mi pc ls (.int x :: .ref (a 0) :: rest)) :=
  cm_p (ty := .int) (v := .int x) (m2 := zFin m x) hx hb hts hown hK hd hP hS 20 (by decide) hl rfl rfl (by decide +kernel) rfl rfl rfl hdg kk
theorem cm_pCat {x : Int32} (hx : p.tables.exec = Jvm.exec) (hb : c.code = cc) (hts : ∀ w ∈ w0 :: ce_W, w.before args s = true) (hown : s.vm.findClass own = some mi.cls) (hK : va_K D vwCl [(cI, .int), (cZ, .boolean)] s) (hd : dM a) (hP : va_P D vwCl (wM a cI cZ m) H) (hS : va_S (aM a) H0 H locs) (hl : Cond.fieldLink own index RMd "catches" "I" ∈ ce_W) (hdg : decode cc pc = .ok (.putfield index, 3))
    (kk : ∀ (H1 : Heap) (locs1 : List Loc), va_P D vwCl (wM a cI cZ (zCat m x)) H1 → va_S (aM a) H0 H1 locs1 → W p l e R s mi args below meth c H1 locs1 cells slots Q (F0 mi (pc + 3) ls rest)) : W p l e R s mi args below meth c H locs cells slots Q (F0 mi pc ls (.int x :: .ref (a 0) :: rest)) :=
  cm_p (ty := .int) (v := .int x) (m2 := zCat m x) hx hb hts hown hK hd hP hS 21 (by decide) hl rfl rfl (by decide +kernel) rfl rfl rfl hdg kk
theorem cm_pTr {x : Int32} (hx : p.tables.exec = Jvm.exec) (hb : c.code = cc) (hts : ∀ w ∈ w0 :: ce_W, w.before args s = true) (hown : s.vm.findClass own = some mi.cls) (hK : va_K D vwCl [(cI, .int), (cZ, .boolean)] s) (hd : dM a) (hP : va_P D vwCl (wM a cI cZ m) H) (hS : va_S (aM a) H0 H locs) (hl : Cond.fieldLink own index RMd "trouble" "I" ∈ ce_W) (hdg : decode cc pc = .ok (.putfield index, 3))
    (kk : ∀ (H1 : Heap) (locs1 : List Loc), va_P D vwCl (wM a cI cZ (zTr m x)) H1 → va_S (aM a) H0 H1 locs1 → W p l e R s mi args below meth c H1 locs1 cells slots Q (F0 mi (pc + 3) ls rest)) : W p l e R s mi args below meth c H locs cells slots Q (F0 mi pc ls (.int x :: .ref (a 0) :: rest)) :=
  cm_p (ty := .int) (v := .int x) (m2 := zTr m x) hx hb hts hown hK hd hP hS 22 (by decide) hl rfl rfl (by decide +kernel) rfl rfl rfl hdg kk
theorem cm_pNum {x : Int32} (hx : p.tables.exec = Jvm.exec) (hb : c.code = cc) (hts : ∀ w ∈ w0 :: ce_W, w.before args s = true) (hown : s.vm.findClass own = some mi.cls) (hK : va_K D vwCl [(cI, .int), (cZ, .boolean)] s) (hd : dM a) (hP : va_P D vwCl (wM a cI cZ m) H) (hS : va_S (aM a) H0 H locs) (hl : Cond.fieldLink own index RMd "number" "I" ∈ ce_W) (hdg : decode cc pc = .ok (.putfield index, 3))
    (kk : ∀ (H1 : Heap) (locs1 : List Loc), va_P D vwCl (wM a cI cZ (zNum m x)) H1 → va_S (aM a) H0 H1 locs1 → W p l e R s mi args below meth c H1 locs1 cells slots Q (F0 mi (pc + 3) ls rest)) : W p l e R s mi args below meth c H locs cells slots Q (F0 mi pc ls (.int x :: .ref (a 0) :: rest)) :=
  cm_p (ty := .int) (v := .int x) (m2 := zNum m x) hx hb hts hown hK hd hP hS 23 (by decide) hl rfl rfl (by decide +kernel) rfl rfl rfl hdg kk
theorem cm_pOrg {x : Int32} (hx : p.tables.exec = Jvm.exec) (hb : c.code = cc) (hts : ∀ w ∈ w0 :: ce_W, w.before args s = true) (hown : s.vm.findClass own = some mi.cls) (hK : va_K D vwCl [(cI, .int), (cZ, .boolean)] s) (hd : dM a) (hP : va_P D vwCl (wM a cI cZ m) H) (hS : va_S (aM a) H0 H locs) (hl : Cond.fieldLink own index RMd "origin" "I" ∈ ce_W) (hdg : decode cc pc = .ok (.putfield index, 3))
    (kk : ∀ (H1 : Heap) (locs1 : List Loc), va_P D vwCl (wM a cI cZ (zOrg m x)) H1 → va_S (aM a) H0 H1 locs1 → W p l e R s mi args below meth c H1 locs1 cells slots Q (F0 mi (pc + 3) ls rest)) : W p l e R s mi args below meth c H locs cells slots Q (F0 mi pc ls (.int x :: .ref (a 0) :: rest)) :=
  cm_p (ty := .int) (v := .int x) (m2 := zOrg m x) hx hb hts hown hK hd hP hS 24 (by decide) hl rfl rfl (by decide +kernel) rfl rfl rfl hdg kk
theorem cm_pMark {x : Bool} (hx : p.tables.exec = Jvm.exec) (hb : c.code = cc) (hts : ∀ w ∈ w0 :: ce_W, w.before args s = true) (hown : s.vm.findClass own = some mi.cls) (hK : va_K D vwCl [(cI, .int), (cZ, .boolean)] s) (hd : dM a) (hP : va_P D vwCl (wM a cI cZ m) H) (hS : va_S (aM a) H0 H locs) (hl : Cond.fieldLink own index RMd "mark" "Z" ∈ ce_W) (hdg : decode cc pc = .ok (.putfield index, 3))
    (kk : ∀ (H1 : Heap) (locs1 : List Loc), va_P D vwCl (wM a cI cZ (zMark m x)) H1 → va_S (aM a) H0 H1 locs1 → W p l e R s mi args below meth c H1 locs1 cells slots Q (F0 mi (pc + 3) ls rest)) : W p l e R s mi args below meth c H locs cells slots Q (F0 mi pc ls (.int (bI x) :: .ref (a 0) :: rest)) :=
  cm_p (ty := .boolean) (v := .int (bI x)) (m2 := zMark m x) hx hb hts hown hK hd hP hS 25 (by decide) hl rfl rfl (by decide +kernel) (bI_nar x) (bI_fit x) rfl hdg kk
theorem cm_pStop {x : Bool} (hx : p.tables.exec = Jvm.exec) (hb : c.code = cc) (hts : ∀ w ∈ w0 :: ce_W, w.before args s = true) (hown : s.vm.findClass own = some mi.cls) (hK : va_K D vwCl [(cI, .int), (cZ, .boolean)] s) (hd : dM a) (hP : va_P D vwCl (wM a cI cZ m) H) (hS : va_S (aM a) H0 H locs) (hl : Cond.fieldLink own index RMd "stopping" "Z" ∈ ce_W) (hdg : decode cc pc = .ok (.putfield index, 3))
    (kk : ∀ (H1 : Heap) (locs1 : List Loc), va_P D vwCl (wM a cI cZ (zStop m x)) H1 → va_S (aM a) H0 H1 locs1 → W p l e R s mi args below meth c H1 locs1 cells slots Q (F0 mi (pc + 3) ls rest)) : W p l e R s mi args below meth c H locs cells slots Q (F0 mi pc ls (.int (bI x) :: .ref (a 0) :: rest)) :=
  cm_p (ty := .boolean) (v := .int (bI x)) (m2 := zStop m x) hx hb hts hown hK hd hP hS 26 (by decide) hl rfl rfl (by decide +kernel) (bI_nar x) (bI_fit x) rfl hdg kk
theorem cm_lOp {i : Nat} (hi : i < 84) (hx : p.tables.exec = Jvm.exec) (hb : c.code = cc) (hK : va_K D vwCl [(cI, .int), (cZ, .boolean)] s) (hP : va_P D vwCl (wM a cI cZ m) H) (hdg : decode cc pc = .ok (.iaload, 1))
    (kk : W p l e R s mi args below meth c H locs cells slots Q (F0 mi (pc + 1) ls (.int (nI (qOp m i)) :: rest))) : W p l e R s mi args below meth c H locs cells slots Q (F0 mi pc ls (.int (nI i) :: .ref (a 1) :: rest)) := by
  refine va_iald hx hb hK hP 1 0 rfl rfl (vp_in_nI hi (by decide)) hdg ?_
  have e1 : (nI i).toNatClampNeg = i := nI_clamp (by omega)
  show W p l e R s mi args below meth c H locs cells slots Q (F0 mi (pc + 1) ls (.int (nI (qOp m (nI i).toNatClampNeg)) :: rest))
  rw [e1]
  exact kk
theorem cm_sOp {i : Nat} {x : Nat} (hi : i < 84) (hx : p.tables.exec = Jvm.exec) (hb : c.code = cc) (hK : va_K D vwCl [(cI, .int), (cZ, .boolean)] s) (hd : dM a) (hP : va_P D vwCl (wM a cI cZ m) H) (hS : va_S (aM a) H0 H locs) (hdg : decode cc pc = .ok (.iastore, 1))
    (kk : ∀ (H1 : Heap) (locs1 : List Loc), va_P D vwCl (wM a cI cZ (zOp m (va_up (qOp m) i x))) H1 → va_S (aM a) H0 H1 locs1 → W p l e R s mi args below meth c H1 locs1 cells slots Q (F0 mi (pc + 1) ls rest)) : W p l e R s mi args below meth c H locs cells slots Q (F0 mi pc ls (.int (nI x) :: .int (nI i) :: .ref (a 1) :: rest)) := by
  refine va_iast hx hb hK hP (dDM hd cI cZ m) hS 1 0 rfl rfl (vp_in_nI hi (by decide)) hdg (fun H1 locs1 h1 _ h3 => kk H1 locs1 ?_ h3)
  have e1 : (nI i).toNatClampNeg = i := nI_clamp (by omega)
  rw [e1, up_nI] at h1
  exact h1
theorem cm_lArg {i : Nat} (hi : i < 84) (hx : p.tables.exec = Jvm.exec) (hb : c.code = cc) (hK : va_K D vwCl [(cI, .int), (cZ, .boolean)] s) (hP : va_P D vwCl (wM a cI cZ m) H) (hdg : decode cc pc = .ok (.iaload, 1))
    (kk : W p l e R s mi args below meth c H locs cells slots Q (F0 mi (pc + 1) ls (.int (nI (qArg m i)) :: rest))) : W p l e R s mi args below meth c H locs cells slots Q (F0 mi pc ls (.int (nI i) :: .ref (a 2) :: rest)) := by
  refine va_iald hx hb hK hP 2 0 rfl rfl (vp_in_nI hi (by decide)) hdg ?_
  have e1 : (nI i).toNatClampNeg = i := nI_clamp (by omega)
  show W p l e R s mi args below meth c H locs cells slots Q (F0 mi (pc + 1) ls (.int (nI (qArg m (nI i).toNatClampNeg)) :: rest))
  rw [e1]
  exact kk
theorem cm_sArg {i : Nat} {x : Nat} (hi : i < 84) (hx : p.tables.exec = Jvm.exec) (hb : c.code = cc) (hK : va_K D vwCl [(cI, .int), (cZ, .boolean)] s) (hd : dM a) (hP : va_P D vwCl (wM a cI cZ m) H) (hS : va_S (aM a) H0 H locs) (hdg : decode cc pc = .ok (.iastore, 1))
    (kk : ∀ (H1 : Heap) (locs1 : List Loc), va_P D vwCl (wM a cI cZ (zArg m (va_up (qArg m) i x))) H1 → va_S (aM a) H0 H1 locs1 → W p l e R s mi args below meth c H1 locs1 cells slots Q (F0 mi (pc + 1) ls rest)) : W p l e R s mi args below meth c H locs cells slots Q (F0 mi pc ls (.int (nI x) :: .int (nI i) :: .ref (a 2) :: rest)) := by
  refine va_iast hx hb hK hP (dDM hd cI cZ m) hS 2 0 rfl rfl (vp_in_nI hi (by decide)) hdg (fun H1 locs1 h1 _ h3 => kk H1 locs1 ?_ h3)
  have e1 : (nI i).toNatClampNeg = i := nI_clamp (by omega)
  rw [e1, up_nI] at h1
  exact h1
theorem cm_lSize {i : Nat} (hi : i < 6) (hx : p.tables.exec = Jvm.exec) (hb : c.code = cc) (hK : va_K D vwCl [(cI, .int), (cZ, .boolean)] s) (hP : va_P D vwCl (wM a cI cZ m) H) (hdg : decode cc pc = .ok (.iaload, 1))
    (kk : W p l e R s mi args below meth c H locs cells slots Q (F0 mi (pc + 1) ls (.int (nI (qSize m i)) :: rest))) : W p l e R s mi args below meth c H locs cells slots Q (F0 mi pc ls (.int (nI i) :: .ref (a 3) :: rest)) := by
  refine va_iald hx hb hK hP 3 0 rfl rfl (vp_in_nI hi (by decide)) hdg ?_
  have e1 : (nI i).toNatClampNeg = i := nI_clamp (by omega)
  show W p l e R s mi args below meth c H locs cells slots Q (F0 mi (pc + 1) ls (.int (nI (qSize m (nI i).toNatClampNeg)) :: rest))
  rw [e1]
  exact kk
theorem cm_sSize {i : Nat} {x : Nat} (hi : i < 6) (hx : p.tables.exec = Jvm.exec) (hb : c.code = cc) (hK : va_K D vwCl [(cI, .int), (cZ, .boolean)] s) (hd : dM a) (hP : va_P D vwCl (wM a cI cZ m) H) (hS : va_S (aM a) H0 H locs) (hdg : decode cc pc = .ok (.iastore, 1))
    (kk : ∀ (H1 : Heap) (locs1 : List Loc), va_P D vwCl (wM a cI cZ (zSize m (va_up (qSize m) i x))) H1 → va_S (aM a) H0 H1 locs1 → W p l e R s mi args below meth c H1 locs1 cells slots Q (F0 mi (pc + 1) ls rest)) : W p l e R s mi args below meth c H locs cells slots Q (F0 mi pc ls (.int (nI x) :: .int (nI i) :: .ref (a 3) :: rest)) := by
  refine va_iast hx hb hK hP (dDM hd cI cZ m) hS 3 0 rfl rfl (vp_in_nI hi (by decide)) hdg (fun H1 locs1 h1 _ h3 => kk H1 locs1 ?_ h3)
  have e1 : (nI i).toNatClampNeg = i := nI_clamp (by omega)
  rw [e1, up_nI] at h1
  exact h1
theorem cm_lTold {i : Nat} (hi : i < 48) (hx : p.tables.exec = Jvm.exec) (hb : c.code = cc) (hK : va_K D vwCl [(cI, .int), (cZ, .boolean)] s) (hP : va_P D vwCl (wM a cI cZ m) H) (hdg : decode cc pc = .ok (.iaload, 1))
    (kk : W p l e R s mi args below meth c H locs cells slots Q (F0 mi (pc + 1) ls (.int (qTold m i) :: rest))) : W p l e R s mi args below meth c H locs cells slots Q (F0 mi pc ls (.int (nI i) :: .ref (a 4) :: rest)) := by
  refine va_iald hx hb hK hP 4 0 rfl rfl (vp_in_nI hi (by decide)) hdg ?_
  have e1 : (nI i).toNatClampNeg = i := nI_clamp (by omega)
  show W p l e R s mi args below meth c H locs cells slots Q (F0 mi (pc + 1) ls (.int (qTold m (nI i).toNatClampNeg) :: rest))
  rw [e1]
  exact kk
theorem cm_sTold {i : Nat} {x : Int32} (hi : i < 48) (hx : p.tables.exec = Jvm.exec) (hb : c.code = cc) (hK : va_K D vwCl [(cI, .int), (cZ, .boolean)] s) (hd : dM a) (hP : va_P D vwCl (wM a cI cZ m) H) (hS : va_S (aM a) H0 H locs) (hdg : decode cc pc = .ok (.iastore, 1))
    (kk : ∀ (H1 : Heap) (locs1 : List Loc), va_P D vwCl (wM a cI cZ (zTold m (upd (qTold m) i x))) H1 → va_S (aM a) H0 H1 locs1 → W p l e R s mi args below meth c H1 locs1 cells slots Q (F0 mi (pc + 1) ls rest)) : W p l e R s mi args below meth c H locs cells slots Q (F0 mi pc ls (.int x :: .int (nI i) :: .ref (a 4) :: rest)) := by
  refine va_iast hx hb hK hP (dDM hd cI cZ m) hS 4 0 rfl rfl (vp_in_nI hi (by decide)) hdg (fun H1 locs1 h1 _ h3 => kk H1 locs1 ?_ h3)
  have e1 : (nI i).toNatClampNeg = i := nI_clamp (by omega)
  rw [e1] at h1
  exact h1
theorem cm_lCls {i : Nat} (hi : i < 48) (hx : p.tables.exec = Jvm.exec) (hb : c.code = cc) (hK : va_K D vwCl [(cI, .int), (cZ, .boolean)] s) (hP : va_P D vwCl (wM a cI cZ m) H) (hdg : decode cc pc = .ok (.iaload, 1))
    (kk : W p l e R s mi args below meth c H locs cells slots Q (F0 mi (pc + 1) ls (.int (qCls m i) :: rest))) : W p l e R s mi args below meth c H locs cells slots Q (F0 mi pc ls (.int (nI i) :: .ref (a 5) :: rest)) := by
  refine va_iald hx hb hK hP 5 0 rfl rfl (vp_in_nI hi (by decide)) hdg ?_
  have e1 : (nI i).toNatClampNeg = i := nI_clamp (by omega)
  show W p l e R s mi args below meth c H locs cells slots Q (F0 mi (pc + 1) ls (.int (qCls m (nI i).toNatClampNeg) :: rest))
  rw [e1]
  exact kk
theorem cm_sCls {i : Nat} {x : Int32} (hi : i < 48) (hx : p.tables.exec = Jvm.exec) (hb : c.code = cc) (hK : va_K D vwCl [(cI, .int), (cZ, .boolean)] s) (hd : dM a) (hP : va_P D vwCl (wM a cI cZ m) H) (hS : va_S (aM a) H0 H locs) (hdg : decode cc pc = .ok (.iastore, 1))
    (kk : ∀ (H1 : Heap) (locs1 : List Loc), va_P D vwCl (wM a cI cZ (zCls m (upd (qCls m) i x))) H1 → va_S (aM a) H0 H1 locs1 → W p l e R s mi args below meth c H1 locs1 cells slots Q (F0 mi (pc + 1) ls rest)) : W p l e R s mi args below meth c H locs cells slots Q (F0 mi pc ls (.int x :: .int (nI i) :: .ref (a 5) :: rest)) := by
  refine va_iast hx hb hK hP (dDM hd cI cZ m) hS 5 0 rfl rfl (vp_in_nI hi (by decide)) hdg (fun H1 locs1 h1 _ h3 => kk H1 locs1 ?_ h3)
  have e1 : (nI i).toNatClampNeg = i := nI_clamp (by omega)
  rw [e1] at h1
  exact h1
theorem cm_lRan {i : Nat} (hi : i < 6) (hx : p.tables.exec = Jvm.exec) (hb : c.code = cc) (hK : va_K D vwCl [(cI, .int), (cZ, .boolean)] s) (hP : va_P D vwCl (wM a cI cZ m) H) (hdg : decode cc pc = .ok (.baload, 1))
    (kk : W p l e R s mi args below meth c H locs cells slots Q (F0 mi (pc + 1) ls (.int (bI (qRan m i)) :: rest))) : W p l e R s mi args below meth c H locs cells slots Q (F0 mi pc ls (.int (nI i) :: .ref (a 6) :: rest)) := by
  refine va_zald hx hb hK hP 6 1 rfl rfl (vp_in_nI hi (by decide)) hdg ?_
  have e1 : (nI i).toNatClampNeg = i := nI_clamp (by omega)
  show W p l e R s mi args below meth c H locs cells slots Q (F0 mi (pc + 1) ls (.int (bI (qRan m (nI i).toNatClampNeg)) :: rest))
  rw [e1]
  exact kk
theorem cm_sRan {i : Nat} {x : Bool} (hi : i < 6) (hx : p.tables.exec = Jvm.exec) (hb : c.code = cc) (hK : va_K D vwCl [(cI, .int), (cZ, .boolean)] s) (hd : dM a) (hP : va_P D vwCl (wM a cI cZ m) H) (hS : va_S (aM a) H0 H locs) (hdg : decode cc pc = .ok (.bastore, 1))
    (kk : ∀ (H1 : Heap) (locs1 : List Loc), va_P D vwCl (wM a cI cZ (zRan m (va_up (qRan m) i x))) H1 → va_S (aM a) H0 H1 locs1 → W p l e R s mi args below meth c H1 locs1 cells slots Q (F0 mi (pc + 1) ls rest)) : W p l e R s mi args below meth c H locs cells slots Q (F0 mi pc ls (.int (bI x) :: .int (nI i) :: .ref (a 6) :: rest)) := by
  refine va_zast hx hb hK hP (dDM hd cI cZ m) hS 6 1 rfl rfl (vp_in_nI hi (by decide)) hdg (fun H1 locs1 h1 _ h3 => kk H1 locs1 ?_ h3)
  have e1 : (nI i).toNatClampNeg = i := nI_clamp (by omega)
  rw [e1, up_bI] at h1
  exact h1
theorem cm_lBlk {i : Nat} (hi : i < 15) (hx : p.tables.exec = Jvm.exec) (hb : c.code = cc) (hK : va_K D vwCl [(cI, .int), (cZ, .boolean)] s) (hP : va_P D vwCl (wM a cI cZ m) H) (hdg : decode cc pc = .ok (.iaload, 1))
    (kk : W p l e R s mi args below meth c H locs cells slots Q (F0 mi (pc + 1) ls (.int (nI (qBlk m i)) :: rest))) : W p l e R s mi args below meth c H locs cells slots Q (F0 mi pc ls (.int (nI i) :: .ref (a 7) :: rest)) := by
  refine va_iald hx hb hK hP 7 0 rfl rfl (vp_in_nI hi (by decide)) hdg ?_
  have e1 : (nI i).toNatClampNeg = i := nI_clamp (by omega)
  show W p l e R s mi args below meth c H locs cells slots Q (F0 mi (pc + 1) ls (.int (nI (qBlk m (nI i).toNatClampNeg)) :: rest))
  rw [e1]
  exact kk
theorem cm_sBlk {i : Nat} {x : Nat} (hi : i < 15) (hx : p.tables.exec = Jvm.exec) (hb : c.code = cc) (hK : va_K D vwCl [(cI, .int), (cZ, .boolean)] s) (hd : dM a) (hP : va_P D vwCl (wM a cI cZ m) H) (hS : va_S (aM a) H0 H locs) (hdg : decode cc pc = .ok (.iastore, 1))
    (kk : ∀ (H1 : Heap) (locs1 : List Loc), va_P D vwCl (wM a cI cZ (zBlk m (va_up (qBlk m) i x))) H1 → va_S (aM a) H0 H1 locs1 → W p l e R s mi args below meth c H1 locs1 cells slots Q (F0 mi (pc + 1) ls rest)) : W p l e R s mi args below meth c H locs cells slots Q (F0 mi pc ls (.int (nI x) :: .int (nI i) :: .ref (a 7) :: rest)) := by
  refine va_iast hx hb hK hP (dDM hd cI cZ m) hS 7 0 rfl rfl (vp_in_nI hi (by decide)) hdg (fun H1 locs1 h1 _ h3 => kk H1 locs1 ?_ h3)
  have e1 : (nI i).toNatClampNeg = i := nI_clamp (by omega)
  rw [e1, up_nI] at h1
  exact h1
theorem cm_lEnd {i : Nat} (hi : i < 15) (hx : p.tables.exec = Jvm.exec) (hb : c.code = cc) (hK : va_K D vwCl [(cI, .int), (cZ, .boolean)] s) (hP : va_P D vwCl (wM a cI cZ m) H) (hdg : decode cc pc = .ok (.iaload, 1))
    (kk : W p l e R s mi args below meth c H locs cells slots Q (F0 mi (pc + 1) ls (.int (nI (qEnd m i)) :: rest))) : W p l e R s mi args below meth c H locs cells slots Q (F0 mi pc ls (.int (nI i) :: .ref (a 8) :: rest)) := by
  refine va_iald hx hb hK hP 8 0 rfl rfl (vp_in_nI hi (by decide)) hdg ?_
  have e1 : (nI i).toNatClampNeg = i := nI_clamp (by omega)
  show W p l e R s mi args below meth c H locs cells slots Q (F0 mi (pc + 1) ls (.int (nI (qEnd m (nI i).toNatClampNeg)) :: rest))
  rw [e1]
  exact kk
theorem cm_sEnd {i : Nat} {x : Nat} (hi : i < 15) (hx : p.tables.exec = Jvm.exec) (hb : c.code = cc) (hK : va_K D vwCl [(cI, .int), (cZ, .boolean)] s) (hd : dM a) (hP : va_P D vwCl (wM a cI cZ m) H) (hS : va_S (aM a) H0 H locs) (hdg : decode cc pc = .ok (.iastore, 1))
    (kk : ∀ (H1 : Heap) (locs1 : List Loc), va_P D vwCl (wM a cI cZ (zEnd m (va_up (qEnd m) i x))) H1 → va_S (aM a) H0 H1 locs1 → W p l e R s mi args below meth c H1 locs1 cells slots Q (F0 mi (pc + 1) ls rest)) : W p l e R s mi args below meth c H locs cells slots Q (F0 mi pc ls (.int (nI x) :: .int (nI i) :: .ref (a 8) :: rest)) := by
  refine va_iast hx hb hK hP (dDM hd cI cZ m) hS 8 0 rfl rfl (vp_in_nI hi (by decide)) hdg (fun H1 locs1 h1 _ h3 => kk H1 locs1 ?_ h3)
  have e1 : (nI i).toNatClampNeg = i := nI_clamp (by omega)
  rw [e1, up_nI] at h1
  exact h1
theorem cm_lLeft {i : Nat} (hi : i < 15) (hx : p.tables.exec = Jvm.exec) (hb : c.code = cc) (hK : va_K D vwCl [(cI, .int), (cZ, .boolean)] s) (hP : va_P D vwCl (wM a cI cZ m) H) (hdg : decode cc pc = .ok (.iaload, 1))
    (kk : W p l e R s mi args below meth c H locs cells slots Q (F0 mi (pc + 1) ls (.int (nI (qLeft m i)) :: rest))) : W p l e R s mi args below meth c H locs cells slots Q (F0 mi pc ls (.int (nI i) :: .ref (a 9) :: rest)) := by
  refine va_iald hx hb hK hP 9 0 rfl rfl (vp_in_nI hi (by decide)) hdg ?_
  have e1 : (nI i).toNatClampNeg = i := nI_clamp (by omega)
  show W p l e R s mi args below meth c H locs cells slots Q (F0 mi (pc + 1) ls (.int (nI (qLeft m (nI i).toNatClampNeg)) :: rest))
  rw [e1]
  exact kk
theorem cm_sLeft {i : Nat} {x : Nat} (hi : i < 15) (hx : p.tables.exec = Jvm.exec) (hb : c.code = cc) (hK : va_K D vwCl [(cI, .int), (cZ, .boolean)] s) (hd : dM a) (hP : va_P D vwCl (wM a cI cZ m) H) (hS : va_S (aM a) H0 H locs) (hdg : decode cc pc = .ok (.iastore, 1))
    (kk : ∀ (H1 : Heap) (locs1 : List Loc), va_P D vwCl (wM a cI cZ (zLeft m (va_up (qLeft m) i x))) H1 → va_S (aM a) H0 H1 locs1 → W p l e R s mi args below meth c H1 locs1 cells slots Q (F0 mi (pc + 1) ls rest)) : W p l e R s mi args below meth c H locs cells slots Q (F0 mi pc ls (.int (nI x) :: .int (nI i) :: .ref (a 9) :: rest)) := by
  refine va_iast hx hb hK hP (dDM hd cI cZ m) hS 9 0 rfl rfl (vp_in_nI hi (by decide)) hdg (fun H1 locs1 h1 _ h3 => kk H1 locs1 ?_ h3)
  have e1 : (nI i).toNatClampNeg = i := nI_clamp (by omega)
  rw [e1, up_nI] at h1
  exact h1
theorem cm_lCell {i : Nat} (hi : i < 8) (hx : p.tables.exec = Jvm.exec) (hb : c.code = cc) (hK : va_K D vwCl [(cI, .int), (cZ, .boolean)] s) (hP : va_P D vwCl (wM a cI cZ m) H) (hdg : decode cc pc = .ok (.iaload, 1))
    (kk : W p l e R s mi args below meth c H locs cells slots Q (F0 mi (pc + 1) ls (.int (qCell m i) :: rest))) : W p l e R s mi args below meth c H locs cells slots Q (F0 mi pc ls (.int (nI i) :: .ref (a 10) :: rest)) := by
  refine va_iald hx hb hK hP 10 0 rfl rfl (vp_in_nI hi (by decide)) hdg ?_
  have e1 : (nI i).toNatClampNeg = i := nI_clamp (by omega)
  show W p l e R s mi args below meth c H locs cells slots Q (F0 mi (pc + 1) ls (.int (qCell m (nI i).toNatClampNeg) :: rest))
  rw [e1]
  exact kk
theorem cm_sCell {i : Nat} {x : Int32} (hi : i < 8) (hx : p.tables.exec = Jvm.exec) (hb : c.code = cc) (hK : va_K D vwCl [(cI, .int), (cZ, .boolean)] s) (hd : dM a) (hP : va_P D vwCl (wM a cI cZ m) H) (hS : va_S (aM a) H0 H locs) (hdg : decode cc pc = .ok (.iastore, 1))
    (kk : ∀ (H1 : Heap) (locs1 : List Loc), va_P D vwCl (wM a cI cZ (zCell m (upd (qCell m) i x))) H1 → va_S (aM a) H0 H1 locs1 → W p l e R s mi args below meth c H1 locs1 cells slots Q (F0 mi (pc + 1) ls rest)) : W p l e R s mi args below meth c H locs cells slots Q (F0 mi pc ls (.int x :: .int (nI i) :: .ref (a 10) :: rest)) := by
  refine va_iast hx hb hK hP (dDM hd cI cZ m) hS 10 0 rfl rfl (vp_in_nI hi (by decide)) hdg (fun H1 locs1 h1 _ h3 => kk H1 locs1 ?_ h3)
  have e1 : (nI i).toNatClampNeg = i := nI_clamp (by omega)
  rw [e1] at h1
  exact h1
theorem cm_lHeld {i : Nat} (hi : i < 2) (hx : p.tables.exec = Jvm.exec) (hb : c.code = cc) (hK : va_K D vwCl [(cI, .int), (cZ, .boolean)] s) (hP : va_P D vwCl (wM a cI cZ m) H) (hdg : decode cc pc = .ok (.iaload, 1))
    (kk : W p l e R s mi args below meth c H locs cells slots Q (F0 mi (pc + 1) ls (.int (qHeld m i) :: rest))) : W p l e R s mi args below meth c H locs cells slots Q (F0 mi pc ls (.int (nI i) :: .ref (a 11) :: rest)) := by
  refine va_iald hx hb hK hP 11 0 rfl rfl (vp_in_nI hi (by decide)) hdg ?_
  have e1 : (nI i).toNatClampNeg = i := nI_clamp (by omega)
  show W p l e R s mi args below meth c H locs cells slots Q (F0 mi (pc + 1) ls (.int (qHeld m (nI i).toNatClampNeg) :: rest))
  rw [e1]
  exact kk
theorem cm_sHeld {i : Nat} {x : Int32} (hi : i < 2) (hx : p.tables.exec = Jvm.exec) (hb : c.code = cc) (hK : va_K D vwCl [(cI, .int), (cZ, .boolean)] s) (hd : dM a) (hP : va_P D vwCl (wM a cI cZ m) H) (hS : va_S (aM a) H0 H locs) (hdg : decode cc pc = .ok (.iastore, 1))
    (kk : ∀ (H1 : Heap) (locs1 : List Loc), va_P D vwCl (wM a cI cZ (zHeld m (upd (qHeld m) i x))) H1 → va_S (aM a) H0 H1 locs1 → W p l e R s mi args below meth c H1 locs1 cells slots Q (F0 mi (pc + 1) ls rest)) : W p l e R s mi args below meth c H locs cells slots Q (F0 mi pc ls (.int x :: .int (nI i) :: .ref (a 11) :: rest)) := by
  refine va_iast hx hb hK hP (dDM hd cI cZ m) hS 11 0 rfl rfl (vp_in_nI hi (by decide)) hdg (fun H1 locs1 h1 _ h3 => kk H1 locs1 ?_ h3)
  have e1 : (nI i).toNatClampNeg = i := nI_clamp (by omega)
  rw [e1] at h1
  exact h1
theorem cm_lCellV {i : Int32} (hi : vp_in i 8) (hx : p.tables.exec = Jvm.exec) (hb : c.code = cc) (hK : va_K D vwCl [(cI, .int), (cZ, .boolean)] s) (hP : va_P D vwCl (wM a cI cZ m) H) (hdg : decode cc pc = .ok (.iaload, 1))
    (kk : W p l e R s mi args below meth c H locs cells slots Q (F0 mi (pc + 1) ls (.int (qCell m i.toNatClampNeg) :: rest))) : W p l e R s mi args below meth c H locs cells slots Q (F0 mi pc ls (.int i :: .ref (a 10) :: rest)) := va_iald hx hb hK hP 10 0 rfl rfl hi hdg kk
theorem cm_sCellV {i x : Int32} (hi : vp_in i 8) (hx : p.tables.exec = Jvm.exec) (hb : c.code = cc) (hK : va_K D vwCl [(cI, .int), (cZ, .boolean)] s) (hd : dM a) (hP : va_P D vwCl (wM a cI cZ m) H) (hS : va_S (aM a) H0 H locs) (hdg : decode cc pc = .ok (.iastore, 1))
    (kk : ∀ (H1 : Heap) (locs1 : List Loc), va_P D vwCl (wM a cI cZ (zCell m (upd (qCell m) i.toNatClampNeg x))) H1 → va_S (aM a) H0 H1 locs1 → W p l e R s mi args below meth c H1 locs1 cells slots Q (F0 mi (pc + 1) ls rest)) : W p l e R s mi args below meth c H locs cells slots Q (F0 mi pc ls (.int x :: .int i :: .ref (a 10) :: rest)) := va_iast hx hb hK hP (dDM hd cI cZ m) hS 10 0 rfl rfl hi hdg (fun H1 locs1 h1 _ h3 => kk H1 locs1 h1 h3)
variable {y : MethodName} {b : ByteArray} {maxL n : Nat} {rm : Room} {As : List Value}
theorem cm_vi {post : Int32 → MS → Prop} (F : CallFix p mi c cc nL s args (w0 :: ce_W) own) (hM : Met l y (ce_ws y b maxL (some .int)) rm (cm_Pc D cI cZ (.ref (a 0) :: As) (wM a cI cZ m)) (va_Qi post (fun m2 t => va_P D vwCl (wM a cI cZ m2) t.heap) (aM a)) 0 0 (aM a)) (hm : ce_M y b maxL (some .int) n) (hl : Cond.methodLink own index y ∈ ce_W) (hi : Cond.instanceMethod y ∈ ce_W ∧ Cond.selects RMd y y ∈ ce_W) (hR : rm.frames + 1 ≤ R.frames ∧ 8 + (maxL + 11) + rm.locals ≤ R.locals) (hrc : rm.cells = 0 ∧ rm.slots = 0) (hK : va_K D vwCl [(cI, .int), (cZ, .boolean)] s) (hP : va_P D vwCl (wM a cI cZ m) H) (hS : va_S (aM a) H0 H locs) (hn : As.length = n) (hsz : ls.size = nL) (hst : st0 = As.reverse ++ .ref (a 0) :: rest) (hw : (rest.map fun v => v.category).sum ≤ 8) (hdg : decode cc pc = .ok (.invokevirtual index, 3)) (hc : cells + 0 ≤ R.cells ∧ slots + 0 ≤ R.slots)
    (kk : ∀ (r : Int32) (m2 : MS) (H1 : Heap) (locs1 : List Loc), post r m2 → va_P D vwCl (wM a cI cZ m2) H1 → va_S (aM a) H0 H1 locs1 → W p l e R s mi args below meth c H1 locs1 cells slots Q (F0 mi (pc + 3) ls (.int r :: rest))) : W p l e R s mi args below meth c H locs cells slots Q (F0 mi pc ls st0) :=
  va_calli (va_runV F hM (ce_cV F.2.2.2.2 (ce_good hm.1) hm hrc.1 hrc.2 hl hi hR (ce_tl w0)) ⟨cm_blind, va_recv hK hP (ci := 3) (q0 := 0) rfl rfl, cm_at hP hK⟩ rfl hn hsz hst (lv_room hw) hdg hc) hS (fun _ _ h => h) (fun _ h => h) (fun r u1 t H1 locs1 ht _ hp hB _ _ hS1 => kk r u1 H1 locs1 hp (ht ▸ hB) hS1)
theorem cm_vv {post : MS → Prop} (F : CallFix p mi c cc nL s args (w0 :: ce_W) own) (hM : Met l y (ce_ws y b maxL none) rm (cm_Pc D cI cZ (.ref (a 0) :: As) (wM a cI cZ m)) (va_Qv post (fun m2 t => va_P D vwCl (wM a cI cZ m2) t.heap) (aM a)) 0 0 (aM a)) (hm : ce_M y b maxL none n) (hl : Cond.methodLink own index y ∈ ce_W) (hi : Cond.instanceMethod y ∈ ce_W ∧ Cond.selects RMd y y ∈ ce_W) (hR : rm.frames + 1 ≤ R.frames ∧ 8 + (maxL + 11) + rm.locals ≤ R.locals) (hrc : rm.cells = 0 ∧ rm.slots = 0) (hK : va_K D vwCl [(cI, .int), (cZ, .boolean)] s) (hP : va_P D vwCl (wM a cI cZ m) H) (hS : va_S (aM a) H0 H locs) (hn : As.length = n) (hsz : ls.size = nL) (hst : st0 = As.reverse ++ .ref (a 0) :: rest) (hw : (rest.map fun v => v.category).sum ≤ 8) (hdg : decode cc pc = .ok (.invokevirtual index, 3)) (hc : cells + 0 ≤ R.cells ∧ slots + 0 ≤ R.slots)
    (kk : ∀ (m2 : MS) (H1 : Heap) (locs1 : List Loc), post m2 → va_P D vwCl (wM a cI cZ m2) H1 → va_S (aM a) H0 H1 locs1 → W p l e R s mi args below meth c H1 locs1 cells slots Q (F0 mi (pc + 3) ls rest)) : W p l e R s mi args below meth c H locs cells slots Q (F0 mi pc ls st0) :=
  va_callv (va_runV F hM (ce_cV F.2.2.2.2 (ce_good hm.1) hm hrc.1 hrc.2 hl hi hR (ce_tl w0)) ⟨cm_blind, va_recv hK hP (ci := 3) (q0 := 0) rfl rfl, cm_at hP hK⟩ rfl hn hsz hst (lv_room hw) hdg hc) hS (fun _ _ h => h) (fun _ h => h) (fun u1 t H1 locs1 ht _ hp hB _ _ hS1 => kk u1 H1 locs1 hp (ht ▸ hB) hS1)
theorem cm_ri {ret : Option FieldType} {post : Int32 → Prop} (F : CallFix p mi c cc nL s args (w0 :: ce_W) own) (hM : Met l y (ce_ws y b maxL ret) rm (cm_Pc D cI cZ (.ref (a 0) :: As) (wM a cI cZ m)) (vp_Si post) 0 0 (fun _ => False)) (hm : ce_M y b maxL ret n) (hl : Cond.methodLink own index y ∈ ce_W) (hi : Cond.instanceMethod y ∈ ce_W ∧ Cond.selects RMd y y ∈ ce_W) (hR : rm.frames + 1 ≤ R.frames ∧ 8 + (maxL + 11) + rm.locals ≤ R.locals) (hrc : rm.cells = 0 ∧ rm.slots = 0) (hK : va_K D vwCl [(cI, .int), (cZ, .boolean)] s) (hP : va_P D vwCl (wM a cI cZ m) H) (hn : As.length = n) (hsz : ls.size = nL) (hst : st0 = As.reverse ++ .ref (a 0) :: rest) (hw : (rest.map fun v => v.category).sum ≤ 8) (hdg : decode cc pc = .ok (.invokevirtual index, 3)) (hc : cells + 0 ≤ R.cells ∧ slots + 0 ≤ R.slots)
    (kk : ∀ r : Int32, post r → W p l e R s mi args below meth c H locs cells slots Q (F0 mi (pc + 3) ls (.int r :: rest))) : W p l e R s mi args below meth c H locs cells slots Q (F0 mi pc ls st0) :=
  vp_callSi (va_runV F hM (ce_cV F.2.2.2.2 (ce_good hm.1) hm hrc.1 hrc.2 hl hi hR (ce_tl w0)) ⟨cm_blind, va_recv hK hP (ci := 3) (q0 := 0) rfl rfl, cm_at hP hK⟩ rfl hn hsz hst (lv_room hw) hdg hc).run kk
theorem cm_si {ret : Option FieldType} {post : Int32 → Prop} (F : CallFix p mi c cc nL s args (w0 :: ce_W) own) (hM : Met l y (ce_ws y b maxL ret) rm (cm_Pc D cI cZ As (wM a cI cZ m)) (vp_Si post) 0 0 (fun _ => False)) (hm : ce_M y b maxL ret n) (hl : Cond.methodLink own index y ∈ ce_W) (hi : Cond.static y ∈ ce_W) (hR : rm.frames + 1 ≤ R.frames ∧ 8 + (maxL + 11) + rm.locals ≤ R.locals) (hrc : rm.cells = 0 ∧ rm.slots = 0) (hK : va_K D vwCl [(cI, .int), (cZ, .boolean)] s) (hP : va_P D vwCl (wM a cI cZ m) H) (hn : As.length = n) (hsz : ls.size = nL) (hst : st0 = As.reverse ++ rest) (hw : (rest.map fun v => v.category).sum ≤ 8) (hdg : decode cc pc = .ok (.invokestatic index, 3)) (hc : cells + 0 ≤ R.cells ∧ slots + 0 ≤ R.slots)
    (kk : ∀ r : Int32, post r → W p l e R s mi args below meth c H locs cells slots Q (F0 mi (pc + 3) ls (.int r :: rest))) : W p l e R s mi args below meth c H locs cells slots Q (F0 mi pc ls st0) :=
  vp_callSi (va_runS F hM (ce_cS F.2.2.2.2 (ce_good hm.1) hm hrc.1 hrc.2 hl hi hR (ce_tl w0)) ⟨cm_blind, cm_at hP hK⟩ rfl hn hsz hst (lv_room hw) hdg hc).run kk
end CM1
end
section
-- THE REFERENCE AS FUNCTIONS
def isI (x y : Int32) : Bool := decide (¬ x < 0 ∧ ¬ y ≤ x)
def mO (m : MS) (i : Nat) : Nat := qOp m (qProg m * 14 + i)
def mG (m : MS) (i : Nat) : Nat := qArg m (qProg m * 14 + i)
def mK (m : MS) (i : Nat) : Nat := qArg m (qProg m * 14 + i) / 16
def mRaise (m : MS) (t n : Int32) : MS := zOrg (zNum (zTr m t) n) (nI (qAt m))
def mTakes (K : Nat) (t : Int32) : Bool := if K < 11 then decide (nI K = t) else if K = 11 ∨ K = 14 then decide (t < 7 ∨ t = 8 ∨ t = 9) else if K = 12 then decide (t = 1 ∨ t = 9) else if K = 15 then true else decide (t = 7 ∨ t = 10)
def mDivide (m : MS) (v : Int32) (b : Bool) : MS := if v = 0 then mRaise m 0 (-1) else if b = true then zAcc m (qAcc m - qAcc m / v * v) else zAcc m (qAcc m / v)
def mTouch (m : MS) (v : Int32) (b : Bool) : MS := if isI v 8 = true then (if b = true then zAcc m (qCell m v.toNatClampNeg) else zCell m (upd (qCell m) v.toNatClampNeg (qAcc m))) else mRaise m 1 (-1)
def mIntr (m : MS) : MS := if qMark m = true then mRaise (zMark m false) 7 (-1) else m
def mAct (m : MS) (o : Nat) (v : Int32) (n k : Nat) : MS := match o with
  | 0 => zAcc m (qAcc m + v)
  | 1 => zAcc m (qAcc m * v)
  | 2 => mDivide m v false
  | 3 => mDivide m v true
  | 4 => mTouch m v true
  | 5 => mTouch m v false
  | 6 => if k < 6 then mRaise m (nI k) (-1) else zAcc m (nI n)
  | 7 => if 6 < k ∧ k < 11 then mRaise m (nI k) (if k = 10 then nI n else -1) else m
  | 8 => zMark m true
  | 9 => zMark (zAcc m (bI (qMark m))) false
  | 15 => if qHeld m (k % 2) = 0 then mRaise m 6 (-1) else m
  | 16 => if qHeld m (k % 2) = 0 then mRaise m 6 (-1) else mIntr m
  | 17 => mIntr m
  | 18 => zAcc m (bI (decide (0 < qHeld m (k % 2))))
  | 19 => zCtr m (qCtr m + v.toInt64)
  | _ => zStop m true
def mLim (m : MS) : Nat := if qOpen m = 0 then qSize m (qProg m) else qEnd m (qOpen m - 1)
def mPush (m : MS) (i z : Nat) : MS := zOpen (zLeft (zEnd (zBlk m (va_up (qBlk m) (qOpen m) i)) (va_up (qEnd m) (qOpen m) z)) (va_up (qLeft m) (qOpen m) (mK m i))) (qOpen m + 1)
def mEnter (m : MS) (i n : Nat) : MS := if mO m i = 14 ∧ mK m i = 0 then zAt m (min (i + 1 + n) (mLim m)) else if mO m i = 13 then zHeld (mPush m i (min (i + 1 + n) (mLim m))) (upd (qHeld m) (mK m i % 2) (qHeld m (mK m i % 2) + 1)) else mPush m i (min (i + 1 + n) (mLim m))
def mStep (th : Bool) (m : MS) : MS := if qSteps m = 400 then zStop m true else if 9 < mO m (qAt m) ∧ mO m (qAt m) < 15 then mEnter (zAt (zSteps m (qSteps m + 1)) (qAt m + 1)) (qAt m) (mG m (qAt m) % 16) else if mO m (qAt m) = 21 then zAt (zAcc (zSteps m (qSteps m + 1)) (if th = true then 20 + nI (qProg m) else 10)) (qAt m + 1) else zAt (mAct (zSteps m (qSteps m + 1)) (mO m (qAt m)) (nI (mG m (qAt m)) - 100) (mG m (qAt m) % 16) (mG m (qAt m) / 16)) (qAt m + 1)
def mPop (m : MS) (d : Nat) : MS := zAt (zOpen m d) (qEnd m d)
def mCau (m : MS) (d : Nat) : MS := zAt (zTr (zAcc (zCat (mPop m d) (qCat m + 1)) (1000 + 16 * qTr m + (if qTr m = 10 then qNum m else 0))) (-1)) (qBlk m d)
def mCaught (m : MS) (d : Nat) : MS := if mK m (qBlk m d) = 14 then zAt (zOrg (zNum (zTr (mCau m d) 10) 14) (nI (qBlk m d))) (qEnd m d) else zAt (mCau m d) (qEnd m d)
def mLeave (m : MS) (d : Nat) : MS := match mO m (qBlk m d) with
  | 10 => if ¬ qTr m < 0 ∧ mTakes (mK m (qBlk m d)) (qTr m) = true then mCaught m d else mPop m d
  | 11 => zAcc (zFin (mPop m d) (qFin m + 1)) (-qAcc m)
  | 12 => zStop (zTr (zFin (mPop m d) (qFin m + 1)) (-1)) false
  | 13 => zHeld (mPop m d) (upd (qHeld m) (mK m (qBlk m d) % 2) (qHeld m (mK m (qBlk m d) % 2) - 1))
  | _ => if qTr m < 0 ∧ qStop m = false ∧ 1 < qLeft m d then zOpen (zAt (zLeft (mPop m d) (va_up (qLeft m) d (qLeft m d - 1))) (qBlk m d + 1)) (d + 1) else mPop m d
def mGo (m : MS) : Bool := decide (qTr m < 0) && !(qStop m)
def mLoop (th : Bool) : Nat → MS → MS
  | 0, m => m
  | n + 1, m => if 0 < qOpen m ∧ (mGo m = false ∨ qAt m = qEnd m (qOpen m - 1)) then mLoop th n (mLeave m (qOpen m - 1)) else if mGo m = false ∨ qAt m = qSize m (qProg m) then m else mLoop th n (mStep th m)
/-- eight places of a row of forty-eight -/
def blk8 (f : Nat → Int32) (p : Nat) (g : Nat → Int32) : Nat → Int32 := fun q => if p * 8 ≤ q ∧ q < p * 8 + 8 then g (q - p * 8) else f q
def mBegin (m : MS) (p : Nat) : MS := zHeld (zCell (zMark (zStop (zNum (zOrg (zTr (zAt (zOpen (zAcc (zSteps (zFin (zCat (zProg m p) 0) 0) 0) 0) 0) 0) (-1)) (-1)) (-1)) false) false) (fun _ => 0)) (fun _ => 0)
def mOut (m : MS) : Int32 := if qTr m < 0 then 0 else 100 + qTr m
def mTl (m : MS) (k : Nat) : Int32 := match k with
  | 0 => mOut m
  | 1 => qAcc m
  | 2 => qSteps m
  | 3 => qFin m
  | 4 => qCat m
  | 5 => if qTr m < 0 then -1 else qOrg m
  | 6 => if qTr m = 10 then qNum m else -1
  | _ => bI (qMark m)
def mCnt (th : Bool) (m : MS) : MS := if qTr m < 0 then (if th = true then zThr (zRuns m (qRuns m + 1)) (qThr m + 1) else zRuns m (qRuns m + 1)) else (if th = true then zTrd (zThr (zRuns m (qRuns m + 1)) (qThr m + 1)) (qTrd m + 1) else zTrd (zRuns m (qRuns m + 1)) (qTrd m + 1))
def mTail (th : Bool) (p : Nat) (m : MS) : Int32 × MS := (mOut m, zRan (zCls (zTold (mCnt th m) (blk8 (qTold m) p (mTl m))) (blk8 (qCls m) p (qCell m))) (va_up (qRan m) p true))
def mPerf (th : Bool) (p : Nat) (m : MS) : Int32 × MS := mTail th p (mLoop th 100000 (mBegin m p))
def mForget (m : MS) (p : Nat) : MS := zCls (zRan m (va_up (qRan m) p false)) (blk8 (qCls m) p (fun _ => 0))
/-- what holds of the machine between its steps -/
def mOk (m : MS) : Prop := qProg m < 6 ∧ qSize m (qProg m) ≤ 14 ∧ (∀ i, i < qSize m (qProg m) → mO m i ≤ 21 ∧ mG m i ≤ 255) ∧ qOpen m < 15 ∧
  (∀ j, j < qOpen m → j ≤ qBlk m j ∧ qBlk m j < qEnd m j ∧ qEnd m j ≤ qSize m (qProg m) ∧ (∀ k, j = k + 1 → qEnd m j ≤ qEnd m k) ∧ 10 ≤ mO m (qBlk m j) ∧ mO m (qBlk m j) ≤ 14 ∧ qLeft m j < 16) ∧
  (mGo m = true → qOpen m ≤ qAt m ∧ qAt m ≤ mLim m)
end
section
theorem isI_neg {x y : Int32} (h : x < 0) : (0 : Int32) = bI (isI x y) := by
  have : isI x y = false := by unfold isI; exact decide_eq_false (fun q => q.1 h)
  rw [this]; rfl
theorem isI_big {x y : Int32} (h : y ≤ x) : (0 : Int32) = bI (isI x y) := by
  have : isI x y = false := by unfold isI; exact decide_eq_false (fun q => q.2 h)
  rw [this]; rfl
theorem isI_yes {x y : Int32} (h : ¬ x < 0) (h2 : ¬ y ≤ x) : (1 : Int32) = bI (isI x y) := by
  have : isI x y = true := by unfold isI; exact decide_eq_true ⟨h, h2⟩
  rw [this]; rfl
theorem isI_in {x : Int32} (h : isI x 8 = true) : vp_in x 8 := by
  unfold isI at h
  have h2 := of_decide_eq_true h
  rw [vp_in_iff]
  have a1 : ¬ x.toInt < 0 := fun q => h2.1 (Int32.lt_iff_toInt_lt.mpr q)
  have a2 : ¬ (8 : Int32).toInt ≤ x.toInt := fun q => h2.2 (Int32.le_iff_toInt_le.mpr q)
  have a3 : (8 : Int32).toInt = 8 := rfl
  rw [a3] at a2
  omega
theorem mTakes_low {K : Nat} (h : K < 11) (t : Int32) : mTakes K t = decide (nI K = t) := if_pos h
theorem bd_no {x : Int32} (h : ¬ 0 < x) : (0 : Int32) = bI (decide (0 < x)) := by rw [decide_eq_false h]; rfl
theorem bd_yes {x : Int32} (h : 0 < x) : (1 : Int32) = bI (decide (0 < x)) := by rw [decide_eq_true h]; rfl
set_option maxHeartbeats 8000000 in
set_option maxRecDepth 100000 in
theorem c_Md_in (l : Launch) (D : va_G) (cI cZ : ClassId) (a : Nat → Nat) (m : MS) (x y : Int32) : Met l yMd_in (ce_ws yMd_in cMd_in 2 (some .boolean)) (ce_rm 0) (cm_Pc D cI cZ [.int x, .int y] (wM a cI cZ m)) (vp_Si (fun r => r = bI (isI x y))) 0 0 (fun _ => False) := by
  refine Met.ofW (cc := cMd_in) (maxL := 2) (ret := (some .boolean)) (by decide) rfl ?_
  intro p e s mi args below meth c s₁ B hml hv
  obtain ⟨rfl, hP, hK⟩ := hv
  have hx := B.exec
  have hb := B.bytes
  have hr := B.returns
  have hts := atoms_spec (ws := ce_ws yMd_in cMd_in 2 (some .boolean)) B.pre
  have hown : s.vm.findClass RMd = some mi.cls := findClass_of_methodNamed B.named
  have hlocks := B.notSynchronized
  have hl := lv_entry ([.int x, .int y]) (n := 2) (Nat.le_of_ble_eq_true rfl)
  rw [lg_entry_eq]
  generalize (lg_sl ([.int x, .int y]) ++ List.replicate (2 - (lg_sl ([.int x, .int y])).length) Slot.unset).toArray = ls at hl ⊢
  have hl : lv_has ls 2 [(0, .int x), (1, .int y)] := hl
  refine lv_iload_n hx hb dMd_in_0 rfl (lv_at hl 0 rfl) ?_
  refine lv_if_lt (tgt := 13) hx hb dMd_in_1 (by decide) (fun c_1 => ?_) (fun c_1 => ?_)
  · -- 1 taken
    refine lv_iconst (v := 0) hx hb dMd_in_13 (by decide) ?_
    exact W.zret (v := 0) hx hb hr rfl (fun t9 ht hW => ⟨0, rfl, isI_neg c_1, ht⟩) (fun _ h => by cases h) dMd_in_14
  · -- 1 not taken
    refine lv_iload_n hx hb dMd_in_4 rfl (lv_at hl 0 rfl) ?_
    refine lv_iload_n hx hb dMd_in_5 rfl (lv_at hl 1 rfl) ?_
    refine lv_icmp_ge (tgt := 13) hx hb dMd_in_6 (by decide) (fun c_2 => ?_) (fun c_2 => ?_)
    · -- 6 taken
      refine lv_iconst (v := 0) hx hb dMd_in_13 (by decide) ?_
      exact W.zret (v := 0) hx hb hr rfl (fun t9 ht hW => ⟨0, rfl, isI_big c_2, ht⟩) (fun _ h => by cases h) dMd_in_14
    · -- 6 not taken
      refine lv_iconst (v := 1) hx hb dMd_in_9 (by decide) ?_
      refine lv_goto (tgt := 14) hx hb dMd_in_10 (by decide) ?_
      exact W.zret (v := 1) hx hb hr rfl (fun t9 ht hW => ⟨1, rfl, isI_yes c_1 c_2, ht⟩) (fun _ h => by cases h) dMd_in_14
set_option maxHeartbeats 8000000 in
set_option maxRecDepth 100000 in
theorem c_Md_takes (l : Launch) (D : va_G) (cI cZ : ClassId) (a : Nat → Nat) (m : MS) (K : Nat) (hK16 : K < 16) (t : Int32) : Met l yMd_takes (ce_ws yMd_takes cMd_takes 2 (some .boolean)) (ce_rm 0) (cm_Pc D cI cZ [.int (nI K), .int t] (wM a cI cZ m)) (vp_Si (fun r => r = bI (mTakes K t))) 0 0 (fun _ => False) := by
  refine Met.ofW (cc := cMd_takes) (maxL := 2) (ret := (some .boolean)) (by decide) rfl ?_
  intro p e s mi args below meth c s₁ B hml hv
  obtain ⟨rfl, hP, hK⟩ := hv
  have hx := B.exec
  have hb := B.bytes
  have hr := B.returns
  have hts := atoms_spec (ws := ce_ws yMd_takes cMd_takes 2 (some .boolean)) B.pre
  have hown : s.vm.findClass RMd = some mi.cls := findClass_of_methodNamed B.named
  have hlocks := B.notSynchronized
  have hl := lv_entry ([.int (nI K), .int t]) (n := 2) (Nat.le_of_ble_eq_true rfl)
  rw [lg_entry_eq]
  generalize (lg_sl ([.int (nI K), .int t]) ++ List.replicate (2 - (lg_sl ([.int (nI K), .int t])).length) Slot.unset).toArray = ls at hl ⊢
  have hl : lv_has ls 2 [(0, .int (nI K)), (1, .int t)] := hl
  rcases (show K < 11 ∨ K = 11 ∨ K = 12 ∨ K = 13 ∨ K = 14 ∨ K = 15 by omega) with hk | rfl | rfl | rfl | rfl | rfl
  ·
    refine lv_iload_n hx hb dMd_takes_0 rfl (lv_at hl 0 rfl) ?_
    refine lv_bipush (v := 11) hx hb dMd_takes_1 (by decide) ?_
    refine lv_icmp_ge (tgt := 17) hx hb dMd_takes_3 (by decide) (fun c_1 => ?_) (fun c_1 => ?_)
    · -- 3 taken
      exact absurd c_1 (nI_ge (a := K) (b := 11) hk (by decide))
    · -- 3 not taken
      refine lv_iload_n hx hb dMd_takes_6 rfl (lv_at hl 0 rfl) ?_
      refine lv_iload_n hx hb dMd_takes_7 rfl (lv_at hl 1 rfl) ?_
      refine lv_icmp_ne (tgt := 15) hx hb dMd_takes_8 (by decide) (fun c_2 => ?_) (fun c_2 => ?_)
      · -- 8 taken
        refine lv_iconst (v := 0) hx hb dMd_takes_15 (by decide) ?_
        exact W.zret (v := 0) hx hb hr rfl (fun t9 ht hW => ⟨0, rfl, by rw [mTakes_low hk]; simp [bI, *], ht⟩) (fun _ h => by cases h) dMd_takes_16
      · -- 8 not taken
        refine lv_iconst (v := 1) hx hb dMd_takes_11 (by decide) ?_
        refine lv_goto (tgt := 16) hx hb dMd_takes_12 (by decide) ?_
        exact W.zret (v := 1) hx hb hr rfl (fun t9 ht hW => ⟨1, rfl, by rw [mTakes_low hk]; simp [bI, *], ht⟩) (fun _ h => by cases h) dMd_takes_16
  ·
    refine lv_iload_n hx hb dMd_takes_0 rfl (lv_at hl 0 rfl) ?_
    refine lv_bipush (v := 11) hx hb dMd_takes_1 (by decide) ?_
    refine lv_icmp_ge (tgt := 17) hx hb dMd_takes_3 (by decide) (fun c_3 => ?_) (fun c_3 => ?_)
    · -- 3 taken
      refine lv_iload_n hx hb dMd_takes_17 rfl (lv_at hl 0 rfl) ?_
      refine lv_bipush (v := 11) hx hb dMd_takes_18 (by decide) ?_
      refine lv_icmp_eq (tgt := 29) hx hb dMd_takes_20 (by decide) (fun c_4 => ?_) (fun c_4 => ?_)
      · -- 20 taken
        refine lv_iload_n hx hb dMd_takes_29 rfl (lv_at hl 1 rfl) ?_
        refine lv_bipush (v := 7) hx hb dMd_takes_30 (by decide) ?_
        refine lv_icmp_lt (tgt := 47) hx hb dMd_takes_32 (by decide) (fun c_5 => ?_) (fun c_5 => ?_)
        · -- 32 taken
          refine lv_iconst (v := 1) hx hb dMd_takes_47 (by decide) ?_
          refine lv_goto (tgt := 52) hx hb dMd_takes_48 (by decide) ?_
          exact W.zret (v := 1) hx hb hr rfl (fun t9 ht hW => ⟨1, rfl, by simp [mTakes, bI, *], ht⟩) (fun _ h => by cases h) dMd_takes_52
        · -- 32 not taken
          refine lv_iload_n hx hb dMd_takes_35 rfl (lv_at hl 1 rfl) ?_
          refine lv_bipush (v := 8) hx hb dMd_takes_36 (by decide) ?_
          refine lv_icmp_eq (tgt := 47) hx hb dMd_takes_38 (by decide) (fun c_6 => ?_) (fun c_6 => ?_)
          · -- 38 taken
            refine lv_iconst (v := 1) hx hb dMd_takes_47 (by decide) ?_
            refine lv_goto (tgt := 52) hx hb dMd_takes_48 (by decide) ?_
            exact W.zret (v := 1) hx hb hr rfl (fun t9 ht hW => ⟨1, rfl, by simp [mTakes, bI, *], ht⟩) (fun _ h => by cases h) dMd_takes_52
          · -- 38 not taken
            refine lv_iload_n hx hb dMd_takes_41 rfl (lv_at hl 1 rfl) ?_
            refine lv_bipush (v := 9) hx hb dMd_takes_42 (by decide) ?_
            refine lv_icmp_ne (tgt := 51) hx hb dMd_takes_44 (by decide) (fun c_7 => ?_) (fun c_7 => ?_)
            · -- 44 taken
              refine lv_iconst (v := 0) hx hb dMd_takes_51 (by decide) ?_
              exact W.zret (v := 0) hx hb hr rfl (fun t9 ht hW => ⟨0, rfl, by simp [mTakes, bI, *], ht⟩) (fun _ h => by cases h) dMd_takes_52
            · -- 44 not taken
              refine lv_iconst (v := 1) hx hb dMd_takes_47 (by decide) ?_
              refine lv_goto (tgt := 52) hx hb dMd_takes_48 (by decide) ?_
              exact W.zret (v := 1) hx hb hr rfl (fun t9 ht hW => ⟨1, rfl, by simp [mTakes, bI, *], ht⟩) (fun _ h => by cases h) dMd_takes_52
      · -- 20 not taken
        exact absurd c_4 (by decide)
    · -- 3 not taken
      exact absurd c_3 (by decide)
  ·
    refine lv_iload_n hx hb dMd_takes_0 rfl (lv_at hl 0 rfl) ?_
    refine lv_bipush (v := 11) hx hb dMd_takes_1 (by decide) ?_
    refine lv_icmp_ge (tgt := 17) hx hb dMd_takes_3 (by decide) (fun c_8 => ?_) (fun c_8 => ?_)
    · -- 3 taken
      refine lv_iload_n hx hb dMd_takes_17 rfl (lv_at hl 0 rfl) ?_
      refine lv_bipush (v := 11) hx hb dMd_takes_18 (by decide) ?_
      refine lv_icmp_eq (tgt := 29) hx hb dMd_takes_20 (by decide) (fun c_9 => ?_) (fun c_9 => ?_)
      · -- 20 taken
        exact absurd c_9 (by decide)
      · -- 20 not taken
        refine lv_iload_n hx hb dMd_takes_23 rfl (lv_at hl 0 rfl) ?_
        refine lv_bipush (v := 14) hx hb dMd_takes_24 (by decide) ?_
        refine lv_icmp_ne (tgt := 53) hx hb dMd_takes_26 (by decide) (fun c_10 => ?_) (fun c_10 => ?_)
        · -- 26 taken
          refine lv_iload_n hx hb dMd_takes_53 rfl (lv_at hl 0 rfl) ?_
          refine lv_bipush (v := 12) hx hb dMd_takes_54 (by decide) ?_
          refine lv_icmp_ne (tgt := 76) hx hb dMd_takes_56 (by decide) (fun c_11 => ?_) (fun c_11 => ?_)
          · -- 56 taken
            exact absurd c_11 (by decide)
          · -- 56 not taken
            refine lv_iload_n hx hb dMd_takes_59 rfl (lv_at hl 1 rfl) ?_
            refine lv_iconst (v := 1) hx hb dMd_takes_60 (by decide) ?_
            refine lv_icmp_eq (tgt := 70) hx hb dMd_takes_61 (by decide) (fun c_12 => ?_) (fun c_12 => ?_)
            · -- 61 taken
              refine lv_iconst (v := 1) hx hb dMd_takes_70 (by decide) ?_
              refine lv_goto (tgt := 75) hx hb dMd_takes_71 (by decide) ?_
              exact W.zret (v := 1) hx hb hr rfl (fun t9 ht hW => ⟨1, rfl, by simp [mTakes, bI, *], ht⟩) (fun _ h => by cases h) dMd_takes_75
            · -- 61 not taken
              refine lv_iload_n hx hb dMd_takes_64 rfl (lv_at hl 1 rfl) ?_
              refine lv_bipush (v := 9) hx hb dMd_takes_65 (by decide) ?_
              refine lv_icmp_ne (tgt := 74) hx hb dMd_takes_67 (by decide) (fun c_13 => ?_) (fun c_13 => ?_)
              · -- 67 taken
                refine lv_iconst (v := 0) hx hb dMd_takes_74 (by decide) ?_
                exact W.zret (v := 0) hx hb hr rfl (fun t9 ht hW => ⟨0, rfl, by simp [mTakes, bI, *], ht⟩) (fun _ h => by cases h) dMd_takes_75
              · -- 67 not taken
                refine lv_iconst (v := 1) hx hb dMd_takes_70 (by decide) ?_
                refine lv_goto (tgt := 75) hx hb dMd_takes_71 (by decide) ?_
                exact W.zret (v := 1) hx hb hr rfl (fun t9 ht hW => ⟨1, rfl, by simp [mTakes, bI, *], ht⟩) (fun _ h => by cases h) dMd_takes_75
        · -- 26 not taken
          exact absurd c_10 (by decide)
    · -- 3 not taken
      exact absurd c_8 (by decide)
  ·
    refine lv_iload_n hx hb dMd_takes_0 rfl (lv_at hl 0 rfl) ?_
    refine lv_bipush (v := 11) hx hb dMd_takes_1 (by decide) ?_
    refine lv_icmp_ge (tgt := 17) hx hb dMd_takes_3 (by decide) (fun c_14 => ?_) (fun c_14 => ?_)
    · -- 3 taken
      refine lv_iload_n hx hb dMd_takes_17 rfl (lv_at hl 0 rfl) ?_
      refine lv_bipush (v := 11) hx hb dMd_takes_18 (by decide) ?_
      refine lv_icmp_eq (tgt := 29) hx hb dMd_takes_20 (by decide) (fun c_15 => ?_) (fun c_15 => ?_)
      · -- 20 taken
        exact absurd c_15 (by decide)
      · -- 20 not taken
        refine lv_iload_n hx hb dMd_takes_23 rfl (lv_at hl 0 rfl) ?_
        refine lv_bipush (v := 14) hx hb dMd_takes_24 (by decide) ?_
        refine lv_icmp_ne (tgt := 53) hx hb dMd_takes_26 (by decide) (fun c_16 => ?_) (fun c_16 => ?_)
        · -- 26 taken
          refine lv_iload_n hx hb dMd_takes_53 rfl (lv_at hl 0 rfl) ?_
          refine lv_bipush (v := 12) hx hb dMd_takes_54 (by decide) ?_
          refine lv_icmp_ne (tgt := 76) hx hb dMd_takes_56 (by decide) (fun c_17 => ?_) (fun c_17 => ?_)
          · -- 56 taken
            refine lv_iload_n hx hb dMd_takes_76 rfl (lv_at hl 0 rfl) ?_
            refine lv_bipush (v := 15) hx hb dMd_takes_77 (by decide) ?_
            refine lv_icmp_eq (tgt := 94) hx hb dMd_takes_79 (by decide) (fun c_18 => ?_) (fun c_18 => ?_)
            · -- 79 taken
              exact absurd c_18 (by decide)
            · -- 79 not taken
              refine lv_iload_n hx hb dMd_takes_82 rfl (lv_at hl 1 rfl) ?_
              refine lv_bipush (v := 7) hx hb dMd_takes_83 (by decide) ?_
              refine lv_icmp_eq (tgt := 94) hx hb dMd_takes_85 (by decide) (fun c_19 => ?_) (fun c_19 => ?_)
              · -- 85 taken
                refine lv_iconst (v := 1) hx hb dMd_takes_94 (by decide) ?_
                refine lv_goto (tgt := 99) hx hb dMd_takes_95 (by decide) ?_
                exact W.zret (v := 1) hx hb hr rfl (fun t9 ht hW => ⟨1, rfl, by simp [mTakes, bI, *], ht⟩) (fun _ h => by cases h) dMd_takes_99
              · -- 85 not taken
                refine lv_iload_n hx hb dMd_takes_88 rfl (lv_at hl 1 rfl) ?_
                refine lv_bipush (v := 10) hx hb dMd_takes_89 (by decide) ?_
                refine lv_icmp_ne (tgt := 98) hx hb dMd_takes_91 (by decide) (fun c_20 => ?_) (fun c_20 => ?_)
                · -- 91 taken
                  refine lv_iconst (v := 0) hx hb dMd_takes_98 (by decide) ?_
                  exact W.zret (v := 0) hx hb hr rfl (fun t9 ht hW => ⟨0, rfl, by simp [mTakes, bI, *], ht⟩) (fun _ h => by cases h) dMd_takes_99
                · -- 91 not taken
                  refine lv_iconst (v := 1) hx hb dMd_takes_94 (by decide) ?_
                  refine lv_goto (tgt := 99) hx hb dMd_takes_95 (by decide) ?_
                  exact W.zret (v := 1) hx hb hr rfl (fun t9 ht hW => ⟨1, rfl, by simp [mTakes, bI, *], ht⟩) (fun _ h => by cases h) dMd_takes_99
          · -- 56 not taken
            exact absurd c_17 (by decide)
        · -- 26 not taken
          exact absurd c_16 (by decide)
    · -- 3 not taken
      exact absurd c_14 (by decide)
  ·
    refine lv_iload_n hx hb dMd_takes_0 rfl (lv_at hl 0 rfl) ?_
    refine lv_bipush (v := 11) hx hb dMd_takes_1 (by decide) ?_
    refine lv_icmp_ge (tgt := 17) hx hb dMd_takes_3 (by decide) (fun c_21 => ?_) (fun c_21 => ?_)
    · -- 3 taken
      refine lv_iload_n hx hb dMd_takes_17 rfl (lv_at hl 0 rfl) ?_
      refine lv_bipush (v := 11) hx hb dMd_takes_18 (by decide) ?_
      refine lv_icmp_eq (tgt := 29) hx hb dMd_takes_20 (by decide) (fun c_22 => ?_) (fun c_22 => ?_)
      · -- 20 taken
        exact absurd c_22 (by decide)
      · -- 20 not taken
        refine lv_iload_n hx hb dMd_takes_23 rfl (lv_at hl 0 rfl) ?_
        refine lv_bipush (v := 14) hx hb dMd_takes_24 (by decide) ?_
        refine lv_icmp_ne (tgt := 53) hx hb dMd_takes_26 (by decide) (fun c_23 => ?_) (fun c_23 => ?_)
        · -- 26 taken
          exact absurd c_23 (by decide)
        · -- 26 not taken
          refine lv_iload_n hx hb dMd_takes_29 rfl (lv_at hl 1 rfl) ?_
          refine lv_bipush (v := 7) hx hb dMd_takes_30 (by decide) ?_
          refine lv_icmp_lt (tgt := 47) hx hb dMd_takes_32 (by decide) (fun c_24 => ?_) (fun c_24 => ?_)
          · -- 32 taken
            refine lv_iconst (v := 1) hx hb dMd_takes_47 (by decide) ?_
            refine lv_goto (tgt := 52) hx hb dMd_takes_48 (by decide) ?_
            exact W.zret (v := 1) hx hb hr rfl (fun t9 ht hW => ⟨1, rfl, by simp [mTakes, bI, *], ht⟩) (fun _ h => by cases h) dMd_takes_52
          · -- 32 not taken
            refine lv_iload_n hx hb dMd_takes_35 rfl (lv_at hl 1 rfl) ?_
            refine lv_bipush (v := 8) hx hb dMd_takes_36 (by decide) ?_
            refine lv_icmp_eq (tgt := 47) hx hb dMd_takes_38 (by decide) (fun c_25 => ?_) (fun c_25 => ?_)
            · -- 38 taken
              refine lv_iconst (v := 1) hx hb dMd_takes_47 (by decide) ?_
              refine lv_goto (tgt := 52) hx hb dMd_takes_48 (by decide) ?_
              exact W.zret (v := 1) hx hb hr rfl (fun t9 ht hW => ⟨1, rfl, by simp [mTakes, bI, *], ht⟩) (fun _ h => by cases h) dMd_takes_52
            · -- 38 not taken
              refine lv_iload_n hx hb dMd_takes_41 rfl (lv_at hl 1 rfl) ?_
              refine lv_bipush (v := 9) hx hb dMd_takes_42 (by decide) ?_
              refine lv_icmp_ne (tgt := 51) hx hb dMd_takes_44 (by decide) (fun c_26 => ?_) (fun c_26 => ?_)
              · -- 44 taken
                refine lv_iconst (v := 0) hx hb dMd_takes_51 (by decide) ?_
                exact W.zret (v := 0) hx hb hr rfl (fun t9 ht hW => ⟨0, rfl, by simp [mTakes, bI, *], ht⟩) (fun _ h => by cases h) dMd_takes_52
              · -- 44 not taken
                refine lv_iconst (v := 1) hx hb dMd_takes_47 (by decide) ?_
                refine lv_goto (tgt := 52) hx hb dMd_takes_48 (by decide) ?_
                exact W.zret (v := 1) hx hb hr rfl (fun t9 ht hW => ⟨1, rfl, by simp [mTakes, bI, *], ht⟩) (fun _ h => by cases h) dMd_takes_52
    · -- 3 not taken
      exact absurd c_21 (by decide)
  ·
    refine lv_iload_n hx hb dMd_takes_0 rfl (lv_at hl 0 rfl) ?_
    refine lv_bipush (v := 11) hx hb dMd_takes_1 (by decide) ?_
    refine lv_icmp_ge (tgt := 17) hx hb dMd_takes_3 (by decide) (fun c_27 => ?_) (fun c_27 => ?_)
    · -- 3 taken
      refine lv_iload_n hx hb dMd_takes_17 rfl (lv_at hl 0 rfl) ?_
      refine lv_bipush (v := 11) hx hb dMd_takes_18 (by decide) ?_
      refine lv_icmp_eq (tgt := 29) hx hb dMd_takes_20 (by decide) (fun c_28 => ?_) (fun c_28 => ?_)
      · -- 20 taken
        exact absurd c_28 (by decide)
      · -- 20 not taken
        refine lv_iload_n hx hb dMd_takes_23 rfl (lv_at hl 0 rfl) ?_
        refine lv_bipush (v := 14) hx hb dMd_takes_24 (by decide) ?_
        refine lv_icmp_ne (tgt := 53) hx hb dMd_takes_26 (by decide) (fun c_29 => ?_) (fun c_29 => ?_)
        · -- 26 taken
          refine lv_iload_n hx hb dMd_takes_53 rfl (lv_at hl 0 rfl) ?_
          refine lv_bipush (v := 12) hx hb dMd_takes_54 (by decide) ?_
          refine lv_icmp_ne (tgt := 76) hx hb dMd_takes_56 (by decide) (fun c_30 => ?_) (fun c_30 => ?_)
          · -- 56 taken
            refine lv_iload_n hx hb dMd_takes_76 rfl (lv_at hl 0 rfl) ?_
            refine lv_bipush (v := 15) hx hb dMd_takes_77 (by decide) ?_
            refine lv_icmp_eq (tgt := 94) hx hb dMd_takes_79 (by decide) (fun c_31 => ?_) (fun c_31 => ?_)
            · -- 79 taken
              refine lv_iconst (v := 1) hx hb dMd_takes_94 (by decide) ?_
              refine lv_goto (tgt := 99) hx hb dMd_takes_95 (by decide) ?_
              exact W.zret (v := 1) hx hb hr rfl (fun t9 ht hW => ⟨1, rfl, by simp [mTakes, bI, *], ht⟩) (fun _ h => by cases h) dMd_takes_99
            · -- 79 not taken
              exact absurd c_31 (by decide)
          · -- 56 not taken
            exact absurd c_30 (by decide)
        · -- 26 not taken
          exact absurd c_29 (by decide)
    · -- 3 not taken
      exact absurd c_27 (by decide)
set_option maxHeartbeats 8000000 in
set_option maxRecDepth 100000 in
theorem c_Md_raise (l : Launch) (D : va_G) (cI cZ : ClassId) (a : Nat → Nat) (hd : dM a) (m : MS) (x y : Int32) : Met l yMd_raise (ce_ws yMd_raise cMd_raise 3 none) (ce_rm 0) (cm_Pc D cI cZ [.ref (a 0), .int x, .int y] (wM a cI cZ m)) (va_Qv (fun m2 => m2 = mRaise m x y) (fun m2 t => va_P D vwCl (wM a cI cZ m2) t.heap) (aM a)) 0 0 (aM a) := by
  refine Met.ofW (cc := cMd_raise) (maxL := 3) (ret := none) (by decide) rfl ?_
  intro p e s mi args below meth c s₁ B hml hv
  obtain ⟨rfl, hP, hK⟩ := hv
  have hx := B.exec
  have hb := B.bytes
  have hr := B.returns
  have hts := atoms_spec (ws := ce_ws yMd_raise cMd_raise 3 none) B.pre
  have hown : s.vm.findClass RMd = some mi.cls := findClass_of_methodNamed B.named
  have hlocks := B.notSynchronized
  have hS : va_S (aM a) s.heap s.heap [] := va_S.rf
  have hl := lv_entry ([.ref (a 0), .int x, .int y]) (n := 3) (Nat.le_of_ble_eq_true rfl)
  rw [lg_entry_eq]
  generalize (lg_sl ([.ref (a 0), .int x, .int y]) ++ List.replicate (3 - (lg_sl ([.ref (a 0), .int x, .int y])).length) Slot.unset).toArray = ls at hl ⊢
  have hl : lv_has ls 3 [(0, .ref (a 0)), (1, .int x), (2, .int y)] := hl
  refine lv_aload_n hx hb dMd_raise_0 rfl (lv_at hl 0 rfl) ?_
  refine lv_iload_n hx hb dMd_raise_1 rfl (lv_at hl 1 rfl) ?_
  refine cm_pTr (x := x) hx hb hts hown hK hd hP hS lMd_52 dMd_raise_2 (fun H locs hP hS => ?_)
  refine lv_aload_n hx hb dMd_raise_5 rfl (lv_at hl 0 rfl) ?_
  refine lv_iload_n hx hb dMd_raise_6 rfl (lv_at hl 2 rfl) ?_
  refine cm_pNum (x := y) hx hb hts hown hK hd hP hS lMd_56 dMd_raise_7 (fun H locs hP hS => ?_)
  refine lv_aload_n hx hb dMd_raise_10 rfl (lv_at hl 0 rfl) ?_
  refine lv_aload_n hx hb dMd_raise_11 rfl (lv_at hl 0 rfl) ?_
  refine cm_g hx hb hts hown hK hP 17 (by decide) rfl lMd_59 rfl dMd_raise_12 ?_
  refine lv_topi (fun y_1 ey_1 => ?_)
  obtain rfl : y_1 = nI (qAt m) := ey_1.trans (by rw [qAt_zNum, qAt_zTr])
  refine cm_pOrg (x := nI (qAt m)) hx hb hts hown hK hd hP hS lMd_62 dMd_raise_15 (fun H locs hP hS => ?_)
  exact W.vret hx hb hr (fun t9 ht hW => ⟨⟨zOrg (zNum (zTr m x) y) (nI (qAt m)), rfl, rfl, ce_hp ht hP⟩, hS.F ht⟩) hS.2.2 dMd_raise_18
set_option maxHeartbeats 8000000 in
set_option maxRecDepth 100000 in
theorem c_Md_kOf (l : Launch) (D : va_G) (cI cZ : ClassId) (a : Nat → Nat) (m : MS) (i : Nat) (hp : qProg m < 6) (hi : i < 14) (h8 : mG m i ≤ 255) : Met l yMd_kOf (ce_ws yMd_kOf cMd_kOf 2 (some .int)) (ce_rm 0) (cm_Pc D cI cZ [.ref (a 0), .int (nI i)] (wM a cI cZ m)) (vp_Si (fun r => r = nI (mK m i))) 0 0 (fun _ => False) := by
  refine Met.ofW (cc := cMd_kOf) (maxL := 2) (ret := (some .int)) (by decide) rfl ?_
  intro p e s mi args below meth c s₁ B hml hv
  obtain ⟨rfl, hP, hK⟩ := hv
  have hx := B.exec
  have hb := B.bytes
  have hr := B.returns
  have hts := atoms_spec (ws := ce_ws yMd_kOf cMd_kOf 2 (some .int)) B.pre
  have hown : s.vm.findClass RMd = some mi.cls := findClass_of_methodNamed B.named
  have hlocks := B.notSynchronized
  have hl := lv_entry ([.ref (a 0), .int (nI i)]) (n := 2) (Nat.le_of_ble_eq_true rfl)
  rw [lg_entry_eq]
  generalize (lg_sl ([.ref (a 0), .int (nI i)]) ++ List.replicate (2 - (lg_sl ([.ref (a 0), .int (nI i)])).length) Slot.unset).toArray = ls at hl ⊢
  have hl : lv_has ls 2 [(0, .ref (a 0)), (1, .int (nI i))] := hl
  have h8 : qArg m (qProg m * 14 + i) ≤ 255 := h8
  refine lv_aload_n hx hb dMd_kOf_0 rfl (lv_at hl 0 rfl) ?_
  refine cm_g hx hb hts hown hK hP 1 (by decide) rfl lMd_13 rfl dMd_kOf_1 ?_
  refine lv_aload_n hx hb dMd_kOf_4 rfl (lv_at hl 0 rfl) ?_
  refine cm_g hx hb hts hown hK hP 16 (by decide) rfl lMd_65 rfl dMd_kOf_5 ?_
  refine lv_bipush (v := 14) hx hb dMd_kOf_8 (by decide) ?_
  refine lv_imul hx hb dMd_kOf_10 ?_
  refine lv_topi (fun y_1 ey_1 => ?_)
  obtain rfl : y_1 = nI (qProg m * 14) := ey_1.trans (pk_mul _ 14)
  refine lv_iload_n hx hb dMd_kOf_11 rfl (lv_at hl 1 rfl) ?_
  refine lv_iadd hx hb dMd_kOf_12 ?_
  refine lv_topi (fun y_2 ey_2 => ?_)
  obtain rfl : y_2 = nI (qProg m * 14 + i) := ey_2.trans (nI_add _ _)
  refine cm_lArg (i := (qProg m * 14 + i)) (by omega) hx hb hK hP dMd_kOf_13 ?_
  refine lv_bipush (v := 16) hx hb dMd_kOf_14 (by decide) ?_
  refine lv_idiv hx hb dMd_kOf_16 (by decide) ?_
  exact W.iret (v := (nI (qArg m (qProg m * 14 + i))) / 16) hx hb hr (fun t9 ht hW => ⟨(nI (qArg m (qProg m * 14 + i))) / 16, rfl, pk_div (d := 16) (by omega) (by decide) (by decide), ht⟩) (fun _ h => by cases h) dMd_kOf_17
set_option maxHeartbeats 8000000 in
set_option maxRecDepth 100000 in
theorem c_Md_divide (l : Launch) (D : va_G) (cI cZ : ClassId) (a : Nat → Nat) (hd : dM a) (m : MS) (x : Int32) (b : Bool) : Met l yMd_divide (ce_ws yMd_divide cMd_divide 3 none) (ce_rm 1) (cm_Pc D cI cZ [.ref (a 0), .int x, .int (bI b)] (wM a cI cZ m)) (va_Qv (fun m2 => m2 = mDivide m x b) (fun m2 t => va_P D vwCl (wM a cI cZ m2) t.heap) (aM a)) 0 0 (aM a) := by
  refine Met.ofW (cc := cMd_divide) (maxL := 3) (ret := none) (by decide) rfl ?_
  intro p e s mi args below meth c s₁ B hml hv
  obtain ⟨rfl, hP, hK⟩ := hv
  have hx := B.exec
  have hb := B.bytes
  have hr := B.returns
  have hts := atoms_spec (ws := ce_ws yMd_divide cMd_divide 3 none) B.pre
  have hown : s.vm.findClass RMd = some mi.cls := findClass_of_methodNamed B.named
  have hlocks := B.notSynchronized
  have hS : va_S (aM a) s.heap s.heap [] := va_S.rf
  have hl := lv_entry ([.ref (a 0), .int x, .int (bI b)]) (n := 3) (Nat.le_of_ble_eq_true rfl)
  rw [lg_entry_eq]
  generalize (lg_sl ([.ref (a 0), .int x, .int (bI b)]) ++ List.replicate (3 - (lg_sl ([.ref (a 0), .int x, .int (bI b)])).length) Slot.unset).toArray = ls at hl ⊢
  have hl : lv_has ls 3 [(0, .ref (a 0)), (1, .int x), (2, .int (bI b))] := hl
  refine lv_iload_n hx hb dMd_divide_0 rfl (lv_at hl 1 rfl) ?_
  refine lv_if_ne (tgt := 13) hx hb dMd_divide_1 (by decide) (fun c_1 => ?_) (fun c_1 => ?_)
  · -- 1 taken
    refine lv_aload_n hx hb dMd_divide_13 rfl (lv_at hl 0 rfl) ?_
    refine lv_iload_n hx hb dMd_divide_14 rfl (lv_at hl 2 rfl) ?_
    refine lv_if_eq (tgt := 27) hx hb dMd_divide_15 (by decide) (fun c_2 => ?_) (fun c_2 => ?_)
    · -- 15 taken
      refine lv_aload_n hx hb dMd_divide_27 rfl (lv_at hl 0 rfl) ?_
      refine cm_g hx hb hts hown hK hP 18 (by decide) rfl lMd_78 rfl dMd_divide_28 ?_
      refine lv_iload_n hx hb dMd_divide_31 rfl (lv_at hl 1 rfl) ?_
      refine lv_idiv hx hb dMd_divide_32 c_1 ?_
      refine cm_pAcc (x := (qAcc m) / x) hx hb hts hown hK hd hP hS lMd_78 dMd_divide_33 (fun H locs hP hS => ?_)
      exact W.vret hx hb hr (fun t9 ht hW => ⟨⟨zAcc m ((qAcc m) / x), rfl, ((if_neg c_1).trans (if_neg (by rw [bI0 c_2]; decide))).symm, ce_hp ht hP⟩, hS.F ht⟩) hS.2.2 dMd_divide_36
    · -- 15 not taken
      refine lv_aload_n hx hb dMd_divide_18 rfl (lv_at hl 0 rfl) ?_
      refine cm_g hx hb hts hown hK hP 18 (by decide) rfl lMd_78 rfl dMd_divide_19 ?_
      refine lv_iload_n hx hb dMd_divide_22 rfl (lv_at hl 1 rfl) ?_
      refine lv_irem hx hb dMd_divide_23 c_1 ?_
      refine lv_goto (tgt := 33) hx hb dMd_divide_24 (by decide) ?_
      refine cm_pAcc (x := (qAcc m) - (qAcc m) / x * x) hx hb hts hown hK hd hP hS lMd_78 dMd_divide_33 (fun H locs hP hS => ?_)
      exact W.vret hx hb hr (fun t9 ht hW => ⟨⟨zAcc m ((qAcc m) - (qAcc m) / x * x), rfl, ((if_neg c_1).trans (if_pos (bI1 c_2))).symm, ce_hp ht hP⟩, hS.F ht⟩) hS.2.2 dMd_divide_36
  · -- 1 not taken
    refine lv_aload_n hx hb dMd_divide_4 rfl (lv_at hl 0 rfl) ?_
    refine lv_iconst (v := 0) hx hb dMd_divide_5 (by decide) ?_
    refine lv_iconst (v := (-1)) hx hb dMd_divide_6 (by decide) ?_
    refine cm_vv (As := [.int 0, .int (-1)]) (rest := []) ⟨hx, hb, hml, hown, hts⟩ (c_Md_raise l D cI cZ a hd m 0 (-1)) mMd_raise lMd_91 iMd_raise (ce_hR (by omega) (by decide)) ⟨rfl, rfl⟩ hK hP hS rfl hl.1 rfl (Nat.le_of_ble_eq_true rfl) dMd_divide_7 ⟨Nat.le_of_ble_eq_true rfl, Nat.le_of_ble_eq_true rfl⟩ (fun m_3 H locs em_3 hP hS => ?_)
    obtain rfl := em_3
    refine lv_goto (tgt := 36) hx hb dMd_divide_10 (by decide) ?_
    exact W.vret hx hb hr (fun t9 ht hW => ⟨⟨(mRaise m 0 (-1)), rfl, (if_pos c_1).symm, ce_hp ht hP⟩, hS.F ht⟩) hS.2.2 dMd_divide_36
set_option maxHeartbeats 8000000 in
set_option maxRecDepth 100000 in
theorem c_Md_touch (l : Launch) (D : va_G) (cI cZ : ClassId) (a : Nat → Nat) (hd : dM a) (m : MS) (x : Int32) (b : Bool) : Met l yMd_touch (ce_ws yMd_touch cMd_touch 3 none) (ce_rm 1) (cm_Pc D cI cZ [.ref (a 0), .int x, .int (bI b)] (wM a cI cZ m)) (va_Qv (fun m2 => m2 = mTouch m x b) (fun m2 t => va_P D vwCl (wM a cI cZ m2) t.heap) (aM a)) 0 0 (aM a) := by
  refine Met.ofW (cc := cMd_touch) (maxL := 3) (ret := none) (by decide) rfl ?_
  intro p e s mi args below meth c s₁ B hml hv
  obtain ⟨rfl, hP, hK⟩ := hv
  have hx := B.exec
  have hb := B.bytes
  have hr := B.returns
  have hts := atoms_spec (ws := ce_ws yMd_touch cMd_touch 3 none) B.pre
  have hown : s.vm.findClass RMd = some mi.cls := findClass_of_methodNamed B.named
  have hlocks := B.notSynchronized
  have hS : va_S (aM a) s.heap s.heap [] := va_S.rf
  have hl := lv_entry ([.ref (a 0), .int x, .int (bI b)]) (n := 3) (Nat.le_of_ble_eq_true rfl)
  rw [lg_entry_eq]
  generalize (lg_sl ([.ref (a 0), .int x, .int (bI b)]) ++ List.replicate (3 - (lg_sl ([.ref (a 0), .int x, .int (bI b)])).length) Slot.unset).toArray = ls at hl ⊢
  have hl : lv_has ls 3 [(0, .ref (a 0)), (1, .int x), (2, .int (bI b))] := hl
  refine lv_iload_n hx hb dMd_touch_0 rfl (lv_at hl 1 rfl) ?_
  refine lv_bipush (v := 8) hx hb dMd_touch_1 (by decide) ?_
  refine cm_si (As := [.int x, .int 8]) (rest := []) ⟨hx, hb, hml, hown, hts⟩ (c_Md_in l D cI cZ a _ x 8) mMd_in lMd_44 sMd_in (ce_hR (by omega) (by decide)) ⟨rfl, rfl⟩ hK hP rfl hl.1 rfl (Nat.le_of_ble_eq_true rfl) dMd_touch_3 ⟨Nat.le_of_ble_eq_true rfl, Nat.le_of_ble_eq_true rfl⟩ (fun r_1 er_1 => ?_)
  obtain rfl : r_1 = bI (isI x 8) := er_1
  refine lv_if_ne (tgt := 18) hx hb dMd_touch_6 (by decide) (fun c_2 => ?_) (fun c_2 => ?_)
  · -- 6 taken
    refine lv_iload_n hx hb dMd_touch_18 rfl (lv_at hl 2 rfl) ?_
    refine lv_if_eq (tgt := 35) hx hb dMd_touch_19 (by decide) (fun c_3 => ?_) (fun c_3 => ?_)
    · -- 19 taken
      refine lv_aload_n hx hb dMd_touch_35 rfl (lv_at hl 0 rfl) ?_
      refine cm_g hx hb hts hown hK hP 14 (by decide) rfl lMd_38 rfl dMd_touch_36 ?_
      refine lv_iload_n hx hb dMd_touch_39 rfl (lv_at hl 1 rfl) ?_
      refine lv_aload_n hx hb dMd_touch_40 rfl (lv_at hl 0 rfl) ?_
      refine cm_g hx hb hts hown hK hP 18 (by decide) rfl lMd_78 rfl dMd_touch_41 ?_
      refine cm_sCellV (i := x) (isI_in (bI1 c_2)) hx hb hK hd hP hS dMd_touch_44 (fun H locs hP hS => ?_)
      exact W.vret hx hb hr (fun t9 ht hW => ⟨⟨zCell m (upd (qCell m) (x).toNatClampNeg (qAcc m)), rfl, ((if_pos (bI1 c_2)).trans (if_neg (by rw [bI0 c_3]; decide))).symm, ce_hp ht hP⟩, hS.F ht⟩) hS.2.2 dMd_touch_45
    · -- 19 not taken
      refine lv_aload_n hx hb dMd_touch_22 rfl (lv_at hl 0 rfl) ?_
      refine lv_aload_n hx hb dMd_touch_23 rfl (lv_at hl 0 rfl) ?_
      refine cm_g hx hb hts hown hK hP 14 (by decide) rfl lMd_38 rfl dMd_touch_24 ?_
      refine lv_iload_n hx hb dMd_touch_27 rfl (lv_at hl 1 rfl) ?_
      refine cm_lCellV (i := x) (isI_in (bI1 c_2)) hx hb hK hP dMd_touch_28 ?_
      refine cm_pAcc (x := (qCell m) (x).toNatClampNeg) hx hb hts hown hK hd hP hS lMd_78 dMd_touch_29 (fun H locs hP hS => ?_)
      refine lv_goto (tgt := 45) hx hb dMd_touch_32 (by decide) ?_
      exact W.vret hx hb hr (fun t9 ht hW => ⟨⟨zAcc m ((qCell m) (x).toNatClampNeg), rfl, ((if_pos (bI1 c_2)).trans (if_pos (bI1 c_3))).symm, ce_hp ht hP⟩, hS.F ht⟩) hS.2.2 dMd_touch_45
  · -- 6 not taken
    refine lv_aload_n hx hb dMd_touch_9 rfl (lv_at hl 0 rfl) ?_
    refine lv_iconst (v := 1) hx hb dMd_touch_10 (by decide) ?_
    refine lv_iconst (v := (-1)) hx hb dMd_touch_11 (by decide) ?_
    refine cm_vv (As := [.int 1, .int (-1)]) (rest := []) ⟨hx, hb, hml, hown, hts⟩ (c_Md_raise l D cI cZ a hd m 1 (-1)) mMd_raise lMd_91 iMd_raise (ce_hR (by omega) (by decide)) ⟨rfl, rfl⟩ hK hP hS rfl hl.1 rfl (Nat.le_of_ble_eq_true rfl) dMd_touch_12 ⟨Nat.le_of_ble_eq_true rfl, Nat.le_of_ble_eq_true rfl⟩ (fun m_4 H locs em_4 hP hS => ?_)
    obtain rfl := em_4
    refine lv_goto (tgt := 45) hx hb dMd_touch_15 (by decide) ?_
    exact W.vret hx hb hr (fun t9 ht hW => ⟨⟨(mRaise m 1 (-1)), rfl, (if_neg (by rw [bI0 c_2]; decide)).symm, ce_hp ht hP⟩, hS.F ht⟩) hS.2.2 dMd_touch_45
set_option maxHeartbeats 8000000 in
set_option maxRecDepth 100000 in
theorem c_Md_interrupted (l : Launch) (D : va_G) (cI cZ : ClassId) (a : Nat → Nat) (hd : dM a) (m : MS) : Met l yMd_interrupted (ce_ws yMd_interrupted cMd_interrupted 1 none) (ce_rm 1) (cm_Pc D cI cZ [.ref (a 0)] (wM a cI cZ m)) (va_Qv (fun m2 => m2 = mIntr m) (fun m2 t => va_P D vwCl (wM a cI cZ m2) t.heap) (aM a)) 0 0 (aM a) := by
  refine Met.ofW (cc := cMd_interrupted) (maxL := 1) (ret := none) (by decide) rfl ?_
  intro p e s mi args below meth c s₁ B hml hv
  obtain ⟨rfl, hP, hK⟩ := hv
  have hx := B.exec
  have hb := B.bytes
  have hr := B.returns
  have hts := atoms_spec (ws := ce_ws yMd_interrupted cMd_interrupted 1 none) B.pre
  have hown : s.vm.findClass RMd = some mi.cls := findClass_of_methodNamed B.named
  have hlocks := B.notSynchronized
  have hS : va_S (aM a) s.heap s.heap [] := va_S.rf
  have hl := lv_entry ([.ref (a 0)]) (n := 1) (Nat.le_of_ble_eq_true rfl)
  rw [lg_entry_eq]
  generalize (lg_sl ([.ref (a 0)]) ++ List.replicate (1 - (lg_sl ([.ref (a 0)])).length) Slot.unset).toArray = ls at hl ⊢
  have hl : lv_has ls 1 [(0, .ref (a 0))] := hl
  refine lv_aload_n hx hb dMd_interrupted_0 rfl (lv_at hl 0 rfl) ?_
  refine cm_g hx hb hts hown hK hP 25 (by decide) rfl lMd_95 rfl dMd_interrupted_1 ?_
  refine lv_if_ne (tgt := 8) hx hb dMd_interrupted_4 (by decide) (fun c_1 => ?_) (fun c_1 => ?_)
  · -- 4 taken
    refine lv_aload_n hx hb dMd_interrupted_8 rfl (lv_at hl 0 rfl) ?_
    refine lv_iconst (v := 0) hx hb dMd_interrupted_9 (by decide) ?_
    refine cm_pMark (x := false) hx hb hts hown hK hd hP hS lMd_95 dMd_interrupted_10 (fun H locs hP hS => ?_)
    refine lv_aload_n hx hb dMd_interrupted_13 rfl (lv_at hl 0 rfl) ?_
    refine lv_bipush (v := 7) hx hb dMd_interrupted_14 (by decide) ?_
    refine lv_iconst (v := (-1)) hx hb dMd_interrupted_16 (by decide) ?_
    refine cm_vv (As := [.int 7, .int (-1)]) (rest := []) ⟨hx, hb, hml, hown, hts⟩ (c_Md_raise l D cI cZ a hd (zMark m false) 7 (-1)) mMd_raise lMd_91 iMd_raise (ce_hR (by omega) (by decide)) ⟨rfl, rfl⟩ hK hP hS rfl hl.1 rfl (Nat.le_of_ble_eq_true rfl) dMd_interrupted_17 ⟨Nat.le_of_ble_eq_true rfl, Nat.le_of_ble_eq_true rfl⟩ (fun m_2 H locs em_2 hP hS => ?_)
    obtain rfl := em_2
    exact W.vret hx hb hr (fun t9 ht hW => ⟨⟨(mRaise (zMark m false) 7 (-1)), rfl, (if_pos (bI1 c_1)).symm, ce_hp ht hP⟩, hS.F ht⟩) hS.2.2 dMd_interrupted_20
  · -- 4 not taken
    exact W.vret hx hb hr (fun t9 ht hW => ⟨⟨m, rfl, (if_neg (by rw [bI0 c_1]; decide)).symm, ce_hp ht hP⟩, hS.F ht⟩) hS.2.2 dMd_interrupted_7
end
section
set_option maxHeartbeats 8000000 in
set_option maxRecDepth 100000 in
theorem c_Md_act (l : Launch) (D : va_G) (cI cZ : ClassId) (a : Nat → Nat) (hd : dM a) (m : MS) (o : Nat) (x : Int32) (n k : Nat) (ho : o ≤ 9 ∨ (15 ≤ o ∧ o ≤ 20)) (hn : n < 16) (hk : k < 16) : Met l yMd_act (ce_ws yMd_act cMd_act 5 none) (ce_rm 2) (cm_Pc D cI cZ [.ref (a 0), .int (nI o), .int x, .int (nI n), .int (nI k)] (wM a cI cZ m)) (va_Qv (fun m2 => m2 = mAct m o x n k) (fun m2 t => va_P D vwCl (wM a cI cZ m2) t.heap) (aM a)) 0 0 (aM a) := by
  refine Met.ofW (cc := cMd_act) (maxL := 5) (ret := none) (by decide) rfl ?_
  intro p e s mi args below meth c s₁ B hml hv
  obtain ⟨rfl, hP, hK⟩ := hv
  have hx := B.exec
  have hb := B.bytes
  have hr := B.returns
  have hts := atoms_spec (ws := ce_ws yMd_act cMd_act 5 none) B.pre
  have hown : s.vm.findClass RMd = some mi.cls := findClass_of_methodNamed B.named
  have hlocks := B.notSynchronized
  have hS : va_S (aM a) s.heap s.heap [] := va_S.rf
  have hl := lv_entry ([.ref (a 0), .int (nI o), .int x, .int (nI n), .int (nI k)]) (n := 5) (Nat.le_of_ble_eq_true rfl)
  rw [lg_entry_eq]
  generalize (lg_sl ([.ref (a 0), .int (nI o), .int x, .int (nI n), .int (nI k)]) ++ List.replicate (5 - (lg_sl ([.ref (a 0), .int (nI o), .int x, .int (nI n), .int (nI k)])).length) Slot.unset).toArray = ls at hl ⊢
  have hl : lv_has ls 5 [(0, .ref (a 0)), (1, .int (nI o)), (2, .int x), (3, .int (nI n)), (4, .int (nI k))] := hl
  have hk2 : k % 2 < 2 := Nat.mod_lt _ (by decide)
  refine lv_iload_n hx hb dMd_act_0 rfl (lv_at hl 1 rfl) ?_
  rcases (show o = 0 ∨ o = 1 ∨ o = 2 ∨ o = 3 ∨ o = 4 ∨ o = 5 ∨ o = 6 ∨ o = 7 ∨ o = 8 ∨ o = 9 ∨ o = 15 ∨ o = 16 ∨ o = 17 ∨ o = 18 ∨ o = 19 ∨ o = 20 by omega) with rfl | rfl | rfl | rfl | rfl | rfl | rfl | rfl | rfl | rfl | rfl | rfl | rfl | rfl | rfl | rfl
  · -- op 0
    refine lv_tableIn (tgt := 96) hx hb dMd_act_1 (by decide) (by decide) rfl (by decide) ?_
    refine lv_aload_n hx hb dMd_act_96 rfl (lv_at hl 0 rfl) ?_
    refine lv_dup hx hb dMd_act_97 rfl ?_
    refine cm_g hx hb hts hown hK hP 18 (by decide) rfl lMd_78 rfl dMd_act_98 ?_
    refine lv_iload_n hx hb dMd_act_101 rfl (lv_at hl 2 rfl) ?_
    refine lv_iadd hx hb dMd_act_102 ?_
    refine cm_pAcc (x := (qAcc m) + x) hx hb hts hown hK hd hP hS lMd_78 dMd_act_103 (fun H locs hP hS => ?_)
    refine lv_goto (tgt := 351) hx hb dMd_act_106 (by decide) ?_
    exact W.vret hx hb hr (fun t9 ht hW => ⟨⟨zAcc m ((qAcc m) + x), rfl, rfl, ce_hp ht hP⟩, hS.F ht⟩) hS.2.2 dMd_act_351
  · -- op 1
    refine lv_tableIn (tgt := 109) hx hb dMd_act_1 (by decide) (by decide) rfl (by decide) ?_
    refine lv_aload_n hx hb dMd_act_109 rfl (lv_at hl 0 rfl) ?_
    refine lv_dup hx hb dMd_act_110 rfl ?_
    refine cm_g hx hb hts hown hK hP 18 (by decide) rfl lMd_78 rfl dMd_act_111 ?_
    refine lv_iload_n hx hb dMd_act_114 rfl (lv_at hl 2 rfl) ?_
    refine lv_imul hx hb dMd_act_115 ?_
    refine cm_pAcc (x := (qAcc m) * x) hx hb hts hown hK hd hP hS lMd_78 dMd_act_116 (fun H locs hP hS => ?_)
    refine lv_goto (tgt := 351) hx hb dMd_act_119 (by decide) ?_
    exact W.vret hx hb hr (fun t9 ht hW => ⟨⟨zAcc m ((qAcc m) * x), rfl, rfl, ce_hp ht hP⟩, hS.F ht⟩) hS.2.2 dMd_act_351
  · -- op 2
    refine lv_tableIn (tgt := 122) hx hb dMd_act_1 (by decide) (by decide) rfl (by decide) ?_
    refine lv_aload_n hx hb dMd_act_122 rfl (lv_at hl 0 rfl) ?_
    refine lv_iload_n hx hb dMd_act_123 rfl (lv_at hl 2 rfl) ?_
    refine lv_iload_n hx hb dMd_act_124 rfl (lv_at hl 1 rfl) ?_
    refine lv_iconst (v := 3) hx hb dMd_act_125 (by decide) ?_
    refine lv_icmp_ne (tgt := 133) hx hb dMd_act_126 (by decide) (fun c_1 => ?_) (fun c_1 => ?_)
    · -- 126 taken
      refine lv_iconst (v := 0) hx hb dMd_act_133 (by decide) ?_
      refine cm_vv (As := [.int x, .int 0]) (rest := []) ⟨hx, hb, hml, hown, hts⟩ (c_Md_divide l D cI cZ a hd m x false) mMd_divide lMd_98 iMd_divide (ce_hR (by omega) (by decide)) ⟨rfl, rfl⟩ hK hP hS rfl hl.1 rfl (Nat.le_of_ble_eq_true rfl) dMd_act_134 ⟨Nat.le_of_ble_eq_true rfl, Nat.le_of_ble_eq_true rfl⟩ (fun m_2 H locs em_2 hP hS => ?_)
      obtain rfl := em_2
      refine lv_goto (tgt := 351) hx hb dMd_act_137 (by decide) ?_
      exact W.vret hx hb hr (fun t9 ht hW => ⟨⟨(mDivide m x false), rfl, rfl, ce_hp ht hP⟩, hS.F ht⟩) hS.2.2 dMd_act_351
    · -- 126 not taken
      exact absurd c_1 (by decide)
  · -- op 3
    refine lv_tableIn (tgt := 122) hx hb dMd_act_1 (by decide) (by decide) rfl (by decide) ?_
    refine lv_aload_n hx hb dMd_act_122 rfl (lv_at hl 0 rfl) ?_
    refine lv_iload_n hx hb dMd_act_123 rfl (lv_at hl 2 rfl) ?_
    refine lv_iload_n hx hb dMd_act_124 rfl (lv_at hl 1 rfl) ?_
    refine lv_iconst (v := 3) hx hb dMd_act_125 (by decide) ?_
    refine lv_icmp_ne (tgt := 133) hx hb dMd_act_126 (by decide) (fun c_3 => ?_) (fun c_3 => ?_)
    · -- 126 taken
      exact absurd c_3 (by decide)
    · -- 126 not taken
      refine lv_iconst (v := 1) hx hb dMd_act_129 (by decide) ?_
      refine lv_goto (tgt := 134) hx hb dMd_act_130 (by decide) ?_
      refine cm_vv (As := [.int x, .int 1]) (rest := []) ⟨hx, hb, hml, hown, hts⟩ (c_Md_divide l D cI cZ a hd m x true) mMd_divide lMd_98 iMd_divide (ce_hR (by omega) (by decide)) ⟨rfl, rfl⟩ hK hP hS rfl hl.1 rfl (Nat.le_of_ble_eq_true rfl) dMd_act_134 ⟨Nat.le_of_ble_eq_true rfl, Nat.le_of_ble_eq_true rfl⟩ (fun m_4 H locs em_4 hP hS => ?_)
      obtain rfl := em_4
      refine lv_goto (tgt := 351) hx hb dMd_act_137 (by decide) ?_
      exact W.vret hx hb hr (fun t9 ht hW => ⟨⟨(mDivide m x true), rfl, rfl, ce_hp ht hP⟩, hS.F ht⟩) hS.2.2 dMd_act_351
  · -- op 4
    refine lv_tableIn (tgt := 140) hx hb dMd_act_1 (by decide) (by decide) rfl (by decide) ?_
    refine lv_aload_n hx hb dMd_act_140 rfl (lv_at hl 0 rfl) ?_
    refine lv_iload_n hx hb dMd_act_141 rfl (lv_at hl 2 rfl) ?_
    refine lv_iload_n hx hb dMd_act_142 rfl (lv_at hl 1 rfl) ?_
    refine lv_iconst (v := 4) hx hb dMd_act_143 (by decide) ?_
    refine lv_icmp_ne (tgt := 151) hx hb dMd_act_144 (by decide) (fun c_5 => ?_) (fun c_5 => ?_)
    · -- 144 taken
      exact absurd c_5 (by decide)
    · -- 144 not taken
      refine lv_iconst (v := 1) hx hb dMd_act_147 (by decide) ?_
      refine lv_goto (tgt := 152) hx hb dMd_act_148 (by decide) ?_
      refine cm_vv (As := [.int x, .int 1]) (rest := []) ⟨hx, hb, hml, hown, hts⟩ (c_Md_touch l D cI cZ a hd m x true) mMd_touch lMd_102 iMd_touch (ce_hR (by omega) (by decide)) ⟨rfl, rfl⟩ hK hP hS rfl hl.1 rfl (Nat.le_of_ble_eq_true rfl) dMd_act_152 ⟨Nat.le_of_ble_eq_true rfl, Nat.le_of_ble_eq_true rfl⟩ (fun m_6 H locs em_6 hP hS => ?_)
      obtain rfl := em_6
      refine lv_goto (tgt := 351) hx hb dMd_act_155 (by decide) ?_
      exact W.vret hx hb hr (fun t9 ht hW => ⟨⟨(mTouch m x true), rfl, rfl, ce_hp ht hP⟩, hS.F ht⟩) hS.2.2 dMd_act_351
  · -- op 5
    refine lv_tableIn (tgt := 140) hx hb dMd_act_1 (by decide) (by decide) rfl (by decide) ?_
    refine lv_aload_n hx hb dMd_act_140 rfl (lv_at hl 0 rfl) ?_
    refine lv_iload_n hx hb dMd_act_141 rfl (lv_at hl 2 rfl) ?_
    refine lv_iload_n hx hb dMd_act_142 rfl (lv_at hl 1 rfl) ?_
    refine lv_iconst (v := 4) hx hb dMd_act_143 (by decide) ?_
    refine lv_icmp_ne (tgt := 151) hx hb dMd_act_144 (by decide) (fun c_7 => ?_) (fun c_7 => ?_)
    · -- 144 taken
      refine lv_iconst (v := 0) hx hb dMd_act_151 (by decide) ?_
      refine cm_vv (As := [.int x, .int 0]) (rest := []) ⟨hx, hb, hml, hown, hts⟩ (c_Md_touch l D cI cZ a hd m x false) mMd_touch lMd_102 iMd_touch (ce_hR (by omega) (by decide)) ⟨rfl, rfl⟩ hK hP hS rfl hl.1 rfl (Nat.le_of_ble_eq_true rfl) dMd_act_152 ⟨Nat.le_of_ble_eq_true rfl, Nat.le_of_ble_eq_true rfl⟩ (fun m_8 H locs em_8 hP hS => ?_)
      obtain rfl := em_8
      refine lv_goto (tgt := 351) hx hb dMd_act_155 (by decide) ?_
      exact W.vret hx hb hr (fun t9 ht hW => ⟨⟨(mTouch m x false), rfl, rfl, ce_hp ht hP⟩, hS.F ht⟩) hS.2.2 dMd_act_351
    · -- 144 not taken
      exact absurd c_7 (by decide)
  · -- op 6
    refine lv_tableIn (tgt := 158) hx hb dMd_act_1 (by decide) (by decide) rfl (by decide) ?_
    refine lv_iload hx hb dMd_act_158 (lv_at hl 4 rfl) ?_
    refine lv_bipush (v := 6) hx hb dMd_act_160 (by decide) ?_
    refine lv_icmp_ge (tgt := 175) hx hb dMd_act_162 (by decide) (fun c_9 => ?_) (fun c_9 => ?_)
    · -- 162 taken
      refine lv_aload_n hx hb dMd_act_175 rfl (lv_at hl 0 rfl) ?_
      refine lv_iload_n hx hb dMd_act_176 rfl (lv_at hl 3 rfl) ?_
      refine cm_pAcc (x := nI n) hx hb hts hown hK hd hP hS lMd_78 dMd_act_177 (fun H locs hP hS => ?_)
      refine lv_goto (tgt := 351) hx hb dMd_act_180 (by decide) ?_
      exact W.vret hx hb hr (fun t9 ht hW => ⟨⟨zAcc m (nI n), rfl, (if_neg (fun h => absurd (nI_lt (b := 6) h (by decide)) (Int32.not_lt.mpr c_9))).symm, ce_hp ht hP⟩, hS.F ht⟩) hS.2.2 dMd_act_351
    · -- 162 not taken
      refine lv_aload_n hx hb dMd_act_165 rfl (lv_at hl 0 rfl) ?_
      refine lv_iload hx hb dMd_act_166 (lv_at hl 4 rfl) ?_
      refine lv_iconst (v := (-1)) hx hb dMd_act_168 (by decide) ?_
      refine cm_vv (As := [.int (nI k), .int (-1)]) (rest := []) ⟨hx, hb, hml, hown, hts⟩ (c_Md_raise l D cI cZ a hd m (nI k) (-1)) mMd_raise lMd_91 iMd_raise (ce_hR (by omega) (by decide)) ⟨rfl, rfl⟩ hK hP hS rfl hl.1 rfl (Nat.le_of_ble_eq_true rfl) dMd_act_169 ⟨Nat.le_of_ble_eq_true rfl, Nat.le_of_ble_eq_true rfl⟩ (fun m_10 H locs em_10 hP hS => ?_)
      obtain rfl := em_10
      refine lv_goto (tgt := 351) hx hb dMd_act_172 (by decide) ?_
      exact W.vret hx hb hr (fun t9 ht hW => ⟨⟨(mRaise m (nI k) (-1)), rfl, (if_pos ((nI_ltI (b := 6) (by omega) (by decide)).mp (Int32.not_le.mp c_9))).symm, ce_hp ht hP⟩, hS.F ht⟩) hS.2.2 dMd_act_351
  · -- op 7
    refine lv_tableIn (tgt := 183) hx hb dMd_act_1 (by decide) (by decide) rfl (by decide) ?_
    refine lv_iload hx hb dMd_act_183 (lv_at hl 4 rfl) ?_
    refine lv_bipush (v := 6) hx hb dMd_act_185 (by decide) ?_
    refine lv_icmp_le (tgt := 351) hx hb dMd_act_187 (by decide) (fun c_11 => ?_) (fun c_11 => ?_)
    · -- 187 taken
      exact W.vret hx hb hr (fun t9 ht hW => ⟨⟨m, rfl, (if_neg (fun h => absurd (nI_lt (a := 6) h.1 (by omega)) (Int32.not_lt.mpr c_11))).symm, ce_hp ht hP⟩, hS.F ht⟩) hS.2.2 dMd_act_351
    · -- 187 not taken
      refine lv_iload hx hb dMd_act_190 (lv_at hl 4 rfl) ?_
      refine lv_bipush (v := 11) hx hb dMd_act_192 (by decide) ?_
      refine lv_icmp_ge (tgt := 351) hx hb dMd_act_194 (by decide) (fun c_12 => ?_) (fun c_12 => ?_)
      · -- 194 taken
        exact W.vret hx hb hr (fun t9 ht hW => ⟨⟨m, rfl, (if_neg (fun h => absurd (nI_lt (b := 11) h.2 (by decide)) (Int32.not_lt.mpr c_12))).symm, ce_hp ht hP⟩, hS.F ht⟩) hS.2.2 dMd_act_351
      · -- 194 not taken
        refine lv_aload_n hx hb dMd_act_197 rfl (lv_at hl 0 rfl) ?_
        refine lv_iload hx hb dMd_act_198 (lv_at hl 4 rfl) ?_
        refine lv_iload hx hb dMd_act_200 (lv_at hl 4 rfl) ?_
        refine lv_bipush (v := 10) hx hb dMd_act_202 (by decide) ?_
        refine lv_icmp_ne (tgt := 211) hx hb dMd_act_204 (by decide) (fun c_13 => ?_) (fun c_13 => ?_)
        · -- 204 taken
          refine lv_iconst (v := (-1)) hx hb dMd_act_211 (by decide) ?_
          refine cm_vv (As := [.int (nI k), .int (-1)]) (rest := []) ⟨hx, hb, hml, hown, hts⟩ (c_Md_raise l D cI cZ a hd m (nI k) (-1)) mMd_raise lMd_91 iMd_raise (ce_hR (by omega) (by decide)) ⟨rfl, rfl⟩ hK hP hS rfl hl.1 rfl (Nat.le_of_ble_eq_true rfl) dMd_act_212 ⟨Nat.le_of_ble_eq_true rfl, Nat.le_of_ble_eq_true rfl⟩ (fun m_14 H locs em_14 hP hS => ?_)
          obtain rfl := em_14
          refine lv_goto (tgt := 351) hx hb dMd_act_215 (by decide) ?_
          exact W.vret hx hb hr (fun t9 ht hW => ⟨⟨(mRaise m (nI k) (-1)), rfl, ((if_pos ⟨(nI_ltI (a := 6) (by decide) (by omega)).mp (Int32.not_le.mp c_11), (nI_ltI (b := 11) (by omega) (by decide)).mp (Int32.not_le.mp c_12)⟩).trans (congrArg (mRaise m (nI k)) (if_neg (fun h => c_13 (congrArg nI h))))).symm, ce_hp ht hP⟩, hS.F ht⟩) hS.2.2 dMd_act_351
        · -- 204 not taken
          refine lv_iload_n hx hb dMd_act_207 rfl (lv_at hl 3 rfl) ?_
          refine lv_goto (tgt := 212) hx hb dMd_act_208 (by decide) ?_
          refine cm_vv (As := [.int (nI k), .int (nI n)]) (rest := []) ⟨hx, hb, hml, hown, hts⟩ (c_Md_raise l D cI cZ a hd m (nI k) (nI n)) mMd_raise lMd_91 iMd_raise (ce_hR (by omega) (by decide)) ⟨rfl, rfl⟩ hK hP hS rfl hl.1 rfl (Nat.le_of_ble_eq_true rfl) dMd_act_212 ⟨Nat.le_of_ble_eq_true rfl, Nat.le_of_ble_eq_true rfl⟩ (fun m_15 H locs em_15 hP hS => ?_)
          obtain rfl := em_15
          refine lv_goto (tgt := 351) hx hb dMd_act_215 (by decide) ?_
          exact W.vret hx hb hr (fun t9 ht hW => ⟨⟨(mRaise m (nI k) (nI n)), rfl, ((if_pos ⟨(nI_ltI (a := 6) (by decide) (by omega)).mp (Int32.not_le.mp c_11), (nI_ltI (b := 11) (by omega) (by decide)).mp (Int32.not_le.mp c_12)⟩).trans (congrArg (mRaise m (nI k)) (if_pos ((nI_eq (b := 10) (by omega) (by decide)).mp c_13)))).symm, ce_hp ht hP⟩, hS.F ht⟩) hS.2.2 dMd_act_351
  · -- op 8
    refine lv_tableIn (tgt := 218) hx hb dMd_act_1 (by decide) (by decide) rfl (by decide) ?_
    refine lv_aload_n hx hb dMd_act_218 rfl (lv_at hl 0 rfl) ?_
    refine lv_iconst (v := 1) hx hb dMd_act_219 (by decide) ?_
    refine cm_pMark (x := true) hx hb hts hown hK hd hP hS lMd_95 dMd_act_220 (fun H locs hP hS => ?_)
    refine lv_goto (tgt := 351) hx hb dMd_act_223 (by decide) ?_
    exact W.vret hx hb hr (fun t9 ht hW => ⟨⟨zMark m true, rfl, rfl, ce_hp ht hP⟩, hS.F ht⟩) hS.2.2 dMd_act_351
  · -- op 9
    refine lv_tableIn (tgt := 226) hx hb dMd_act_1 (by decide) (by decide) rfl (by decide) ?_
    refine lv_aload_n hx hb dMd_act_226 rfl (lv_at hl 0 rfl) ?_
    refine lv_aload_n hx hb dMd_act_227 rfl (lv_at hl 0 rfl) ?_
    refine cm_g hx hb hts hown hK hP 25 (by decide) rfl lMd_95 rfl dMd_act_228 ?_
    refine lv_if_eq (tgt := 238) hx hb dMd_act_231 (by decide) (fun c_16 => ?_) (fun c_16 => ?_)
    · -- 231 taken
      refine lv_iconst (v := 0) hx hb dMd_act_238 (by decide) ?_
      refine cm_pAcc (x := 0) hx hb hts hown hK hd hP hS lMd_78 dMd_act_239 (fun H locs hP hS => ?_)
      refine lv_aload_n hx hb dMd_act_242 rfl (lv_at hl 0 rfl) ?_
      refine lv_iconst (v := 0) hx hb dMd_act_243 (by decide) ?_
      refine cm_pMark (x := false) hx hb hts hown hK hd hP hS lMd_95 dMd_act_244 (fun H locs hP hS => ?_)
      refine lv_goto (tgt := 351) hx hb dMd_act_247 (by decide) ?_
      exact W.vret hx hb hr (fun t9 ht hW => ⟨⟨zMark (zAcc m 0) false, rfl, by show _ = zMark (zAcc m (bI (qMark m))) false; rw [c_16], ce_hp ht hP⟩, hS.F ht⟩) hS.2.2 dMd_act_351
    · -- 231 not taken
      refine lv_iconst (v := 1) hx hb dMd_act_234 (by decide) ?_
      refine lv_goto (tgt := 239) hx hb dMd_act_235 (by decide) ?_
      refine cm_pAcc (x := 1) hx hb hts hown hK hd hP hS lMd_78 dMd_act_239 (fun H locs hP hS => ?_)
      refine lv_aload_n hx hb dMd_act_242 rfl (lv_at hl 0 rfl) ?_
      refine lv_iconst (v := 0) hx hb dMd_act_243 (by decide) ?_
      refine cm_pMark (x := false) hx hb hts hown hK hd hP hS lMd_95 dMd_act_244 (fun H locs hP hS => ?_)
      refine lv_goto (tgt := 351) hx hb dMd_act_247 (by decide) ?_
      exact W.vret hx hb hr (fun t9 ht hW => ⟨⟨zMark (zAcc m 1) false, rfl, by show _ = zMark (zAcc m (bI (qMark m))) false; rw [← bI_one c_16], ce_hp ht hP⟩, hS.F ht⟩) hS.2.2 dMd_act_351
  · -- op 15
    refine lv_tableIn (tgt := 250) hx hb dMd_act_1 (by decide) (by decide) rfl (by decide) ?_
    refine lv_aload_n hx hb dMd_act_250 rfl (lv_at hl 0 rfl) ?_
    refine cm_g hx hb hts hown hK hP 15 (by decide) rfl lMd_41 rfl dMd_act_251 ?_
    refine lv_iload hx hb dMd_act_254 (lv_at hl 4 rfl) ?_
    refine lv_iconst (v := 2) hx hb dMd_act_256 (by decide) ?_
    refine lv_irem hx hb dMd_act_257 (by decide) ?_
    refine lv_topi (fun y_17 ey_17 => ?_)
    obtain rfl : y_17 = nI (k % 2) := ey_17.trans (pk_rem (d := 2) (by omega) (by decide) (by decide))
    refine cm_lHeld (i := (k % 2)) (by omega) hx hb hK hP dMd_act_258 ?_
    refine lv_if_ne (tgt := 351) hx hb dMd_act_259 (by decide) (fun c_18 => ?_) (fun c_18 => ?_)
    · -- 259 taken
      exact W.vret hx hb hr (fun t9 ht hW => ⟨⟨m, rfl, (if_neg c_18).symm, ce_hp ht hP⟩, hS.F ht⟩) hS.2.2 dMd_act_351
    · -- 259 not taken
      refine lv_aload_n hx hb dMd_act_262 rfl (lv_at hl 0 rfl) ?_
      refine lv_bipush (v := 6) hx hb dMd_act_263 (by decide) ?_
      refine lv_iconst (v := (-1)) hx hb dMd_act_265 (by decide) ?_
      refine cm_vv (As := [.int 6, .int (-1)]) (rest := []) ⟨hx, hb, hml, hown, hts⟩ (c_Md_raise l D cI cZ a hd m 6 (-1)) mMd_raise lMd_91 iMd_raise (ce_hR (by omega) (by decide)) ⟨rfl, rfl⟩ hK hP hS rfl hl.1 rfl (Nat.le_of_ble_eq_true rfl) dMd_act_266 ⟨Nat.le_of_ble_eq_true rfl, Nat.le_of_ble_eq_true rfl⟩ (fun m_19 H locs em_19 hP hS => ?_)
      obtain rfl := em_19
      refine lv_goto (tgt := 351) hx hb dMd_act_269 (by decide) ?_
      exact W.vret hx hb hr (fun t9 ht hW => ⟨⟨(mRaise m 6 (-1)), rfl, (if_pos c_18).symm, ce_hp ht hP⟩, hS.F ht⟩) hS.2.2 dMd_act_351
  · -- op 16
    refine lv_tableIn (tgt := 272) hx hb dMd_act_1 (by decide) (by decide) rfl (by decide) ?_
    refine lv_aload_n hx hb dMd_act_272 rfl (lv_at hl 0 rfl) ?_
    refine cm_g hx hb hts hown hK hP 15 (by decide) rfl lMd_41 rfl dMd_act_273 ?_
    refine lv_iload hx hb dMd_act_276 (lv_at hl 4 rfl) ?_
    refine lv_iconst (v := 2) hx hb dMd_act_278 (by decide) ?_
    refine lv_irem hx hb dMd_act_279 (by decide) ?_
    refine lv_topi (fun y_20 ey_20 => ?_)
    obtain rfl : y_20 = nI (k % 2) := ey_20.trans (pk_rem (d := 2) (by omega) (by decide) (by decide))
    refine cm_lHeld (i := (k % 2)) (by omega) hx hb hK hP dMd_act_280 ?_
    refine lv_if_ne (tgt := 294) hx hb dMd_act_281 (by decide) (fun c_21 => ?_) (fun c_21 => ?_)
    · -- 281 taken
      refine lv_aload_n hx hb dMd_act_294 rfl (lv_at hl 0 rfl) ?_
      refine cm_vv (As := []) (rest := []) ⟨hx, hb, hml, hown, hts⟩ (c_Md_interrupted l D cI cZ a hd m) mMd_interrupted lMd_105 iMd_interrupted (ce_hR (by omega) (by decide)) ⟨rfl, rfl⟩ hK hP hS rfl hl.1 rfl (Nat.le_of_ble_eq_true rfl) dMd_act_295 ⟨Nat.le_of_ble_eq_true rfl, Nat.le_of_ble_eq_true rfl⟩ (fun m_22 H locs em_22 hP hS => ?_)
      obtain rfl := em_22
      refine lv_goto (tgt := 351) hx hb dMd_act_298 (by decide) ?_
      exact W.vret hx hb hr (fun t9 ht hW => ⟨⟨(mIntr m), rfl, (if_neg c_21).symm, ce_hp ht hP⟩, hS.F ht⟩) hS.2.2 dMd_act_351
    · -- 281 not taken
      refine lv_aload_n hx hb dMd_act_284 rfl (lv_at hl 0 rfl) ?_
      refine lv_bipush (v := 6) hx hb dMd_act_285 (by decide) ?_
      refine lv_iconst (v := (-1)) hx hb dMd_act_287 (by decide) ?_
      refine cm_vv (As := [.int 6, .int (-1)]) (rest := []) ⟨hx, hb, hml, hown, hts⟩ (c_Md_raise l D cI cZ a hd m 6 (-1)) mMd_raise lMd_91 iMd_raise (ce_hR (by omega) (by decide)) ⟨rfl, rfl⟩ hK hP hS rfl hl.1 rfl (Nat.le_of_ble_eq_true rfl) dMd_act_288 ⟨Nat.le_of_ble_eq_true rfl, Nat.le_of_ble_eq_true rfl⟩ (fun m_23 H locs em_23 hP hS => ?_)
      obtain rfl := em_23
      refine lv_goto (tgt := 351) hx hb dMd_act_291 (by decide) ?_
      exact W.vret hx hb hr (fun t9 ht hW => ⟨⟨(mRaise m 6 (-1)), rfl, (if_pos c_21).symm, ce_hp ht hP⟩, hS.F ht⟩) hS.2.2 dMd_act_351
  · -- op 17
    refine lv_tableIn (tgt := 301) hx hb dMd_act_1 (by decide) (by decide) rfl (by decide) ?_
    refine lv_aload_n hx hb dMd_act_301 rfl (lv_at hl 0 rfl) ?_
    refine cm_vv (As := []) (rest := []) ⟨hx, hb, hml, hown, hts⟩ (c_Md_interrupted l D cI cZ a hd m) mMd_interrupted lMd_105 iMd_interrupted (ce_hR (by omega) (by decide)) ⟨rfl, rfl⟩ hK hP hS rfl hl.1 rfl (Nat.le_of_ble_eq_true rfl) dMd_act_302 ⟨Nat.le_of_ble_eq_true rfl, Nat.le_of_ble_eq_true rfl⟩ (fun m_24 H locs em_24 hP hS => ?_)
    obtain rfl := em_24
    refine lv_goto (tgt := 351) hx hb dMd_act_305 (by decide) ?_
    exact W.vret hx hb hr (fun t9 ht hW => ⟨⟨(mIntr m), rfl, rfl, ce_hp ht hP⟩, hS.F ht⟩) hS.2.2 dMd_act_351
  · -- op 18
    refine lv_tableIn (tgt := 308) hx hb dMd_act_1 (by decide) (by decide) rfl (by decide) ?_
    refine lv_aload_n hx hb dMd_act_308 rfl (lv_at hl 0 rfl) ?_
    refine lv_aload_n hx hb dMd_act_309 rfl (lv_at hl 0 rfl) ?_
    refine cm_g hx hb hts hown hK hP 15 (by decide) rfl lMd_41 rfl dMd_act_310 ?_
    refine lv_iload hx hb dMd_act_313 (lv_at hl 4 rfl) ?_
    refine lv_iconst (v := 2) hx hb dMd_act_315 (by decide) ?_
    refine lv_irem hx hb dMd_act_316 (by decide) ?_
    refine lv_topi (fun y_25 ey_25 => ?_)
    obtain rfl : y_25 = nI (k % 2) := ey_25.trans (pk_rem (d := 2) (by omega) (by decide) (by decide))
    refine cm_lHeld (i := (k % 2)) (by omega) hx hb hK hP dMd_act_317 ?_
    refine lv_if_le (tgt := 325) hx hb dMd_act_318 (by decide) (fun c_26 => ?_) (fun c_26 => ?_)
    · -- 318 taken
      refine lv_iconst (v := 0) hx hb dMd_act_325 (by decide) ?_
      refine cm_pAcc (x := 0) hx hb hts hown hK hd hP hS lMd_78 dMd_act_326 (fun H locs hP hS => ?_)
      refine lv_goto (tgt := 351) hx hb dMd_act_329 (by decide) ?_
      exact W.vret hx hb hr (fun t9 ht hW => ⟨⟨zAcc m 0, rfl, congrArg (zAcc m) (bd_no (Int32.not_lt.mpr c_26)), ce_hp ht hP⟩, hS.F ht⟩) hS.2.2 dMd_act_351
    · -- 318 not taken
      refine lv_iconst (v := 1) hx hb dMd_act_321 (by decide) ?_
      refine lv_goto (tgt := 326) hx hb dMd_act_322 (by decide) ?_
      refine cm_pAcc (x := 1) hx hb hts hown hK hd hP hS lMd_78 dMd_act_326 (fun H locs hP hS => ?_)
      refine lv_goto (tgt := 351) hx hb dMd_act_329 (by decide) ?_
      exact W.vret hx hb hr (fun t9 ht hW => ⟨⟨zAcc m 1, rfl, congrArg (zAcc m) (bd_yes (Int32.not_le.mp c_26)), ce_hp ht hP⟩, hS.F ht⟩) hS.2.2 dMd_act_351
  · -- op 19
    refine lv_tableIn (tgt := 332) hx hb dMd_act_1 (by decide) (by decide) rfl (by decide) ?_
    refine lv_aload_n hx hb dMd_act_332 rfl (lv_at hl 0 rfl) ?_
    refine lv_dup hx hb dMd_act_333 rfl ?_
    refine cm_g hx hb hts hown hK hP 6 (by decide) rfl lMd_108 rfl dMd_act_334 ?_
    refine lv_iload_n hx hb dMd_act_337 rfl (lv_at hl 2 rfl) ?_
    refine lv_i2l hx hb dMd_act_338 rfl ?_
    refine lv_ladd hx hb dMd_act_339 ?_
    refine cm_pCtr (x := (qCtr m) + x.toInt64) hx hb hts hown hK hd hP hS lMd_108 dMd_act_340 (fun H locs hP hS => ?_)
    refine lv_goto (tgt := 351) hx hb dMd_act_343 (by decide) ?_
    exact W.vret hx hb hr (fun t9 ht hW => ⟨⟨zCtr m ((qCtr m) + x.toInt64), rfl, rfl, ce_hp ht hP⟩, hS.F ht⟩) hS.2.2 dMd_act_351
  · -- op 20
    refine lv_tableOut (tgt := 346) hx hb dMd_act_1 (Or.inr (by decide)) (by decide) ?_
    refine lv_aload_n hx hb dMd_act_346 rfl (lv_at hl 0 rfl) ?_
    refine lv_iconst (v := 1) hx hb dMd_act_347 (by decide) ?_
    refine cm_pStop (x := true) hx hb hts hown hK hd hP hS lMd_81 dMd_act_348 (fun H locs hP hS => ?_)
    exact W.vret hx hb hr (fun t9 ht hW => ⟨⟨zStop m true, rfl, rfl, ce_hp ht hP⟩, hS.F ht⟩) hS.2.2 dMd_act_351
end
section
theorem mLim_0 {m : MS} (h : qOpen m = 0) : mLim m = qSize m (qProg m) := if_pos h
theorem mLim_1 {m : MS} (h : ¬ qOpen m = 0) : mLim m = qEnd m (qOpen m - 1) := if_neg h
theorem h20 {x : Nat} (h : ¬ x = 21) (h2 : x ≤ 21) : x ≤ 20 := by omega
theorem mLeave_10 {m : MS} {d : Nat} (h : mO m (qBlk m d) = 10) : mLeave m d = if ¬ qTr m < 0 ∧ mTakes (mK m (qBlk m d)) (qTr m) = true then mCaught m d else mPop m d := by
  unfold mLeave
  simp only [h]
theorem mLeave_11 {m : MS} {d : Nat} (h : mO m (qBlk m d) = 11) : mLeave m d = zAcc (zFin (mPop m d) (qFin m + 1)) (-qAcc m) := by
  unfold mLeave
  simp only [h]
theorem mLeave_12 {m : MS} {d : Nat} (h : mO m (qBlk m d) = 12) : mLeave m d = zStop (zTr (zFin (mPop m d) (qFin m + 1)) (-1)) false := by
  unfold mLeave
  simp only [h]
theorem mLeave_13 {m : MS} {d : Nat} (h : mO m (qBlk m d) = 13) : mLeave m d = zHeld (mPop m d) (upd (qHeld m) (mK m (qBlk m d) % 2) (qHeld m (mK m (qBlk m d) % 2) - 1)) := by
  unfold mLeave
  simp only [h]
theorem mLeave_14 {m : MS} {d : Nat} (h : mO m (qBlk m d) = 14) : mLeave m d = if qTr m < 0 ∧ qStop m = false ∧ 1 < qLeft m d then zOpen (zAt (zLeft (mPop m d) (va_up (qLeft m) d (qLeft m d - 1))) (qBlk m d + 1)) (d + 1) else mPop m d := by
  unfold mLeave
  simp only [h]
set_option maxHeartbeats 8000000 in
set_option maxRecDepth 100000 in
theorem c_Md_enter (l : Launch) (D : va_G) (cI cZ : ClassId) (a : Nat → Nat) (hd : dM a) (m : MS) (i n : Nat) (hp : qProg m < 6) (hi : i < 14) (hn : n < 16) (h21 : mO m i ≤ 21) (h8 : mG m i ≤ 255) (ho : qOpen m < 15) (hL : mLim m ≤ 14) : Met l yMd_enter (ce_ws yMd_enter cMd_enter 7 none) (ce_rm 1) (cm_Pc D cI cZ [.ref (a 0), .int (nI i), .int (nI n)] (wM a cI cZ m)) (va_Qv (fun m2 => m2 = mEnter m i n) (fun m2 t => va_P D vwCl (wM a cI cZ m2) t.heap) (aM a)) 0 0 (aM a) := by
  refine Met.ofW (cc := cMd_enter) (maxL := 7) (ret := none) (by decide) rfl ?_
  intro p e s mi args below meth c s₁ B hml hv
  obtain ⟨rfl, hP, hK⟩ := hv
  have hx := B.exec
  have hb := B.bytes
  have hr := B.returns
  have hts := atoms_spec (ws := ce_ws yMd_enter cMd_enter 7 none) B.pre
  have hown : s.vm.findClass RMd = some mi.cls := findClass_of_methodNamed B.named
  have hlocks := B.notSynchronized
  have hS : va_S (aM a) s.heap s.heap [] := va_S.rf
  have hl := lv_entry ([.ref (a 0), .int (nI i), .int (nI n)]) (n := 7) (Nat.le_of_ble_eq_true rfl)
  rw [lg_entry_eq]
  generalize (lg_sl ([.ref (a 0), .int (nI i), .int (nI n)]) ++ List.replicate (7 - (lg_sl ([.ref (a 0), .int (nI i), .int (nI n)])).length) Slot.unset).toArray = ls at hl ⊢
  have hl : lv_has ls 7 [(0, .ref (a 0)), (1, .int (nI i)), (2, .int (nI n))] := hl
  have hK16 : mK m i < 16 := by unfold mK; unfold mG at h8; omega
  have hk2 : mK m i % 2 < 2 := Nat.mod_lt _ (by decide)
  refine lv_aload_n hx hb dMd_enter_0 rfl (lv_at hl 0 rfl) ?_
  refine cm_g hx hb hts hown hK hP 13 (by decide) rfl lMd_68 rfl dMd_enter_1 ?_
  refine lv_if_ne (tgt := 19) hx hb dMd_enter_4 (by decide) (fun c_1 => ?_) (fun c_1 => ?_)
  · -- 4 taken
    have h1 : ¬ qOpen m = 0 := fun h => c_1 (congrArg nI h)
    refine lv_aload_n hx hb dMd_enter_19 rfl (lv_at hl 0 rfl) ?_
    refine cm_g hx hb hts hown hK hP 11 (by decide) rfl lMd_32 rfl dMd_enter_20 ?_
    refine lv_aload_n hx hb dMd_enter_23 rfl (lv_at hl 0 rfl) ?_
    refine cm_g hx hb hts hown hK hP 13 (by decide) rfl lMd_68 rfl dMd_enter_24 ?_
    refine lv_iconst (v := 1) hx hb dMd_enter_27 (by decide) ?_
    refine lv_isub hx hb dMd_enter_28 ?_
    refine lv_topi (fun y_2 ey_2 => ?_)
    obtain rfl : y_2 = nI (qOpen m - 1) := ey_2.trans (pk_sub (b := 1) (by omega))
    refine cm_lEnd (i := (qOpen m - 1)) (by omega) hx hb hK hP dMd_enter_29 ?_
    refine lv_topi (fun y_3 ey_3 => ?_)
    obtain rfl : y_3 = nI (mLim m) := ey_3.trans (congrArg nI (mLim_1 h1).symm)
    refine lv_istore_n (lv' := [(3, .int (nI (mLim m))), (0, .ref (a 0)), (1, .int (nI i)), (2, .int (nI n))]) hx hb dMd_enter_30 rfl hl (by decide) rfl (fun ls hl => ?_)
    refine lv_iload_n hx hb dMd_enter_31 rfl (lv_at hl 2 rfl) ?_
    refine lv_iconst (v := 1) hx hb dMd_enter_32 (by decide) ?_
    refine lv_iadd hx hb dMd_enter_33 ?_
    refine lv_topi (fun y_4 ey_4 => ?_)
    obtain rfl : y_4 = nI (i + 1) := ey_4.trans (nI_1 i)
    refine lv_iload_n hx hb dMd_enter_34 rfl (lv_at hl 3 rfl) ?_
    refine lv_iadd hx hb dMd_enter_35 ?_
    refine lv_topi (fun y_5 ey_5 => ?_)
    obtain rfl : y_5 = nI (i + 1 + n) := ey_5.trans (nI_add _ _)
    refine lv_iload_n hx hb dMd_enter_36 rfl (lv_at hl 0 rfl) ?_
    refine lv_icmp_ge (tgt := 48) hx hb dMd_enter_37 (by decide) (fun c_6 => ?_) (fun c_6 => ?_)
    · -- 37 taken
      refine lv_iload_n hx hb dMd_enter_48 rfl (lv_at hl 0 rfl) ?_
      refine lv_topi (fun y_7 ey_7 => ?_)
      obtain rfl : y_7 = nI (min (i + 1 + n) (mLim m)) := ey_7.trans (congrArg nI (Nat.min_eq_right ((nI_leI (by omega) (by omega)).mp c_6)).symm)
      refine lv_istore (lv' := [(4, .int (nI (min (i + 1 + n) (mLim m)))), (3, .int (nI (mLim m))), (0, .ref (a 0)), (1, .int (nI i)), (2, .int (nI n))]) hx hb dMd_enter_49 hl (by decide) rfl (fun ls hl => ?_)
      refine lv_aload_n hx hb dMd_enter_51 rfl (lv_at hl 2 rfl) ?_
      refine cm_g hx hb hts hown hK hP 0 (by decide) rfl lMd_7 rfl dMd_enter_52 ?_
      refine lv_aload_n hx hb dMd_enter_55 rfl (lv_at hl 2 rfl) ?_
      refine cm_g hx hb hts hown hK hP 16 (by decide) rfl lMd_65 rfl dMd_enter_56 ?_
      refine lv_bipush (v := 14) hx hb dMd_enter_59 (by decide) ?_
      refine lv_imul hx hb dMd_enter_61 ?_
      refine lv_topi (fun y_8 ey_8 => ?_)
      obtain rfl : y_8 = nI (qProg m * 14) := ey_8.trans (pk_mul _ 14)
      refine lv_iload_n hx hb dMd_enter_62 rfl (lv_at hl 3 rfl) ?_
      refine lv_iadd hx hb dMd_enter_63 ?_
      refine lv_topi (fun y_9 ey_9 => ?_)
      obtain rfl : y_9 = nI (qProg m * 14 + i) := ey_9.trans (nI_add _ _)
      refine cm_lOp (i := (qProg m * 14 + i)) (by omega) hx hb hK hP dMd_enter_64 ?_
      refine lv_topi (fun y_10 ey_10 => ?_)
      obtain rfl : y_10 = nI (mO m i) := ey_10.trans (rfl)
      refine lv_istore (lv' := [(5, .int (nI (mO m i))), (4, .int (nI (min (i + 1 + n) (mLim m)))), (3, .int (nI (mLim m))), (0, .ref (a 0)), (1, .int (nI i)), (2, .int (nI n))]) hx hb dMd_enter_65 hl (by decide) rfl (fun ls hl => ?_)
      refine lv_aload_n hx hb dMd_enter_67 rfl (lv_at hl 3 rfl) ?_
      refine lv_iload_n hx hb dMd_enter_68 rfl (lv_at hl 4 rfl) ?_
      refine cm_ri (As := [.int (nI i)]) (rest := []) ⟨hx, hb, hml, hown, hts⟩ (c_Md_kOf l D cI cZ a m i hp hi h8) mMd_kOf lMd_71 iMd_kOf (ce_hR (by omega) (by decide)) ⟨rfl, rfl⟩ hK hP rfl hl.1 rfl (Nat.le_of_ble_eq_true rfl) dMd_enter_69 ⟨Nat.le_of_ble_eq_true rfl, Nat.le_of_ble_eq_true rfl⟩ (fun r_11 er_11 => ?_)
      obtain rfl : r_11 = nI (mK m i) := er_11
      refine lv_istore (lv' := [(6, .int (nI (mK m i))), (5, .int (nI (mO m i))), (4, .int (nI (min (i + 1 + n) (mLim m)))), (3, .int (nI (mLim m))), (0, .ref (a 0)), (1, .int (nI i)), (2, .int (nI n))]) hx hb dMd_enter_72 hl (by decide) rfl (fun ls hl => ?_)
      refine lv_iload hx hb dMd_enter_74 (lv_at hl 1 rfl) ?_
      refine lv_bipush (v := 14) hx hb dMd_enter_76 (by decide) ?_
      refine lv_icmp_ne (tgt := 93) hx hb dMd_enter_78 (by decide) (fun c_12 => ?_) (fun c_12 => ?_)
      · -- 78 taken
        refine lv_aload_n hx hb dMd_enter_93 rfl (lv_at hl 4 rfl) ?_
        refine cm_g hx hb hts hown hK hP 10 (by decide) rfl lMd_29 rfl dMd_enter_94 ?_
        refine lv_aload_n hx hb dMd_enter_97 rfl (lv_at hl 4 rfl) ?_
        refine cm_g hx hb hts hown hK hP 13 (by decide) rfl lMd_68 rfl dMd_enter_98 ?_
        refine lv_iload_n hx hb dMd_enter_101 rfl (lv_at hl 5 rfl) ?_
        refine cm_sBlk (i := (qOpen m)) (x := i) (by omega) hx hb hK hd hP hS dMd_enter_102 (fun H locs hP hS => ?_)
        refine lv_aload_n hx hb dMd_enter_103 rfl (lv_at hl 4 rfl) ?_
        refine cm_g hx hb hts hown hK hP 11 (by decide) rfl lMd_32 rfl dMd_enter_104 ?_
        refine lv_aload_n hx hb dMd_enter_107 rfl (lv_at hl 4 rfl) ?_
        refine cm_g hx hb hts hown hK hP 13 (by decide) rfl lMd_68 rfl dMd_enter_108 ?_
        refine lv_topi (fun y_13 ey_13 => ?_)
        obtain rfl : y_13 = nI (qOpen m) := ey_13.trans (by rw [qOpen_zBlk])
        refine lv_iload hx hb dMd_enter_111 (lv_at hl 2 rfl) ?_
        refine cm_sEnd (i := (qOpen m)) (x := (min (i + 1 + n) (mLim m))) (by omega) hx hb hK hd hP hS dMd_enter_113 (fun H locs hP hS => ?_)
        rw [qEnd_zBlk] at hP
        refine lv_aload_n hx hb dMd_enter_114 rfl (lv_at hl 4 rfl) ?_
        refine cm_g hx hb hts hown hK hP 12 (by decide) rfl lMd_35 rfl dMd_enter_115 ?_
        refine lv_aload_n hx hb dMd_enter_118 rfl (lv_at hl 4 rfl) ?_
        refine cm_g hx hb hts hown hK hP 13 (by decide) rfl lMd_68 rfl dMd_enter_119 ?_
        refine lv_topi (fun y_14 ey_14 => ?_)
        obtain rfl : y_14 = nI (qOpen m) := ey_14.trans (by rw [qOpen_zEnd, qOpen_zBlk])
        refine lv_iload hx hb dMd_enter_122 (lv_at hl 0 rfl) ?_
        refine cm_sLeft (i := (qOpen m)) (x := (mK m i)) (by omega) hx hb hK hd hP hS dMd_enter_124 (fun H locs hP hS => ?_)
        rw [qLeft_zEnd, qLeft_zBlk] at hP
        refine lv_aload_n hx hb dMd_enter_125 rfl (lv_at hl 4 rfl) ?_
        refine lv_dup hx hb dMd_enter_126 rfl ?_
        refine cm_g hx hb hts hown hK hP 13 (by decide) rfl lMd_68 rfl dMd_enter_127 ?_
        refine lv_topi (fun y_15 ey_15 => ?_)
        obtain rfl : y_15 = nI (qOpen m) := ey_15.trans (by rw [qOpen_zLeft, qOpen_zEnd, qOpen_zBlk])
        refine lv_iconst (v := 1) hx hb dMd_enter_130 (by decide) ?_
        refine lv_iadd hx hb dMd_enter_131 ?_
        refine lv_topi (fun y_16 ey_16 => ?_)
        obtain rfl : y_16 = nI (qOpen m + 1) := ey_16.trans (nI_1 _)
        refine cm_pOpen (x := (qOpen m + 1)) hx hb hts hown hK hd hP hS lMd_68 dMd_enter_132 (fun H locs hP hS => ?_)
        refine lv_iload hx hb dMd_enter_135 (lv_at hl 1 rfl) ?_
        refine lv_bipush (v := 13) hx hb dMd_enter_137 (by decide) ?_
        refine lv_icmp_ne (tgt := 155) hx hb dMd_enter_139 (by decide) (fun c_17 => ?_) (fun c_17 => ?_)
        · -- 139 taken
          exact W.vret hx hb hr (fun t9 ht hW => ⟨⟨zOpen (zLeft (zEnd (zBlk m (va_up (qBlk m) (qOpen m) i)) (va_up (qEnd m) (qOpen m) (min (i + 1 + n) (mLim m)))) (va_up (qLeft m) (qOpen m) (mK m i))) (qOpen m + 1), rfl, ((if_neg (fun q => c_12 (congrArg nI q.1))).trans (if_neg (fun q => c_17 (congrArg nI q)))).symm, ce_hp ht hP⟩, hS.F ht⟩) hS.2.2 dMd_enter_155
        · -- 139 not taken
          refine lv_aload_n hx hb dMd_enter_142 rfl (lv_at hl 4 rfl) ?_
          refine cm_g hx hb hts hown hK hP 15 (by decide) rfl lMd_41 rfl dMd_enter_143 ?_
          refine lv_iload hx hb dMd_enter_146 (lv_at hl 0 rfl) ?_
          refine lv_iconst (v := 2) hx hb dMd_enter_148 (by decide) ?_
          refine lv_irem hx hb dMd_enter_149 (by decide) ?_
          refine lv_topi (fun y_18 ey_18 => ?_)
          obtain rfl : y_18 = nI (mK m i % 2) := ey_18.trans (pk_rem (d := 2) (by omega) (by decide) (by decide))
          refine lv_dup2_11 hx hb dMd_enter_150 rfl rfl ?_
          refine cm_lHeld (i := (mK m i % 2)) (by omega) hx hb hK hP dMd_enter_151 ?_
          refine lv_topi (fun y_19 ey_19 => ?_)
          obtain rfl : y_19 = qHeld m (mK m i % 2) := ey_19.trans (by rw [qHeld_zOpen, qHeld_zLeft, qHeld_zEnd, qHeld_zBlk])
          refine lv_iconst (v := 1) hx hb dMd_enter_152 (by decide) ?_
          refine lv_iadd hx hb dMd_enter_153 ?_
          refine cm_sHeld (i := (mK m i % 2)) (x := (qHeld m (mK m i % 2)) + 1) (by omega) hx hb hK hd hP hS dMd_enter_154 (fun H locs hP hS => ?_)
          rw [qHeld_zOpen, qHeld_zLeft, qHeld_zEnd, qHeld_zBlk] at hP
          exact W.vret hx hb hr (fun t9 ht hW => ⟨⟨zHeld (zOpen (zLeft (zEnd (zBlk m (va_up (qBlk m) (qOpen m) i)) (va_up (qEnd m) (qOpen m) (min (i + 1 + n) (mLim m)))) (va_up (qLeft m) (qOpen m) (mK m i))) (qOpen m + 1)) (upd (qHeld m) (mK m i % 2) ((qHeld m (mK m i % 2)) + 1)), rfl, ((if_neg (fun q => c_12 (congrArg nI q.1))).trans (if_pos ((nI_eq (b := 13) (by omega) (by decide)).mp c_17))).symm, ce_hp ht hP⟩, hS.F ht⟩) hS.2.2 dMd_enter_155
      · -- 78 not taken
        refine lv_iload hx hb dMd_enter_81 (lv_at hl 0 rfl) ?_
        refine lv_if_ne (tgt := 93) hx hb dMd_enter_83 (by decide) (fun c_20 => ?_) (fun c_20 => ?_)
        · -- 83 taken
          refine lv_aload_n hx hb dMd_enter_93 rfl (lv_at hl 4 rfl) ?_
          refine cm_g hx hb hts hown hK hP 10 (by decide) rfl lMd_29 rfl dMd_enter_94 ?_
          refine lv_aload_n hx hb dMd_enter_97 rfl (lv_at hl 4 rfl) ?_
          refine cm_g hx hb hts hown hK hP 13 (by decide) rfl lMd_68 rfl dMd_enter_98 ?_
          refine lv_iload_n hx hb dMd_enter_101 rfl (lv_at hl 5 rfl) ?_
          refine cm_sBlk (i := (qOpen m)) (x := i) (by omega) hx hb hK hd hP hS dMd_enter_102 (fun H locs hP hS => ?_)
          refine lv_aload_n hx hb dMd_enter_103 rfl (lv_at hl 4 rfl) ?_
          refine cm_g hx hb hts hown hK hP 11 (by decide) rfl lMd_32 rfl dMd_enter_104 ?_
          refine lv_aload_n hx hb dMd_enter_107 rfl (lv_at hl 4 rfl) ?_
          refine cm_g hx hb hts hown hK hP 13 (by decide) rfl lMd_68 rfl dMd_enter_108 ?_
          refine lv_topi (fun y_21 ey_21 => ?_)
          obtain rfl : y_21 = nI (qOpen m) := ey_21.trans (by rw [qOpen_zBlk])
          refine lv_iload hx hb dMd_enter_111 (lv_at hl 2 rfl) ?_
          refine cm_sEnd (i := (qOpen m)) (x := (min (i + 1 + n) (mLim m))) (by omega) hx hb hK hd hP hS dMd_enter_113 (fun H locs hP hS => ?_)
          rw [qEnd_zBlk] at hP
          refine lv_aload_n hx hb dMd_enter_114 rfl (lv_at hl 4 rfl) ?_
          refine cm_g hx hb hts hown hK hP 12 (by decide) rfl lMd_35 rfl dMd_enter_115 ?_
          refine lv_aload_n hx hb dMd_enter_118 rfl (lv_at hl 4 rfl) ?_
          refine cm_g hx hb hts hown hK hP 13 (by decide) rfl lMd_68 rfl dMd_enter_119 ?_
          refine lv_topi (fun y_22 ey_22 => ?_)
          obtain rfl : y_22 = nI (qOpen m) := ey_22.trans (by rw [qOpen_zEnd, qOpen_zBlk])
          refine lv_iload hx hb dMd_enter_122 (lv_at hl 0 rfl) ?_
          refine cm_sLeft (i := (qOpen m)) (x := (mK m i)) (by omega) hx hb hK hd hP hS dMd_enter_124 (fun H locs hP hS => ?_)
          rw [qLeft_zEnd, qLeft_zBlk] at hP
          refine lv_aload_n hx hb dMd_enter_125 rfl (lv_at hl 4 rfl) ?_
          refine lv_dup hx hb dMd_enter_126 rfl ?_
          refine cm_g hx hb hts hown hK hP 13 (by decide) rfl lMd_68 rfl dMd_enter_127 ?_
          refine lv_topi (fun y_23 ey_23 => ?_)
          obtain rfl : y_23 = nI (qOpen m) := ey_23.trans (by rw [qOpen_zLeft, qOpen_zEnd, qOpen_zBlk])
          refine lv_iconst (v := 1) hx hb dMd_enter_130 (by decide) ?_
          refine lv_iadd hx hb dMd_enter_131 ?_
          refine lv_topi (fun y_24 ey_24 => ?_)
          obtain rfl : y_24 = nI (qOpen m + 1) := ey_24.trans (nI_1 _)
          refine cm_pOpen (x := (qOpen m + 1)) hx hb hts hown hK hd hP hS lMd_68 dMd_enter_132 (fun H locs hP hS => ?_)
          refine lv_iload hx hb dMd_enter_135 (lv_at hl 1 rfl) ?_
          refine lv_bipush (v := 13) hx hb dMd_enter_137 (by decide) ?_
          refine lv_icmp_ne (tgt := 155) hx hb dMd_enter_139 (by decide) (fun c_25 => ?_) (fun c_25 => ?_)
          · -- 139 taken
            exact W.vret hx hb hr (fun t9 ht hW => ⟨⟨zOpen (zLeft (zEnd (zBlk m (va_up (qBlk m) (qOpen m) i)) (va_up (qEnd m) (qOpen m) (min (i + 1 + n) (mLim m)))) (va_up (qLeft m) (qOpen m) (mK m i))) (qOpen m + 1), rfl, ((if_neg (fun q => c_20 (congrArg nI q.2))).trans (if_neg (fun q => c_25 (congrArg nI q)))).symm, ce_hp ht hP⟩, hS.F ht⟩) hS.2.2 dMd_enter_155
          · -- 139 not taken
            refine lv_aload_n hx hb dMd_enter_142 rfl (lv_at hl 4 rfl) ?_
            refine cm_g hx hb hts hown hK hP 15 (by decide) rfl lMd_41 rfl dMd_enter_143 ?_
            refine lv_iload hx hb dMd_enter_146 (lv_at hl 0 rfl) ?_
            refine lv_iconst (v := 2) hx hb dMd_enter_148 (by decide) ?_
            refine lv_irem hx hb dMd_enter_149 (by decide) ?_
            refine lv_topi (fun y_26 ey_26 => ?_)
            obtain rfl : y_26 = nI (mK m i % 2) := ey_26.trans (pk_rem (d := 2) (by omega) (by decide) (by decide))
            refine lv_dup2_11 hx hb dMd_enter_150 rfl rfl ?_
            refine cm_lHeld (i := (mK m i % 2)) (by omega) hx hb hK hP dMd_enter_151 ?_
            refine lv_topi (fun y_27 ey_27 => ?_)
            obtain rfl : y_27 = qHeld m (mK m i % 2) := ey_27.trans (by rw [qHeld_zOpen, qHeld_zLeft, qHeld_zEnd, qHeld_zBlk])
            refine lv_iconst (v := 1) hx hb dMd_enter_152 (by decide) ?_
            refine lv_iadd hx hb dMd_enter_153 ?_
            refine cm_sHeld (i := (mK m i % 2)) (x := (qHeld m (mK m i % 2)) + 1) (by omega) hx hb hK hd hP hS dMd_enter_154 (fun H locs hP hS => ?_)
            rw [qHeld_zOpen, qHeld_zLeft, qHeld_zEnd, qHeld_zBlk] at hP
            exact W.vret hx hb hr (fun t9 ht hW => ⟨⟨zHeld (zOpen (zLeft (zEnd (zBlk m (va_up (qBlk m) (qOpen m) i)) (va_up (qEnd m) (qOpen m) (min (i + 1 + n) (mLim m)))) (va_up (qLeft m) (qOpen m) (mK m i))) (qOpen m + 1)) (upd (qHeld m) (mK m i % 2) ((qHeld m (mK m i % 2)) + 1)), rfl, ((if_neg (fun q => c_20 (congrArg nI q.2))).trans (if_pos ((nI_eq (b := 13) (by omega) (by decide)).mp c_25))).symm, ce_hp ht hP⟩, hS.F ht⟩) hS.2.2 dMd_enter_155
        · -- 83 not taken
          refine lv_aload_n hx hb dMd_enter_86 rfl (lv_at hl 4 rfl) ?_
          refine lv_iload hx hb dMd_enter_87 (lv_at hl 2 rfl) ?_
          refine cm_pAt (x := (min (i + 1 + n) (mLim m))) hx hb hts hown hK hd hP hS lMd_59 dMd_enter_89 (fun H locs hP hS => ?_)
          exact W.vret hx hb hr (fun t9 ht hW => ⟨⟨zAt m (min (i + 1 + n) (mLim m)), rfl, (if_pos ⟨(nI_eq (b := 14) (by omega) (by decide)).mp c_12, (nI_eq (b := 0) (by omega) (by decide)).mp c_20⟩).symm, ce_hp ht hP⟩, hS.F ht⟩) hS.2.2 dMd_enter_92
    · -- 37 not taken
      refine lv_iload_n hx hb dMd_enter_40 rfl (lv_at hl 2 rfl) ?_
      refine lv_iconst (v := 1) hx hb dMd_enter_41 (by decide) ?_
      refine lv_iadd hx hb dMd_enter_42 ?_
      refine lv_topi (fun y_28 ey_28 => ?_)
      obtain rfl : y_28 = nI (i + 1) := ey_28.trans (nI_1 i)
      refine lv_iload_n hx hb dMd_enter_43 rfl (lv_at hl 3 rfl) ?_
      refine lv_iadd hx hb dMd_enter_44 ?_
      refine lv_topi (fun y_29 ey_29 => ?_)
      obtain rfl : y_29 = nI (i + 1 + n) := ey_29.trans (nI_add _ _)
      refine lv_goto (tgt := 49) hx hb dMd_enter_45 (by decide) ?_
      refine lv_topi (fun y_30 ey_30 => ?_)
      obtain rfl : y_30 = nI (min (i + 1 + n) (mLim m)) := ey_30.trans (congrArg nI (Nat.min_eq_left (Nat.le_of_lt ((nI_ltI (by omega) (by omega)).mp (Int32.not_le.mp c_6)))).symm)
      refine lv_istore (lv' := [(4, .int (nI (min (i + 1 + n) (mLim m)))), (3, .int (nI (mLim m))), (0, .ref (a 0)), (1, .int (nI i)), (2, .int (nI n))]) hx hb dMd_enter_49 hl (by decide) rfl (fun ls hl => ?_)
      refine lv_aload_n hx hb dMd_enter_51 rfl (lv_at hl 2 rfl) ?_
      refine cm_g hx hb hts hown hK hP 0 (by decide) rfl lMd_7 rfl dMd_enter_52 ?_
      refine lv_aload_n hx hb dMd_enter_55 rfl (lv_at hl 2 rfl) ?_
      refine cm_g hx hb hts hown hK hP 16 (by decide) rfl lMd_65 rfl dMd_enter_56 ?_
      refine lv_bipush (v := 14) hx hb dMd_enter_59 (by decide) ?_
      refine lv_imul hx hb dMd_enter_61 ?_
      refine lv_topi (fun y_31 ey_31 => ?_)
      obtain rfl : y_31 = nI (qProg m * 14) := ey_31.trans (pk_mul _ 14)
      refine lv_iload_n hx hb dMd_enter_62 rfl (lv_at hl 3 rfl) ?_
      refine lv_iadd hx hb dMd_enter_63 ?_
      refine lv_topi (fun y_32 ey_32 => ?_)
      obtain rfl : y_32 = nI (qProg m * 14 + i) := ey_32.trans (nI_add _ _)
      refine cm_lOp (i := (qProg m * 14 + i)) (by omega) hx hb hK hP dMd_enter_64 ?_
      refine lv_topi (fun y_33 ey_33 => ?_)
      obtain rfl : y_33 = nI (mO m i) := ey_33.trans (rfl)
      refine lv_istore (lv' := [(5, .int (nI (mO m i))), (4, .int (nI (min (i + 1 + n) (mLim m)))), (3, .int (nI (mLim m))), (0, .ref (a 0)), (1, .int (nI i)), (2, .int (nI n))]) hx hb dMd_enter_65 hl (by decide) rfl (fun ls hl => ?_)
      refine lv_aload_n hx hb dMd_enter_67 rfl (lv_at hl 3 rfl) ?_
      refine lv_iload_n hx hb dMd_enter_68 rfl (lv_at hl 4 rfl) ?_
      refine cm_ri (As := [.int (nI i)]) (rest := []) ⟨hx, hb, hml, hown, hts⟩ (c_Md_kOf l D cI cZ a m i hp hi h8) mMd_kOf lMd_71 iMd_kOf (ce_hR (by omega) (by decide)) ⟨rfl, rfl⟩ hK hP rfl hl.1 rfl (Nat.le_of_ble_eq_true rfl) dMd_enter_69 ⟨Nat.le_of_ble_eq_true rfl, Nat.le_of_ble_eq_true rfl⟩ (fun r_34 er_34 => ?_)
      obtain rfl : r_34 = nI (mK m i) := er_34
      refine lv_istore (lv' := [(6, .int (nI (mK m i))), (5, .int (nI (mO m i))), (4, .int (nI (min (i + 1 + n) (mLim m)))), (3, .int (nI (mLim m))), (0, .ref (a 0)), (1, .int (nI i)), (2, .int (nI n))]) hx hb dMd_enter_72 hl (by decide) rfl (fun ls hl => ?_)
      refine lv_iload hx hb dMd_enter_74 (lv_at hl 1 rfl) ?_
      refine lv_bipush (v := 14) hx hb dMd_enter_76 (by decide) ?_
      refine lv_icmp_ne (tgt := 93) hx hb dMd_enter_78 (by decide) (fun c_35 => ?_) (fun c_35 => ?_)
      · -- 78 taken
        refine lv_aload_n hx hb dMd_enter_93 rfl (lv_at hl 4 rfl) ?_
        refine cm_g hx hb hts hown hK hP 10 (by decide) rfl lMd_29 rfl dMd_enter_94 ?_
        refine lv_aload_n hx hb dMd_enter_97 rfl (lv_at hl 4 rfl) ?_
        refine cm_g hx hb hts hown hK hP 13 (by decide) rfl lMd_68 rfl dMd_enter_98 ?_
        refine lv_iload_n hx hb dMd_enter_101 rfl (lv_at hl 5 rfl) ?_
        refine cm_sBlk (i := (qOpen m)) (x := i) (by omega) hx hb hK hd hP hS dMd_enter_102 (fun H locs hP hS => ?_)
        refine lv_aload_n hx hb dMd_enter_103 rfl (lv_at hl 4 rfl) ?_
        refine cm_g hx hb hts hown hK hP 11 (by decide) rfl lMd_32 rfl dMd_enter_104 ?_
        refine lv_aload_n hx hb dMd_enter_107 rfl (lv_at hl 4 rfl) ?_
        refine cm_g hx hb hts hown hK hP 13 (by decide) rfl lMd_68 rfl dMd_enter_108 ?_
        refine lv_topi (fun y_36 ey_36 => ?_)
        obtain rfl : y_36 = nI (qOpen m) := ey_36.trans (by rw [qOpen_zBlk])
        refine lv_iload hx hb dMd_enter_111 (lv_at hl 2 rfl) ?_
        refine cm_sEnd (i := (qOpen m)) (x := (min (i + 1 + n) (mLim m))) (by omega) hx hb hK hd hP hS dMd_enter_113 (fun H locs hP hS => ?_)
        rw [qEnd_zBlk] at hP
        refine lv_aload_n hx hb dMd_enter_114 rfl (lv_at hl 4 rfl) ?_
        refine cm_g hx hb hts hown hK hP 12 (by decide) rfl lMd_35 rfl dMd_enter_115 ?_
        refine lv_aload_n hx hb dMd_enter_118 rfl (lv_at hl 4 rfl) ?_
        refine cm_g hx hb hts hown hK hP 13 (by decide) rfl lMd_68 rfl dMd_enter_119 ?_
        refine lv_topi (fun y_37 ey_37 => ?_)
        obtain rfl : y_37 = nI (qOpen m) := ey_37.trans (by rw [qOpen_zEnd, qOpen_zBlk])
        refine lv_iload hx hb dMd_enter_122 (lv_at hl 0 rfl) ?_
        refine cm_sLeft (i := (qOpen m)) (x := (mK m i)) (by omega) hx hb hK hd hP hS dMd_enter_124 (fun H locs hP hS => ?_)
        rw [qLeft_zEnd, qLeft_zBlk] at hP
        refine lv_aload_n hx hb dMd_enter_125 rfl (lv_at hl 4 rfl) ?_
        refine lv_dup hx hb dMd_enter_126 rfl ?_
        refine cm_g hx hb hts hown hK hP 13 (by decide) rfl lMd_68 rfl dMd_enter_127 ?_
        refine lv_topi (fun y_38 ey_38 => ?_)
        obtain rfl : y_38 = nI (qOpen m) := ey_38.trans (by rw [qOpen_zLeft, qOpen_zEnd, qOpen_zBlk])
        refine lv_iconst (v := 1) hx hb dMd_enter_130 (by decide) ?_
        refine lv_iadd hx hb dMd_enter_131 ?_
        refine lv_topi (fun y_39 ey_39 => ?_)
        obtain rfl : y_39 = nI (qOpen m + 1) := ey_39.trans (nI_1 _)
        refine cm_pOpen (x := (qOpen m + 1)) hx hb hts hown hK hd hP hS lMd_68 dMd_enter_132 (fun H locs hP hS => ?_)
        refine lv_iload hx hb dMd_enter_135 (lv_at hl 1 rfl) ?_
        refine lv_bipush (v := 13) hx hb dMd_enter_137 (by decide) ?_
        refine lv_icmp_ne (tgt := 155) hx hb dMd_enter_139 (by decide) (fun c_40 => ?_) (fun c_40 => ?_)
        · -- 139 taken
          exact W.vret hx hb hr (fun t9 ht hW => ⟨⟨zOpen (zLeft (zEnd (zBlk m (va_up (qBlk m) (qOpen m) i)) (va_up (qEnd m) (qOpen m) (min (i + 1 + n) (mLim m)))) (va_up (qLeft m) (qOpen m) (mK m i))) (qOpen m + 1), rfl, ((if_neg (fun q => c_35 (congrArg nI q.1))).trans (if_neg (fun q => c_40 (congrArg nI q)))).symm, ce_hp ht hP⟩, hS.F ht⟩) hS.2.2 dMd_enter_155
        · -- 139 not taken
          refine lv_aload_n hx hb dMd_enter_142 rfl (lv_at hl 4 rfl) ?_
          refine cm_g hx hb hts hown hK hP 15 (by decide) rfl lMd_41 rfl dMd_enter_143 ?_
          refine lv_iload hx hb dMd_enter_146 (lv_at hl 0 rfl) ?_
          refine lv_iconst (v := 2) hx hb dMd_enter_148 (by decide) ?_
          refine lv_irem hx hb dMd_enter_149 (by decide) ?_
          refine lv_topi (fun y_41 ey_41 => ?_)
          obtain rfl : y_41 = nI (mK m i % 2) := ey_41.trans (pk_rem (d := 2) (by omega) (by decide) (by decide))
          refine lv_dup2_11 hx hb dMd_enter_150 rfl rfl ?_
          refine cm_lHeld (i := (mK m i % 2)) (by omega) hx hb hK hP dMd_enter_151 ?_
          refine lv_topi (fun y_42 ey_42 => ?_)
          obtain rfl : y_42 = qHeld m (mK m i % 2) := ey_42.trans (by rw [qHeld_zOpen, qHeld_zLeft, qHeld_zEnd, qHeld_zBlk])
          refine lv_iconst (v := 1) hx hb dMd_enter_152 (by decide) ?_
          refine lv_iadd hx hb dMd_enter_153 ?_
          refine cm_sHeld (i := (mK m i % 2)) (x := (qHeld m (mK m i % 2)) + 1) (by omega) hx hb hK hd hP hS dMd_enter_154 (fun H locs hP hS => ?_)
          rw [qHeld_zOpen, qHeld_zLeft, qHeld_zEnd, qHeld_zBlk] at hP
          exact W.vret hx hb hr (fun t9 ht hW => ⟨⟨zHeld (zOpen (zLeft (zEnd (zBlk m (va_up (qBlk m) (qOpen m) i)) (va_up (qEnd m) (qOpen m) (min (i + 1 + n) (mLim m)))) (va_up (qLeft m) (qOpen m) (mK m i))) (qOpen m + 1)) (upd (qHeld m) (mK m i % 2) ((qHeld m (mK m i % 2)) + 1)), rfl, ((if_neg (fun q => c_35 (congrArg nI q.1))).trans (if_pos ((nI_eq (b := 13) (by omega) (by decide)).mp c_40))).symm, ce_hp ht hP⟩, hS.F ht⟩) hS.2.2 dMd_enter_155
      · -- 78 not taken
        refine lv_iload hx hb dMd_enter_81 (lv_at hl 0 rfl) ?_
        refine lv_if_ne (tgt := 93) hx hb dMd_enter_83 (by decide) (fun c_43 => ?_) (fun c_43 => ?_)
        · -- 83 taken
          refine lv_aload_n hx hb dMd_enter_93 rfl (lv_at hl 4 rfl) ?_
          refine cm_g hx hb hts hown hK hP 10 (by decide) rfl lMd_29 rfl dMd_enter_94 ?_
          refine lv_aload_n hx hb dMd_enter_97 rfl (lv_at hl 4 rfl) ?_
          refine cm_g hx hb hts hown hK hP 13 (by decide) rfl lMd_68 rfl dMd_enter_98 ?_
          refine lv_iload_n hx hb dMd_enter_101 rfl (lv_at hl 5 rfl) ?_
          refine cm_sBlk (i := (qOpen m)) (x := i) (by omega) hx hb hK hd hP hS dMd_enter_102 (fun H locs hP hS => ?_)
          refine lv_aload_n hx hb dMd_enter_103 rfl (lv_at hl 4 rfl) ?_
          refine cm_g hx hb hts hown hK hP 11 (by decide) rfl lMd_32 rfl dMd_enter_104 ?_
          refine lv_aload_n hx hb dMd_enter_107 rfl (lv_at hl 4 rfl) ?_
          refine cm_g hx hb hts hown hK hP 13 (by decide) rfl lMd_68 rfl dMd_enter_108 ?_
          refine lv_topi (fun y_44 ey_44 => ?_)
          obtain rfl : y_44 = nI (qOpen m) := ey_44.trans (by rw [qOpen_zBlk])
          refine lv_iload hx hb dMd_enter_111 (lv_at hl 2 rfl) ?_
          refine cm_sEnd (i := (qOpen m)) (x := (min (i + 1 + n) (mLim m))) (by omega) hx hb hK hd hP hS dMd_enter_113 (fun H locs hP hS => ?_)
          rw [qEnd_zBlk] at hP
          refine lv_aload_n hx hb dMd_enter_114 rfl (lv_at hl 4 rfl) ?_
          refine cm_g hx hb hts hown hK hP 12 (by decide) rfl lMd_35 rfl dMd_enter_115 ?_
          refine lv_aload_n hx hb dMd_enter_118 rfl (lv_at hl 4 rfl) ?_
          refine cm_g hx hb hts hown hK hP 13 (by decide) rfl lMd_68 rfl dMd_enter_119 ?_
          refine lv_topi (fun y_45 ey_45 => ?_)
          obtain rfl : y_45 = nI (qOpen m) := ey_45.trans (by rw [qOpen_zEnd, qOpen_zBlk])
          refine lv_iload hx hb dMd_enter_122 (lv_at hl 0 rfl) ?_
          refine cm_sLeft (i := (qOpen m)) (x := (mK m i)) (by omega) hx hb hK hd hP hS dMd_enter_124 (fun H locs hP hS => ?_)
          rw [qLeft_zEnd, qLeft_zBlk] at hP
          refine lv_aload_n hx hb dMd_enter_125 rfl (lv_at hl 4 rfl) ?_
          refine lv_dup hx hb dMd_enter_126 rfl ?_
          refine cm_g hx hb hts hown hK hP 13 (by decide) rfl lMd_68 rfl dMd_enter_127 ?_
          refine lv_topi (fun y_46 ey_46 => ?_)
          obtain rfl : y_46 = nI (qOpen m) := ey_46.trans (by rw [qOpen_zLeft, qOpen_zEnd, qOpen_zBlk])
          refine lv_iconst (v := 1) hx hb dMd_enter_130 (by decide) ?_
          refine lv_iadd hx hb dMd_enter_131 ?_
          refine lv_topi (fun y_47 ey_47 => ?_)
          obtain rfl : y_47 = nI (qOpen m + 1) := ey_47.trans (nI_1 _)
          refine cm_pOpen (x := (qOpen m + 1)) hx hb hts hown hK hd hP hS lMd_68 dMd_enter_132 (fun H locs hP hS => ?_)
          refine lv_iload hx hb dMd_enter_135 (lv_at hl 1 rfl) ?_
          refine lv_bipush (v := 13) hx hb dMd_enter_137 (by decide) ?_
          refine lv_icmp_ne (tgt := 155) hx hb dMd_enter_139 (by decide) (fun c_48 => ?_) (fun c_48 => ?_)
          · -- 139 taken
            exact W.vret hx hb hr (fun t9 ht hW => ⟨⟨zOpen (zLeft (zEnd (zBlk m (va_up (qBlk m) (qOpen m) i)) (va_up (qEnd m) (qOpen m) (min (i + 1 + n) (mLim m)))) (va_up (qLeft m) (qOpen m) (mK m i))) (qOpen m + 1), rfl, ((if_neg (fun q => c_43 (congrArg nI q.2))).trans (if_neg (fun q => c_48 (congrArg nI q)))).symm, ce_hp ht hP⟩, hS.F ht⟩) hS.2.2 dMd_enter_155
          · -- 139 not taken
            refine lv_aload_n hx hb dMd_enter_142 rfl (lv_at hl 4 rfl) ?_
            refine cm_g hx hb hts hown hK hP 15 (by decide) rfl lMd_41 rfl dMd_enter_143 ?_
            refine lv_iload hx hb dMd_enter_146 (lv_at hl 0 rfl) ?_
            refine lv_iconst (v := 2) hx hb dMd_enter_148 (by decide) ?_
            refine lv_irem hx hb dMd_enter_149 (by decide) ?_
            refine lv_topi (fun y_49 ey_49 => ?_)
            obtain rfl : y_49 = nI (mK m i % 2) := ey_49.trans (pk_rem (d := 2) (by omega) (by decide) (by decide))
            refine lv_dup2_11 hx hb dMd_enter_150 rfl rfl ?_
            refine cm_lHeld (i := (mK m i % 2)) (by omega) hx hb hK hP dMd_enter_151 ?_
            refine lv_topi (fun y_50 ey_50 => ?_)
            obtain rfl : y_50 = qHeld m (mK m i % 2) := ey_50.trans (by rw [qHeld_zOpen, qHeld_zLeft, qHeld_zEnd, qHeld_zBlk])
            refine lv_iconst (v := 1) hx hb dMd_enter_152 (by decide) ?_
            refine lv_iadd hx hb dMd_enter_153 ?_
            refine cm_sHeld (i := (mK m i % 2)) (x := (qHeld m (mK m i % 2)) + 1) (by omega) hx hb hK hd hP hS dMd_enter_154 (fun H locs hP hS => ?_)
            rw [qHeld_zOpen, qHeld_zLeft, qHeld_zEnd, qHeld_zBlk] at hP
            exact W.vret hx hb hr (fun t9 ht hW => ⟨⟨zHeld (zOpen (zLeft (zEnd (zBlk m (va_up (qBlk m) (qOpen m) i)) (va_up (qEnd m) (qOpen m) (min (i + 1 + n) (mLim m)))) (va_up (qLeft m) (qOpen m) (mK m i))) (qOpen m + 1)) (upd (qHeld m) (mK m i % 2) ((qHeld m (mK m i % 2)) + 1)), rfl, ((if_neg (fun q => c_43 (congrArg nI q.2))).trans (if_pos ((nI_eq (b := 13) (by omega) (by decide)).mp c_48))).symm, ce_hp ht hP⟩, hS.F ht⟩) hS.2.2 dMd_enter_155
        · -- 83 not taken
          refine lv_aload_n hx hb dMd_enter_86 rfl (lv_at hl 4 rfl) ?_
          refine lv_iload hx hb dMd_enter_87 (lv_at hl 2 rfl) ?_
          refine cm_pAt (x := (min (i + 1 + n) (mLim m))) hx hb hts hown hK hd hP hS lMd_59 dMd_enter_89 (fun H locs hP hS => ?_)
          exact W.vret hx hb hr (fun t9 ht hW => ⟨⟨zAt m (min (i + 1 + n) (mLim m)), rfl, (if_pos ⟨(nI_eq (b := 14) (by omega) (by decide)).mp c_35, (nI_eq (b := 0) (by omega) (by decide)).mp c_43⟩).symm, ce_hp ht hP⟩, hS.F ht⟩) hS.2.2 dMd_enter_92
  · -- 4 not taken
    have h0 : qOpen m = 0 := (nI_eq (b := 0) (by omega) (by decide)).mp c_1
    refine lv_aload_n hx hb dMd_enter_7 rfl (lv_at hl 0 rfl) ?_
    refine cm_g hx hb hts hown hK hP 2 (by decide) rfl lMd_16 rfl dMd_enter_8 ?_
    refine lv_aload_n hx hb dMd_enter_11 rfl (lv_at hl 0 rfl) ?_
    refine cm_g hx hb hts hown hK hP 16 (by decide) rfl lMd_65 rfl dMd_enter_12 ?_
    refine cm_lSize (i := (qProg m)) (by omega) hx hb hK hP dMd_enter_15 ?_
    refine lv_topi (fun y_51 ey_51 => ?_)
    obtain rfl : y_51 = nI (mLim m) := ey_51.trans (congrArg nI (mLim_0 h0).symm)
    refine lv_goto (tgt := 30) hx hb dMd_enter_16 (by decide) ?_
    refine lv_istore_n (lv' := [(3, .int (nI (mLim m))), (0, .ref (a 0)), (1, .int (nI i)), (2, .int (nI n))]) hx hb dMd_enter_30 rfl hl (by decide) rfl (fun ls hl => ?_)
    refine lv_iload_n hx hb dMd_enter_31 rfl (lv_at hl 2 rfl) ?_
    refine lv_iconst (v := 1) hx hb dMd_enter_32 (by decide) ?_
    refine lv_iadd hx hb dMd_enter_33 ?_
    refine lv_topi (fun y_52 ey_52 => ?_)
    obtain rfl : y_52 = nI (i + 1) := ey_52.trans (nI_1 i)
    refine lv_iload_n hx hb dMd_enter_34 rfl (lv_at hl 3 rfl) ?_
    refine lv_iadd hx hb dMd_enter_35 ?_
    refine lv_topi (fun y_53 ey_53 => ?_)
    obtain rfl : y_53 = nI (i + 1 + n) := ey_53.trans (nI_add _ _)
    refine lv_iload_n hx hb dMd_enter_36 rfl (lv_at hl 0 rfl) ?_
    refine lv_icmp_ge (tgt := 48) hx hb dMd_enter_37 (by decide) (fun c_54 => ?_) (fun c_54 => ?_)
    · -- 37 taken
      refine lv_iload_n hx hb dMd_enter_48 rfl (lv_at hl 0 rfl) ?_
      refine lv_topi (fun y_55 ey_55 => ?_)
      obtain rfl : y_55 = nI (min (i + 1 + n) (mLim m)) := ey_55.trans (congrArg nI (Nat.min_eq_right ((nI_leI (by omega) (by omega)).mp c_54)).symm)
      refine lv_istore (lv' := [(4, .int (nI (min (i + 1 + n) (mLim m)))), (3, .int (nI (mLim m))), (0, .ref (a 0)), (1, .int (nI i)), (2, .int (nI n))]) hx hb dMd_enter_49 hl (by decide) rfl (fun ls hl => ?_)
      refine lv_aload_n hx hb dMd_enter_51 rfl (lv_at hl 2 rfl) ?_
      refine cm_g hx hb hts hown hK hP 0 (by decide) rfl lMd_7 rfl dMd_enter_52 ?_
      refine lv_aload_n hx hb dMd_enter_55 rfl (lv_at hl 2 rfl) ?_
      refine cm_g hx hb hts hown hK hP 16 (by decide) rfl lMd_65 rfl dMd_enter_56 ?_
      refine lv_bipush (v := 14) hx hb dMd_enter_59 (by decide) ?_
      refine lv_imul hx hb dMd_enter_61 ?_
      refine lv_topi (fun y_56 ey_56 => ?_)
      obtain rfl : y_56 = nI (qProg m * 14) := ey_56.trans (pk_mul _ 14)
      refine lv_iload_n hx hb dMd_enter_62 rfl (lv_at hl 3 rfl) ?_
      refine lv_iadd hx hb dMd_enter_63 ?_
      refine lv_topi (fun y_57 ey_57 => ?_)
      obtain rfl : y_57 = nI (qProg m * 14 + i) := ey_57.trans (nI_add _ _)
      refine cm_lOp (i := (qProg m * 14 + i)) (by omega) hx hb hK hP dMd_enter_64 ?_
      refine lv_topi (fun y_58 ey_58 => ?_)
      obtain rfl : y_58 = nI (mO m i) := ey_58.trans (rfl)
      refine lv_istore (lv' := [(5, .int (nI (mO m i))), (4, .int (nI (min (i + 1 + n) (mLim m)))), (3, .int (nI (mLim m))), (0, .ref (a 0)), (1, .int (nI i)), (2, .int (nI n))]) hx hb dMd_enter_65 hl (by decide) rfl (fun ls hl => ?_)
      refine lv_aload_n hx hb dMd_enter_67 rfl (lv_at hl 3 rfl) ?_
      refine lv_iload_n hx hb dMd_enter_68 rfl (lv_at hl 4 rfl) ?_
      refine cm_ri (As := [.int (nI i)]) (rest := []) ⟨hx, hb, hml, hown, hts⟩ (c_Md_kOf l D cI cZ a m i hp hi h8) mMd_kOf lMd_71 iMd_kOf (ce_hR (by omega) (by decide)) ⟨rfl, rfl⟩ hK hP rfl hl.1 rfl (Nat.le_of_ble_eq_true rfl) dMd_enter_69 ⟨Nat.le_of_ble_eq_true rfl, Nat.le_of_ble_eq_true rfl⟩ (fun r_59 er_59 => ?_)
      obtain rfl : r_59 = nI (mK m i) := er_59
      refine lv_istore (lv' := [(6, .int (nI (mK m i))), (5, .int (nI (mO m i))), (4, .int (nI (min (i + 1 + n) (mLim m)))), (3, .int (nI (mLim m))), (0, .ref (a 0)), (1, .int (nI i)), (2, .int (nI n))]) hx hb dMd_enter_72 hl (by decide) rfl (fun ls hl => ?_)
      refine lv_iload hx hb dMd_enter_74 (lv_at hl 1 rfl) ?_
      refine lv_bipush (v := 14) hx hb dMd_enter_76 (by decide) ?_
      refine lv_icmp_ne (tgt := 93) hx hb dMd_enter_78 (by decide) (fun c_60 => ?_) (fun c_60 => ?_)
      · -- 78 taken
        refine lv_aload_n hx hb dMd_enter_93 rfl (lv_at hl 4 rfl) ?_
        refine cm_g hx hb hts hown hK hP 10 (by decide) rfl lMd_29 rfl dMd_enter_94 ?_
        refine lv_aload_n hx hb dMd_enter_97 rfl (lv_at hl 4 rfl) ?_
        refine cm_g hx hb hts hown hK hP 13 (by decide) rfl lMd_68 rfl dMd_enter_98 ?_
        refine lv_iload_n hx hb dMd_enter_101 rfl (lv_at hl 5 rfl) ?_
        refine cm_sBlk (i := (qOpen m)) (x := i) (by omega) hx hb hK hd hP hS dMd_enter_102 (fun H locs hP hS => ?_)
        refine lv_aload_n hx hb dMd_enter_103 rfl (lv_at hl 4 rfl) ?_
        refine cm_g hx hb hts hown hK hP 11 (by decide) rfl lMd_32 rfl dMd_enter_104 ?_
        refine lv_aload_n hx hb dMd_enter_107 rfl (lv_at hl 4 rfl) ?_
        refine cm_g hx hb hts hown hK hP 13 (by decide) rfl lMd_68 rfl dMd_enter_108 ?_
        refine lv_topi (fun y_61 ey_61 => ?_)
        obtain rfl : y_61 = nI (qOpen m) := ey_61.trans (by rw [qOpen_zBlk])
        refine lv_iload hx hb dMd_enter_111 (lv_at hl 2 rfl) ?_
        refine cm_sEnd (i := (qOpen m)) (x := (min (i + 1 + n) (mLim m))) (by omega) hx hb hK hd hP hS dMd_enter_113 (fun H locs hP hS => ?_)
        rw [qEnd_zBlk] at hP
        refine lv_aload_n hx hb dMd_enter_114 rfl (lv_at hl 4 rfl) ?_
        refine cm_g hx hb hts hown hK hP 12 (by decide) rfl lMd_35 rfl dMd_enter_115 ?_
        refine lv_aload_n hx hb dMd_enter_118 rfl (lv_at hl 4 rfl) ?_
        refine cm_g hx hb hts hown hK hP 13 (by decide) rfl lMd_68 rfl dMd_enter_119 ?_
        refine lv_topi (fun y_62 ey_62 => ?_)
        obtain rfl : y_62 = nI (qOpen m) := ey_62.trans (by rw [qOpen_zEnd, qOpen_zBlk])
        refine lv_iload hx hb dMd_enter_122 (lv_at hl 0 rfl) ?_
        refine cm_sLeft (i := (qOpen m)) (x := (mK m i)) (by omega) hx hb hK hd hP hS dMd_enter_124 (fun H locs hP hS => ?_)
        rw [qLeft_zEnd, qLeft_zBlk] at hP
        refine lv_aload_n hx hb dMd_enter_125 rfl (lv_at hl 4 rfl) ?_
        refine lv_dup hx hb dMd_enter_126 rfl ?_
        refine cm_g hx hb hts hown hK hP 13 (by decide) rfl lMd_68 rfl dMd_enter_127 ?_
        refine lv_topi (fun y_63 ey_63 => ?_)
        obtain rfl : y_63 = nI (qOpen m) := ey_63.trans (by rw [qOpen_zLeft, qOpen_zEnd, qOpen_zBlk])
        refine lv_iconst (v := 1) hx hb dMd_enter_130 (by decide) ?_
        refine lv_iadd hx hb dMd_enter_131 ?_
        refine lv_topi (fun y_64 ey_64 => ?_)
        obtain rfl : y_64 = nI (qOpen m + 1) := ey_64.trans (nI_1 _)
        refine cm_pOpen (x := (qOpen m + 1)) hx hb hts hown hK hd hP hS lMd_68 dMd_enter_132 (fun H locs hP hS => ?_)
        refine lv_iload hx hb dMd_enter_135 (lv_at hl 1 rfl) ?_
        refine lv_bipush (v := 13) hx hb dMd_enter_137 (by decide) ?_
        refine lv_icmp_ne (tgt := 155) hx hb dMd_enter_139 (by decide) (fun c_65 => ?_) (fun c_65 => ?_)
        · -- 139 taken
          exact W.vret hx hb hr (fun t9 ht hW => ⟨⟨zOpen (zLeft (zEnd (zBlk m (va_up (qBlk m) (qOpen m) i)) (va_up (qEnd m) (qOpen m) (min (i + 1 + n) (mLim m)))) (va_up (qLeft m) (qOpen m) (mK m i))) (qOpen m + 1), rfl, ((if_neg (fun q => c_60 (congrArg nI q.1))).trans (if_neg (fun q => c_65 (congrArg nI q)))).symm, ce_hp ht hP⟩, hS.F ht⟩) hS.2.2 dMd_enter_155
        · -- 139 not taken
          refine lv_aload_n hx hb dMd_enter_142 rfl (lv_at hl 4 rfl) ?_
          refine cm_g hx hb hts hown hK hP 15 (by decide) rfl lMd_41 rfl dMd_enter_143 ?_
          refine lv_iload hx hb dMd_enter_146 (lv_at hl 0 rfl) ?_
          refine lv_iconst (v := 2) hx hb dMd_enter_148 (by decide) ?_
          refine lv_irem hx hb dMd_enter_149 (by decide) ?_
          refine lv_topi (fun y_66 ey_66 => ?_)
          obtain rfl : y_66 = nI (mK m i % 2) := ey_66.trans (pk_rem (d := 2) (by omega) (by decide) (by decide))
          refine lv_dup2_11 hx hb dMd_enter_150 rfl rfl ?_
          refine cm_lHeld (i := (mK m i % 2)) (by omega) hx hb hK hP dMd_enter_151 ?_
          refine lv_topi (fun y_67 ey_67 => ?_)
          obtain rfl : y_67 = qHeld m (mK m i % 2) := ey_67.trans (by rw [qHeld_zOpen, qHeld_zLeft, qHeld_zEnd, qHeld_zBlk])
          refine lv_iconst (v := 1) hx hb dMd_enter_152 (by decide) ?_
          refine lv_iadd hx hb dMd_enter_153 ?_
          refine cm_sHeld (i := (mK m i % 2)) (x := (qHeld m (mK m i % 2)) + 1) (by omega) hx hb hK hd hP hS dMd_enter_154 (fun H locs hP hS => ?_)
          rw [qHeld_zOpen, qHeld_zLeft, qHeld_zEnd, qHeld_zBlk] at hP
          exact W.vret hx hb hr (fun t9 ht hW => ⟨⟨zHeld (zOpen (zLeft (zEnd (zBlk m (va_up (qBlk m) (qOpen m) i)) (va_up (qEnd m) (qOpen m) (min (i + 1 + n) (mLim m)))) (va_up (qLeft m) (qOpen m) (mK m i))) (qOpen m + 1)) (upd (qHeld m) (mK m i % 2) ((qHeld m (mK m i % 2)) + 1)), rfl, ((if_neg (fun q => c_60 (congrArg nI q.1))).trans (if_pos ((nI_eq (b := 13) (by omega) (by decide)).mp c_65))).symm, ce_hp ht hP⟩, hS.F ht⟩) hS.2.2 dMd_enter_155
      · -- 78 not taken
        refine lv_iload hx hb dMd_enter_81 (lv_at hl 0 rfl) ?_
        refine lv_if_ne (tgt := 93) hx hb dMd_enter_83 (by decide) (fun c_68 => ?_) (fun c_68 => ?_)
        · -- 83 taken
          refine lv_aload_n hx hb dMd_enter_93 rfl (lv_at hl 4 rfl) ?_
          refine cm_g hx hb hts hown hK hP 10 (by decide) rfl lMd_29 rfl dMd_enter_94 ?_
          refine lv_aload_n hx hb dMd_enter_97 rfl (lv_at hl 4 rfl) ?_
          refine cm_g hx hb hts hown hK hP 13 (by decide) rfl lMd_68 rfl dMd_enter_98 ?_
          refine lv_iload_n hx hb dMd_enter_101 rfl (lv_at hl 5 rfl) ?_
          refine cm_sBlk (i := (qOpen m)) (x := i) (by omega) hx hb hK hd hP hS dMd_enter_102 (fun H locs hP hS => ?_)
          refine lv_aload_n hx hb dMd_enter_103 rfl (lv_at hl 4 rfl) ?_
          refine cm_g hx hb hts hown hK hP 11 (by decide) rfl lMd_32 rfl dMd_enter_104 ?_
          refine lv_aload_n hx hb dMd_enter_107 rfl (lv_at hl 4 rfl) ?_
          refine cm_g hx hb hts hown hK hP 13 (by decide) rfl lMd_68 rfl dMd_enter_108 ?_
          refine lv_topi (fun y_69 ey_69 => ?_)
          obtain rfl : y_69 = nI (qOpen m) := ey_69.trans (by rw [qOpen_zBlk])
          refine lv_iload hx hb dMd_enter_111 (lv_at hl 2 rfl) ?_
          refine cm_sEnd (i := (qOpen m)) (x := (min (i + 1 + n) (mLim m))) (by omega) hx hb hK hd hP hS dMd_enter_113 (fun H locs hP hS => ?_)
          rw [qEnd_zBlk] at hP
          refine lv_aload_n hx hb dMd_enter_114 rfl (lv_at hl 4 rfl) ?_
          refine cm_g hx hb hts hown hK hP 12 (by decide) rfl lMd_35 rfl dMd_enter_115 ?_
          refine lv_aload_n hx hb dMd_enter_118 rfl (lv_at hl 4 rfl) ?_
          refine cm_g hx hb hts hown hK hP 13 (by decide) rfl lMd_68 rfl dMd_enter_119 ?_
          refine lv_topi (fun y_70 ey_70 => ?_)
          obtain rfl : y_70 = nI (qOpen m) := ey_70.trans (by rw [qOpen_zEnd, qOpen_zBlk])
          refine lv_iload hx hb dMd_enter_122 (lv_at hl 0 rfl) ?_
          refine cm_sLeft (i := (qOpen m)) (x := (mK m i)) (by omega) hx hb hK hd hP hS dMd_enter_124 (fun H locs hP hS => ?_)
          rw [qLeft_zEnd, qLeft_zBlk] at hP
          refine lv_aload_n hx hb dMd_enter_125 rfl (lv_at hl 4 rfl) ?_
          refine lv_dup hx hb dMd_enter_126 rfl ?_
          refine cm_g hx hb hts hown hK hP 13 (by decide) rfl lMd_68 rfl dMd_enter_127 ?_
          refine lv_topi (fun y_71 ey_71 => ?_)
          obtain rfl : y_71 = nI (qOpen m) := ey_71.trans (by rw [qOpen_zLeft, qOpen_zEnd, qOpen_zBlk])
          refine lv_iconst (v := 1) hx hb dMd_enter_130 (by decide) ?_
          refine lv_iadd hx hb dMd_enter_131 ?_
          refine lv_topi (fun y_72 ey_72 => ?_)
          obtain rfl : y_72 = nI (qOpen m + 1) := ey_72.trans (nI_1 _)
          refine cm_pOpen (x := (qOpen m + 1)) hx hb hts hown hK hd hP hS lMd_68 dMd_enter_132 (fun H locs hP hS => ?_)
          refine lv_iload hx hb dMd_enter_135 (lv_at hl 1 rfl) ?_
          refine lv_bipush (v := 13) hx hb dMd_enter_137 (by decide) ?_
          refine lv_icmp_ne (tgt := 155) hx hb dMd_enter_139 (by decide) (fun c_73 => ?_) (fun c_73 => ?_)
          · -- 139 taken
            exact W.vret hx hb hr (fun t9 ht hW => ⟨⟨zOpen (zLeft (zEnd (zBlk m (va_up (qBlk m) (qOpen m) i)) (va_up (qEnd m) (qOpen m) (min (i + 1 + n) (mLim m)))) (va_up (qLeft m) (qOpen m) (mK m i))) (qOpen m + 1), rfl, ((if_neg (fun q => c_68 (congrArg nI q.2))).trans (if_neg (fun q => c_73 (congrArg nI q)))).symm, ce_hp ht hP⟩, hS.F ht⟩) hS.2.2 dMd_enter_155
          · -- 139 not taken
            refine lv_aload_n hx hb dMd_enter_142 rfl (lv_at hl 4 rfl) ?_
            refine cm_g hx hb hts hown hK hP 15 (by decide) rfl lMd_41 rfl dMd_enter_143 ?_
            refine lv_iload hx hb dMd_enter_146 (lv_at hl 0 rfl) ?_
            refine lv_iconst (v := 2) hx hb dMd_enter_148 (by decide) ?_
            refine lv_irem hx hb dMd_enter_149 (by decide) ?_
            refine lv_topi (fun y_74 ey_74 => ?_)
            obtain rfl : y_74 = nI (mK m i % 2) := ey_74.trans (pk_rem (d := 2) (by omega) (by decide) (by decide))
            refine lv_dup2_11 hx hb dMd_enter_150 rfl rfl ?_
            refine cm_lHeld (i := (mK m i % 2)) (by omega) hx hb hK hP dMd_enter_151 ?_
            refine lv_topi (fun y_75 ey_75 => ?_)
            obtain rfl : y_75 = qHeld m (mK m i % 2) := ey_75.trans (by rw [qHeld_zOpen, qHeld_zLeft, qHeld_zEnd, qHeld_zBlk])
            refine lv_iconst (v := 1) hx hb dMd_enter_152 (by decide) ?_
            refine lv_iadd hx hb dMd_enter_153 ?_
            refine cm_sHeld (i := (mK m i % 2)) (x := (qHeld m (mK m i % 2)) + 1) (by omega) hx hb hK hd hP hS dMd_enter_154 (fun H locs hP hS => ?_)
            rw [qHeld_zOpen, qHeld_zLeft, qHeld_zEnd, qHeld_zBlk] at hP
            exact W.vret hx hb hr (fun t9 ht hW => ⟨⟨zHeld (zOpen (zLeft (zEnd (zBlk m (va_up (qBlk m) (qOpen m) i)) (va_up (qEnd m) (qOpen m) (min (i + 1 + n) (mLim m)))) (va_up (qLeft m) (qOpen m) (mK m i))) (qOpen m + 1)) (upd (qHeld m) (mK m i % 2) ((qHeld m (mK m i % 2)) + 1)), rfl, ((if_neg (fun q => c_68 (congrArg nI q.2))).trans (if_pos ((nI_eq (b := 13) (by omega) (by decide)).mp c_73))).symm, ce_hp ht hP⟩, hS.F ht⟩) hS.2.2 dMd_enter_155
        · -- 83 not taken
          refine lv_aload_n hx hb dMd_enter_86 rfl (lv_at hl 4 rfl) ?_
          refine lv_iload hx hb dMd_enter_87 (lv_at hl 2 rfl) ?_
          refine cm_pAt (x := (min (i + 1 + n) (mLim m))) hx hb hts hown hK hd hP hS lMd_59 dMd_enter_89 (fun H locs hP hS => ?_)
          exact W.vret hx hb hr (fun t9 ht hW => ⟨⟨zAt m (min (i + 1 + n) (mLim m)), rfl, (if_pos ⟨(nI_eq (b := 14) (by omega) (by decide)).mp c_60, (nI_eq (b := 0) (by omega) (by decide)).mp c_68⟩).symm, ce_hp ht hP⟩, hS.F ht⟩) hS.2.2 dMd_enter_92
    · -- 37 not taken
      refine lv_iload_n hx hb dMd_enter_40 rfl (lv_at hl 2 rfl) ?_
      refine lv_iconst (v := 1) hx hb dMd_enter_41 (by decide) ?_
      refine lv_iadd hx hb dMd_enter_42 ?_
      refine lv_topi (fun y_76 ey_76 => ?_)
      obtain rfl : y_76 = nI (i + 1) := ey_76.trans (nI_1 i)
      refine lv_iload_n hx hb dMd_enter_43 rfl (lv_at hl 3 rfl) ?_
      refine lv_iadd hx hb dMd_enter_44 ?_
      refine lv_topi (fun y_77 ey_77 => ?_)
      obtain rfl : y_77 = nI (i + 1 + n) := ey_77.trans (nI_add _ _)
      refine lv_goto (tgt := 49) hx hb dMd_enter_45 (by decide) ?_
      refine lv_topi (fun y_78 ey_78 => ?_)
      obtain rfl : y_78 = nI (min (i + 1 + n) (mLim m)) := ey_78.trans (congrArg nI (Nat.min_eq_left (Nat.le_of_lt ((nI_ltI (by omega) (by omega)).mp (Int32.not_le.mp c_54)))).symm)
      refine lv_istore (lv' := [(4, .int (nI (min (i + 1 + n) (mLim m)))), (3, .int (nI (mLim m))), (0, .ref (a 0)), (1, .int (nI i)), (2, .int (nI n))]) hx hb dMd_enter_49 hl (by decide) rfl (fun ls hl => ?_)
      refine lv_aload_n hx hb dMd_enter_51 rfl (lv_at hl 2 rfl) ?_
      refine cm_g hx hb hts hown hK hP 0 (by decide) rfl lMd_7 rfl dMd_enter_52 ?_
      refine lv_aload_n hx hb dMd_enter_55 rfl (lv_at hl 2 rfl) ?_
      refine cm_g hx hb hts hown hK hP 16 (by decide) rfl lMd_65 rfl dMd_enter_56 ?_
      refine lv_bipush (v := 14) hx hb dMd_enter_59 (by decide) ?_
      refine lv_imul hx hb dMd_enter_61 ?_
      refine lv_topi (fun y_79 ey_79 => ?_)
      obtain rfl : y_79 = nI (qProg m * 14) := ey_79.trans (pk_mul _ 14)
      refine lv_iload_n hx hb dMd_enter_62 rfl (lv_at hl 3 rfl) ?_
      refine lv_iadd hx hb dMd_enter_63 ?_
      refine lv_topi (fun y_80 ey_80 => ?_)
      obtain rfl : y_80 = nI (qProg m * 14 + i) := ey_80.trans (nI_add _ _)
      refine cm_lOp (i := (qProg m * 14 + i)) (by omega) hx hb hK hP dMd_enter_64 ?_
      refine lv_topi (fun y_81 ey_81 => ?_)
      obtain rfl : y_81 = nI (mO m i) := ey_81.trans (rfl)
      refine lv_istore (lv' := [(5, .int (nI (mO m i))), (4, .int (nI (min (i + 1 + n) (mLim m)))), (3, .int (nI (mLim m))), (0, .ref (a 0)), (1, .int (nI i)), (2, .int (nI n))]) hx hb dMd_enter_65 hl (by decide) rfl (fun ls hl => ?_)
      refine lv_aload_n hx hb dMd_enter_67 rfl (lv_at hl 3 rfl) ?_
      refine lv_iload_n hx hb dMd_enter_68 rfl (lv_at hl 4 rfl) ?_
      refine cm_ri (As := [.int (nI i)]) (rest := []) ⟨hx, hb, hml, hown, hts⟩ (c_Md_kOf l D cI cZ a m i hp hi h8) mMd_kOf lMd_71 iMd_kOf (ce_hR (by omega) (by decide)) ⟨rfl, rfl⟩ hK hP rfl hl.1 rfl (Nat.le_of_ble_eq_true rfl) dMd_enter_69 ⟨Nat.le_of_ble_eq_true rfl, Nat.le_of_ble_eq_true rfl⟩ (fun r_82 er_82 => ?_)
      obtain rfl : r_82 = nI (mK m i) := er_82
      refine lv_istore (lv' := [(6, .int (nI (mK m i))), (5, .int (nI (mO m i))), (4, .int (nI (min (i + 1 + n) (mLim m)))), (3, .int (nI (mLim m))), (0, .ref (a 0)), (1, .int (nI i)), (2, .int (nI n))]) hx hb dMd_enter_72 hl (by decide) rfl (fun ls hl => ?_)
      refine lv_iload hx hb dMd_enter_74 (lv_at hl 1 rfl) ?_
      refine lv_bipush (v := 14) hx hb dMd_enter_76 (by decide) ?_
      refine lv_icmp_ne (tgt := 93) hx hb dMd_enter_78 (by decide) (fun c_83 => ?_) (fun c_83 => ?_)
      · -- 78 taken
        refine lv_aload_n hx hb dMd_enter_93 rfl (lv_at hl 4 rfl) ?_
        refine cm_g hx hb hts hown hK hP 10 (by decide) rfl lMd_29 rfl dMd_enter_94 ?_
        refine lv_aload_n hx hb dMd_enter_97 rfl (lv_at hl 4 rfl) ?_
        refine cm_g hx hb hts hown hK hP 13 (by decide) rfl lMd_68 rfl dMd_enter_98 ?_
        refine lv_iload_n hx hb dMd_enter_101 rfl (lv_at hl 5 rfl) ?_
        refine cm_sBlk (i := (qOpen m)) (x := i) (by omega) hx hb hK hd hP hS dMd_enter_102 (fun H locs hP hS => ?_)
        refine lv_aload_n hx hb dMd_enter_103 rfl (lv_at hl 4 rfl) ?_
        refine cm_g hx hb hts hown hK hP 11 (by decide) rfl lMd_32 rfl dMd_enter_104 ?_
        refine lv_aload_n hx hb dMd_enter_107 rfl (lv_at hl 4 rfl) ?_
        refine cm_g hx hb hts hown hK hP 13 (by decide) rfl lMd_68 rfl dMd_enter_108 ?_
        refine lv_topi (fun y_84 ey_84 => ?_)
        obtain rfl : y_84 = nI (qOpen m) := ey_84.trans (by rw [qOpen_zBlk])
        refine lv_iload hx hb dMd_enter_111 (lv_at hl 2 rfl) ?_
        refine cm_sEnd (i := (qOpen m)) (x := (min (i + 1 + n) (mLim m))) (by omega) hx hb hK hd hP hS dMd_enter_113 (fun H locs hP hS => ?_)
        rw [qEnd_zBlk] at hP
        refine lv_aload_n hx hb dMd_enter_114 rfl (lv_at hl 4 rfl) ?_
        refine cm_g hx hb hts hown hK hP 12 (by decide) rfl lMd_35 rfl dMd_enter_115 ?_
        refine lv_aload_n hx hb dMd_enter_118 rfl (lv_at hl 4 rfl) ?_
        refine cm_g hx hb hts hown hK hP 13 (by decide) rfl lMd_68 rfl dMd_enter_119 ?_
        refine lv_topi (fun y_85 ey_85 => ?_)
        obtain rfl : y_85 = nI (qOpen m) := ey_85.trans (by rw [qOpen_zEnd, qOpen_zBlk])
        refine lv_iload hx hb dMd_enter_122 (lv_at hl 0 rfl) ?_
        refine cm_sLeft (i := (qOpen m)) (x := (mK m i)) (by omega) hx hb hK hd hP hS dMd_enter_124 (fun H locs hP hS => ?_)
        rw [qLeft_zEnd, qLeft_zBlk] at hP
        refine lv_aload_n hx hb dMd_enter_125 rfl (lv_at hl 4 rfl) ?_
        refine lv_dup hx hb dMd_enter_126 rfl ?_
        refine cm_g hx hb hts hown hK hP 13 (by decide) rfl lMd_68 rfl dMd_enter_127 ?_
        refine lv_topi (fun y_86 ey_86 => ?_)
        obtain rfl : y_86 = nI (qOpen m) := ey_86.trans (by rw [qOpen_zLeft, qOpen_zEnd, qOpen_zBlk])
        refine lv_iconst (v := 1) hx hb dMd_enter_130 (by decide) ?_
        refine lv_iadd hx hb dMd_enter_131 ?_
        refine lv_topi (fun y_87 ey_87 => ?_)
        obtain rfl : y_87 = nI (qOpen m + 1) := ey_87.trans (nI_1 _)
        refine cm_pOpen (x := (qOpen m + 1)) hx hb hts hown hK hd hP hS lMd_68 dMd_enter_132 (fun H locs hP hS => ?_)
        refine lv_iload hx hb dMd_enter_135 (lv_at hl 1 rfl) ?_
        refine lv_bipush (v := 13) hx hb dMd_enter_137 (by decide) ?_
        refine lv_icmp_ne (tgt := 155) hx hb dMd_enter_139 (by decide) (fun c_88 => ?_) (fun c_88 => ?_)
        · -- 139 taken
          exact W.vret hx hb hr (fun t9 ht hW => ⟨⟨zOpen (zLeft (zEnd (zBlk m (va_up (qBlk m) (qOpen m) i)) (va_up (qEnd m) (qOpen m) (min (i + 1 + n) (mLim m)))) (va_up (qLeft m) (qOpen m) (mK m i))) (qOpen m + 1), rfl, ((if_neg (fun q => c_83 (congrArg nI q.1))).trans (if_neg (fun q => c_88 (congrArg nI q)))).symm, ce_hp ht hP⟩, hS.F ht⟩) hS.2.2 dMd_enter_155
        · -- 139 not taken
          refine lv_aload_n hx hb dMd_enter_142 rfl (lv_at hl 4 rfl) ?_
          refine cm_g hx hb hts hown hK hP 15 (by decide) rfl lMd_41 rfl dMd_enter_143 ?_
          refine lv_iload hx hb dMd_enter_146 (lv_at hl 0 rfl) ?_
          refine lv_iconst (v := 2) hx hb dMd_enter_148 (by decide) ?_
          refine lv_irem hx hb dMd_enter_149 (by decide) ?_
          refine lv_topi (fun y_89 ey_89 => ?_)
          obtain rfl : y_89 = nI (mK m i % 2) := ey_89.trans (pk_rem (d := 2) (by omega) (by decide) (by decide))
          refine lv_dup2_11 hx hb dMd_enter_150 rfl rfl ?_
          refine cm_lHeld (i := (mK m i % 2)) (by omega) hx hb hK hP dMd_enter_151 ?_
          refine lv_topi (fun y_90 ey_90 => ?_)
          obtain rfl : y_90 = qHeld m (mK m i % 2) := ey_90.trans (by rw [qHeld_zOpen, qHeld_zLeft, qHeld_zEnd, qHeld_zBlk])
          refine lv_iconst (v := 1) hx hb dMd_enter_152 (by decide) ?_
          refine lv_iadd hx hb dMd_enter_153 ?_
          refine cm_sHeld (i := (mK m i % 2)) (x := (qHeld m (mK m i % 2)) + 1) (by omega) hx hb hK hd hP hS dMd_enter_154 (fun H locs hP hS => ?_)
          rw [qHeld_zOpen, qHeld_zLeft, qHeld_zEnd, qHeld_zBlk] at hP
          exact W.vret hx hb hr (fun t9 ht hW => ⟨⟨zHeld (zOpen (zLeft (zEnd (zBlk m (va_up (qBlk m) (qOpen m) i)) (va_up (qEnd m) (qOpen m) (min (i + 1 + n) (mLim m)))) (va_up (qLeft m) (qOpen m) (mK m i))) (qOpen m + 1)) (upd (qHeld m) (mK m i % 2) ((qHeld m (mK m i % 2)) + 1)), rfl, ((if_neg (fun q => c_83 (congrArg nI q.1))).trans (if_pos ((nI_eq (b := 13) (by omega) (by decide)).mp c_88))).symm, ce_hp ht hP⟩, hS.F ht⟩) hS.2.2 dMd_enter_155
      · -- 78 not taken
        refine lv_iload hx hb dMd_enter_81 (lv_at hl 0 rfl) ?_
        refine lv_if_ne (tgt := 93) hx hb dMd_enter_83 (by decide) (fun c_91 => ?_) (fun c_91 => ?_)
        · -- 83 taken
          refine lv_aload_n hx hb dMd_enter_93 rfl (lv_at hl 4 rfl) ?_
          refine cm_g hx hb hts hown hK hP 10 (by decide) rfl lMd_29 rfl dMd_enter_94 ?_
          refine lv_aload_n hx hb dMd_enter_97 rfl (lv_at hl 4 rfl) ?_
          refine cm_g hx hb hts hown hK hP 13 (by decide) rfl lMd_68 rfl dMd_enter_98 ?_
          refine lv_iload_n hx hb dMd_enter_101 rfl (lv_at hl 5 rfl) ?_
          refine cm_sBlk (i := (qOpen m)) (x := i) (by omega) hx hb hK hd hP hS dMd_enter_102 (fun H locs hP hS => ?_)
          refine lv_aload_n hx hb dMd_enter_103 rfl (lv_at hl 4 rfl) ?_
          refine cm_g hx hb hts hown hK hP 11 (by decide) rfl lMd_32 rfl dMd_enter_104 ?_
          refine lv_aload_n hx hb dMd_enter_107 rfl (lv_at hl 4 rfl) ?_
          refine cm_g hx hb hts hown hK hP 13 (by decide) rfl lMd_68 rfl dMd_enter_108 ?_
          refine lv_topi (fun y_92 ey_92 => ?_)
          obtain rfl : y_92 = nI (qOpen m) := ey_92.trans (by rw [qOpen_zBlk])
          refine lv_iload hx hb dMd_enter_111 (lv_at hl 2 rfl) ?_
          refine cm_sEnd (i := (qOpen m)) (x := (min (i + 1 + n) (mLim m))) (by omega) hx hb hK hd hP hS dMd_enter_113 (fun H locs hP hS => ?_)
          rw [qEnd_zBlk] at hP
          refine lv_aload_n hx hb dMd_enter_114 rfl (lv_at hl 4 rfl) ?_
          refine cm_g hx hb hts hown hK hP 12 (by decide) rfl lMd_35 rfl dMd_enter_115 ?_
          refine lv_aload_n hx hb dMd_enter_118 rfl (lv_at hl 4 rfl) ?_
          refine cm_g hx hb hts hown hK hP 13 (by decide) rfl lMd_68 rfl dMd_enter_119 ?_
          refine lv_topi (fun y_93 ey_93 => ?_)
          obtain rfl : y_93 = nI (qOpen m) := ey_93.trans (by rw [qOpen_zEnd, qOpen_zBlk])
          refine lv_iload hx hb dMd_enter_122 (lv_at hl 0 rfl) ?_
          refine cm_sLeft (i := (qOpen m)) (x := (mK m i)) (by omega) hx hb hK hd hP hS dMd_enter_124 (fun H locs hP hS => ?_)
          rw [qLeft_zEnd, qLeft_zBlk] at hP
          refine lv_aload_n hx hb dMd_enter_125 rfl (lv_at hl 4 rfl) ?_
          refine lv_dup hx hb dMd_enter_126 rfl ?_
          refine cm_g hx hb hts hown hK hP 13 (by decide) rfl lMd_68 rfl dMd_enter_127 ?_
          refine lv_topi (fun y_94 ey_94 => ?_)
          obtain rfl : y_94 = nI (qOpen m) := ey_94.trans (by rw [qOpen_zLeft, qOpen_zEnd, qOpen_zBlk])
          refine lv_iconst (v := 1) hx hb dMd_enter_130 (by decide) ?_
          refine lv_iadd hx hb dMd_enter_131 ?_
          refine lv_topi (fun y_95 ey_95 => ?_)
          obtain rfl : y_95 = nI (qOpen m + 1) := ey_95.trans (nI_1 _)
          refine cm_pOpen (x := (qOpen m + 1)) hx hb hts hown hK hd hP hS lMd_68 dMd_enter_132 (fun H locs hP hS => ?_)
          refine lv_iload hx hb dMd_enter_135 (lv_at hl 1 rfl) ?_
          refine lv_bipush (v := 13) hx hb dMd_enter_137 (by decide) ?_
          refine lv_icmp_ne (tgt := 155) hx hb dMd_enter_139 (by decide) (fun c_96 => ?_) (fun c_96 => ?_)
          · -- 139 taken
            exact W.vret hx hb hr (fun t9 ht hW => ⟨⟨zOpen (zLeft (zEnd (zBlk m (va_up (qBlk m) (qOpen m) i)) (va_up (qEnd m) (qOpen m) (min (i + 1 + n) (mLim m)))) (va_up (qLeft m) (qOpen m) (mK m i))) (qOpen m + 1), rfl, ((if_neg (fun q => c_91 (congrArg nI q.2))).trans (if_neg (fun q => c_96 (congrArg nI q)))).symm, ce_hp ht hP⟩, hS.F ht⟩) hS.2.2 dMd_enter_155
          · -- 139 not taken
            refine lv_aload_n hx hb dMd_enter_142 rfl (lv_at hl 4 rfl) ?_
            refine cm_g hx hb hts hown hK hP 15 (by decide) rfl lMd_41 rfl dMd_enter_143 ?_
            refine lv_iload hx hb dMd_enter_146 (lv_at hl 0 rfl) ?_
            refine lv_iconst (v := 2) hx hb dMd_enter_148 (by decide) ?_
            refine lv_irem hx hb dMd_enter_149 (by decide) ?_
            refine lv_topi (fun y_97 ey_97 => ?_)
            obtain rfl : y_97 = nI (mK m i % 2) := ey_97.trans (pk_rem (d := 2) (by omega) (by decide) (by decide))
            refine lv_dup2_11 hx hb dMd_enter_150 rfl rfl ?_
            refine cm_lHeld (i := (mK m i % 2)) (by omega) hx hb hK hP dMd_enter_151 ?_
            refine lv_topi (fun y_98 ey_98 => ?_)
            obtain rfl : y_98 = qHeld m (mK m i % 2) := ey_98.trans (by rw [qHeld_zOpen, qHeld_zLeft, qHeld_zEnd, qHeld_zBlk])
            refine lv_iconst (v := 1) hx hb dMd_enter_152 (by decide) ?_
            refine lv_iadd hx hb dMd_enter_153 ?_
            refine cm_sHeld (i := (mK m i % 2)) (x := (qHeld m (mK m i % 2)) + 1) (by omega) hx hb hK hd hP hS dMd_enter_154 (fun H locs hP hS => ?_)
            rw [qHeld_zOpen, qHeld_zLeft, qHeld_zEnd, qHeld_zBlk] at hP
            exact W.vret hx hb hr (fun t9 ht hW => ⟨⟨zHeld (zOpen (zLeft (zEnd (zBlk m (va_up (qBlk m) (qOpen m) i)) (va_up (qEnd m) (qOpen m) (min (i + 1 + n) (mLim m)))) (va_up (qLeft m) (qOpen m) (mK m i))) (qOpen m + 1)) (upd (qHeld m) (mK m i % 2) ((qHeld m (mK m i % 2)) + 1)), rfl, ((if_neg (fun q => c_91 (congrArg nI q.2))).trans (if_pos ((nI_eq (b := 13) (by omega) (by decide)).mp c_96))).symm, ce_hp ht hP⟩, hS.F ht⟩) hS.2.2 dMd_enter_155
        · -- 83 not taken
          refine lv_aload_n hx hb dMd_enter_86 rfl (lv_at hl 4 rfl) ?_
          refine lv_iload hx hb dMd_enter_87 (lv_at hl 2 rfl) ?_
          refine cm_pAt (x := (min (i + 1 + n) (mLim m))) hx hb hts hown hK hd hP hS lMd_59 dMd_enter_89 (fun H locs hP hS => ?_)
          exact W.vret hx hb hr (fun t9 ht hW => ⟨⟨zAt m (min (i + 1 + n) (mLim m)), rfl, (if_pos ⟨(nI_eq (b := 14) (by omega) (by decide)).mp c_83, (nI_eq (b := 0) (by omega) (by decide)).mp c_91⟩).symm, ce_hp ht hP⟩, hS.F ht⟩) hS.2.2 dMd_enter_92
set_option maxHeartbeats 8000000 in
set_option maxRecDepth 100000 in
theorem c_Md_leave (l : Launch) (D : va_G) (cI cZ : ClassId) (a : Nat → Nat) (hd : dM a) (m : MS) (d : Nat) (hp : qProg m < 6) (ho : qOpen m = d + 1) (hd15 : d < 15) (hi : qBlk m d < 14) (hop : mO m (qBlk m d) = 10 ∨ mO m (qBlk m d) = 11 ∨ mO m (qBlk m d) = 12 ∨ mO m (qBlk m d) = 13 ∨ mO m (qBlk m d) = 14) (h8 : mG m (qBlk m d) ≤ 255) (hlf : qLeft m d < 16) : Met l yMd_leave (ce_ws yMd_leave cMd_leave 4 none) (ce_rm 1) (cm_Pc D cI cZ [.ref (a 0)] (wM a cI cZ m)) (va_Qv (fun m2 => m2 = mLeave m d) (fun m2 t => va_P D vwCl (wM a cI cZ m2) t.heap) (aM a)) 0 0 (aM a) := by
  refine Met.ofW (cc := cMd_leave) (maxL := 4) (ret := none) (by decide) rfl ?_
  intro p e s mi args below meth c s₁ B hml hv
  obtain ⟨rfl, hP, hK⟩ := hv
  have hx := B.exec
  have hb := B.bytes
  have hr := B.returns
  have hts := atoms_spec (ws := ce_ws yMd_leave cMd_leave 4 none) B.pre
  have hown : s.vm.findClass RMd = some mi.cls := findClass_of_methodNamed B.named
  have hlocks := B.notSynchronized
  have hS : va_S (aM a) s.heap s.heap [] := va_S.rf
  have hl := lv_entry ([.ref (a 0)]) (n := 4) (Nat.le_of_ble_eq_true rfl)
  rw [lg_entry_eq]
  generalize (lg_sl ([.ref (a 0)]) ++ List.replicate (4 - (lg_sl ([.ref (a 0)])).length) Slot.unset).toArray = ls at hl ⊢
  have hl : lv_has ls 4 [(0, .ref (a 0))] := hl
  have hK16 : mK m (qBlk m d) < 16 := by unfold mK; unfold mG at h8; omega
  have hk2 : mK m (qBlk m d) % 2 < 2 := Nat.mod_lt _ (by decide)
  refine lv_aload_n hx hb dMd_leave_0 rfl (lv_at hl 0 rfl) ?_
  refine lv_dup hx hb dMd_leave_1 rfl ?_
  refine cm_g hx hb hts hown hK hP 13 (by decide) rfl lMd_68 rfl dMd_leave_2 ?_
  refine lv_topi (fun y_1 ey_1 => ?_)
  obtain rfl : y_1 = nI (d + 1) := ey_1.trans (congrArg nI ho)
  refine lv_iconst (v := 1) hx hb dMd_leave_5 (by decide) ?_
  refine lv_isub hx hb dMd_leave_6 ?_
  refine lv_topi (fun y_2 ey_2 => ?_)
  obtain rfl : y_2 = nI d := ey_2.trans (nI_pred d)
  refine cm_pOpen (x := d) hx hb hts hown hK hd hP hS lMd_68 dMd_leave_7 (fun H locs hP hS => ?_)
  refine lv_aload_n hx hb dMd_leave_10 rfl (lv_at hl 0 rfl) ?_
  refine cm_g hx hb hts hown hK hP 10 (by decide) rfl lMd_29 rfl dMd_leave_11 ?_
  refine lv_aload_n hx hb dMd_leave_14 rfl (lv_at hl 0 rfl) ?_
  refine cm_g hx hb hts hown hK hP 13 (by decide) rfl lMd_68 rfl dMd_leave_15 ?_
  refine lv_topi (fun y_3 ey_3 => ?_)
  obtain rfl : y_3 = nI d := ey_3.trans (by rw [qOpen_zOpen])
  refine cm_lBlk (i := d) (by omega) hx hb hK hP dMd_leave_18 ?_
  refine lv_topi (fun y_4 ey_4 => ?_)
  obtain rfl : y_4 = nI (qBlk m d) := ey_4.trans (by rw [qBlk_zOpen])
  refine lv_istore_n (lv' := [(1, .int (nI (qBlk m d))), (0, .ref (a 0))]) hx hb dMd_leave_19 rfl hl (by decide) rfl (fun ls hl => ?_)
  refine lv_aload_n hx hb dMd_leave_20 rfl (lv_at hl 1 rfl) ?_
  refine cm_g hx hb hts hown hK hP 0 (by decide) rfl lMd_7 rfl dMd_leave_21 ?_
  refine lv_aload_n hx hb dMd_leave_24 rfl (lv_at hl 1 rfl) ?_
  refine cm_g hx hb hts hown hK hP 16 (by decide) rfl lMd_65 rfl dMd_leave_25 ?_
  refine lv_topi (fun y_5 ey_5 => ?_)
  obtain rfl : y_5 = nI (qProg m) := ey_5.trans (by rw [qProg_zOpen])
  refine lv_bipush (v := 14) hx hb dMd_leave_28 (by decide) ?_
  refine lv_imul hx hb dMd_leave_30 ?_
  refine lv_topi (fun y_6 ey_6 => ?_)
  obtain rfl : y_6 = nI (qProg m * 14) := ey_6.trans (pk_mul _ 14)
  refine lv_iload_n hx hb dMd_leave_31 rfl (lv_at hl 0 rfl) ?_
  refine lv_iadd hx hb dMd_leave_32 ?_
  refine lv_topi (fun y_7 ey_7 => ?_)
  obtain rfl : y_7 = nI (qProg m * 14 + qBlk m d) := ey_7.trans (nI_add _ _)
  refine cm_lOp (i := (qProg m * 14 + qBlk m d)) (by omega) hx hb hK hP dMd_leave_33 ?_
  refine lv_topi (fun y_8 ey_8 => ?_)
  obtain rfl : y_8 = nI (qOp m (qProg m * 14 + qBlk m d)) := ey_8.trans (by rw [qOp_zOpen])
  rcases hop with hk | hk | hk | hk | hk
  · -- op 10
    refine lv_topi (fun y_9 ey_9 => ?_)
    obtain rfl : y_9 = nI 10 := ey_9.trans (congrArg nI hk)
    refine lv_istore_n (lv' := [(2, .int (nI 10)), (1, .int (nI (qBlk m d))), (0, .ref (a 0))]) hx hb dMd_leave_34 rfl hl (by decide) rfl (fun ls hl => ?_)
    refine lv_aload_n hx hb dMd_leave_35 rfl (lv_at hl 2 rfl) ?_
    refine lv_iload_n hx hb dMd_leave_36 rfl (lv_at hl 1 rfl) ?_
    refine cm_ri (As := [.int (nI (qBlk m d))]) (rest := []) ⟨hx, hb, hml, hown, hts⟩ (c_Md_kOf l D cI cZ a (zOpen m d) (qBlk m d) hp hi h8) mMd_kOf lMd_71 iMd_kOf (ce_hR (by omega) (by decide)) ⟨rfl, rfl⟩ hK hP rfl hl.1 rfl (Nat.le_of_ble_eq_true rfl) dMd_leave_37 ⟨Nat.le_of_ble_eq_true rfl, Nat.le_of_ble_eq_true rfl⟩ (fun r_10 er_10 => ?_)
    obtain rfl : r_10 = nI (mK m (qBlk m d)) := er_10
    refine lv_istore_n (lv' := [(3, .int (nI (mK m (qBlk m d)))), (2, .int (nI 10)), (1, .int (nI (qBlk m d))), (0, .ref (a 0))]) hx hb dMd_leave_40 rfl hl (by decide) rfl (fun ls hl => ?_)
    refine lv_aload_n hx hb dMd_leave_41 rfl (lv_at hl 3 rfl) ?_
    refine lv_aload_n hx hb dMd_leave_42 rfl (lv_at hl 3 rfl) ?_
    refine cm_g hx hb hts hown hK hP 11 (by decide) rfl lMd_32 rfl dMd_leave_43 ?_
    refine lv_aload_n hx hb dMd_leave_46 rfl (lv_at hl 3 rfl) ?_
    refine cm_g hx hb hts hown hK hP 13 (by decide) rfl lMd_68 rfl dMd_leave_47 ?_
    refine lv_topi (fun y_11 ey_11 => ?_)
    obtain rfl : y_11 = nI d := ey_11.trans (by rw [qOpen_zOpen])
    refine cm_lEnd (i := d) (by omega) hx hb hK hP dMd_leave_50 ?_
    refine lv_topi (fun y_12 ey_12 => ?_)
    obtain rfl : y_12 = nI (qEnd m d) := ey_12.trans (by rw [qEnd_zOpen])
    refine cm_pAt (x := (qEnd m d)) hx hb hts hown hK hd hP hS lMd_59 dMd_leave_51 (fun H locs hP hS => ?_)
    refine lv_iload_n hx hb dMd_leave_54 rfl (lv_at hl 1 rfl) ?_
    refine lv_bipush (v := 11) hx hb dMd_leave_55 (by decide) ?_
    refine lv_icmp_eq (tgt := 66) hx hb dMd_leave_57 (by decide) (fun c_13 => ?_) (fun c_13 => ?_)
    · -- 57 taken
      exact absurd c_13 (by decide)
    · -- 57 not taken
      refine lv_iload_n hx hb dMd_leave_60 rfl (lv_at hl 1 rfl) ?_
      refine lv_bipush (v := 12) hx hb dMd_leave_61 (by decide) ?_
      refine lv_icmp_ne (tgt := 76) hx hb dMd_leave_63 (by decide) (fun c_14 => ?_) (fun c_14 => ?_)
      · -- 63 taken
        refine lv_iload_n hx hb dMd_leave_76 rfl (lv_at hl 1 rfl) ?_
        refine lv_bipush (v := 11) hx hb dMd_leave_77 (by decide) ?_
        refine lv_icmp_ne (tgt := 91) hx hb dMd_leave_79 (by decide) (fun c_15 => ?_) (fun c_15 => ?_)
        · -- 79 taken
          refine lv_iload_n hx hb dMd_leave_91 rfl (lv_at hl 1 rfl) ?_
          refine lv_bipush (v := 13) hx hb dMd_leave_92 (by decide) ?_
          refine lv_icmp_ne (tgt := 109) hx hb dMd_leave_94 (by decide) (fun c_16 => ?_) (fun c_16 => ?_)
          · -- 94 taken
            refine lv_iload_n hx hb dMd_leave_109 rfl (lv_at hl 1 rfl) ?_
            refine lv_bipush (v := 12) hx hb dMd_leave_110 (by decide) ?_
            refine lv_icmp_ne (tgt := 125) hx hb dMd_leave_112 (by decide) (fun c_17 => ?_) (fun c_17 => ?_)
            · -- 112 taken
              refine lv_iload_n hx hb dMd_leave_125 rfl (lv_at hl 1 rfl) ?_
              refine lv_bipush (v := 10) hx hb dMd_leave_126 (by decide) ?_
              refine lv_icmp_ne (tgt := 229) hx hb dMd_leave_128 (by decide) (fun c_18 => ?_) (fun c_18 => ?_)
              · -- 128 taken
                exact absurd c_18 (by decide)
              · -- 128 not taken
                refine lv_aload_n hx hb dMd_leave_131 rfl (lv_at hl 3 rfl) ?_
                refine cm_g hx hb hts hown hK hP 22 (by decide) rfl lMd_52 rfl dMd_leave_132 ?_
                refine lv_topi (fun y_19 ey_19 => ?_)
                obtain rfl : y_19 = qTr m := ey_19.trans (by rw [qTr_zAt, qTr_zOpen])
                refine lv_if_lt (tgt := 229) hx hb dMd_leave_135 (by decide) (fun c_20 => ?_) (fun c_20 => ?_)
                · -- 135 taken
                  refine lv_iload_n hx hb dMd_leave_229 rfl (lv_at hl 1 rfl) ?_
                  refine lv_bipush (v := 14) hx hb dMd_leave_230 (by decide) ?_
                  refine lv_icmp_ne (tgt := 262) hx hb dMd_leave_232 (by decide) (fun c_21 => ?_) (fun c_21 => ?_)
                  · -- 232 taken
                    exact W.vret hx hb hr (fun t9 ht hW => ⟨⟨zAt (zOpen m d) (qEnd m d), rfl, ((mLeave_10 hk).trans (if_neg (fun q => q.1 c_20))).symm, ce_hp ht hP⟩, hS.F ht⟩) hS.2.2 dMd_leave_262
                  · -- 232 not taken
                    exact absurd c_21 (by decide)
                · -- 135 not taken
                  refine lv_iload_n hx hb dMd_leave_138 rfl (lv_at hl 0 rfl) ?_
                  refine lv_aload_n hx hb dMd_leave_139 rfl (lv_at hl 3 rfl) ?_
                  refine cm_g hx hb hts hown hK hP 22 (by decide) rfl lMd_52 rfl dMd_leave_140 ?_
                  refine lv_topi (fun y_22 ey_22 => ?_)
                  obtain rfl : y_22 = qTr m := ey_22.trans (by rw [qTr_zAt, qTr_zOpen])
                  refine cm_si (As := [.int (nI (mK m (qBlk m d))), .int (qTr m)]) (rest := []) ⟨hx, hb, hml, hown, hts⟩ (c_Md_takes l D cI cZ a _ (mK m (qBlk m d)) hK16 (qTr m)) mMd_takes lMd_85 sMd_takes (ce_hR (by omega) (by decide)) ⟨rfl, rfl⟩ hK hP rfl hl.1 rfl (Nat.le_of_ble_eq_true rfl) dMd_leave_143 ⟨Nat.le_of_ble_eq_true rfl, Nat.le_of_ble_eq_true rfl⟩ (fun r_23 er_23 => ?_)
                  obtain rfl : r_23 = bI (mTakes (mK m (qBlk m d)) (qTr m)) := er_23
                  refine lv_if_eq (tgt := 229) hx hb dMd_leave_146 (by decide) (fun c_24 => ?_) (fun c_24 => ?_)
                  · -- 146 taken
                    refine lv_iload_n hx hb dMd_leave_229 rfl (lv_at hl 1 rfl) ?_
                    refine lv_bipush (v := 14) hx hb dMd_leave_230 (by decide) ?_
                    refine lv_icmp_ne (tgt := 262) hx hb dMd_leave_232 (by decide) (fun c_25 => ?_) (fun c_25 => ?_)
                    · -- 232 taken
                      exact W.vret hx hb hr (fun t9 ht hW => ⟨⟨zAt (zOpen m d) (qEnd m d), rfl, ((mLeave_10 hk).trans (if_neg (fun q => absurd q.2 (by rw [bI0 c_24]; decide)))).symm, ce_hp ht hP⟩, hS.F ht⟩) hS.2.2 dMd_leave_262
                    · -- 232 not taken
                      exact absurd c_25 (by decide)
                  · -- 146 not taken
                    refine lv_aload_n hx hb dMd_leave_149 rfl (lv_at hl 3 rfl) ?_
                    refine lv_dup hx hb dMd_leave_150 rfl ?_
                    refine cm_g hx hb hts hown hK hP 21 (by decide) rfl lMd_88 rfl dMd_leave_151 ?_
                    refine lv_topi (fun y_26 ey_26 => ?_)
                    obtain rfl : y_26 = qCat m := ey_26.trans (by rw [qCat_zAt, qCat_zOpen])
                    refine lv_iconst (v := 1) hx hb dMd_leave_154 (by decide) ?_
                    refine lv_iadd hx hb dMd_leave_155 ?_
                    refine cm_pCat (x := (qCat m) + 1) hx hb hts hown hK hd hP hS lMd_88 dMd_leave_156 (fun H locs hP hS => ?_)
                    refine lv_aload_n hx hb dMd_leave_159 rfl (lv_at hl 3 rfl) ?_
                    refine lv_sipush (v := 1000) hx hb dMd_leave_160 (by decide) ?_
                    refine lv_bipush (v := 16) hx hb dMd_leave_163 (by decide) ?_
                    refine lv_aload_n hx hb dMd_leave_165 rfl (lv_at hl 3 rfl) ?_
                    refine cm_g hx hb hts hown hK hP 22 (by decide) rfl lMd_52 rfl dMd_leave_166 ?_
                    refine lv_topi (fun y_27 ey_27 => ?_)
                    obtain rfl : y_27 = qTr m := ey_27.trans (by rw [qTr_zCat, qTr_zAt, qTr_zOpen])
                    refine lv_imul hx hb dMd_leave_169 ?_
                    refine lv_iadd hx hb dMd_leave_170 ?_
                    refine lv_aload_n hx hb dMd_leave_171 rfl (lv_at hl 3 rfl) ?_
                    refine cm_g hx hb hts hown hK hP 22 (by decide) rfl lMd_52 rfl dMd_leave_172 ?_
                    refine lv_topi (fun y_28 ey_28 => ?_)
                    obtain rfl : y_28 = qTr m := ey_28.trans (by rw [qTr_zCat, qTr_zAt, qTr_zOpen])
                    refine lv_bipush (v := 10) hx hb dMd_leave_175 (by decide) ?_
                    refine lv_icmp_ne (tgt := 187) hx hb dMd_leave_177 (by decide) (fun c_29 => ?_) (fun c_29 => ?_)
                    · -- 177 taken
                      refine lv_iconst (v := 0) hx hb dMd_leave_187 (by decide) ?_
                      refine lv_iadd hx hb dMd_leave_188 ?_
                      refine cm_pAcc (x := (1000 + (16 * (qTr m))) + 0) hx hb hts hown hK hd hP hS lMd_78 dMd_leave_189 (fun H locs hP hS => ?_)
                      refine lv_aload_n hx hb dMd_leave_192 rfl (lv_at hl 3 rfl) ?_
                      refine lv_iconst (v := (-1)) hx hb dMd_leave_193 (by decide) ?_
                      refine cm_pTr (x := (-1)) hx hb hts hown hK hd hP hS lMd_52 dMd_leave_194 (fun H locs hP hS => ?_)
                      refine lv_aload_n hx hb dMd_leave_197 rfl (lv_at hl 3 rfl) ?_
                      refine lv_iload_n hx hb dMd_leave_198 rfl (lv_at hl 2 rfl) ?_
                      refine cm_pAt (x := (qBlk m d)) hx hb hts hown hK hd hP hS lMd_59 dMd_leave_199 (fun H locs hP hS => ?_)
                      refine lv_iload_n hx hb dMd_leave_202 rfl (lv_at hl 0 rfl) ?_
                      refine lv_bipush (v := 14) hx hb dMd_leave_203 (by decide) ?_
                      refine lv_icmp_ne (tgt := 216) hx hb dMd_leave_205 (by decide) (fun c_30 => ?_) (fun c_30 => ?_)
                      · -- 205 taken
                        refine lv_aload_n hx hb dMd_leave_216 rfl (lv_at hl 3 rfl) ?_
                        refine lv_aload_n hx hb dMd_leave_217 rfl (lv_at hl 3 rfl) ?_
                        refine cm_g hx hb hts hown hK hP 11 (by decide) rfl lMd_32 rfl dMd_leave_218 ?_
                        refine lv_aload_n hx hb dMd_leave_221 rfl (lv_at hl 3 rfl) ?_
                        refine cm_g hx hb hts hown hK hP 13 (by decide) rfl lMd_68 rfl dMd_leave_222 ?_
                        refine lv_topi (fun y_31 ey_31 => ?_)
                        obtain rfl : y_31 = nI d := ey_31.trans (by rw [qOpen_zAt, qOpen_zTr, qOpen_zAcc, qOpen_zCat, qOpen_zAt, qOpen_zOpen])
                        refine cm_lEnd (i := d) (by omega) hx hb hK hP dMd_leave_225 ?_
                        refine lv_topi (fun y_32 ey_32 => ?_)
                        obtain rfl : y_32 = nI (qEnd m d) := ey_32.trans (by rw [qEnd_zAt, qEnd_zTr, qEnd_zAcc, qEnd_zCat, qEnd_zAt, qEnd_zOpen])
                        refine cm_pAt (x := (qEnd m d)) hx hb hts hown hK hd hP hS lMd_59 dMd_leave_226 (fun H locs hP hS => ?_)
                        refine lv_iload_n hx hb dMd_leave_229 rfl (lv_at hl 1 rfl) ?_
                        refine lv_bipush (v := 14) hx hb dMd_leave_230 (by decide) ?_
                        refine lv_icmp_ne (tgt := 262) hx hb dMd_leave_232 (by decide) (fun c_33 => ?_) (fun c_33 => ?_)
                        · -- 232 taken
                          exact W.vret hx hb hr (fun t9 ht hW => ⟨⟨zAt (zAt (zTr (zAcc (zCat (zAt (zOpen m d) (qEnd m d)) ((qCat m) + 1)) ((1000 + (16 * (qTr m))) + 0)) (-1)) (qBlk m d)) (qEnd m d), rfl, by rw [mLeave_10 hk, if_pos ⟨c_20, bI1 c_24⟩, mCaught, if_neg (fun q => c_30 (congrArg nI q)), mCau, if_neg c_29]; rfl, ce_hp ht hP⟩, hS.F ht⟩) hS.2.2 dMd_leave_262
                        · -- 232 not taken
                          exact absurd c_33 (by decide)
                      · -- 205 not taken
                        refine lv_aload_n hx hb dMd_leave_208 rfl (lv_at hl 3 rfl) ?_
                        refine lv_bipush (v := 10) hx hb dMd_leave_209 (by decide) ?_
                        refine lv_bipush (v := 14) hx hb dMd_leave_211 (by decide) ?_
                        refine cm_vv (As := [.int 10, .int 14]) (rest := []) ⟨hx, hb, hml, hown, hts⟩ (c_Md_raise l D cI cZ a hd (zAt (zTr (zAcc (zCat (zAt (zOpen m d) (qEnd m d)) ((qCat m) + 1)) ((1000 + (16 * (qTr m))) + 0)) (-1)) (qBlk m d)) 10 14) mMd_raise lMd_91 iMd_raise (ce_hR (by omega) (by decide)) ⟨rfl, rfl⟩ hK hP hS rfl hl.1 rfl (Nat.le_of_ble_eq_true rfl) dMd_leave_213 ⟨Nat.le_of_ble_eq_true rfl, Nat.le_of_ble_eq_true rfl⟩ (fun m_34 H locs em_34 hP hS => ?_)
                        obtain rfl := em_34
                        have hP : va_P D vwCl (wM a cI cZ (zOrg (zNum (zTr (zAt (zTr (zAcc (zCat (zAt (zOpen m d) (qEnd m d)) ((qCat m) + 1)) ((1000 + (16 * (qTr m))) + 0)) (-1)) (qBlk m d)) 10) 14) (nI (qBlk m d)))) H := hP
                        refine lv_aload_n hx hb dMd_leave_216 rfl (lv_at hl 3 rfl) ?_
                        refine lv_aload_n hx hb dMd_leave_217 rfl (lv_at hl 3 rfl) ?_
                        refine cm_g hx hb hts hown hK hP 11 (by decide) rfl lMd_32 rfl dMd_leave_218 ?_
                        refine lv_aload_n hx hb dMd_leave_221 rfl (lv_at hl 3 rfl) ?_
                        refine cm_g hx hb hts hown hK hP 13 (by decide) rfl lMd_68 rfl dMd_leave_222 ?_
                        refine lv_topi (fun y_35 ey_35 => ?_)
                        obtain rfl : y_35 = nI d := ey_35.trans (by rw [qOpen_zOrg, qOpen_zNum, qOpen_zTr, qOpen_zAt, qOpen_zTr, qOpen_zAcc, qOpen_zCat, qOpen_zAt, qOpen_zOpen])
                        refine cm_lEnd (i := d) (by omega) hx hb hK hP dMd_leave_225 ?_
                        refine lv_topi (fun y_36 ey_36 => ?_)
                        obtain rfl : y_36 = nI (qEnd m d) := ey_36.trans (by rw [qEnd_zOrg, qEnd_zNum, qEnd_zTr, qEnd_zAt, qEnd_zTr, qEnd_zAcc, qEnd_zCat, qEnd_zAt, qEnd_zOpen])
                        refine cm_pAt (x := (qEnd m d)) hx hb hts hown hK hd hP hS lMd_59 dMd_leave_226 (fun H locs hP hS => ?_)
                        refine lv_iload_n hx hb dMd_leave_229 rfl (lv_at hl 1 rfl) ?_
                        refine lv_bipush (v := 14) hx hb dMd_leave_230 (by decide) ?_
                        refine lv_icmp_ne (tgt := 262) hx hb dMd_leave_232 (by decide) (fun c_37 => ?_) (fun c_37 => ?_)
                        · -- 232 taken
                          exact W.vret hx hb hr (fun t9 ht hW => ⟨⟨zAt (zOrg (zNum (zTr (zAt (zTr (zAcc (zCat (zAt (zOpen m d) (qEnd m d)) ((qCat m) + 1)) ((1000 + (16 * (qTr m))) + 0)) (-1)) (qBlk m d)) 10) 14) (nI (qBlk m d))) (qEnd m d), rfl, by rw [mLeave_10 hk, if_pos ⟨c_20, bI1 c_24⟩, mCaught, if_pos ((nI_eq (b := 14) (by omega) (by decide)).mp c_30), mCau, if_neg c_29]; rfl, ce_hp ht hP⟩, hS.F ht⟩) hS.2.2 dMd_leave_262
                        · -- 232 not taken
                          exact absurd c_37 (by decide)
                    · -- 177 not taken
                      refine lv_aload_n hx hb dMd_leave_180 rfl (lv_at hl 3 rfl) ?_
                      refine cm_g hx hb hts hown hK hP 23 (by decide) rfl lMd_56 rfl dMd_leave_181 ?_
                      refine lv_topi (fun y_38 ey_38 => ?_)
                      obtain rfl : y_38 = qNum m := ey_38.trans (by rw [qNum_zCat, qNum_zAt, qNum_zOpen])
                      refine lv_goto (tgt := 188) hx hb dMd_leave_184 (by decide) ?_
                      refine lv_iadd hx hb dMd_leave_188 ?_
                      refine cm_pAcc (x := (1000 + (16 * (qTr m))) + (qNum m)) hx hb hts hown hK hd hP hS lMd_78 dMd_leave_189 (fun H locs hP hS => ?_)
                      refine lv_aload_n hx hb dMd_leave_192 rfl (lv_at hl 3 rfl) ?_
                      refine lv_iconst (v := (-1)) hx hb dMd_leave_193 (by decide) ?_
                      refine cm_pTr (x := (-1)) hx hb hts hown hK hd hP hS lMd_52 dMd_leave_194 (fun H locs hP hS => ?_)
                      refine lv_aload_n hx hb dMd_leave_197 rfl (lv_at hl 3 rfl) ?_
                      refine lv_iload_n hx hb dMd_leave_198 rfl (lv_at hl 2 rfl) ?_
                      refine cm_pAt (x := (qBlk m d)) hx hb hts hown hK hd hP hS lMd_59 dMd_leave_199 (fun H locs hP hS => ?_)
                      refine lv_iload_n hx hb dMd_leave_202 rfl (lv_at hl 0 rfl) ?_
                      refine lv_bipush (v := 14) hx hb dMd_leave_203 (by decide) ?_
                      refine lv_icmp_ne (tgt := 216) hx hb dMd_leave_205 (by decide) (fun c_39 => ?_) (fun c_39 => ?_)
                      · -- 205 taken
                        refine lv_aload_n hx hb dMd_leave_216 rfl (lv_at hl 3 rfl) ?_
                        refine lv_aload_n hx hb dMd_leave_217 rfl (lv_at hl 3 rfl) ?_
                        refine cm_g hx hb hts hown hK hP 11 (by decide) rfl lMd_32 rfl dMd_leave_218 ?_
                        refine lv_aload_n hx hb dMd_leave_221 rfl (lv_at hl 3 rfl) ?_
                        refine cm_g hx hb hts hown hK hP 13 (by decide) rfl lMd_68 rfl dMd_leave_222 ?_
                        refine lv_topi (fun y_40 ey_40 => ?_)
                        obtain rfl : y_40 = nI d := ey_40.trans (by rw [qOpen_zAt, qOpen_zTr, qOpen_zAcc, qOpen_zCat, qOpen_zAt, qOpen_zOpen])
                        refine cm_lEnd (i := d) (by omega) hx hb hK hP dMd_leave_225 ?_
                        refine lv_topi (fun y_41 ey_41 => ?_)
                        obtain rfl : y_41 = nI (qEnd m d) := ey_41.trans (by rw [qEnd_zAt, qEnd_zTr, qEnd_zAcc, qEnd_zCat, qEnd_zAt, qEnd_zOpen])
                        refine cm_pAt (x := (qEnd m d)) hx hb hts hown hK hd hP hS lMd_59 dMd_leave_226 (fun H locs hP hS => ?_)
                        refine lv_iload_n hx hb dMd_leave_229 rfl (lv_at hl 1 rfl) ?_
                        refine lv_bipush (v := 14) hx hb dMd_leave_230 (by decide) ?_
                        refine lv_icmp_ne (tgt := 262) hx hb dMd_leave_232 (by decide) (fun c_42 => ?_) (fun c_42 => ?_)
                        · -- 232 taken
                          exact W.vret hx hb hr (fun t9 ht hW => ⟨⟨zAt (zAt (zTr (zAcc (zCat (zAt (zOpen m d) (qEnd m d)) ((qCat m) + 1)) ((1000 + (16 * (qTr m))) + (qNum m))) (-1)) (qBlk m d)) (qEnd m d), rfl, by rw [mLeave_10 hk, if_pos ⟨c_20, bI1 c_24⟩, mCaught, if_neg (fun q => c_39 (congrArg nI q)), mCau, if_pos c_29]; rfl, ce_hp ht hP⟩, hS.F ht⟩) hS.2.2 dMd_leave_262
                        · -- 232 not taken
                          exact absurd c_42 (by decide)
                      · -- 205 not taken
                        refine lv_aload_n hx hb dMd_leave_208 rfl (lv_at hl 3 rfl) ?_
                        refine lv_bipush (v := 10) hx hb dMd_leave_209 (by decide) ?_
                        refine lv_bipush (v := 14) hx hb dMd_leave_211 (by decide) ?_
                        refine cm_vv (As := [.int 10, .int 14]) (rest := []) ⟨hx, hb, hml, hown, hts⟩ (c_Md_raise l D cI cZ a hd (zAt (zTr (zAcc (zCat (zAt (zOpen m d) (qEnd m d)) ((qCat m) + 1)) ((1000 + (16 * (qTr m))) + (qNum m))) (-1)) (qBlk m d)) 10 14) mMd_raise lMd_91 iMd_raise (ce_hR (by omega) (by decide)) ⟨rfl, rfl⟩ hK hP hS rfl hl.1 rfl (Nat.le_of_ble_eq_true rfl) dMd_leave_213 ⟨Nat.le_of_ble_eq_true rfl, Nat.le_of_ble_eq_true rfl⟩ (fun m_43 H locs em_43 hP hS => ?_)
                        obtain rfl := em_43
                        have hP : va_P D vwCl (wM a cI cZ (zOrg (zNum (zTr (zAt (zTr (zAcc (zCat (zAt (zOpen m d) (qEnd m d)) ((qCat m) + 1)) ((1000 + (16 * (qTr m))) + (qNum m))) (-1)) (qBlk m d)) 10) 14) (nI (qBlk m d)))) H := hP
                        refine lv_aload_n hx hb dMd_leave_216 rfl (lv_at hl 3 rfl) ?_
                        refine lv_aload_n hx hb dMd_leave_217 rfl (lv_at hl 3 rfl) ?_
                        refine cm_g hx hb hts hown hK hP 11 (by decide) rfl lMd_32 rfl dMd_leave_218 ?_
                        refine lv_aload_n hx hb dMd_leave_221 rfl (lv_at hl 3 rfl) ?_
                        refine cm_g hx hb hts hown hK hP 13 (by decide) rfl lMd_68 rfl dMd_leave_222 ?_
                        refine lv_topi (fun y_44 ey_44 => ?_)
                        obtain rfl : y_44 = nI d := ey_44.trans (by rw [qOpen_zOrg, qOpen_zNum, qOpen_zTr, qOpen_zAt, qOpen_zTr, qOpen_zAcc, qOpen_zCat, qOpen_zAt, qOpen_zOpen])
                        refine cm_lEnd (i := d) (by omega) hx hb hK hP dMd_leave_225 ?_
                        refine lv_topi (fun y_45 ey_45 => ?_)
                        obtain rfl : y_45 = nI (qEnd m d) := ey_45.trans (by rw [qEnd_zOrg, qEnd_zNum, qEnd_zTr, qEnd_zAt, qEnd_zTr, qEnd_zAcc, qEnd_zCat, qEnd_zAt, qEnd_zOpen])
                        refine cm_pAt (x := (qEnd m d)) hx hb hts hown hK hd hP hS lMd_59 dMd_leave_226 (fun H locs hP hS => ?_)
                        refine lv_iload_n hx hb dMd_leave_229 rfl (lv_at hl 1 rfl) ?_
                        refine lv_bipush (v := 14) hx hb dMd_leave_230 (by decide) ?_
                        refine lv_icmp_ne (tgt := 262) hx hb dMd_leave_232 (by decide) (fun c_46 => ?_) (fun c_46 => ?_)
                        · -- 232 taken
                          exact W.vret hx hb hr (fun t9 ht hW => ⟨⟨zAt (zOrg (zNum (zTr (zAt (zTr (zAcc (zCat (zAt (zOpen m d) (qEnd m d)) ((qCat m) + 1)) ((1000 + (16 * (qTr m))) + (qNum m))) (-1)) (qBlk m d)) 10) 14) (nI (qBlk m d))) (qEnd m d), rfl, by rw [mLeave_10 hk, if_pos ⟨c_20, bI1 c_24⟩, mCaught, if_pos ((nI_eq (b := 14) (by omega) (by decide)).mp c_39), mCau, if_pos c_29]; rfl, ce_hp ht hP⟩, hS.F ht⟩) hS.2.2 dMd_leave_262
                        · -- 232 not taken
                          exact absurd c_46 (by decide)
            · -- 112 not taken
              exact absurd c_17 (by decide)
          · -- 94 not taken
            exact absurd c_16 (by decide)
        · -- 79 not taken
          exact absurd c_15 (by decide)
      · -- 63 not taken
        exact absurd c_14 (by decide)
  · -- op 11
    refine lv_topi (fun y_47 ey_47 => ?_)
    obtain rfl : y_47 = nI 11 := ey_47.trans (congrArg nI hk)
    refine lv_istore_n (lv' := [(2, .int (nI 11)), (1, .int (nI (qBlk m d))), (0, .ref (a 0))]) hx hb dMd_leave_34 rfl hl (by decide) rfl (fun ls hl => ?_)
    refine lv_aload_n hx hb dMd_leave_35 rfl (lv_at hl 2 rfl) ?_
    refine lv_iload_n hx hb dMd_leave_36 rfl (lv_at hl 1 rfl) ?_
    refine cm_ri (As := [.int (nI (qBlk m d))]) (rest := []) ⟨hx, hb, hml, hown, hts⟩ (c_Md_kOf l D cI cZ a (zOpen m d) (qBlk m d) hp hi h8) mMd_kOf lMd_71 iMd_kOf (ce_hR (by omega) (by decide)) ⟨rfl, rfl⟩ hK hP rfl hl.1 rfl (Nat.le_of_ble_eq_true rfl) dMd_leave_37 ⟨Nat.le_of_ble_eq_true rfl, Nat.le_of_ble_eq_true rfl⟩ (fun r_48 er_48 => ?_)
    obtain rfl : r_48 = nI (mK m (qBlk m d)) := er_48
    refine lv_istore_n (lv' := [(3, .int (nI (mK m (qBlk m d)))), (2, .int (nI 11)), (1, .int (nI (qBlk m d))), (0, .ref (a 0))]) hx hb dMd_leave_40 rfl hl (by decide) rfl (fun ls hl => ?_)
    refine lv_aload_n hx hb dMd_leave_41 rfl (lv_at hl 3 rfl) ?_
    refine lv_aload_n hx hb dMd_leave_42 rfl (lv_at hl 3 rfl) ?_
    refine cm_g hx hb hts hown hK hP 11 (by decide) rfl lMd_32 rfl dMd_leave_43 ?_
    refine lv_aload_n hx hb dMd_leave_46 rfl (lv_at hl 3 rfl) ?_
    refine cm_g hx hb hts hown hK hP 13 (by decide) rfl lMd_68 rfl dMd_leave_47 ?_
    refine lv_topi (fun y_49 ey_49 => ?_)
    obtain rfl : y_49 = nI d := ey_49.trans (by rw [qOpen_zOpen])
    refine cm_lEnd (i := d) (by omega) hx hb hK hP dMd_leave_50 ?_
    refine lv_topi (fun y_50 ey_50 => ?_)
    obtain rfl : y_50 = nI (qEnd m d) := ey_50.trans (by rw [qEnd_zOpen])
    refine cm_pAt (x := (qEnd m d)) hx hb hts hown hK hd hP hS lMd_59 dMd_leave_51 (fun H locs hP hS => ?_)
    refine lv_iload_n hx hb dMd_leave_54 rfl (lv_at hl 1 rfl) ?_
    refine lv_bipush (v := 11) hx hb dMd_leave_55 (by decide) ?_
    refine lv_icmp_eq (tgt := 66) hx hb dMd_leave_57 (by decide) (fun c_51 => ?_) (fun c_51 => ?_)
    · -- 57 taken
      refine lv_aload_n hx hb dMd_leave_66 rfl (lv_at hl 3 rfl) ?_
      refine lv_dup hx hb dMd_leave_67 rfl ?_
      refine cm_g hx hb hts hown hK hP 20 (by decide) rfl lMd_75 rfl dMd_leave_68 ?_
      refine lv_topi (fun y_52 ey_52 => ?_)
      obtain rfl : y_52 = qFin m := ey_52.trans (by rw [qFin_zAt, qFin_zOpen])
      refine lv_iconst (v := 1) hx hb dMd_leave_71 (by decide) ?_
      refine lv_iadd hx hb dMd_leave_72 ?_
      refine cm_pFin (x := (qFin m) + 1) hx hb hts hown hK hd hP hS lMd_75 dMd_leave_73 (fun H locs hP hS => ?_)
      refine lv_iload_n hx hb dMd_leave_76 rfl (lv_at hl 1 rfl) ?_
      refine lv_bipush (v := 11) hx hb dMd_leave_77 (by decide) ?_
      refine lv_icmp_ne (tgt := 91) hx hb dMd_leave_79 (by decide) (fun c_53 => ?_) (fun c_53 => ?_)
      · -- 79 taken
        exact absurd c_53 (by decide)
      · -- 79 not taken
        refine lv_aload_n hx hb dMd_leave_82 rfl (lv_at hl 3 rfl) ?_
        refine lv_aload_n hx hb dMd_leave_83 rfl (lv_at hl 3 rfl) ?_
        refine cm_g hx hb hts hown hK hP 18 (by decide) rfl lMd_78 rfl dMd_leave_84 ?_
        refine lv_topi (fun y_54 ey_54 => ?_)
        obtain rfl : y_54 = qAcc m := ey_54.trans (by rw [qAcc_zFin, qAcc_zAt, qAcc_zOpen])
        refine lv_ineg hx hb dMd_leave_87 ?_
        refine cm_pAcc (x := -(qAcc m)) hx hb hts hown hK hd hP hS lMd_78 dMd_leave_88 (fun H locs hP hS => ?_)
        refine lv_iload_n hx hb dMd_leave_91 rfl (lv_at hl 1 rfl) ?_
        refine lv_bipush (v := 13) hx hb dMd_leave_92 (by decide) ?_
        refine lv_icmp_ne (tgt := 109) hx hb dMd_leave_94 (by decide) (fun c_55 => ?_) (fun c_55 => ?_)
        · -- 94 taken
          refine lv_iload_n hx hb dMd_leave_109 rfl (lv_at hl 1 rfl) ?_
          refine lv_bipush (v := 12) hx hb dMd_leave_110 (by decide) ?_
          refine lv_icmp_ne (tgt := 125) hx hb dMd_leave_112 (by decide) (fun c_56 => ?_) (fun c_56 => ?_)
          · -- 112 taken
            refine lv_iload_n hx hb dMd_leave_125 rfl (lv_at hl 1 rfl) ?_
            refine lv_bipush (v := 10) hx hb dMd_leave_126 (by decide) ?_
            refine lv_icmp_ne (tgt := 229) hx hb dMd_leave_128 (by decide) (fun c_57 => ?_) (fun c_57 => ?_)
            · -- 128 taken
              refine lv_iload_n hx hb dMd_leave_229 rfl (lv_at hl 1 rfl) ?_
              refine lv_bipush (v := 14) hx hb dMd_leave_230 (by decide) ?_
              refine lv_icmp_ne (tgt := 262) hx hb dMd_leave_232 (by decide) (fun c_58 => ?_) (fun c_58 => ?_)
              · -- 232 taken
                exact W.vret hx hb hr (fun t9 ht hW => ⟨⟨zAcc (zFin (zAt (zOpen m d) (qEnd m d)) ((qFin m) + 1)) (-(qAcc m)), rfl, (mLeave_11 hk).symm, ce_hp ht hP⟩, hS.F ht⟩) hS.2.2 dMd_leave_262
              · -- 232 not taken
                exact absurd c_58 (by decide)
            · -- 128 not taken
              exact absurd c_57 (by decide)
          · -- 112 not taken
            exact absurd c_56 (by decide)
        · -- 94 not taken
          exact absurd c_55 (by decide)
    · -- 57 not taken
      exact absurd c_51 (by decide)
  · -- op 12
    refine lv_topi (fun y_59 ey_59 => ?_)
    obtain rfl : y_59 = nI 12 := ey_59.trans (congrArg nI hk)
    refine lv_istore_n (lv' := [(2, .int (nI 12)), (1, .int (nI (qBlk m d))), (0, .ref (a 0))]) hx hb dMd_leave_34 rfl hl (by decide) rfl (fun ls hl => ?_)
    refine lv_aload_n hx hb dMd_leave_35 rfl (lv_at hl 2 rfl) ?_
    refine lv_iload_n hx hb dMd_leave_36 rfl (lv_at hl 1 rfl) ?_
    refine cm_ri (As := [.int (nI (qBlk m d))]) (rest := []) ⟨hx, hb, hml, hown, hts⟩ (c_Md_kOf l D cI cZ a (zOpen m d) (qBlk m d) hp hi h8) mMd_kOf lMd_71 iMd_kOf (ce_hR (by omega) (by decide)) ⟨rfl, rfl⟩ hK hP rfl hl.1 rfl (Nat.le_of_ble_eq_true rfl) dMd_leave_37 ⟨Nat.le_of_ble_eq_true rfl, Nat.le_of_ble_eq_true rfl⟩ (fun r_60 er_60 => ?_)
    obtain rfl : r_60 = nI (mK m (qBlk m d)) := er_60
    refine lv_istore_n (lv' := [(3, .int (nI (mK m (qBlk m d)))), (2, .int (nI 12)), (1, .int (nI (qBlk m d))), (0, .ref (a 0))]) hx hb dMd_leave_40 rfl hl (by decide) rfl (fun ls hl => ?_)
    refine lv_aload_n hx hb dMd_leave_41 rfl (lv_at hl 3 rfl) ?_
    refine lv_aload_n hx hb dMd_leave_42 rfl (lv_at hl 3 rfl) ?_
    refine cm_g hx hb hts hown hK hP 11 (by decide) rfl lMd_32 rfl dMd_leave_43 ?_
    refine lv_aload_n hx hb dMd_leave_46 rfl (lv_at hl 3 rfl) ?_
    refine cm_g hx hb hts hown hK hP 13 (by decide) rfl lMd_68 rfl dMd_leave_47 ?_
    refine lv_topi (fun y_61 ey_61 => ?_)
    obtain rfl : y_61 = nI d := ey_61.trans (by rw [qOpen_zOpen])
    refine cm_lEnd (i := d) (by omega) hx hb hK hP dMd_leave_50 ?_
    refine lv_topi (fun y_62 ey_62 => ?_)
    obtain rfl : y_62 = nI (qEnd m d) := ey_62.trans (by rw [qEnd_zOpen])
    refine cm_pAt (x := (qEnd m d)) hx hb hts hown hK hd hP hS lMd_59 dMd_leave_51 (fun H locs hP hS => ?_)
    refine lv_iload_n hx hb dMd_leave_54 rfl (lv_at hl 1 rfl) ?_
    refine lv_bipush (v := 11) hx hb dMd_leave_55 (by decide) ?_
    refine lv_icmp_eq (tgt := 66) hx hb dMd_leave_57 (by decide) (fun c_63 => ?_) (fun c_63 => ?_)
    · -- 57 taken
      exact absurd c_63 (by decide)
    · -- 57 not taken
      refine lv_iload_n hx hb dMd_leave_60 rfl (lv_at hl 1 rfl) ?_
      refine lv_bipush (v := 12) hx hb dMd_leave_61 (by decide) ?_
      refine lv_icmp_ne (tgt := 76) hx hb dMd_leave_63 (by decide) (fun c_64 => ?_) (fun c_64 => ?_)
      · -- 63 taken
        exact absurd c_64 (by decide)
      · -- 63 not taken
        refine lv_aload_n hx hb dMd_leave_66 rfl (lv_at hl 3 rfl) ?_
        refine lv_dup hx hb dMd_leave_67 rfl ?_
        refine cm_g hx hb hts hown hK hP 20 (by decide) rfl lMd_75 rfl dMd_leave_68 ?_
        refine lv_topi (fun y_65 ey_65 => ?_)
        obtain rfl : y_65 = qFin m := ey_65.trans (by rw [qFin_zAt, qFin_zOpen])
        refine lv_iconst (v := 1) hx hb dMd_leave_71 (by decide) ?_
        refine lv_iadd hx hb dMd_leave_72 ?_
        refine cm_pFin (x := (qFin m) + 1) hx hb hts hown hK hd hP hS lMd_75 dMd_leave_73 (fun H locs hP hS => ?_)
        refine lv_iload_n hx hb dMd_leave_76 rfl (lv_at hl 1 rfl) ?_
        refine lv_bipush (v := 11) hx hb dMd_leave_77 (by decide) ?_
        refine lv_icmp_ne (tgt := 91) hx hb dMd_leave_79 (by decide) (fun c_66 => ?_) (fun c_66 => ?_)
        · -- 79 taken
          refine lv_iload_n hx hb dMd_leave_91 rfl (lv_at hl 1 rfl) ?_
          refine lv_bipush (v := 13) hx hb dMd_leave_92 (by decide) ?_
          refine lv_icmp_ne (tgt := 109) hx hb dMd_leave_94 (by decide) (fun c_67 => ?_) (fun c_67 => ?_)
          · -- 94 taken
            refine lv_iload_n hx hb dMd_leave_109 rfl (lv_at hl 1 rfl) ?_
            refine lv_bipush (v := 12) hx hb dMd_leave_110 (by decide) ?_
            refine lv_icmp_ne (tgt := 125) hx hb dMd_leave_112 (by decide) (fun c_68 => ?_) (fun c_68 => ?_)
            · -- 112 taken
              exact absurd c_68 (by decide)
            · -- 112 not taken
              refine lv_aload_n hx hb dMd_leave_115 rfl (lv_at hl 3 rfl) ?_
              refine lv_iconst (v := (-1)) hx hb dMd_leave_116 (by decide) ?_
              refine cm_pTr (x := (-1)) hx hb hts hown hK hd hP hS lMd_52 dMd_leave_117 (fun H locs hP hS => ?_)
              refine lv_aload_n hx hb dMd_leave_120 rfl (lv_at hl 3 rfl) ?_
              refine lv_iconst (v := 0) hx hb dMd_leave_121 (by decide) ?_
              refine cm_pStop (x := false) hx hb hts hown hK hd hP hS lMd_81 dMd_leave_122 (fun H locs hP hS => ?_)
              refine lv_iload_n hx hb dMd_leave_125 rfl (lv_at hl 1 rfl) ?_
              refine lv_bipush (v := 10) hx hb dMd_leave_126 (by decide) ?_
              refine lv_icmp_ne (tgt := 229) hx hb dMd_leave_128 (by decide) (fun c_69 => ?_) (fun c_69 => ?_)
              · -- 128 taken
                refine lv_iload_n hx hb dMd_leave_229 rfl (lv_at hl 1 rfl) ?_
                refine lv_bipush (v := 14) hx hb dMd_leave_230 (by decide) ?_
                refine lv_icmp_ne (tgt := 262) hx hb dMd_leave_232 (by decide) (fun c_70 => ?_) (fun c_70 => ?_)
                · -- 232 taken
                  exact W.vret hx hb hr (fun t9 ht hW => ⟨⟨zStop (zTr (zFin (zAt (zOpen m d) (qEnd m d)) ((qFin m) + 1)) (-1)) false, rfl, (mLeave_12 hk).symm, ce_hp ht hP⟩, hS.F ht⟩) hS.2.2 dMd_leave_262
                · -- 232 not taken
                  exact absurd c_70 (by decide)
              · -- 128 not taken
                exact absurd c_69 (by decide)
          · -- 94 not taken
            exact absurd c_67 (by decide)
        · -- 79 not taken
          exact absurd c_66 (by decide)
  · -- op 13
    refine lv_topi (fun y_71 ey_71 => ?_)
    obtain rfl : y_71 = nI 13 := ey_71.trans (congrArg nI hk)
    refine lv_istore_n (lv' := [(2, .int (nI 13)), (1, .int (nI (qBlk m d))), (0, .ref (a 0))]) hx hb dMd_leave_34 rfl hl (by decide) rfl (fun ls hl => ?_)
    refine lv_aload_n hx hb dMd_leave_35 rfl (lv_at hl 2 rfl) ?_
    refine lv_iload_n hx hb dMd_leave_36 rfl (lv_at hl 1 rfl) ?_
    refine cm_ri (As := [.int (nI (qBlk m d))]) (rest := []) ⟨hx, hb, hml, hown, hts⟩ (c_Md_kOf l D cI cZ a (zOpen m d) (qBlk m d) hp hi h8) mMd_kOf lMd_71 iMd_kOf (ce_hR (by omega) (by decide)) ⟨rfl, rfl⟩ hK hP rfl hl.1 rfl (Nat.le_of_ble_eq_true rfl) dMd_leave_37 ⟨Nat.le_of_ble_eq_true rfl, Nat.le_of_ble_eq_true rfl⟩ (fun r_72 er_72 => ?_)
    obtain rfl : r_72 = nI (mK m (qBlk m d)) := er_72
    refine lv_istore_n (lv' := [(3, .int (nI (mK m (qBlk m d)))), (2, .int (nI 13)), (1, .int (nI (qBlk m d))), (0, .ref (a 0))]) hx hb dMd_leave_40 rfl hl (by decide) rfl (fun ls hl => ?_)
    refine lv_aload_n hx hb dMd_leave_41 rfl (lv_at hl 3 rfl) ?_
    refine lv_aload_n hx hb dMd_leave_42 rfl (lv_at hl 3 rfl) ?_
    refine cm_g hx hb hts hown hK hP 11 (by decide) rfl lMd_32 rfl dMd_leave_43 ?_
    refine lv_aload_n hx hb dMd_leave_46 rfl (lv_at hl 3 rfl) ?_
    refine cm_g hx hb hts hown hK hP 13 (by decide) rfl lMd_68 rfl dMd_leave_47 ?_
    refine lv_topi (fun y_73 ey_73 => ?_)
    obtain rfl : y_73 = nI d := ey_73.trans (by rw [qOpen_zOpen])
    refine cm_lEnd (i := d) (by omega) hx hb hK hP dMd_leave_50 ?_
    refine lv_topi (fun y_74 ey_74 => ?_)
    obtain rfl : y_74 = nI (qEnd m d) := ey_74.trans (by rw [qEnd_zOpen])
    refine cm_pAt (x := (qEnd m d)) hx hb hts hown hK hd hP hS lMd_59 dMd_leave_51 (fun H locs hP hS => ?_)
    refine lv_iload_n hx hb dMd_leave_54 rfl (lv_at hl 1 rfl) ?_
    refine lv_bipush (v := 11) hx hb dMd_leave_55 (by decide) ?_
    refine lv_icmp_eq (tgt := 66) hx hb dMd_leave_57 (by decide) (fun c_75 => ?_) (fun c_75 => ?_)
    · -- 57 taken
      exact absurd c_75 (by decide)
    · -- 57 not taken
      refine lv_iload_n hx hb dMd_leave_60 rfl (lv_at hl 1 rfl) ?_
      refine lv_bipush (v := 12) hx hb dMd_leave_61 (by decide) ?_
      refine lv_icmp_ne (tgt := 76) hx hb dMd_leave_63 (by decide) (fun c_76 => ?_) (fun c_76 => ?_)
      · -- 63 taken
        refine lv_iload_n hx hb dMd_leave_76 rfl (lv_at hl 1 rfl) ?_
        refine lv_bipush (v := 11) hx hb dMd_leave_77 (by decide) ?_
        refine lv_icmp_ne (tgt := 91) hx hb dMd_leave_79 (by decide) (fun c_77 => ?_) (fun c_77 => ?_)
        · -- 79 taken
          refine lv_iload_n hx hb dMd_leave_91 rfl (lv_at hl 1 rfl) ?_
          refine lv_bipush (v := 13) hx hb dMd_leave_92 (by decide) ?_
          refine lv_icmp_ne (tgt := 109) hx hb dMd_leave_94 (by decide) (fun c_78 => ?_) (fun c_78 => ?_)
          · -- 94 taken
            exact absurd c_78 (by decide)
          · -- 94 not taken
            refine lv_aload_n hx hb dMd_leave_97 rfl (lv_at hl 3 rfl) ?_
            refine cm_g hx hb hts hown hK hP 15 (by decide) rfl lMd_41 rfl dMd_leave_98 ?_
            refine lv_iload_n hx hb dMd_leave_101 rfl (lv_at hl 0 rfl) ?_
            refine lv_iconst (v := 2) hx hb dMd_leave_102 (by decide) ?_
            refine lv_irem hx hb dMd_leave_103 (by decide) ?_
            refine lv_topi (fun y_79 ey_79 => ?_)
            obtain rfl : y_79 = nI (mK m (qBlk m d) % 2) := ey_79.trans (pk_rem (d := 2) (by omega) (by decide) (by decide))
            refine lv_dup2_11 hx hb dMd_leave_104 rfl rfl ?_
            refine cm_lHeld (i := (mK m (qBlk m d) % 2)) (by omega) hx hb hK hP dMd_leave_105 ?_
            refine lv_topi (fun y_80 ey_80 => ?_)
            obtain rfl : y_80 = qHeld m (mK m (qBlk m d) % 2) := ey_80.trans (by rw [qHeld_zAt, qHeld_zOpen])
            refine lv_iconst (v := 1) hx hb dMd_leave_106 (by decide) ?_
            refine lv_isub hx hb dMd_leave_107 ?_
            refine cm_sHeld (i := (mK m (qBlk m d) % 2)) (x := (qHeld m (mK m (qBlk m d) % 2)) - 1) (by omega) hx hb hK hd hP hS dMd_leave_108 (fun H locs hP hS => ?_)
            rw [qHeld_zAt, qHeld_zOpen] at hP
            refine lv_iload_n hx hb dMd_leave_109 rfl (lv_at hl 1 rfl) ?_
            refine lv_bipush (v := 12) hx hb dMd_leave_110 (by decide) ?_
            refine lv_icmp_ne (tgt := 125) hx hb dMd_leave_112 (by decide) (fun c_81 => ?_) (fun c_81 => ?_)
            · -- 112 taken
              refine lv_iload_n hx hb dMd_leave_125 rfl (lv_at hl 1 rfl) ?_
              refine lv_bipush (v := 10) hx hb dMd_leave_126 (by decide) ?_
              refine lv_icmp_ne (tgt := 229) hx hb dMd_leave_128 (by decide) (fun c_82 => ?_) (fun c_82 => ?_)
              · -- 128 taken
                refine lv_iload_n hx hb dMd_leave_229 rfl (lv_at hl 1 rfl) ?_
                refine lv_bipush (v := 14) hx hb dMd_leave_230 (by decide) ?_
                refine lv_icmp_ne (tgt := 262) hx hb dMd_leave_232 (by decide) (fun c_83 => ?_) (fun c_83 => ?_)
                · -- 232 taken
                  exact W.vret hx hb hr (fun t9 ht hW => ⟨⟨zHeld (zAt (zOpen m d) (qEnd m d)) (upd (qHeld m) (mK m (qBlk m d) % 2) ((qHeld m (mK m (qBlk m d) % 2)) - 1)), rfl, (mLeave_13 hk).symm, ce_hp ht hP⟩, hS.F ht⟩) hS.2.2 dMd_leave_262
                · -- 232 not taken
                  exact absurd c_83 (by decide)
              · -- 128 not taken
                exact absurd c_82 (by decide)
            · -- 112 not taken
              exact absurd c_81 (by decide)
        · -- 79 not taken
          exact absurd c_77 (by decide)
      · -- 63 not taken
        exact absurd c_76 (by decide)
  · -- op 14
    refine lv_topi (fun y_84 ey_84 => ?_)
    obtain rfl : y_84 = nI 14 := ey_84.trans (congrArg nI hk)
    refine lv_istore_n (lv' := [(2, .int (nI 14)), (1, .int (nI (qBlk m d))), (0, .ref (a 0))]) hx hb dMd_leave_34 rfl hl (by decide) rfl (fun ls hl => ?_)
    refine lv_aload_n hx hb dMd_leave_35 rfl (lv_at hl 2 rfl) ?_
    refine lv_iload_n hx hb dMd_leave_36 rfl (lv_at hl 1 rfl) ?_
    refine cm_ri (As := [.int (nI (qBlk m d))]) (rest := []) ⟨hx, hb, hml, hown, hts⟩ (c_Md_kOf l D cI cZ a (zOpen m d) (qBlk m d) hp hi h8) mMd_kOf lMd_71 iMd_kOf (ce_hR (by omega) (by decide)) ⟨rfl, rfl⟩ hK hP rfl hl.1 rfl (Nat.le_of_ble_eq_true rfl) dMd_leave_37 ⟨Nat.le_of_ble_eq_true rfl, Nat.le_of_ble_eq_true rfl⟩ (fun r_85 er_85 => ?_)
    obtain rfl : r_85 = nI (mK m (qBlk m d)) := er_85
    refine lv_istore_n (lv' := [(3, .int (nI (mK m (qBlk m d)))), (2, .int (nI 14)), (1, .int (nI (qBlk m d))), (0, .ref (a 0))]) hx hb dMd_leave_40 rfl hl (by decide) rfl (fun ls hl => ?_)
    refine lv_aload_n hx hb dMd_leave_41 rfl (lv_at hl 3 rfl) ?_
    refine lv_aload_n hx hb dMd_leave_42 rfl (lv_at hl 3 rfl) ?_
    refine cm_g hx hb hts hown hK hP 11 (by decide) rfl lMd_32 rfl dMd_leave_43 ?_
    refine lv_aload_n hx hb dMd_leave_46 rfl (lv_at hl 3 rfl) ?_
    refine cm_g hx hb hts hown hK hP 13 (by decide) rfl lMd_68 rfl dMd_leave_47 ?_
    refine lv_topi (fun y_86 ey_86 => ?_)
    obtain rfl : y_86 = nI d := ey_86.trans (by rw [qOpen_zOpen])
    refine cm_lEnd (i := d) (by omega) hx hb hK hP dMd_leave_50 ?_
    refine lv_topi (fun y_87 ey_87 => ?_)
    obtain rfl : y_87 = nI (qEnd m d) := ey_87.trans (by rw [qEnd_zOpen])
    refine cm_pAt (x := (qEnd m d)) hx hb hts hown hK hd hP hS lMd_59 dMd_leave_51 (fun H locs hP hS => ?_)
    refine lv_iload_n hx hb dMd_leave_54 rfl (lv_at hl 1 rfl) ?_
    refine lv_bipush (v := 11) hx hb dMd_leave_55 (by decide) ?_
    refine lv_icmp_eq (tgt := 66) hx hb dMd_leave_57 (by decide) (fun c_88 => ?_) (fun c_88 => ?_)
    · -- 57 taken
      exact absurd c_88 (by decide)
    · -- 57 not taken
      refine lv_iload_n hx hb dMd_leave_60 rfl (lv_at hl 1 rfl) ?_
      refine lv_bipush (v := 12) hx hb dMd_leave_61 (by decide) ?_
      refine lv_icmp_ne (tgt := 76) hx hb dMd_leave_63 (by decide) (fun c_89 => ?_) (fun c_89 => ?_)
      · -- 63 taken
        refine lv_iload_n hx hb dMd_leave_76 rfl (lv_at hl 1 rfl) ?_
        refine lv_bipush (v := 11) hx hb dMd_leave_77 (by decide) ?_
        refine lv_icmp_ne (tgt := 91) hx hb dMd_leave_79 (by decide) (fun c_90 => ?_) (fun c_90 => ?_)
        · -- 79 taken
          refine lv_iload_n hx hb dMd_leave_91 rfl (lv_at hl 1 rfl) ?_
          refine lv_bipush (v := 13) hx hb dMd_leave_92 (by decide) ?_
          refine lv_icmp_ne (tgt := 109) hx hb dMd_leave_94 (by decide) (fun c_91 => ?_) (fun c_91 => ?_)
          · -- 94 taken
            refine lv_iload_n hx hb dMd_leave_109 rfl (lv_at hl 1 rfl) ?_
            refine lv_bipush (v := 12) hx hb dMd_leave_110 (by decide) ?_
            refine lv_icmp_ne (tgt := 125) hx hb dMd_leave_112 (by decide) (fun c_92 => ?_) (fun c_92 => ?_)
            · -- 112 taken
              refine lv_iload_n hx hb dMd_leave_125 rfl (lv_at hl 1 rfl) ?_
              refine lv_bipush (v := 10) hx hb dMd_leave_126 (by decide) ?_
              refine lv_icmp_ne (tgt := 229) hx hb dMd_leave_128 (by decide) (fun c_93 => ?_) (fun c_93 => ?_)
              · -- 128 taken
                refine lv_iload_n hx hb dMd_leave_229 rfl (lv_at hl 1 rfl) ?_
                refine lv_bipush (v := 14) hx hb dMd_leave_230 (by decide) ?_
                refine lv_icmp_ne (tgt := 262) hx hb dMd_leave_232 (by decide) (fun c_94 => ?_) (fun c_94 => ?_)
                · -- 232 taken
                  exact absurd c_94 (by decide)
                · -- 232 not taken
                  refine lv_aload_n hx hb dMd_leave_235 rfl (lv_at hl 3 rfl) ?_
                  refine cm_g hx hb hts hown hK hP 22 (by decide) rfl lMd_52 rfl dMd_leave_236 ?_
                  refine lv_topi (fun y_95 ey_95 => ?_)
                  obtain rfl : y_95 = qTr m := ey_95.trans (by rw [qTr_zAt, qTr_zOpen])
                  refine lv_if_ge (tgt := 262) hx hb dMd_leave_239 (by decide) (fun c_96 => ?_) (fun c_96 => ?_)
                  · -- 239 taken
                    exact W.vret hx hb hr (fun t9 ht hW => ⟨⟨zAt (zOpen m d) (qEnd m d), rfl, ((mLeave_14 hk).trans (if_neg (fun q => absurd q.1 (Int32.not_lt.mpr c_96)))).symm, ce_hp ht hP⟩, hS.F ht⟩) hS.2.2 dMd_leave_262
                  · -- 239 not taken
                    refine lv_aload_n hx hb dMd_leave_242 rfl (lv_at hl 3 rfl) ?_
                    refine cm_g hx hb hts hown hK hP 26 (by decide) rfl lMd_81 rfl dMd_leave_243 ?_
                    refine lv_topi (fun y_97 ey_97 => ?_)
                    obtain rfl : y_97 = bI (qStop m) := ey_97.trans (by rw [qStop_zAt, qStop_zOpen])
                    refine lv_if_ne (tgt := 262) hx hb dMd_leave_246 (by decide) (fun c_98 => ?_) (fun c_98 => ?_)
                    · -- 246 taken
                      exact W.vret hx hb hr (fun t9 ht hW => ⟨⟨zAt (zOpen m d) (qEnd m d), rfl, ((mLeave_14 hk).trans (if_neg (fun q => c_98 (congrArg bI q.2.1)))).symm, ce_hp ht hP⟩, hS.F ht⟩) hS.2.2 dMd_leave_262
                    · -- 246 not taken
                      refine lv_aload_n hx hb dMd_leave_249 rfl (lv_at hl 3 rfl) ?_
                      refine cm_g hx hb hts hown hK hP 12 (by decide) rfl lMd_35 rfl dMd_leave_250 ?_
                      refine lv_aload_n hx hb dMd_leave_253 rfl (lv_at hl 3 rfl) ?_
                      refine cm_g hx hb hts hown hK hP 13 (by decide) rfl lMd_68 rfl dMd_leave_254 ?_
                      refine lv_topi (fun y_99 ey_99 => ?_)
                      obtain rfl : y_99 = nI d := ey_99.trans (by rw [qOpen_zAt, qOpen_zOpen])
                      refine cm_lLeft (i := d) (by omega) hx hb hK hP dMd_leave_257 ?_
                      refine lv_topi (fun y_100 ey_100 => ?_)
                      obtain rfl : y_100 = nI (qLeft m d) := ey_100.trans (by rw [qLeft_zAt, qLeft_zOpen])
                      refine lv_iconst (v := 1) hx hb dMd_leave_258 (by decide) ?_
                      refine lv_icmp_gt (tgt := 263) hx hb dMd_leave_259 (by decide) (fun c_101 => ?_) (fun c_101 => ?_)
                      · -- 259 taken
                        have hl1 : 1 ≤ qLeft m d := Nat.le_of_lt ((nI_ltI (a := 1) (by decide) (by omega)).mp c_101)
                        refine lv_aload_n hx hb dMd_leave_263 rfl (lv_at hl 3 rfl) ?_
                        refine cm_g hx hb hts hown hK hP 12 (by decide) rfl lMd_35 rfl dMd_leave_264 ?_
                        refine lv_aload_n hx hb dMd_leave_267 rfl (lv_at hl 3 rfl) ?_
                        refine cm_g hx hb hts hown hK hP 13 (by decide) rfl lMd_68 rfl dMd_leave_268 ?_
                        refine lv_topi (fun y_102 ey_102 => ?_)
                        obtain rfl : y_102 = nI d := ey_102.trans (by rw [qOpen_zAt, qOpen_zOpen])
                        refine lv_dup2_11 hx hb dMd_leave_271 rfl rfl ?_
                        refine cm_lLeft (i := d) (by omega) hx hb hK hP dMd_leave_272 ?_
                        refine lv_topi (fun y_103 ey_103 => ?_)
                        obtain rfl : y_103 = nI (qLeft m d) := ey_103.trans (by rw [qLeft_zAt, qLeft_zOpen])
                        refine lv_iconst (v := 1) hx hb dMd_leave_273 (by decide) ?_
                        refine lv_isub hx hb dMd_leave_274 ?_
                        refine lv_topi (fun y_104 ey_104 => ?_)
                        obtain rfl : y_104 = nI (qLeft m d - 1) := ey_104.trans (pk_sub (b := 1) hl1)
                        refine cm_sLeft (i := d) (x := (qLeft m d - 1)) (by omega) hx hb hK hd hP hS dMd_leave_275 (fun H locs hP hS => ?_)
                        rw [qLeft_zAt, qLeft_zOpen] at hP
                        refine lv_aload_n hx hb dMd_leave_276 rfl (lv_at hl 3 rfl) ?_
                        refine lv_iload_n hx hb dMd_leave_277 rfl (lv_at hl 2 rfl) ?_
                        refine lv_iconst (v := 1) hx hb dMd_leave_278 (by decide) ?_
                        refine lv_iadd hx hb dMd_leave_279 ?_
                        refine lv_topi (fun y_105 ey_105 => ?_)
                        obtain rfl : y_105 = nI (qBlk m d + 1) := ey_105.trans (nI_1 _)
                        refine cm_pAt (x := (qBlk m d + 1)) hx hb hts hown hK hd hP hS lMd_59 dMd_leave_280 (fun H locs hP hS => ?_)
                        refine lv_aload_n hx hb dMd_leave_283 rfl (lv_at hl 3 rfl) ?_
                        refine lv_dup hx hb dMd_leave_284 rfl ?_
                        refine cm_g hx hb hts hown hK hP 13 (by decide) rfl lMd_68 rfl dMd_leave_285 ?_
                        refine lv_topi (fun y_106 ey_106 => ?_)
                        obtain rfl : y_106 = nI d := ey_106.trans (by rw [qOpen_zAt, qOpen_zLeft, qOpen_zAt, qOpen_zOpen])
                        refine lv_iconst (v := 1) hx hb dMd_leave_288 (by decide) ?_
                        refine lv_iadd hx hb dMd_leave_289 ?_
                        refine lv_topi (fun y_107 ey_107 => ?_)
                        obtain rfl : y_107 = nI (d + 1) := ey_107.trans (nI_1 d)
                        refine cm_pOpen (x := (d + 1)) hx hb hts hown hK hd hP hS lMd_68 dMd_leave_290 (fun H locs hP hS => ?_)
                        exact W.vret hx hb hr (fun t9 ht hW => ⟨⟨zOpen (zAt (zLeft (zAt (zOpen m d) (qEnd m d)) (va_up (qLeft m) d (qLeft m d - 1))) (qBlk m d + 1)) (d + 1), rfl, ((mLeave_14 hk).trans (if_pos ⟨Int32.not_le.mp c_96, bI0 c_98, (nI_ltI (a := 1) (by decide) (by omega)).mp c_101⟩)).symm, ce_hp ht hP⟩, hS.F ht⟩) hS.2.2 dMd_leave_293
                      · -- 259 not taken
                        exact W.vret hx hb hr (fun t9 ht hW => ⟨⟨zAt (zOpen m d) (qEnd m d), rfl, ((mLeave_14 hk).trans (if_neg (fun q => c_101 (nI_lt (a := 1) q.2.2 (by omega))))).symm, ce_hp ht hP⟩, hS.F ht⟩) hS.2.2 dMd_leave_262
              · -- 128 not taken
                exact absurd c_93 (by decide)
            · -- 112 not taken
              exact absurd c_92 (by decide)
          · -- 94 not taken
            exact absurd c_91 (by decide)
        · -- 79 not taken
          exact absurd c_90 (by decide)
      · -- 63 not taken
        exact absurd c_89 (by decide)
set_option maxHeartbeats 8000000 in
set_option maxRecDepth 100000 in
theorem c_Md_step (l : Launch) (D : va_G) (cI cZ : ClassId) (a : Nat → Nat) (hd : dM a) (m : MS) (th : Bool) (hp : qProg m < 6) (ha : qAt m < 14) (h21 : mO m (qAt m) ≤ 21) (h8 : mG m (qAt m) ≤ 255) (ho : qOpen m < 15) (hL : mLim m ≤ 14) : Met l yMd_step (ce_ws yMd_step cMd_step 5 none) (ce_rm 3) (cm_Pc D cI cZ [.ref (a 0), .int (bI th)] (wM a cI cZ m)) (va_Qv (fun m2 => m2 = mStep th m) (fun m2 t => va_P D vwCl (wM a cI cZ m2) t.heap) (aM a)) 0 0 (aM a) := by
  refine Met.ofW (cc := cMd_step) (maxL := 5) (ret := none) (by decide) rfl ?_
  intro p e s mi args below meth c s₁ B hml hv
  obtain ⟨rfl, hP, hK⟩ := hv
  have hx := B.exec
  have hb := B.bytes
  have hr := B.returns
  have hts := atoms_spec (ws := ce_ws yMd_step cMd_step 5 none) B.pre
  have hown : s.vm.findClass RMd = some mi.cls := findClass_of_methodNamed B.named
  have hlocks := B.notSynchronized
  have hS : va_S (aM a) s.heap s.heap [] := va_S.rf
  have hl := lv_entry ([.ref (a 0), .int (bI th)]) (n := 5) (Nat.le_of_ble_eq_true rfl)
  rw [lg_entry_eq]
  generalize (lg_sl ([.ref (a 0), .int (bI th)]) ++ List.replicate (5 - (lg_sl ([.ref (a 0), .int (bI th)])).length) Slot.unset).toArray = ls at hl ⊢
  have hl : lv_has ls 5 [(0, .ref (a 0)), (1, .int (bI th))] := hl
  refine lv_aload_n hx hb dMd_step_0 rfl (lv_at hl 0 rfl) ?_
  refine cm_g hx hb hts hown hK hP 19 (by decide) rfl lMd_112 rfl dMd_step_1 ?_
  refine lv_sipush (v := 400) hx hb dMd_step_4 (by decide) ?_
  refine lv_icmp_ne (tgt := 16) hx hb dMd_step_7 (by decide) (fun c_1 => ?_) (fun c_1 => ?_)
  · -- 7 taken
    refine lv_aload_n hx hb dMd_step_16 rfl (lv_at hl 0 rfl) ?_
    refine lv_dup hx hb dMd_step_17 rfl ?_
    refine cm_g hx hb hts hown hK hP 19 (by decide) rfl lMd_112 rfl dMd_step_18 ?_
    refine lv_iconst (v := 1) hx hb dMd_step_21 (by decide) ?_
    refine lv_iadd hx hb dMd_step_22 ?_
    refine cm_pSteps (x := (qSteps m) + 1) hx hb hts hown hK hd hP hS lMd_112 dMd_step_23 (fun H locs hP hS => ?_)
    refine lv_aload_n hx hb dMd_step_26 rfl (lv_at hl 0 rfl) ?_
    refine cm_g hx hb hts hown hK hP 17 (by decide) rfl lMd_59 rfl dMd_step_27 ?_
    refine lv_topi (fun y_2 ey_2 => ?_)
    obtain rfl : y_2 = nI (qAt m) := ey_2.trans (by rw [qAt_zSteps])
    refine lv_istore_n (lv' := [(2, .int (nI (qAt m))), (0, .ref (a 0)), (1, .int (bI th))]) hx hb dMd_step_30 rfl hl (by decide) rfl (fun ls hl => ?_)
    refine lv_aload_n hx hb dMd_step_31 rfl (lv_at hl 1 rfl) ?_
    refine cm_g hx hb hts hown hK hP 0 (by decide) rfl lMd_7 rfl dMd_step_32 ?_
    refine lv_aload_n hx hb dMd_step_35 rfl (lv_at hl 1 rfl) ?_
    refine cm_g hx hb hts hown hK hP 16 (by decide) rfl lMd_65 rfl dMd_step_36 ?_
    refine lv_topi (fun y_3 ey_3 => ?_)
    obtain rfl : y_3 = nI (qProg m) := ey_3.trans (by rw [qProg_zSteps])
    refine lv_bipush (v := 14) hx hb dMd_step_39 (by decide) ?_
    refine lv_imul hx hb dMd_step_41 ?_
    refine lv_topi (fun y_4 ey_4 => ?_)
    obtain rfl : y_4 = nI (qProg m * 14) := ey_4.trans (pk_mul _ 14)
    refine lv_iload_n hx hb dMd_step_42 rfl (lv_at hl 0 rfl) ?_
    refine lv_iadd hx hb dMd_step_43 ?_
    refine lv_topi (fun y_5 ey_5 => ?_)
    obtain rfl : y_5 = nI (qProg m * 14 + qAt m) := ey_5.trans (nI_add _ _)
    refine cm_lOp (i := (qProg m * 14 + qAt m)) (by omega) hx hb hK hP dMd_step_44 ?_
    refine lv_topi (fun y_6 ey_6 => ?_)
    obtain rfl : y_6 = nI (qOp m (qProg m * 14 + qAt m)) := ey_6.trans (by rw [qOp_zSteps])
    refine lv_topi (fun y_7 ey_7 => ?_)
    obtain rfl : y_7 = nI (mO m (qAt m)) := ey_7.trans (rfl)
    refine lv_istore_n (lv' := [(3, .int (nI (mO m (qAt m)))), (2, .int (nI (qAt m))), (0, .ref (a 0)), (1, .int (bI th))]) hx hb dMd_step_45 rfl hl (by decide) rfl (fun ls hl => ?_)
    refine lv_aload_n hx hb dMd_step_46 rfl (lv_at hl 2 rfl) ?_
    refine cm_g hx hb hts hown hK hP 1 (by decide) rfl lMd_13 rfl dMd_step_47 ?_
    refine lv_aload_n hx hb dMd_step_50 rfl (lv_at hl 2 rfl) ?_
    refine cm_g hx hb hts hown hK hP 16 (by decide) rfl lMd_65 rfl dMd_step_51 ?_
    refine lv_topi (fun y_8 ey_8 => ?_)
    obtain rfl : y_8 = nI (qProg m) := ey_8.trans (by rw [qProg_zSteps])
    refine lv_bipush (v := 14) hx hb dMd_step_54 (by decide) ?_
    refine lv_imul hx hb dMd_step_56 ?_
    refine lv_topi (fun y_9 ey_9 => ?_)
    obtain rfl : y_9 = nI (qProg m * 14) := ey_9.trans (pk_mul _ 14)
    refine lv_iload_n hx hb dMd_step_57 rfl (lv_at hl 1 rfl) ?_
    refine lv_iadd hx hb dMd_step_58 ?_
    refine lv_topi (fun y_10 ey_10 => ?_)
    obtain rfl : y_10 = nI (qProg m * 14 + qAt m) := ey_10.trans (nI_add _ _)
    refine cm_lArg (i := (qProg m * 14 + qAt m)) (by omega) hx hb hK hP dMd_step_59 ?_
    refine lv_topi (fun y_11 ey_11 => ?_)
    obtain rfl : y_11 = nI (qArg m (qProg m * 14 + qAt m)) := ey_11.trans (by rw [qArg_zSteps])
    refine lv_topi (fun y_12 ey_12 => ?_)
    obtain rfl : y_12 = nI (mG m (qAt m)) := ey_12.trans (rfl)
    refine lv_istore (lv' := [(4, .int (nI (mG m (qAt m)))), (3, .int (nI (mO m (qAt m)))), (2, .int (nI (qAt m))), (0, .ref (a 0)), (1, .int (bI th))]) hx hb dMd_step_60 hl (by decide) rfl (fun ls hl => ?_)
    refine lv_iload_n hx hb dMd_step_62 rfl (lv_at hl 1 rfl) ?_
    refine lv_bipush (v := 9) hx hb dMd_step_63 (by decide) ?_
    refine lv_icmp_le (tgt := 92) hx hb dMd_step_65 (by decide) (fun c_13 => ?_) (fun c_13 => ?_)
    · -- 65 taken
      refine lv_iload_n hx hb dMd_step_92 rfl (lv_at hl 1 rfl) ?_
      refine lv_bipush (v := 21) hx hb dMd_step_93 (by decide) ?_
      refine lv_icmp_ne (tgt := 121) hx hb dMd_step_95 (by decide) (fun c_14 => ?_) (fun c_14 => ?_)
      · -- 95 taken
        refine lv_aload_n hx hb dMd_step_121 rfl (lv_at hl 3 rfl) ?_
        refine lv_iload_n hx hb dMd_step_122 rfl (lv_at hl 1 rfl) ?_
        refine lv_iload hx hb dMd_step_123 (lv_at hl 0 rfl) ?_
        refine lv_bipush (v := 100) hx hb dMd_step_125 (by decide) ?_
        refine lv_isub hx hb dMd_step_127 ?_
        refine lv_iload hx hb dMd_step_128 (lv_at hl 0 rfl) ?_
        refine lv_bipush (v := 16) hx hb dMd_step_130 (by decide) ?_
        refine lv_irem hx hb dMd_step_132 (by decide) ?_
        refine lv_topi (fun y_15 ey_15 => ?_)
        obtain rfl : y_15 = nI (mG m (qAt m) % 16) := ey_15.trans (pk_rem (d := 16) (by omega) (by decide) (by decide))
        refine lv_iload hx hb dMd_step_133 (lv_at hl 0 rfl) ?_
        refine lv_bipush (v := 16) hx hb dMd_step_135 (by decide) ?_
        refine lv_idiv hx hb dMd_step_137 (by decide) ?_
        refine lv_topi (fun y_16 ey_16 => ?_)
        obtain rfl : y_16 = nI (mG m (qAt m) / 16) := ey_16.trans (pk_div (d := 16) (by omega) (by decide) (by decide))
        refine cm_vv (As := [.int (nI (mO m (qAt m))), .int ((nI (mG m (qAt m))) - 100), .int (nI (mG m (qAt m) % 16)), .int (nI (mG m (qAt m) / 16))]) (rest := []) ⟨hx, hb, hml, hown, hts⟩ (c_Md_act l D cI cZ a hd (zSteps m ((qSteps m) + 1)) (mO m (qAt m)) (nI (mG m (qAt m)) - 100) (mG m (qAt m) % 16) (mG m (qAt m) / 16) (Or.inl ((nI_leI (b := 9) (by omega) (by decide)).mp c_13)) (Nat.mod_lt _ (by decide)) (by omega)) mMd_act lMd_118 iMd_act (ce_hR (by omega) (by decide)) ⟨rfl, rfl⟩ hK hP hS rfl hl.1 rfl (Nat.le_of_ble_eq_true rfl) dMd_step_138 ⟨Nat.le_of_ble_eq_true rfl, Nat.le_of_ble_eq_true rfl⟩ (fun m_17 H locs em_17 hP hS => ?_)
        obtain rfl := em_17
        refine lv_aload_n hx hb dMd_step_141 rfl (lv_at hl 3 rfl) ?_
        refine lv_iload_n hx hb dMd_step_142 rfl (lv_at hl 2 rfl) ?_
        refine lv_iconst (v := 1) hx hb dMd_step_143 (by decide) ?_
        refine lv_iadd hx hb dMd_step_144 ?_
        refine lv_topi (fun y_18 ey_18 => ?_)
        obtain rfl : y_18 = nI (qAt m + 1) := ey_18.trans (nI_1 _)
        refine cm_pAt (x := (qAt m + 1)) hx hb hts hown hK hd hP hS lMd_59 dMd_step_145 (fun H locs hP hS => ?_)
        exact W.vret hx hb hr (fun t9 ht hW => ⟨⟨zAt (mAct (zSteps m ((qSteps m) + 1)) (mO m (qAt m)) (nI (mG m (qAt m)) - 100) (mG m (qAt m) % 16) (mG m (qAt m) / 16)) (qAt m + 1), rfl, (((if_neg c_1).trans (if_neg (fun q => absurd (nI_lt (a := 9) q.1 (by omega)) (Int32.not_lt.mpr c_13)))).trans (if_neg (fun q => c_14 (congrArg nI q)))).symm, ce_hp ht hP⟩, hS.F ht⟩) hS.2.2 dMd_step_148
      · -- 95 not taken
        refine lv_aload_n hx hb dMd_step_98 rfl (lv_at hl 3 rfl) ?_
        refine lv_iload_n hx hb dMd_step_99 rfl (lv_at hl 4 rfl) ?_
        refine lv_if_eq (tgt := 113) hx hb dMd_step_100 (by decide) (fun c_19 => ?_) (fun c_19 => ?_)
        · -- 100 taken
          refine lv_bipush (v := 10) hx hb dMd_step_113 (by decide) ?_
          refine cm_pAcc (x := 10) hx hb hts hown hK hd hP hS lMd_78 dMd_step_115 (fun H locs hP hS => ?_)
          refine lv_goto (tgt := 141) hx hb dMd_step_118 (by decide) ?_
          refine lv_aload_n hx hb dMd_step_141 rfl (lv_at hl 3 rfl) ?_
          refine lv_iload_n hx hb dMd_step_142 rfl (lv_at hl 2 rfl) ?_
          refine lv_iconst (v := 1) hx hb dMd_step_143 (by decide) ?_
          refine lv_iadd hx hb dMd_step_144 ?_
          refine lv_topi (fun y_20 ey_20 => ?_)
          obtain rfl : y_20 = nI (qAt m + 1) := ey_20.trans (nI_1 _)
          refine cm_pAt (x := (qAt m + 1)) hx hb hts hown hK hd hP hS lMd_59 dMd_step_145 (fun H locs hP hS => ?_)
          exact W.vret hx hb hr (fun t9 ht hW => ⟨⟨zAt (zAcc (zSteps m ((qSteps m) + 1)) 10) (qAt m + 1), rfl, ((((if_neg c_1).trans (if_neg (fun q => absurd (nI_lt (a := 9) q.1 (by omega)) (Int32.not_lt.mpr c_13)))).trans (if_pos ((nI_eq (b := 21) (by omega) (by decide)).mp c_14))).trans (congrArg (fun x => zAt (zAcc (zSteps m (qSteps m + 1)) x) (qAt m + 1)) (if_neg (by rw [bI0 c_19]; decide)))).symm, ce_hp ht hP⟩, hS.F ht⟩) hS.2.2 dMd_step_148
        · -- 100 not taken
          refine lv_bipush (v := 20) hx hb dMd_step_103 (by decide) ?_
          refine lv_aload_n hx hb dMd_step_105 rfl (lv_at hl 3 rfl) ?_
          refine cm_g hx hb hts hown hK hP 16 (by decide) rfl lMd_65 rfl dMd_step_106 ?_
          refine lv_topi (fun y_21 ey_21 => ?_)
          obtain rfl : y_21 = nI (qProg m) := ey_21.trans (by rw [qProg_zSteps])
          refine lv_iadd hx hb dMd_step_109 ?_
          refine lv_goto (tgt := 115) hx hb dMd_step_110 (by decide) ?_
          refine cm_pAcc (x := 20 + (nI (qProg m))) hx hb hts hown hK hd hP hS lMd_78 dMd_step_115 (fun H locs hP hS => ?_)
          refine lv_goto (tgt := 141) hx hb dMd_step_118 (by decide) ?_
          refine lv_aload_n hx hb dMd_step_141 rfl (lv_at hl 3 rfl) ?_
          refine lv_iload_n hx hb dMd_step_142 rfl (lv_at hl 2 rfl) ?_
          refine lv_iconst (v := 1) hx hb dMd_step_143 (by decide) ?_
          refine lv_iadd hx hb dMd_step_144 ?_
          refine lv_topi (fun y_22 ey_22 => ?_)
          obtain rfl : y_22 = nI (qAt m + 1) := ey_22.trans (nI_1 _)
          refine cm_pAt (x := (qAt m + 1)) hx hb hts hown hK hd hP hS lMd_59 dMd_step_145 (fun H locs hP hS => ?_)
          exact W.vret hx hb hr (fun t9 ht hW => ⟨⟨zAt (zAcc (zSteps m ((qSteps m) + 1)) (20 + (nI (qProg m)))) (qAt m + 1), rfl, ((((if_neg c_1).trans (if_neg (fun q => absurd (nI_lt (a := 9) q.1 (by omega)) (Int32.not_lt.mpr c_13)))).trans (if_pos ((nI_eq (b := 21) (by omega) (by decide)).mp c_14))).trans (congrArg (fun x => zAt (zAcc (zSteps m (qSteps m + 1)) x) (qAt m + 1)) (if_pos (bI1 c_19)))).symm, ce_hp ht hP⟩, hS.F ht⟩) hS.2.2 dMd_step_148
    · -- 65 not taken
      refine lv_iload_n hx hb dMd_step_68 rfl (lv_at hl 1 rfl) ?_
      refine lv_bipush (v := 15) hx hb dMd_step_69 (by decide) ?_
      refine lv_icmp_ge (tgt := 92) hx hb dMd_step_71 (by decide) (fun c_23 => ?_) (fun c_23 => ?_)
      · -- 71 taken
        refine lv_iload_n hx hb dMd_step_92 rfl (lv_at hl 1 rfl) ?_
        refine lv_bipush (v := 21) hx hb dMd_step_93 (by decide) ?_
        refine lv_icmp_ne (tgt := 121) hx hb dMd_step_95 (by decide) (fun c_24 => ?_) (fun c_24 => ?_)
        · -- 95 taken
          refine lv_aload_n hx hb dMd_step_121 rfl (lv_at hl 3 rfl) ?_
          refine lv_iload_n hx hb dMd_step_122 rfl (lv_at hl 1 rfl) ?_
          refine lv_iload hx hb dMd_step_123 (lv_at hl 0 rfl) ?_
          refine lv_bipush (v := 100) hx hb dMd_step_125 (by decide) ?_
          refine lv_isub hx hb dMd_step_127 ?_
          refine lv_iload hx hb dMd_step_128 (lv_at hl 0 rfl) ?_
          refine lv_bipush (v := 16) hx hb dMd_step_130 (by decide) ?_
          refine lv_irem hx hb dMd_step_132 (by decide) ?_
          refine lv_topi (fun y_25 ey_25 => ?_)
          obtain rfl : y_25 = nI (mG m (qAt m) % 16) := ey_25.trans (pk_rem (d := 16) (by omega) (by decide) (by decide))
          refine lv_iload hx hb dMd_step_133 (lv_at hl 0 rfl) ?_
          refine lv_bipush (v := 16) hx hb dMd_step_135 (by decide) ?_
          refine lv_idiv hx hb dMd_step_137 (by decide) ?_
          refine lv_topi (fun y_26 ey_26 => ?_)
          obtain rfl : y_26 = nI (mG m (qAt m) / 16) := ey_26.trans (pk_div (d := 16) (by omega) (by decide) (by decide))
          refine cm_vv (As := [.int (nI (mO m (qAt m))), .int ((nI (mG m (qAt m))) - 100), .int (nI (mG m (qAt m) % 16)), .int (nI (mG m (qAt m) / 16))]) (rest := []) ⟨hx, hb, hml, hown, hts⟩ (c_Md_act l D cI cZ a hd (zSteps m ((qSteps m) + 1)) (mO m (qAt m)) (nI (mG m (qAt m)) - 100) (mG m (qAt m) % 16) (mG m (qAt m) / 16) (Or.inr ⟨(nI_leI (a := 15) (by decide) (by omega)).mp c_23, h20 (fun q => c_24 (congrArg nI q)) h21⟩) (Nat.mod_lt _ (by decide)) (by omega)) mMd_act lMd_118 iMd_act (ce_hR (by omega) (by decide)) ⟨rfl, rfl⟩ hK hP hS rfl hl.1 rfl (Nat.le_of_ble_eq_true rfl) dMd_step_138 ⟨Nat.le_of_ble_eq_true rfl, Nat.le_of_ble_eq_true rfl⟩ (fun m_27 H locs em_27 hP hS => ?_)
          obtain rfl := em_27
          refine lv_aload_n hx hb dMd_step_141 rfl (lv_at hl 3 rfl) ?_
          refine lv_iload_n hx hb dMd_step_142 rfl (lv_at hl 2 rfl) ?_
          refine lv_iconst (v := 1) hx hb dMd_step_143 (by decide) ?_
          refine lv_iadd hx hb dMd_step_144 ?_
          refine lv_topi (fun y_28 ey_28 => ?_)
          obtain rfl : y_28 = nI (qAt m + 1) := ey_28.trans (nI_1 _)
          refine cm_pAt (x := (qAt m + 1)) hx hb hts hown hK hd hP hS lMd_59 dMd_step_145 (fun H locs hP hS => ?_)
          exact W.vret hx hb hr (fun t9 ht hW => ⟨⟨zAt (mAct (zSteps m ((qSteps m) + 1)) (mO m (qAt m)) (nI (mG m (qAt m)) - 100) (mG m (qAt m) % 16) (mG m (qAt m) / 16)) (qAt m + 1), rfl, (((if_neg c_1).trans (if_neg (fun q => absurd (nI_lt (b := 15) q.2 (by decide)) (Int32.not_lt.mpr c_23)))).trans (if_neg (fun q => c_24 (congrArg nI q)))).symm, ce_hp ht hP⟩, hS.F ht⟩) hS.2.2 dMd_step_148
        · -- 95 not taken
          refine lv_aload_n hx hb dMd_step_98 rfl (lv_at hl 3 rfl) ?_
          refine lv_iload_n hx hb dMd_step_99 rfl (lv_at hl 4 rfl) ?_
          refine lv_if_eq (tgt := 113) hx hb dMd_step_100 (by decide) (fun c_29 => ?_) (fun c_29 => ?_)
          · -- 100 taken
            refine lv_bipush (v := 10) hx hb dMd_step_113 (by decide) ?_
            refine cm_pAcc (x := 10) hx hb hts hown hK hd hP hS lMd_78 dMd_step_115 (fun H locs hP hS => ?_)
            refine lv_goto (tgt := 141) hx hb dMd_step_118 (by decide) ?_
            refine lv_aload_n hx hb dMd_step_141 rfl (lv_at hl 3 rfl) ?_
            refine lv_iload_n hx hb dMd_step_142 rfl (lv_at hl 2 rfl) ?_
            refine lv_iconst (v := 1) hx hb dMd_step_143 (by decide) ?_
            refine lv_iadd hx hb dMd_step_144 ?_
            refine lv_topi (fun y_30 ey_30 => ?_)
            obtain rfl : y_30 = nI (qAt m + 1) := ey_30.trans (nI_1 _)
            refine cm_pAt (x := (qAt m + 1)) hx hb hts hown hK hd hP hS lMd_59 dMd_step_145 (fun H locs hP hS => ?_)
            exact W.vret hx hb hr (fun t9 ht hW => ⟨⟨zAt (zAcc (zSteps m ((qSteps m) + 1)) 10) (qAt m + 1), rfl, ((((if_neg c_1).trans (if_neg (fun q => absurd (nI_lt (b := 15) q.2 (by decide)) (Int32.not_lt.mpr c_23)))).trans (if_pos ((nI_eq (b := 21) (by omega) (by decide)).mp c_24))).trans (congrArg (fun x => zAt (zAcc (zSteps m (qSteps m + 1)) x) (qAt m + 1)) (if_neg (by rw [bI0 c_29]; decide)))).symm, ce_hp ht hP⟩, hS.F ht⟩) hS.2.2 dMd_step_148
          · -- 100 not taken
            refine lv_bipush (v := 20) hx hb dMd_step_103 (by decide) ?_
            refine lv_aload_n hx hb dMd_step_105 rfl (lv_at hl 3 rfl) ?_
            refine cm_g hx hb hts hown hK hP 16 (by decide) rfl lMd_65 rfl dMd_step_106 ?_
            refine lv_topi (fun y_31 ey_31 => ?_)
            obtain rfl : y_31 = nI (qProg m) := ey_31.trans (by rw [qProg_zSteps])
            refine lv_iadd hx hb dMd_step_109 ?_
            refine lv_goto (tgt := 115) hx hb dMd_step_110 (by decide) ?_
            refine cm_pAcc (x := 20 + (nI (qProg m))) hx hb hts hown hK hd hP hS lMd_78 dMd_step_115 (fun H locs hP hS => ?_)
            refine lv_goto (tgt := 141) hx hb dMd_step_118 (by decide) ?_
            refine lv_aload_n hx hb dMd_step_141 rfl (lv_at hl 3 rfl) ?_
            refine lv_iload_n hx hb dMd_step_142 rfl (lv_at hl 2 rfl) ?_
            refine lv_iconst (v := 1) hx hb dMd_step_143 (by decide) ?_
            refine lv_iadd hx hb dMd_step_144 ?_
            refine lv_topi (fun y_32 ey_32 => ?_)
            obtain rfl : y_32 = nI (qAt m + 1) := ey_32.trans (nI_1 _)
            refine cm_pAt (x := (qAt m + 1)) hx hb hts hown hK hd hP hS lMd_59 dMd_step_145 (fun H locs hP hS => ?_)
            exact W.vret hx hb hr (fun t9 ht hW => ⟨⟨zAt (zAcc (zSteps m ((qSteps m) + 1)) (20 + (nI (qProg m)))) (qAt m + 1), rfl, ((((if_neg c_1).trans (if_neg (fun q => absurd (nI_lt (b := 15) q.2 (by decide)) (Int32.not_lt.mpr c_23)))).trans (if_pos ((nI_eq (b := 21) (by omega) (by decide)).mp c_24))).trans (congrArg (fun x => zAt (zAcc (zSteps m (qSteps m + 1)) x) (qAt m + 1)) (if_pos (bI1 c_29)))).symm, ce_hp ht hP⟩, hS.F ht⟩) hS.2.2 dMd_step_148
      · -- 71 not taken
        refine lv_aload_n hx hb dMd_step_74 rfl (lv_at hl 3 rfl) ?_
        refine lv_iload_n hx hb dMd_step_75 rfl (lv_at hl 2 rfl) ?_
        refine lv_iconst (v := 1) hx hb dMd_step_76 (by decide) ?_
        refine lv_iadd hx hb dMd_step_77 ?_
        refine lv_topi (fun y_33 ey_33 => ?_)
        obtain rfl : y_33 = nI (qAt m + 1) := ey_33.trans (nI_1 _)
        refine cm_pAt (x := (qAt m + 1)) hx hb hts hown hK hd hP hS lMd_59 dMd_step_78 (fun H locs hP hS => ?_)
        refine lv_aload_n hx hb dMd_step_81 rfl (lv_at hl 3 rfl) ?_
        refine lv_iload_n hx hb dMd_step_82 rfl (lv_at hl 2 rfl) ?_
        refine lv_iload hx hb dMd_step_83 (lv_at hl 0 rfl) ?_
        refine lv_bipush (v := 16) hx hb dMd_step_85 (by decide) ?_
        refine lv_irem hx hb dMd_step_87 (by decide) ?_
        refine lv_topi (fun y_34 ey_34 => ?_)
        obtain rfl : y_34 = nI (mG m (qAt m) % 16) := ey_34.trans (pk_rem (d := 16) (by omega) (by decide) (by decide))
        refine cm_vv (As := [.int (nI (qAt m)), .int (nI (mG m (qAt m) % 16))]) (rest := []) ⟨hx, hb, hml, hown, hts⟩ (c_Md_enter l D cI cZ a hd (zAt (zSteps m ((qSteps m) + 1)) (qAt m + 1)) (qAt m) (mG m (qAt m) % 16) hp ha (Nat.mod_lt _ (by decide)) h21 h8 ho hL) mMd_enter lMd_115 iMd_enter (ce_hR (by omega) (by decide)) ⟨rfl, rfl⟩ hK hP hS rfl hl.1 rfl (Nat.le_of_ble_eq_true rfl) dMd_step_88 ⟨Nat.le_of_ble_eq_true rfl, Nat.le_of_ble_eq_true rfl⟩ (fun m_35 H locs em_35 hP hS => ?_)
        obtain rfl := em_35
        exact W.vret hx hb hr (fun t9 ht hW => ⟨⟨(mEnter (zAt (zSteps m ((qSteps m) + 1)) (qAt m + 1)) (qAt m) (mG m (qAt m) % 16)), rfl, ((if_neg c_1).trans (if_pos ⟨(nI_ltI (a := 9) (by decide) (by omega)).mp (Int32.not_le.mp c_13), (nI_ltI (b := 15) (by omega) (by decide)).mp (Int32.not_le.mp c_23)⟩)).symm, ce_hp ht hP⟩, hS.F ht⟩) hS.2.2 dMd_step_91
  · -- 7 not taken
    refine lv_aload_n hx hb dMd_step_10 rfl (lv_at hl 0 rfl) ?_
    refine lv_iconst (v := 1) hx hb dMd_step_11 (by decide) ?_
    refine cm_pStop (x := true) hx hb hts hown hK hd hP hS lMd_81 dMd_step_12 (fun H locs hP hS => ?_)
    exact W.vret hx hb hr (fun t9 ht hW => ⟨⟨zStop m true, rfl, (if_pos c_1).symm, ce_hp ht hP⟩, hS.F ht⟩) hS.2.2 dMd_step_15
end
section
theorem b8_in {f : Nat → Int32} {p j : Nat} (h : ∀ i, i < j → f (p * 8 + i) = 0) : ∀ i, i < j + 1 → upd f (p * 8 + j) 0 (p * 8 + i) = 0 := by
  intro i hi
  unfold upd
  split
  · rfl
  · exact h i (by omega)
theorem b8_out {f h : Nat → Int32} {p j : Nat} {x : Int32} (hh : ∀ q, (q < p * 8 ∨ p * 8 + 8 ≤ q) → f q = h q) (hj : j < 8) : ∀ q, (q < p * 8 ∨ p * 8 + 8 ≤ q) → upd f (p * 8 + j) x q = h q := by
  intro q hq
  unfold upd
  rw [if_neg (by omega)]
  exact hh q hq
theorem blk8_of {f h g : Nat → Int32} {p : Nat} (h1 : ∀ i, i < 8 → f (p * 8 + i) = g i) (h2 : ∀ q, (q < p * 8 ∨ p * 8 + 8 ≤ q) → f q = h q) : f = blk8 h p g := by
  funext q
  unfold blk8
  split
  · have e := h1 (q - p * 8) (by omega)
    rw [← e]
    congr 1
    omega
  · exact h2 q (by omega)
set_option maxHeartbeats 8000000 in
set_option maxRecDepth 100000 in
theorem c_Md_forget (l : Launch) (D : va_G) (cI cZ : ClassId) (a : Nat → Nat) (hd : dM a) (m : MS) (pn : Nat) (hp6 : pn < 6) : Met l yMd_forget (ce_ws yMd_forget cMd_forget 3 none) (ce_rm 0) (cm_Pc D cI cZ [.ref (a 0), .int (nI pn)] (wM a cI cZ m)) (va_Qv (fun m2 => m2 = mForget m pn) (fun m2 t => va_P D vwCl (wM a cI cZ m2) t.heap) (aM a)) 0 0 (aM a) := by
  refine Met.ofW (cc := cMd_forget) (maxL := 3) (ret := none) (by decide) rfl ?_
  intro p e s mi args below meth c s₁ B hml hv
  obtain ⟨rfl, hP, hK⟩ := hv
  have hx := B.exec
  have hb := B.bytes
  have hr := B.returns
  have hts := atoms_spec (ws := ce_ws yMd_forget cMd_forget 3 none) B.pre
  have hown : s.vm.findClass RMd = some mi.cls := findClass_of_methodNamed B.named
  have hlocks := B.notSynchronized
  have hS : va_S (aM a) s.heap s.heap [] := va_S.rf
  have hl := lv_entry ([.ref (a 0), .int (nI pn)]) (n := 3) (Nat.le_of_ble_eq_true rfl)
  rw [lg_entry_eq]
  generalize (lg_sl ([.ref (a 0), .int (nI pn)]) ++ List.replicate (3 - (lg_sl ([.ref (a 0), .int (nI pn)])).length) Slot.unset).toArray = ls at hl ⊢
  have hl : lv_has ls 3 [(0, .ref (a 0)), (1, .int (nI pn))] := hl
  refine lv_aload_n hx hb dMd_forget_0 rfl (lv_at hl 0 rfl) ?_
  refine cm_g hx hb hts hown hK hP 5 (by decide) rfl lMd_25 rfl dMd_forget_1 ?_
  refine lv_iload_n hx hb dMd_forget_4 rfl (lv_at hl 1 rfl) ?_
  refine lv_iconst (v := 0) hx hb dMd_forget_5 (by decide) ?_
  refine cm_sRan (i := pn) (x := false) (by omega) hx hb hK hd hP hS dMd_forget_6 (fun H locs hP hS => ?_)
  refine lv_iconst (v := 0) hx hb dMd_forget_7 (by decide) ?_
  refine lv_istore_n (lv' := [(2, .int 0), (0, .ref (a 0)), (1, .int (nI pn))]) hx hb dMd_forget_8 rfl hl (by decide) rfl (fun ls hl => ?_)
  have loop : ∀ (n j : Nat) (f : Nat → Int32) (H : Heap) (locs : List Loc) (ls : Array Slot), j + n = 8 → (∀ i, i < j → f (pn * 8 + i) = 0) → (∀ q, (q < pn * 8 ∨ pn * 8 + 8 ≤ q) → f q = qCls m q) → va_P D vwCl (wM a cI cZ (zCls (zRan m (va_up (qRan m) pn false)) f)) H → va_S (aM a) s.heap H locs → lv_has ls 3 [(0, .ref (a 0)), (1, .int (nI pn)), (2, .int (nI j))] → W p l e (headSpec (ce_ws yMd_forget cMd_forget 3 none) (ce_rm 0)).room s mi (([.ref (a 0), .int (nI pn)] : List Value).toArray) below meth c H locs 0 0 (MQ below (va_Qv (fun m2 => m2 = mForget m pn) (fun m2 t => va_P D vwCl (wM a cI cZ m2) t.heap) (aM a)) (([.ref (a 0), .int (nI pn)] : List Value).toArray) s 0 0 (aM a)) (F0 mi 9 ls []) := by
    intro n
    induction n with
    | zero =>
      intro j f H locs ls hj hf ho hP hS hl
      refine lv_iload_n hx hb dMd_forget_9 rfl (lv_at hl 2 rfl) ?_
      refine lv_bipush (v := 8) hx hb dMd_forget_10 (by decide) ?_
      refine lv_icmp_ge (tgt := 33) hx hb dMd_forget_12 (by decide) (fun c_1 => ?_) (fun c_1 => ?_)
      · -- 12 taken
        exact W.vret hx hb hr (fun t9 ht hW => ⟨⟨zCls (zRan m (va_up (qRan m) pn false)) f, rfl, congrArg (zCls (zRan m (va_up (qRan m) pn false))) (blk8_of (fun i h => hf i (by omega)) ho), ce_hp ht hP⟩, hS.F ht⟩) hS.2.2 dMd_forget_33
      · -- 12 not taken
        exact absurd (nI_le (a := 8) (b := j) (by omega) (by omega)) c_1
    | succ n ihn =>
      intro j f H locs ls hj hf ho hP hS hl
      refine lv_iload_n hx hb dMd_forget_9 rfl (lv_at hl 2 rfl) ?_
      refine lv_bipush (v := 8) hx hb dMd_forget_10 (by decide) ?_
      refine lv_icmp_ge (tgt := 33) hx hb dMd_forget_12 (by decide) (fun c_2 => ?_) (fun c_2 => ?_)
      · -- 12 taken
        exact absurd c_2 (nI_ge (a := j) (b := 8) (by omega) (by omega))
      · -- 12 not taken
        refine lv_aload_n hx hb dMd_forget_15 rfl (lv_at hl 0 rfl) ?_
        refine cm_g hx hb hts hown hK hP 4 (by decide) rfl lMd_22 rfl dMd_forget_16 ?_
        refine lv_iload_n hx hb dMd_forget_19 rfl (lv_at hl 1 rfl) ?_
        refine lv_bipush (v := 8) hx hb dMd_forget_20 (by decide) ?_
        refine lv_imul hx hb dMd_forget_22 ?_
        refine lv_topi (fun y_3 ey_3 => ?_)
        obtain rfl : y_3 = nI (pn * 8) := ey_3.trans (pk_mul _ 8)
        refine lv_iload_n hx hb dMd_forget_23 rfl (lv_at hl 2 rfl) ?_
        refine lv_iadd hx hb dMd_forget_24 ?_
        refine lv_topi (fun y_4 ey_4 => ?_)
        obtain rfl : y_4 = nI (pn * 8 + j) := ey_4.trans (nI_add _ _)
        refine lv_iconst (v := 0) hx hb dMd_forget_25 (by decide) ?_
        refine cm_sCls (i := (pn * 8 + j)) (x := 0) (by omega) hx hb hK hd hP hS dMd_forget_26 (fun H locs hP hS => ?_)
        rw [qCls_zCls] at hP
        rw [zCls_zCls] at hP
        refine lv_iinc (v := nI (j + 1)) (lv' := [(2, .int (nI (j + 1))), (0, .ref (a 0)), (1, .int (nI pn))]) hx hb dMd_forget_27 hl (k := 2) rfl (nI_1 j) (by decide) rfl (fun ls hl => ?_)
        refine lv_goto (tgt := 9) hx hb dMd_forget_30 (by decide) ?_
        exact ihn (j + 1) (upd f (pn * 8 + j) 0) _ _ _ (by omega) (b8_in hf) (b8_out ho (by omega)) hP hS (lv_sub hl [1, 2, 0] rfl)
  exact loop 8 0 (qCls m) _ _ _ rfl (fun i h => absurd h (Nat.not_lt_zero i)) (fun _ _ => rfl) hP hS (lv_sub hl [1, 2, 0] rfl)
end
section
theorem wM_ch (a : Nat → Nat) (cI cZ : ClassId) (g : MS) (f x : Nat → Int32) : wM a cI cZ (zHeld (zCell g f) x) = [(a 0, .inr (3, [.ref (a 1), .ref (a 2), .ref (a 3), .ref (a 4), .ref (a 5), .ref (a 6), .long (qCtr g), .int (qRuns g), .int (qThr g), .int (qTrd g), .ref (a 7), .ref (a 8), .ref (a 9), .int (nI (qOpen g)), .ref (a 10), .ref (a 11), .int (nI (qProg g)), .int (nI (qAt g)), .int (qAcc g), .int (qSteps g), .int (qFin g), .int (qCat g), .int (qTr g), .int (qNum g), .int (qOrg g), .int (bI (qMark g)), .int (bI (qStop g))])), (a 1, .inl (cI, 84, .inl (fun i => nI (qOp g i)))), (a 2, .inl (cI, 84, .inl (fun i => nI (qArg g i)))), (a 3, .inl (cI, 6, .inl (fun i => nI (qSize g i)))), (a 4, .inl (cI, 48, .inl (qTold g))), (a 5, .inl (cI, 48, .inl (qCls g))), (a 6, .inl (cZ, 6, .inl (fun i => bI (qRan g i)))), (a 7, .inl (cI, 15, .inl (fun i => nI (qBlk g i)))), (a 8, .inl (cI, 15, .inl (fun i => nI (qEnd g i)))), (a 9, .inl (cI, 15, .inl (fun i => nI (qLeft g i)))), (a 10, .inl (cI, 8, .inl f)), (a 11, .inl (cI, 2, .inl x))] := by
  unfold wM mF
  simp only [qCtr_zHeld, qCtr_zCell, qRuns_zHeld, qRuns_zCell, qThr_zHeld, qThr_zCell, qTrd_zHeld, qTrd_zCell, qOpen_zHeld, qOpen_zCell, qProg_zHeld, qProg_zCell, qAt_zHeld, qAt_zCell, qAcc_zHeld, qAcc_zCell, qSteps_zHeld, qSteps_zCell, qFin_zHeld, qFin_zCell, qCat_zHeld, qCat_zCell, qTr_zHeld, qTr_zCell, qNum_zHeld, qNum_zCell, qOrg_zHeld, qOrg_zCell, qMark_zHeld, qMark_zCell, qStop_zHeld, qStop_zCell, qOp_zHeld, qOp_zCell, qArg_zHeld, qArg_zCell, qSize_zHeld, qSize_zCell, qTold_zHeld, qTold_zCell, qCls_zHeld, qCls_zCell, qRan_zHeld, qRan_zCell, qBlk_zHeld, qBlk_zCell, qEnd_zHeld, qEnd_zCell, qLeft_zHeld, qLeft_zCell, qCell_zHeld, qHeld_zCell, qHeld_zHeld, qCell_zCell]
theorem cm_likeCH {D : va_G} {a : Nat → Nat} {cI cZ : ClassId} {g : MS} {f x f2 x2 : Nat → Int32} {H : Heap} (h1 : ∀ j, j < 8 → f j = f2 j) (h2 : ∀ j, j < 2 → x j = x2 j) (hP : va_P D vwCl (wM a cI cZ (zHeld (zCell g f) x)) H) : va_P D vwCl (wM a cI cZ (zHeld (zCell g f2) x2)) H := by
  rw [wM_ch] at hP ⊢
  intro k q hk
  match k, hk with
  | 0, hk => exact hP 0 q hk
  | 1, hk => exact hP 1 q hk
  | 2, hk => exact hP 2 q hk
  | 3, hk => exact hP 3 q hk
  | 4, hk => exact hP 4 q hk
  | 5, hk => exact hP 5 q hk
  | 6, hk => exact hP 6 q hk
  | 7, hk => exact hP 7 q hk
  | 8, hk => exact hP 8 q hk
  | 9, hk => exact hP 9 q hk
  | 10, hk =>
    cases hk
    exact (hP 10 _ rfl).trans (congrArg some (ce_vc h1))
  | 11, hk =>
    cases hk
    exact (hP 11 _ rfl).trans (congrArg some (ce_vc h2))
  | k + 12, hk => exact absurd hk (by simp)
theorem b8_inC {f g : Nat → Int32} {p j : Nat} (h : ∀ i, i < j → f (p * 8 + i) = g i) : ∀ i, i < j + 1 → upd f (p * 8 + j) (g j) (p * 8 + i) = g i := by
  intro i hi
  unfold upd
  by_cases e : i = j
  · subst e
    rw [if_pos rfl]
  · rw [if_neg (by omega)]
    exact h i (by omega)
theorem held0 {f : Nat → Int32} {q : Nat} (h : q < 2) : upd (upd f 1 0) 0 0 q = 0 := by
  rcases (show q = 0 ∨ q = 1 by omega) with rfl | rfl <;> rfl
theorem nI_le0 {n : Nat} (hn : n < 2 ^ 31) (h : nI n ≤ 0) : n = 0 := by
  have := (nI_leI (b := 0) hn (by decide)).mp h
  omega
theorem mGo_t {m : MS} (h : 0 ≤ qTr m) : mGo m = false := by
  unfold mGo
  rw [decide_eq_false (Int32.not_lt.mpr h)]
  rfl
theorem mGo_s {m : MS} (h : ¬ bI (qStop m) = 0) : mGo m = false := by
  unfold mGo
  rw [bI1 h]
  simp
theorem mGo_y {m : MS} (h : ¬ 0 ≤ qTr m) (h2 : bI (qStop m) = 0) : mGo m = true := by
  unfold mGo
  rw [bI0 h2, decide_eq_true (Int32.not_le.mp h)]
  rfl
theorem mLoop_leave {th : Bool} {n : Nat} {m : MS} (h : 0 < qOpen m) (h2 : mGo m = false ∨ qAt m = qEnd m (qOpen m - 1)) : mLoop th (n + 1) m = mLoop th n (mLeave m (qOpen m - 1)) := if_pos ⟨h, h2⟩
theorem mLoop_stop {th : Bool} {n : Nat} {m : MS} (h : ¬ (0 < qOpen m ∧ (mGo m = false ∨ qAt m = qEnd m (qOpen m - 1)))) (h2 : mGo m = false ∨ qAt m = qSize m (qProg m)) : mLoop th (n + 1) m = m := (if_neg h).trans (if_pos h2)
theorem mLoop_step {th : Bool} {n : Nat} {m : MS} (h : ¬ (0 < qOpen m ∧ (mGo m = false ∨ qAt m = qEnd m (qOpen m - 1)))) (h2 : ¬ (mGo m = false ∨ qAt m = qSize m (qProg m))) : mLoop th (n + 1) m = mLoop th n (mStep th m) := (if_neg h).trans (if_neg h2)
theorem mCnt_nn {th : Bool} {m : MS} (h : qTr m < 0) (h2 : th = false) : zRuns m (qRuns m + 1) = mCnt th m := ((if_pos h).trans (if_neg (by rw [h2]; decide))).symm
theorem mCnt_nt {th : Bool} {m : MS} (h : qTr m < 0) (h2 : th = true) : zThr (zRuns m (qRuns m + 1)) (qThr m + 1) = mCnt th m := ((if_pos h).trans (if_pos h2)).symm
theorem mCnt_tn {th : Bool} {m : MS} (h : ¬ qTr m < 0) (h2 : th = false) : zTrd (zRuns m (qRuns m + 1)) (qTrd m + 1) = mCnt th m := ((if_neg h).trans (if_neg (by rw [h2]; decide))).symm
theorem mCnt_tt {th : Bool} {m : MS} (h : ¬ qTr m < 0) (h2 : th = true) : zTrd (zThr (zRuns m (qRuns m + 1)) (qThr m + 1)) (qTrd m + 1) = mCnt th m := ((if_neg h).trans (if_pos h2)).symm
theorem told8 {f : Nat → Int32} {p : Nat} {m : MS} {v0 v5 v6 v7 : Int32} (h0 : mOut m = v0) (h5 : (if qTr m < 0 then -1 else qOrg m) = v5) (h6 : (if qTr m = 10 then qNum m else -1) = v6) (h7 : bI (qMark m) = v7) : upd (upd (upd (upd (upd (upd (upd (upd f (p * 8) v0) (p * 8 + 1) (qAcc m)) (p * 8 + 2) (qSteps m)) (p * 8 + 3) (qFin m)) (p * 8 + 4) (qCat m)) (p * 8 + 5) v5) (p * 8 + 6) v6) (p * 8 + 7) v7 = blk8 f p (mTl m) := by
  subst h0 h5 h6 h7
  refine blk8_of (fun i h => ?_) (fun q h => ?_)
  · rcases (show i = 0 ∨ i = 1 ∨ i = 2 ∨ i = 3 ∨ i = 4 ∨ i = 5 ∨ i = 6 ∨ i = 7 by omega) with rfl | rfl | rfl | rfl | rfl | rfl | rfl | rfl <;> simp [upd, mTl]
  · simp only [upd]
    rw [if_neg (by omega), if_neg (by omega), if_neg (by omega), if_neg (by omega), if_neg (by omega), if_neg (by omega), if_neg (by omega), if_neg (by omega)]
theorem mTail_mk {th : Bool} {p : Nat} {m m0 g1 v2 : MS} {r : Int32} {T C : Nat → Int32} (hU : zTold v2 T = g1) (hv : m = mLoop th 100000 (mBegin m0 p)) (h2 : v2 = mCnt th m) (hr : mOut m = r) (hT : T = blk8 (qTold m) p (mTl m)) (hC : C = blk8 (qCls g1) p (qCell g1)) : (r, zRan (zCls g1 C) (va_up (qRan g1) p true)) = mPerf th p m0 := by
  have e : ∀ f, qCls (zTold (mCnt th m) f) = qCls m ∧ qCell (zTold (mCnt th m) f) = qCell m ∧ qRan (zTold (mCnt th m) f) = qRan m := by
    intro f
    unfold mCnt
    split <;> split <;> exact ⟨rfl, rfl, rfl⟩
  subst h2 hr hT hC hU
  obtain ⟨e1, e2, e3⟩ := e (blk8 (qTold m) p (mTl m))
  rw [e1, e2, e3]
  unfold mPerf
  rw [← hv]
  rfl
theorem mOk_lim {m : MS} (h : mOk m) : mLim m ≤ 14 := by
  obtain ⟨h1, h2, h3, h4, h5, h6⟩ := h
  unfold mLim
  split
  · exact h2
  · have := (h5 (qOpen m - 1) (by omega)).2.2.1
    omega
theorem mOk_limS {m : MS} (h : mOk m) : mLim m ≤ qSize m (qProg m) := by
  obtain ⟨h1, h2, h3, h4, h5, h6⟩ := h
  unfold mLim
  split
  · exact Nat.le_refl _
  · exact (h5 (qOpen m - 1) (by omega)).2.2.1
theorem mOk_in {m : MS} (h : mOk m) (ha : qAt m < mLim m) : mO m (qAt m) ≤ 21 ∧ mG m (qAt m) ≤ 255 := h.2.2.1 _ (Nat.lt_of_lt_of_le ha (mOk_limS h))
theorem mOk_atle {m : MS} (h : mOk m) (hg : mGo m = true) : qAt m ≤ 14 := Nat.le_trans (h.2.2.2.2.2 hg).2 (mOk_lim h)
theorem mOk_lt {m : MS} (h : mOk m) (hg : mGo m = true) (hn : ¬ (0 < qOpen m ∧ (mGo m = false ∨ qAt m = qEnd m (qOpen m - 1)))) (hs : ¬ qAt m = qSize m (qProg m)) : qAt m < mLim m := by
  have h6 := (h.2.2.2.2.2 hg).2
  by_cases h0 : qOpen m = 0
  · have e : mLim m = qSize m (qProg m) := if_pos h0
    omega
  · have e : mLim m = qEnd m (qOpen m - 1) := if_neg h0
    have : ¬ qAt m = qEnd m (qOpen m - 1) := fun q => hn ⟨by omega, Or.inr q⟩
    omega
theorem mOk_op {m : MS} (h : mOk m) (ho : 0 < qOpen m) : mO m (qBlk m (qOpen m - 1)) = 10 ∨ mO m (qBlk m (qOpen m - 1)) = 11 ∨ mO m (qBlk m (qOpen m - 1)) = 12 ∨ mO m (qBlk m (qOpen m - 1)) = 13 ∨ mO m (qBlk m (qOpen m - 1)) = 14 := by
  have := h.2.2.2.2.1 (qOpen m - 1) (by omega)
  omega
theorem mOk_arg {m : MS} (h : mOk m) (ho : 0 < qOpen m) : mG m (qBlk m (qOpen m - 1)) ≤ 255 := by
  have h5 := h.2.2.2.2.1 (qOpen m - 1) (by omega)
  exact (h.2.2.1 _ (by omega)).2
theorem qOp_mBegin (m : MS) (p : Nat) : qOp (mBegin m p) = qOp m := by
  unfold mBegin
  rw [qOp_zHeld, qOp_zCell, qOp_zMark, qOp_zStop, qOp_zNum, qOp_zOrg, qOp_zTr, qOp_zAt, qOp_zOpen, qOp_zAcc, qOp_zSteps, qOp_zFin, qOp_zCat, qOp_zProg]
theorem qArg_mBegin (m : MS) (p : Nat) : qArg (mBegin m p) = qArg m := by
  unfold mBegin
  rw [qArg_zHeld, qArg_zCell, qArg_zMark, qArg_zStop, qArg_zNum, qArg_zOrg, qArg_zTr, qArg_zAt, qArg_zOpen, qArg_zAcc, qArg_zSteps, qArg_zFin, qArg_zCat, qArg_zProg]
theorem qSize_mBegin (m : MS) (p : Nat) : qSize (mBegin m p) = qSize m := by
  unfold mBegin
  rw [qSize_zHeld, qSize_zCell, qSize_zMark, qSize_zStop, qSize_zNum, qSize_zOrg, qSize_zTr, qSize_zAt, qSize_zOpen, qSize_zAcc, qSize_zSteps, qSize_zFin, qSize_zCat, qSize_zProg]
theorem qTold_mBegin (m : MS) (p : Nat) : qTold (mBegin m p) = qTold m := by
  unfold mBegin
  rw [qTold_zHeld, qTold_zCell, qTold_zMark, qTold_zStop, qTold_zNum, qTold_zOrg, qTold_zTr, qTold_zAt, qTold_zOpen, qTold_zAcc, qTold_zSteps, qTold_zFin, qTold_zCat, qTold_zProg]
theorem qCls_mBegin (m : MS) (p : Nat) : qCls (mBegin m p) = qCls m := by
  unfold mBegin
  rw [qCls_zHeld, qCls_zCell, qCls_zMark, qCls_zStop, qCls_zNum, qCls_zOrg, qCls_zTr, qCls_zAt, qCls_zOpen, qCls_zAcc, qCls_zSteps, qCls_zFin, qCls_zCat, qCls_zProg]
theorem qRan_mBegin (m : MS) (p : Nat) : qRan (mBegin m p) = qRan m := by
  unfold mBegin
  rw [qRan_zHeld, qRan_zCell, qRan_zMark, qRan_zStop, qRan_zNum, qRan_zOrg, qRan_zTr, qRan_zAt, qRan_zOpen, qRan_zAcc, qRan_zSteps, qRan_zFin, qRan_zCat, qRan_zProg]
theorem qCtr_mBegin (m : MS) (p : Nat) : qCtr (mBegin m p) = qCtr m := by
  unfold mBegin
  rw [qCtr_zHeld, qCtr_zCell, qCtr_zMark, qCtr_zStop, qCtr_zNum, qCtr_zOrg, qCtr_zTr, qCtr_zAt, qCtr_zOpen, qCtr_zAcc, qCtr_zSteps, qCtr_zFin, qCtr_zCat, qCtr_zProg]
theorem qRuns_mBegin (m : MS) (p : Nat) : qRuns (mBegin m p) = qRuns m := by
  unfold mBegin
  rw [qRuns_zHeld, qRuns_zCell, qRuns_zMark, qRuns_zStop, qRuns_zNum, qRuns_zOrg, qRuns_zTr, qRuns_zAt, qRuns_zOpen, qRuns_zAcc, qRuns_zSteps, qRuns_zFin, qRuns_zCat, qRuns_zProg]
theorem qThr_mBegin (m : MS) (p : Nat) : qThr (mBegin m p) = qThr m := by
  unfold mBegin
  rw [qThr_zHeld, qThr_zCell, qThr_zMark, qThr_zStop, qThr_zNum, qThr_zOrg, qThr_zTr, qThr_zAt, qThr_zOpen, qThr_zAcc, qThr_zSteps, qThr_zFin, qThr_zCat, qThr_zProg]
theorem qTrd_mBegin (m : MS) (p : Nat) : qTrd (mBegin m p) = qTrd m := by
  unfold mBegin
  rw [qTrd_zHeld, qTrd_zCell, qTrd_zMark, qTrd_zStop, qTrd_zNum, qTrd_zOrg, qTrd_zTr, qTrd_zAt, qTrd_zOpen, qTrd_zAcc, qTrd_zSteps, qTrd_zFin, qTrd_zCat, qTrd_zProg]
theorem qBlk_mBegin (m : MS) (p : Nat) : qBlk (mBegin m p) = qBlk m := by
  unfold mBegin
  rw [qBlk_zHeld, qBlk_zCell, qBlk_zMark, qBlk_zStop, qBlk_zNum, qBlk_zOrg, qBlk_zTr, qBlk_zAt, qBlk_zOpen, qBlk_zAcc, qBlk_zSteps, qBlk_zFin, qBlk_zCat, qBlk_zProg]
theorem qEnd_mBegin (m : MS) (p : Nat) : qEnd (mBegin m p) = qEnd m := by
  unfold mBegin
  rw [qEnd_zHeld, qEnd_zCell, qEnd_zMark, qEnd_zStop, qEnd_zNum, qEnd_zOrg, qEnd_zTr, qEnd_zAt, qEnd_zOpen, qEnd_zAcc, qEnd_zSteps, qEnd_zFin, qEnd_zCat, qEnd_zProg]
theorem qLeft_mBegin (m : MS) (p : Nat) : qLeft (mBegin m p) = qLeft m := by
  unfold mBegin
  rw [qLeft_zHeld, qLeft_zCell, qLeft_zMark, qLeft_zStop, qLeft_zNum, qLeft_zOrg, qLeft_zTr, qLeft_zAt, qLeft_zOpen, qLeft_zAcc, qLeft_zSteps, qLeft_zFin, qLeft_zCat, qLeft_zProg]
theorem qOpen_mBegin (m : MS) (p : Nat) : qOpen (mBegin m p) = 0 := by
  unfold mBegin
  rw [qOpen_zHeld, qOpen_zCell, qOpen_zMark, qOpen_zStop, qOpen_zNum, qOpen_zOrg, qOpen_zTr, qOpen_zAt, qOpen_zOpen]
theorem qCell_mBegin (m : MS) (p : Nat) : qCell (mBegin m p) = (fun _ => 0) := by
  unfold mBegin
  rw [qCell_zHeld, qCell_zCell]
theorem qHeld_mBegin (m : MS) (p : Nat) : qHeld (mBegin m p) = (fun _ => 0) := by
  unfold mBegin
  rw [qHeld_zHeld]
theorem qProg_mBegin (m : MS) (p : Nat) : qProg (mBegin m p) = p := by
  unfold mBegin
  rw [qProg_zHeld, qProg_zCell, qProg_zMark, qProg_zStop, qProg_zNum, qProg_zOrg, qProg_zTr, qProg_zAt, qProg_zOpen, qProg_zAcc, qProg_zSteps, qProg_zFin, qProg_zCat, qProg_zProg]
theorem qAt_mBegin (m : MS) (p : Nat) : qAt (mBegin m p) = 0 := by
  unfold mBegin
  rw [qAt_zHeld, qAt_zCell, qAt_zMark, qAt_zStop, qAt_zNum, qAt_zOrg, qAt_zTr, qAt_zAt]
theorem qAcc_mBegin (m : MS) (p : Nat) : qAcc (mBegin m p) = 0 := by
  unfold mBegin
  rw [qAcc_zHeld, qAcc_zCell, qAcc_zMark, qAcc_zStop, qAcc_zNum, qAcc_zOrg, qAcc_zTr, qAcc_zAt, qAcc_zOpen, qAcc_zAcc]
theorem qSteps_mBegin (m : MS) (p : Nat) : qSteps (mBegin m p) = 0 := by
  unfold mBegin
  rw [qSteps_zHeld, qSteps_zCell, qSteps_zMark, qSteps_zStop, qSteps_zNum, qSteps_zOrg, qSteps_zTr, qSteps_zAt, qSteps_zOpen, qSteps_zAcc, qSteps_zSteps]
theorem qFin_mBegin (m : MS) (p : Nat) : qFin (mBegin m p) = 0 := by
  unfold mBegin
  rw [qFin_zHeld, qFin_zCell, qFin_zMark, qFin_zStop, qFin_zNum, qFin_zOrg, qFin_zTr, qFin_zAt, qFin_zOpen, qFin_zAcc, qFin_zSteps, qFin_zFin]
theorem qCat_mBegin (m : MS) (p : Nat) : qCat (mBegin m p) = 0 := by
  unfold mBegin
  rw [qCat_zHeld, qCat_zCell, qCat_zMark, qCat_zStop, qCat_zNum, qCat_zOrg, qCat_zTr, qCat_zAt, qCat_zOpen, qCat_zAcc, qCat_zSteps, qCat_zFin, qCat_zCat]
theorem qTr_mBegin (m : MS) (p : Nat) : qTr (mBegin m p) = (-1) := by
  unfold mBegin
  rw [qTr_zHeld, qTr_zCell, qTr_zMark, qTr_zStop, qTr_zNum, qTr_zOrg, qTr_zTr]
theorem qNum_mBegin (m : MS) (p : Nat) : qNum (mBegin m p) = (-1) := by
  unfold mBegin
  rw [qNum_zHeld, qNum_zCell, qNum_zMark, qNum_zStop, qNum_zNum]
theorem qOrg_mBegin (m : MS) (p : Nat) : qOrg (mBegin m p) = (-1) := by
  unfold mBegin
  rw [qOrg_zHeld, qOrg_zCell, qOrg_zMark, qOrg_zStop, qOrg_zNum, qOrg_zOrg]
theorem qMark_mBegin (m : MS) (p : Nat) : qMark (mBegin m p) = false := by
  unfold mBegin
  rw [qMark_zHeld, qMark_zCell, qMark_zMark]
theorem qStop_mBegin (m : MS) (p : Nat) : qStop (mBegin m p) = false := by
  unfold mBegin
  rw [qStop_zHeld, qStop_zCell, qStop_zMark, qStop_zStop]
theorem mOk_begin {m : MS} {p : Nat} (hp6 : p < 6) (hs : qSize m p ≤ 14) (hr : ∀ i, i < qSize m p → qOp m (p * 14 + i) ≤ 21 ∧ qArg m (p * 14 + i) ≤ 255) : mOk (mBegin m p) := by
  unfold mOk mO mG mLim
  rw [qProg_mBegin, qSize_mBegin, qOpen_mBegin, qOp_mBegin, qArg_mBegin, qAt_mBegin]
  exact ⟨hp6, hs, hr, by decide, fun j h => absurd h (Nat.not_lt_zero j), fun _ => ⟨Nat.le_refl _, by rw [if_pos rfl]; exact Nat.zero_le _⟩⟩
theorem mLeave_prog (m : MS) (d : Nat) : qProg (mLeave m d) = qProg m := by sorry
theorem mStep_prog (th : Bool) (m : MS) : qProg (mStep th m) = qProg m := by sorry
theorem mOk_leave {m : MS} (h : mOk m) (ho : 0 < qOpen m) (hw : mGo m = false ∨ qAt m = qEnd m (qOpen m - 1)) : mOk (mLeave m (qOpen m - 1)) := by sorry
theorem mOk_step {m : MS} (th : Bool) (h : mOk m) (hg : mGo m = true) (ha : qAt m < mLim m) : mOk (mStep th m) := by sorry
end
