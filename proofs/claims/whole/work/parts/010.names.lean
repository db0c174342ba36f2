-- ===== PART A: goes FIRST, ahead of the names: the tables' words, and 'selects' of the private methods out of them =====
/-- a private method of a class that the tables say can be made, by its rows of tables_1 -/
def lw_okq (q : MethodName × Nat) : Prop := (q.1.cls ≠ "java/lang/invoke/MethodHandle" ∧ q.1.cls ≠ "java/lang/invoke/VarHandle") ∧ Cond.instantiable q.1.cls q.2 ∈ tables_1 ∧ Cond.privateMethod q.1 ∈ tables_1 ∧ Cond.instanceMethod q.1 ∈ tables_1
theorem lw_p0 : lw_okq (⟨"CaseExecutor", "perform", "(IZ)I"⟩, 6) := ⟨⟨by decide +kernel, by decide +kernel⟩, List.mem_of_getElem? (i := 7) (by decide +kernel), List.mem_of_getElem? (i := 132) (by decide +kernel), List.mem_of_getElem? (i := 133) (by decide +kernel)⟩
theorem lw_p1 : lw_okq (⟨"CaseExecutor$Run", "begin", "(I)V"⟩, 14) := ⟨⟨by decide +kernel, by decide +kernel⟩, List.mem_of_getElem? (i := 34) (by decide +kernel), List.mem_of_getElem? (i := 140) (by decide +kernel), List.mem_of_getElem? (i := 141) (by decide +kernel)⟩
theorem lw_p2 : lw_okq (⟨"CaseExecutor$Run", "forgetTrouble", "()V"⟩, 14) := ⟨⟨by decide +kernel, by decide +kernel⟩, List.mem_of_getElem? (i := 34) (by decide +kernel), List.mem_of_getElem? (i := 144) (by decide +kernel), List.mem_of_getElem? (i := 145) (by decide +kernel)⟩
theorem lw_p3 : lw_okq (⟨"CaseExecutor$Run", "doActions", "(III)I"⟩, 14) := ⟨⟨by decide +kernel, by decide +kernel⟩, List.mem_of_getElem? (i := 34) (by decide +kernel), List.mem_of_getElem? (i := 152) (by decide +kernel), List.mem_of_getElem? (i := 153) (by decide +kernel)⟩
theorem lw_p4 : lw_okq (⟨"CaseExecutor$Run", "doAction", "(III)I"⟩, 14) := ⟨⟨by decide +kernel, by decide +kernel⟩, List.mem_of_getElem? (i := 34) (by decide +kernel), List.mem_of_getElem? (i := 167) (by decide +kernel), List.mem_of_getElem? (i := 168) (by decide +kernel)⟩
theorem lw_p5 : lw_okq (⟨"CaseExecutor$Run", "become", "(I)I"⟩, 14) := ⟨⟨by decide +kernel, by decide +kernel⟩, List.mem_of_getElem? (i := 34) (by decide +kernel), List.mem_of_getElem? (i := 179) (by decide +kernel), List.mem_of_getElem? (i := 180) (by decide +kernel)⟩
theorem lw_p6 : lw_okq (⟨"CaseExecutor$Run", "comesUp", "(II)I"⟩, 14) := ⟨⟨by decide +kernel, by decide +kernel⟩, List.mem_of_getElem? (i := 34) (by decide +kernel), List.mem_of_getElem? (i := 183) (by decide +kernel), List.mem_of_getElem? (i := 184) (by decide +kernel)⟩
theorem lw_p7 : lw_okq (⟨"CaseExecutor$Run", "doKeep", "(I)I"⟩, 14) := ⟨⟨by decide +kernel, by decide +kernel⟩, List.mem_of_getElem? (i := 34) (by decide +kernel), List.mem_of_getElem? (i := 191) (by decide +kernel), List.mem_of_getElem? (i := 192) (by decide +kernel)⟩
theorem lw_p8 : lw_okq (⟨"CaseExecutor$Run", "doBreak", "(I)I"⟩, 14) := ⟨⟨by decide +kernel, by decide +kernel⟩, List.mem_of_getElem? (i := 34) (by decide +kernel), List.mem_of_getElem? (i := 195) (by decide +kernel), List.mem_of_getElem? (i := 196) (by decide +kernel)⟩
theorem lw_p9 : lw_okq (⟨"CaseExecutor$Run", "doThrow", "(I)I"⟩, 14) := ⟨⟨by decide +kernel, by decide +kernel⟩, List.mem_of_getElem? (i := 34) (by decide +kernel), List.mem_of_getElem? (i := 204) (by decide +kernel), List.mem_of_getElem? (i := 205) (by decide +kernel)⟩
theorem lw_p10 : lw_okq (⟨"CaseExecutor$Run", "ownComesUp", "(II)I"⟩, 14) := ⟨⟨by decide +kernel, by decide +kernel⟩, List.mem_of_getElem? (i := 34) (by decide +kernel), List.mem_of_getElem? (i := 208) (by decide +kernel), List.mem_of_getElem? (i := 209) (by decide +kernel)⟩
theorem lw_p11 : lw_okq (⟨"CaseExecutor$Run", "doInterrupt", "()I"⟩, 14) := ⟨⟨by decide +kernel, by decide +kernel⟩, List.mem_of_getElem? (i := 34) (by decide +kernel), List.mem_of_getElem? (i := 212) (by decide +kernel), List.mem_of_getElem? (i := 213) (by decide +kernel)⟩
theorem lw_p12 : lw_okq (⟨"CaseExecutor$Run", "doLook", "()I"⟩, 14) := ⟨⟨by decide +kernel, by decide +kernel⟩, List.mem_of_getElem? (i := 34) (by decide +kernel), List.mem_of_getElem? (i := 216) (by decide +kernel), List.mem_of_getElem? (i := 217) (by decide +kernel)⟩
theorem lw_p13 : lw_okq (⟨"CaseExecutor$Run", "doCatch", "(III)I"⟩, 14) := ⟨⟨by decide +kernel, by decide +kernel⟩, List.mem_of_getElem? (i := 34) (by decide +kernel), List.mem_of_getElem? (i := 220) (by decide +kernel), List.mem_of_getElem? (i := 221) (by decide +kernel)⟩
theorem lw_p14 : lw_okq (⟨"CaseExecutor$Run", "doFinally", "(III)I"⟩, 14) := ⟨⟨by decide +kernel, by decide +kernel⟩, List.mem_of_getElem? (i := 34) (by decide +kernel), List.mem_of_getElem? (i := 227) (by decide +kernel), List.mem_of_getElem? (i := 228) (by decide +kernel)⟩
theorem lw_p15 : lw_okq (⟨"CaseExecutor$Run", "doDrop", "(III)I"⟩, 14) := ⟨⟨by decide +kernel, by decide +kernel⟩, List.mem_of_getElem? (i := 34) (by decide +kernel), List.mem_of_getElem? (i := 231) (by decide +kernel), List.mem_of_getElem? (i := 232) (by decide +kernel)⟩
def lw_privs_1 : List (MethodName × Nat) := [(⟨"CaseExecutor", "perform", "(IZ)I"⟩, 6), (⟨"CaseExecutor$Run", "begin", "(I)V"⟩, 14), (⟨"CaseExecutor$Run", "forgetTrouble", "()V"⟩, 14), (⟨"CaseExecutor$Run", "doActions", "(III)I"⟩, 14), (⟨"CaseExecutor$Run", "doAction", "(III)I"⟩, 14), (⟨"CaseExecutor$Run", "become", "(I)I"⟩, 14), (⟨"CaseExecutor$Run", "comesUp", "(II)I"⟩, 14), (⟨"CaseExecutor$Run", "doKeep", "(I)I"⟩, 14), (⟨"CaseExecutor$Run", "doBreak", "(I)I"⟩, 14), (⟨"CaseExecutor$Run", "doThrow", "(I)I"⟩, 14), (⟨"CaseExecutor$Run", "ownComesUp", "(II)I"⟩, 14), (⟨"CaseExecutor$Run", "doInterrupt", "()I"⟩, 14), (⟨"CaseExecutor$Run", "doLook", "()I"⟩, 14), (⟨"CaseExecutor$Run", "doCatch", "(III)I"⟩, 14), (⟨"CaseExecutor$Run", "doFinally", "(III)I"⟩, 14), (⟨"CaseExecutor$Run", "doDrop", "(III)I"⟩, 14)]
theorem lw_r1 : ∀ q ∈ lw_privs_1, lw_okq q := List.forall_mem_cons.mpr ⟨lw_p0, List.forall_mem_cons.mpr ⟨lw_p1, List.forall_mem_cons.mpr ⟨lw_p2, List.forall_mem_cons.mpr ⟨lw_p3, List.forall_mem_cons.mpr ⟨lw_p4, List.forall_mem_cons.mpr ⟨lw_p5, List.forall_mem_cons.mpr ⟨lw_p6, List.forall_mem_cons.mpr ⟨lw_p7, List.forall_mem_cons.mpr ⟨lw_p8, List.forall_mem_cons.mpr ⟨lw_p9, List.forall_mem_cons.mpr ⟨lw_p10, List.forall_mem_cons.mpr ⟨lw_p11, List.forall_mem_cons.mpr ⟨lw_p12, List.forall_mem_cons.mpr ⟨lw_p13, List.forall_mem_cons.mpr ⟨lw_p14, List.forall_mem_cons.mpr ⟨lw_p15, fun _ h => absurd h List.not_mem_nil⟩⟩⟩⟩⟩⟩⟩⟩⟩⟩⟩⟩⟩⟩⟩⟩
theorem lw_p16 : lw_okq (⟨"CaseExecutor$Run", "doHold", "(III)I"⟩, 14) := ⟨⟨by decide +kernel, by decide +kernel⟩, List.mem_of_getElem? (i := 34) (by decide +kernel), List.mem_of_getElem? (i := 235) (by decide +kernel), List.mem_of_getElem? (i := 236) (by decide +kernel)⟩
theorem lw_p17 : lw_okq (⟨"CaseExecutor$Run", "doRepeat", "(III)I"⟩, 14) := ⟨⟨by decide +kernel, by decide +kernel⟩, List.mem_of_getElem? (i := 34) (by decide +kernel), List.mem_of_getElem? (i := 239) (by decide +kernel), List.mem_of_getElem? (i := 240) (by decide +kernel)⟩
theorem lw_p18 : lw_okq (⟨"CaseExecutor$Run", "isHeld", "(I)Z"⟩, 14) := ⟨⟨by decide +kernel, by decide +kernel⟩, List.mem_of_getElem? (i := 34) (by decide +kernel), List.mem_of_getElem? (i := 243) (by decide +kernel), List.mem_of_getElem? (i := 244) (by decide +kernel)⟩
theorem lw_p19 : lw_okq (⟨"CaseExecutor$Run", "doSleep", "(I)I"⟩, 14) := ⟨⟨by decide +kernel, by decide +kernel⟩, List.mem_of_getElem? (i := 34) (by decide +kernel), List.mem_of_getElem? (i := 247) (by decide +kernel), List.mem_of_getElem? (i := 248) (by decide +kernel)⟩
theorem lw_p20 : lw_okq (⟨"CaseExecutor$Run", "doCount", "(I)I"⟩, 14) := ⟨⟨by decide +kernel, by decide +kernel⟩, List.mem_of_getElem? (i := 34) (by decide +kernel), List.mem_of_getElem? (i := 251) (by decide +kernel), List.mem_of_getElem? (i := 252) (by decide +kernel)⟩
theorem lw_p21 : lw_okq (⟨"CaseExecutorModel", "forget", "(I)V"⟩, 27) := ⟨⟨by decide +kernel, by decide +kernel⟩, List.mem_of_getElem? (i := 298) (by decide +kernel), List.mem_of_getElem? (i := 394) (by decide +kernel), List.mem_of_getElem? (i := 395) (by decide +kernel)⟩
theorem lw_p22 : lw_okq (⟨"CaseExecutorModel", "perform", "(IZ)I"⟩, 27) := ⟨⟨by decide +kernel, by decide +kernel⟩, List.mem_of_getElem? (i := 298) (by decide +kernel), List.mem_of_getElem? (i := 406) (by decide +kernel), List.mem_of_getElem? (i := 407) (by decide +kernel)⟩
theorem lw_p23 : lw_okq (⟨"CaseExecutorModel", "leave", "()V"⟩, 27) := ⟨⟨by decide +kernel, by decide +kernel⟩, List.mem_of_getElem? (i := 298) (by decide +kernel), List.mem_of_getElem? (i := 411) (by decide +kernel), List.mem_of_getElem? (i := 412) (by decide +kernel)⟩
theorem lw_p24 : lw_okq (⟨"CaseExecutorModel", "kOf", "(I)I"⟩, 27) := ⟨⟨by decide +kernel, by decide +kernel⟩, List.mem_of_getElem? (i := 298) (by decide +kernel), List.mem_of_getElem? (i := 415) (by decide +kernel), List.mem_of_getElem? (i := 416) (by decide +kernel)⟩
theorem lw_p25 : lw_okq (⟨"CaseExecutorModel", "raise", "(II)V"⟩, 27) := ⟨⟨by decide +kernel, by decide +kernel⟩, List.mem_of_getElem? (i := 298) (by decide +kernel), List.mem_of_getElem? (i := 422) (by decide +kernel), List.mem_of_getElem? (i := 423) (by decide +kernel)⟩
theorem lw_p26 : lw_okq (⟨"CaseExecutorModel", "step", "(Z)V"⟩, 27) := ⟨⟨by decide +kernel, by decide +kernel⟩, List.mem_of_getElem? (i := 298) (by decide +kernel), List.mem_of_getElem? (i := 426) (by decide +kernel), List.mem_of_getElem? (i := 427) (by decide +kernel)⟩
theorem lw_p27 : lw_okq (⟨"CaseExecutorModel", "enter", "(II)V"⟩, 27) := ⟨⟨by decide +kernel, by decide +kernel⟩, List.mem_of_getElem? (i := 298) (by decide +kernel), List.mem_of_getElem? (i := 430) (by decide +kernel), List.mem_of_getElem? (i := 431) (by decide +kernel)⟩
theorem lw_p28 : lw_okq (⟨"CaseExecutorModel", "act", "(IIII)V"⟩, 27) := ⟨⟨by decide +kernel, by decide +kernel⟩, List.mem_of_getElem? (i := 298) (by decide +kernel), List.mem_of_getElem? (i := 434) (by decide +kernel), List.mem_of_getElem? (i := 435) (by decide +kernel)⟩
theorem lw_p29 : lw_okq (⟨"CaseExecutorModel", "divide", "(IZ)V"⟩, 27) := ⟨⟨by decide +kernel, by decide +kernel⟩, List.mem_of_getElem? (i := 298) (by decide +kernel), List.mem_of_getElem? (i := 438) (by decide +kernel), List.mem_of_getElem? (i := 439) (by decide +kernel)⟩
theorem lw_p30 : lw_okq (⟨"CaseExecutorModel", "touch", "(IZ)V"⟩, 27) := ⟨⟨by decide +kernel, by decide +kernel⟩, List.mem_of_getElem? (i := 298) (by decide +kernel), List.mem_of_getElem? (i := 442) (by decide +kernel), List.mem_of_getElem? (i := 443) (by decide +kernel)⟩
theorem lw_p31 : lw_okq (⟨"CaseExecutorModel", "interrupted", "()V"⟩, 27) := ⟨⟨by decide +kernel, by decide +kernel⟩, List.mem_of_getElem? (i := 298) (by decide +kernel), List.mem_of_getElem? (i := 446) (by decide +kernel), List.mem_of_getElem? (i := 447) (by decide +kernel)⟩
def lw_privs_2 : List (MethodName × Nat) := [(⟨"CaseExecutor$Run", "doHold", "(III)I"⟩, 14), (⟨"CaseExecutor$Run", "doRepeat", "(III)I"⟩, 14), (⟨"CaseExecutor$Run", "isHeld", "(I)Z"⟩, 14), (⟨"CaseExecutor$Run", "doSleep", "(I)I"⟩, 14), (⟨"CaseExecutor$Run", "doCount", "(I)I"⟩, 14), (⟨"CaseExecutorModel", "forget", "(I)V"⟩, 27), (⟨"CaseExecutorModel", "perform", "(IZ)I"⟩, 27), (⟨"CaseExecutorModel", "leave", "()V"⟩, 27), (⟨"CaseExecutorModel", "kOf", "(I)I"⟩, 27), (⟨"CaseExecutorModel", "raise", "(II)V"⟩, 27), (⟨"CaseExecutorModel", "step", "(Z)V"⟩, 27), (⟨"CaseExecutorModel", "enter", "(II)V"⟩, 27), (⟨"CaseExecutorModel", "act", "(IIII)V"⟩, 27), (⟨"CaseExecutorModel", "divide", "(IZ)V"⟩, 27), (⟨"CaseExecutorModel", "touch", "(IZ)V"⟩, 27), (⟨"CaseExecutorModel", "interrupted", "()V"⟩, 27)]
theorem lw_r2 : ∀ q ∈ lw_privs_2, lw_okq q := List.forall_mem_cons.mpr ⟨lw_p16, List.forall_mem_cons.mpr ⟨lw_p17, List.forall_mem_cons.mpr ⟨lw_p18, List.forall_mem_cons.mpr ⟨lw_p19, List.forall_mem_cons.mpr ⟨lw_p20, List.forall_mem_cons.mpr ⟨lw_p21, List.forall_mem_cons.mpr ⟨lw_p22, List.forall_mem_cons.mpr ⟨lw_p23, List.forall_mem_cons.mpr ⟨lw_p24, List.forall_mem_cons.mpr ⟨lw_p25, List.forall_mem_cons.mpr ⟨lw_p26, List.forall_mem_cons.mpr ⟨lw_p27, List.forall_mem_cons.mpr ⟨lw_p28, List.forall_mem_cons.mpr ⟨lw_p29, List.forall_mem_cons.mpr ⟨lw_p30, List.forall_mem_cons.mpr ⟨lw_p31, fun _ h => absurd h List.not_mem_nil⟩⟩⟩⟩⟩⟩⟩⟩⟩⟩⟩⟩⟩⟩⟩⟩
def lw_privs : List (MethodName × Nat) := lw_privs_1 ++ (lw_privs_2)
def lw_tbl : List Cond := k2_sels lw_privs ++ tables_1
theorem lw_privs_ok : ∀ q ∈ lw_privs, lw_okq q := by
  show ∀ q ∈ lw_privs_1 ++ (lw_privs_2), lw_okq q
  exact List.forall_mem_append.mpr ⟨lw_r1, lw_r2⟩
-- NAMES, by wip/gen/names.py out of the printed listing and tables: R class, T fields, ty types, c code, y method, d decode rows
def REx : String := "CaseExecutor"
def TEx : u_T := fun k => match k with
  | 0 => ("CaseExecutor", "programs", "[LCaseExecutor$Program;", true)
  | 1 => ("CaseExecutor", "latest", "[LCaseExecutor$Run;", true)
  | 2 => ("CaseExecutor", "theCounter", "J", false)
  | 3 => ("CaseExecutor", "runs", "I", false)
  | 4 => ("CaseExecutor", "threadRuns", "I", false)
  | _ => ("CaseExecutor", "troubledRuns", "I", false)
def tyEx : Nat → FieldType := fun k => match k with
  | 0 => .array (.object "CaseExecutor$Program")
  | 1 => .array (.object "CaseExecutor$Run")
  | 2 => .long
  | 3 => .int
  | 4 => .int
  | _ => .int
theorem nmEx : ∀ a, a < 6 → ∀ b, b < 6 → a ≠ b → (TEx a).2.1 ≠ (TEx b).2.1 := by decide +kernel
theorem tyEx_ok : ∀ k, k < 6 → parseFieldDescriptor (TEx k).2.2.1 = some (tyEx k) := by decide +kernel
def RPg : String := "CaseExecutor$Program"
def TPg : u_T := fun k => match k with
  | 0 => ("CaseExecutor$Program", "ops", "[I", true)
  | 1 => ("CaseExecutor$Program", "arguments", "[I", true)
  | _ => ("CaseExecutor$Program", "size", "I", false)
def tyPg : Nat → FieldType := fun k => match k with
  | 0 => .array .int
  | 1 => .array .int
  | _ => .int
theorem nmPg : ∀ a, a < 3 → ∀ b, b < 3 → a ≠ b → (TPg a).2.1 ≠ (TPg b).2.1 := by decide +kernel
theorem tyPg_ok : ∀ k, k < 3 → parseFieldDescriptor (TPg k).2.2.1 = some (tyPg k) := by decide +kernel
def RRn : String := "CaseExecutor$Run"
def TRn : u_T := fun k => match k with
  | 0 => ("CaseExecutor$Run", "program", "LCaseExecutor$Program;", true)
  | 1 => ("CaseExecutor$Run", "cells", "[I", true)
  | 2 => ("CaseExecutor$Run", "holds", "[I", true)
  | 3 => ("CaseExecutor$Run", "known", "Z", false)
  | 4 => ("CaseExecutor$Run", "name", "I", false)
  | 5 => ("CaseExecutor$Run", "accumulator", "I", false)
  | 6 => ("CaseExecutor$Run", "steps", "I", false)
  | 7 => ("CaseExecutor$Run", "finals", "I", false)
  | 8 => ("CaseExecutor$Run", "catches", "I", false)
  | 9 => ("CaseExecutor$Run", "marked", "Z", false)
  | 10 => ("CaseExecutor$Run", "counted", "J", false)
  | 11 => ("CaseExecutor$Run", "trouble", "I", false)
  | 12 => ("CaseExecutor$Run", "troubleAction", "I", false)
  | _ => ("CaseExecutor$Run", "ownNumber", "I", false)
def tyRn : Nat → FieldType := fun k => match k with
  | 0 => .object "CaseExecutor$Program"
  | 1 => .array .int
  | 2 => .array .int
  | 3 => .boolean
  | 4 => .int
  | 5 => .int
  | 6 => .int
  | 7 => .int
  | 8 => .int
  | 9 => .boolean
  | 10 => .long
  | 11 => .int
  | 12 => .int
  | _ => .int
theorem nmRn : ∀ a, a < 14 → ∀ b, b < 14 → a ≠ b → (TRn a).2.1 ≠ (TRn b).2.1 := by decide +kernel
theorem tyRn_ok : ∀ k, k < 14 → parseFieldDescriptor (TRn k).2.2.1 = some (tyRn k) := by decide +kernel
def RMd : String := "CaseExecutorModel"
def TMd : u_T := fun k => match k with
  | 0 => ("CaseExecutorModel", "op", "[I", true)
  | 1 => ("CaseExecutorModel", "argument", "[I", true)
  | 2 => ("CaseExecutorModel", "size", "[I", true)
  | 3 => ("CaseExecutorModel", "told", "[I", true)
  | 4 => ("CaseExecutorModel", "cells", "[I", true)
  | 5 => ("CaseExecutorModel", "ran", "[Z", true)
  | 6 => ("CaseExecutorModel", "counter", "J", false)
  | 7 => ("CaseExecutorModel", "runs", "I", false)
  | 8 => ("CaseExecutorModel", "threads", "I", false)
  | 9 => ("CaseExecutorModel", "troubled", "I", false)
  | 10 => ("CaseExecutorModel", "block", "[I", true)
  | 11 => ("CaseExecutorModel", "end", "[I", true)
  | 12 => ("CaseExecutorModel", "left", "[I", true)
  | 13 => ("CaseExecutorModel", "open", "I", false)
  | 14 => ("CaseExecutorModel", "cell", "[I", true)
  | 15 => ("CaseExecutorModel", "held", "[I", true)
  | 16 => ("CaseExecutorModel", "program", "I", false)
  | 17 => ("CaseExecutorModel", "at", "I", false)
  | 18 => ("CaseExecutorModel", "accumulator", "I", false)
  | 19 => ("CaseExecutorModel", "steps", "I", false)
  | 20 => ("CaseExecutorModel", "finals", "I", false)
  | 21 => ("CaseExecutorModel", "catches", "I", false)
  | 22 => ("CaseExecutorModel", "trouble", "I", false)
  | 23 => ("CaseExecutorModel", "number", "I", false)
  | 24 => ("CaseExecutorModel", "origin", "I", false)
  | 25 => ("CaseExecutorModel", "mark", "Z", false)
  | _ => ("CaseExecutorModel", "stopping", "Z", false)
def tyMd : Nat → FieldType := fun k => match k with
  | 0 => .array .int
  | 1 => .array .int
  | 2 => .array .int
  | 3 => .array .int
  | 4 => .array .int
  | 5 => .array .boolean
  | 6 => .long
  | 7 => .int
  | 8 => .int
  | 9 => .int
  | 10 => .array .int
  | 11 => .array .int
  | 12 => .array .int
  | 13 => .int
  | 14 => .array .int
  | 15 => .array .int
  | 16 => .int
  | 17 => .int
  | 18 => .int
  | 19 => .int
  | 20 => .int
  | 21 => .int
  | 22 => .int
  | 23 => .int
  | 24 => .int
  | 25 => .boolean
  | _ => .boolean
theorem nmMd : ∀ a, a < 27 → ∀ b, b < 27 → a ≠ b → (TMd a).2.1 ≠ (TMd b).2.1 := by decide +kernel
theorem tyMd_ok : ∀ k, k < 27 → parseFieldDescriptor (TMd k).2.2.1 = some (tyMd k) := by decide +kernel
def RLw : String := "CaseExecutorLaw"
abbrev vwCl : List vw_C := [(RPg, TPg, 3), (RRn, TRn, 14), (REx, TEx, 6), (RMd, TMd, 27)]
abbrev cEx_init : ByteArray := prog_1_method_1_code
def yEx_init : MethodName := ⟨REx, "<init>", "()V"⟩
abbrev cPg_init : ByteArray := prog_2_method_1_code
def yPg_init : MethodName := ⟨RPg, "<init>", "()V"⟩
abbrev cRn_init : ByteArray := prog_3_method_1_code
def yRn_init : MethodName := ⟨RRn, "<init>", "(LCaseExecutor$Program;)V"⟩
abbrev cEx_add : ByteArray := prog_1_method_2_code
def yEx_add : MethodName := ⟨REx, "add", "(III)I"⟩
abbrev cEx_isProgram : ByteArray := prog_1_method_11_code
def yEx_isProgram : MethodName := ⟨REx, "isProgram", "(I)Z"⟩
abbrev cEx_isWithin : ByteArray := prog_1_method_12_code
def yEx_isWithin : MethodName := ⟨REx, "isWithin", "(II)Z"⟩
abbrev cPg_append : ByteArray := prog_2_method_3_code
def yPg_append : MethodName := ⟨RPg, "append", "(II)I"⟩
abbrev cRn_forget : ByteArray := prog_3_method_4_code
def yRn_forget : MethodName := ⟨RRn, "forget", "()V"⟩
abbrev cEx_clear : ByteArray := prog_1_method_3_code
def yEx_clear : MethodName := ⟨REx, "clear", "(I)I"⟩
abbrev cPg_empty : ByteArray := prog_2_method_4_code
def yPg_empty : MethodName := ⟨RPg, "empty", "()V"⟩
abbrev cEx_run : ByteArray := prog_1_method_4_code
def yEx_run : MethodName := ⟨REx, "run", "(IZ)I"⟩
abbrev cEx_perform : ByteArray := prog_1_method_10_code
def yEx_perform : MethodName := ⟨REx, "perform", "(IZ)I"⟩
abbrev cRn_perform : ByteArray := prog_3_method_9_code
def yRn_perform : MethodName := ⟨RRn, "perform", "(I)V"⟩
abbrev cRn_begin : ByteArray := prog_3_method_10_code
def yRn_begin : MethodName := ⟨RRn, "begin", "(I)V"⟩
abbrev cRn_forgetTrouble : ByteArray := prog_3_method_14_code
def yRn_forgetTrouble : MethodName := ⟨RRn, "forgetTrouble", "()V"⟩
abbrev cPg_size : ByteArray := prog_2_method_2_code
def yPg_size : MethodName := ⟨RPg, "size", "()I"⟩
abbrev cRn_doActions : ByteArray := prog_3_method_15_code
def yRn_doActions : MethodName := ⟨RRn, "doActions", "(III)I"⟩
abbrev cPg_blockLength : ByteArray := prog_2_method_9_code
def yPg_blockLength : MethodName := ⟨RPg, "blockLength", "(II)I"⟩
abbrev cPg_low : ByteArray := prog_2_method_7_code
def yPg_low : MethodName := ⟨RPg, "low", "(I)I"⟩
abbrev cRn_doAction : ByteArray := prog_3_method_16_code
def yRn_doAction : MethodName := ⟨RRn, "doAction", "(III)I"⟩
abbrev cPg_value : ByteArray := prog_2_method_6_code
def yPg_value : MethodName := ⟨RPg, "value", "(I)I"⟩
abbrev cPg_op : ByteArray := prog_2_method_5_code
def yPg_op : MethodName := ⟨RPg, "op", "(I)I"⟩
abbrev cRn_become : ByteArray := prog_3_method_11_code
def yRn_become : MethodName := ⟨RRn, "become", "(I)I"⟩
abbrev cRn_comesUp : ByteArray := prog_3_method_12_code
def yRn_comesUp : MethodName := ⟨RRn, "comesUp", "(II)I"⟩
abbrev cRn_isCell : ByteArray := prog_3_method_2_code
def yRn_isCell : MethodName := ⟨RRn, "isCell", "(I)Z"⟩
abbrev cRn_doKeep : ByteArray := prog_3_method_23_code
def yRn_doKeep : MethodName := ⟨RRn, "doKeep", "(I)I"⟩
abbrev cRn_doBreak : ByteArray := prog_3_method_24_code
def yRn_doBreak : MethodName := ⟨RRn, "doBreak", "(I)I"⟩
abbrev cPg_high : ByteArray := prog_2_method_8_code
def yPg_high : MethodName := ⟨RPg, "high", "(I)I"⟩
abbrev cRn_doThrow : ByteArray := prog_3_method_25_code
def yRn_doThrow : MethodName := ⟨RRn, "doThrow", "(I)I"⟩
abbrev cRn_ownComesUp : ByteArray := prog_3_method_13_code
def yRn_ownComesUp : MethodName := ⟨RRn, "ownComesUp", "(II)I"⟩
abbrev cRn_doInterrupt : ByteArray := prog_3_method_26_code
def yRn_doInterrupt : MethodName := ⟨RRn, "doInterrupt", "()I"⟩
abbrev cRn_doLook : ByteArray := prog_3_method_27_code
def yRn_doLook : MethodName := ⟨RRn, "doLook", "()I"⟩
abbrev cRn_doCatch : ByteArray := prog_3_method_17_code
def yRn_doCatch : MethodName := ⟨RRn, "doCatch", "(III)I"⟩
abbrev cRn_takes : ByteArray := prog_3_method_18_code
def yRn_takes : MethodName := ⟨RRn, "takes", "(II)Z"⟩
abbrev cRn_doFinally : ByteArray := prog_3_method_19_code
def yRn_doFinally : MethodName := ⟨RRn, "doFinally", "(III)I"⟩
abbrev cRn_doDrop : ByteArray := prog_3_method_20_code
def yRn_doDrop : MethodName := ⟨RRn, "doDrop", "(III)I"⟩
abbrev cRn_doHold : ByteArray := prog_3_method_21_code
def yRn_doHold : MethodName := ⟨RRn, "doHold", "(III)I"⟩
abbrev cRn_doRepeat : ByteArray := prog_3_method_22_code
def yRn_doRepeat : MethodName := ⟨RRn, "doRepeat", "(III)I"⟩
abbrev cRn_isHeld : ByteArray := prog_3_method_30_code
def yRn_isHeld : MethodName := ⟨RRn, "isHeld", "(I)Z"⟩
abbrev cRn_doSleep : ByteArray := prog_3_method_29_code
def yRn_doSleep : MethodName := ⟨RRn, "doSleep", "(I)I"⟩
abbrev cRn_doCount : ByteArray := prog_3_method_28_code
def yRn_doCount : MethodName := ⟨RRn, "doCount", "(I)I"⟩
abbrev cRn_outcome : ByteArray := prog_3_method_5_code
def yRn_outcome : MethodName := ⟨RRn, "outcome", "()I"⟩
abbrev cRn_counted : ByteArray := prog_3_method_6_code
def yRn_counted : MethodName := ⟨RRn, "counted", "()J"⟩
abbrev cEx_runAll : ByteArray := prog_1_method_5_code
def yEx_runAll : MethodName := ⟨REx, "runAll", "(I)I"⟩
abbrev cEx_told : ByteArray := prog_1_method_6_code
def yEx_told : MethodName := ⟨REx, "told", "(II)I"⟩
abbrev cRn_isKnown : ByteArray := prog_3_method_3_code
def yRn_isKnown : MethodName := ⟨RRn, "isKnown", "()Z"⟩
abbrev cRn_tell : ByteArray := prog_3_method_8_code
def yRn_tell : MethodName := ⟨RRn, "tell", "(I)I"⟩
abbrev cEx_cell : ByteArray := prog_1_method_7_code
def yEx_cell : MethodName := ⟨REx, "cell", "(II)I"⟩
abbrev cRn_cellAtEnd : ByteArray := prog_3_method_7_code
def yRn_cellAtEnd : MethodName := ⟨RRn, "cellAtEnd", "(I)I"⟩
abbrev cEx_counter : ByteArray := prog_1_method_8_code
def yEx_counter : MethodName := ⟨REx, "counter", "()J"⟩
abbrev cEx_count : ByteArray := prog_1_method_9_code
def yEx_count : MethodName := ⟨REx, "count", "(I)I"⟩
abbrev cMd_init : ByteArray := prog_5_method_1_code
def yMd_init : MethodName := ⟨RMd, "<init>", "()V"⟩
abbrev cMd_add : ByteArray := prog_5_method_4_code
def yMd_add : MethodName := ⟨RMd, "add", "(III)I"⟩
abbrev cMd_in : ByteArray := prog_5_method_2_code
def yMd_in : MethodName := ⟨RMd, "in", "(II)Z"⟩
abbrev cMd_forget : ByteArray := prog_5_method_3_code
def yMd_forget : MethodName := ⟨RMd, "forget", "(I)V"⟩
abbrev cMd_clear : ByteArray := prog_5_method_5_code
def yMd_clear : MethodName := ⟨RMd, "clear", "(I)I"⟩
abbrev cMd_run : ByteArray := prog_5_method_17_code
def yMd_run : MethodName := ⟨RMd, "run", "(IZ)I"⟩
abbrev cMd_perform : ByteArray := prog_5_method_16_code
def yMd_perform : MethodName := ⟨RMd, "perform", "(IZ)I"⟩
abbrev cMd_leave : ByteArray := prog_5_method_9_code
def yMd_leave : MethodName := ⟨RMd, "leave", "()V"⟩
abbrev cMd_kOf : ByteArray := prog_5_method_8_code
def yMd_kOf : MethodName := ⟨RMd, "kOf", "(I)I"⟩
abbrev cMd_takes : ByteArray := prog_5_method_7_code
def yMd_takes : MethodName := ⟨RMd, "takes", "(II)Z"⟩
abbrev cMd_raise : ByteArray := prog_5_method_6_code
def yMd_raise : MethodName := ⟨RMd, "raise", "(II)V"⟩
abbrev cMd_step : ByteArray := prog_5_method_15_code
def yMd_step : MethodName := ⟨RMd, "step", "(Z)V"⟩
abbrev cMd_enter : ByteArray := prog_5_method_10_code
def yMd_enter : MethodName := ⟨RMd, "enter", "(II)V"⟩
abbrev cMd_act : ByteArray := prog_5_method_14_code
def yMd_act : MethodName := ⟨RMd, "act", "(IIII)V"⟩
abbrev cMd_divide : ByteArray := prog_5_method_11_code
def yMd_divide : MethodName := ⟨RMd, "divide", "(IZ)V"⟩
abbrev cMd_touch : ByteArray := prog_5_method_12_code
def yMd_touch : MethodName := ⟨RMd, "touch", "(IZ)V"⟩
abbrev cMd_interrupted : ByteArray := prog_5_method_13_code
def yMd_interrupted : MethodName := ⟨RMd, "interrupted", "()V"⟩
abbrev cMd_runAll : ByteArray := prog_5_method_18_code
def yMd_runAll : MethodName := ⟨RMd, "runAll", "(I)I"⟩
abbrev cMd_told : ByteArray := prog_5_method_19_code
def yMd_told : MethodName := ⟨RMd, "told", "(II)I"⟩
abbrev cMd_cell : ByteArray := prog_5_method_20_code
def yMd_cell : MethodName := ⟨RMd, "cell", "(II)I"⟩
abbrev cMd_counter : ByteArray := prog_5_method_21_code
def yMd_counter : MethodName := ⟨RMd, "counter", "()J"⟩
abbrev cMd_count : ByteArray := prog_5_method_22_code
def yMd_count : MethodName := ⟨RMd, "count", "(I)I"⟩
