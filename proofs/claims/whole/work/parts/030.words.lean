theorem iniEx : Cond.initialized REx ∈ ce_W := ce_in (List.mem_append_right _ (List.mem_of_getElem? (i := 1) (by decide +kernel))) rfl
theorem iniPg : Cond.initialized RPg ∈ ce_W := ce_in (List.mem_append_right _ (List.mem_of_getElem? (i := 2) (by decide +kernel))) rfl
theorem iniRn : Cond.initialized RRn ∈ ce_W := ce_in (List.mem_append_right _ (List.mem_of_getElem? (i := 3) (by decide +kernel))) rfl
theorem iniMd : Cond.initialized RMd ∈ ce_W := ce_in (List.mem_append_right _ (List.mem_of_getElem? (i := 4) (by decide +kernel))) rfl
theorem iniLw : Cond.initialized RLw ∈ ce_W := ce_in (List.mem_append_right _ (List.mem_of_getElem? (i := 0) (by decide +kernel))) rfl
theorem mEx_init : ce_M yEx_init cEx_init 2 none 0 := ⟨ce_in (List.mem_append_right _ (List.mem_of_getElem? (i := 10) (by decide +kernel))) rfl, iniEx, by decide +kernel⟩
theorem iEx_init : Cond.instanceMethod yEx_init ∈ ce_W := ce_in (List.mem_append_right _ (List.mem_of_getElem? (i := 9) (by decide +kernel))) rfl
theorem mPg_init : ce_M yPg_init cPg_init 1 none 0 := ⟨ce_in (List.mem_append_right _ (List.mem_of_getElem? (i := 21) (by decide +kernel))) rfl, iniPg, by decide +kernel⟩
theorem iPg_init : Cond.instanceMethod yPg_init ∈ ce_W := ce_in (List.mem_append_right _ (List.mem_of_getElem? (i := 20) (by decide +kernel))) rfl
theorem mRn_init : ce_M yRn_init cRn_init 2 none 1 := ⟨ce_in (List.mem_append_right _ (List.mem_of_getElem? (i := 37) (by decide +kernel))) rfl, iniRn, by decide +kernel⟩
theorem iRn_init : Cond.instanceMethod yRn_init ∈ ce_W := ce_in (List.mem_append_right _ (List.mem_of_getElem? (i := 36) (by decide +kernel))) rfl
theorem mEx_add : ce_M yEx_add cEx_add 5 (some .int) 3 := ⟨ce_in (List.mem_append_right _ (List.mem_of_getElem? (i := 104) (by decide +kernel))) rfl, iniEx, by decide +kernel⟩
theorem iEx_add : Cond.instanceMethod yEx_add ∈ ce_W ∧ Cond.selects REx yEx_add yEx_add ∈ ce_W := ⟨ce_in (List.mem_append_right _ (List.mem_of_getElem? (i := 102) (by decide +kernel))) rfl, ce_in (List.mem_append_right _ (List.mem_of_getElem? (i := 103) (by decide +kernel))) rfl⟩
theorem mEx_isProgram : ce_M yEx_isProgram cEx_isProgram 1 (some .boolean) 1 := ⟨ce_in (List.mem_append_right _ (List.mem_of_getElem? (i := 107) (by decide +kernel))) rfl, iniEx, by decide +kernel⟩
theorem sEx_isProgram : Cond.static yEx_isProgram ∈ ce_W := ce_in (List.mem_append_right _ (List.mem_of_getElem? (i := 106) (by decide +kernel))) rfl
theorem mEx_isWithin : ce_M yEx_isWithin cEx_isWithin 2 (some .boolean) 2 := ⟨ce_in (List.mem_append_right _ (List.mem_of_getElem? (i := 110) (by decide +kernel))) rfl, iniEx, by decide +kernel⟩
theorem sEx_isWithin : Cond.static yEx_isWithin ∈ ce_W := ce_in (List.mem_append_right _ (List.mem_of_getElem? (i := 109) (by decide +kernel))) rfl
theorem mPg_append : ce_M yPg_append cPg_append 3 (some .int) 2 := ⟨ce_in (List.mem_append_right _ (List.mem_of_getElem? (i := 114) (by decide +kernel))) rfl, iniPg, by decide +kernel⟩
theorem iPg_append : Cond.instanceMethod yPg_append ∈ ce_W ∧ Cond.selects RPg yPg_append yPg_append ∈ ce_W := ⟨ce_in (List.mem_append_right _ (List.mem_of_getElem? (i := 112) (by decide +kernel))) rfl, ce_in (List.mem_append_right _ (List.mem_of_getElem? (i := 113) (by decide +kernel))) rfl⟩
theorem mRn_forget : ce_M yRn_forget cRn_forget 1 none 0 := ⟨ce_in (List.mem_append_right _ (List.mem_of_getElem? (i := 118) (by decide +kernel))) rfl, iniRn, by decide +kernel⟩
theorem iRn_forget : Cond.instanceMethod yRn_forget ∈ ce_W ∧ Cond.selects RRn yRn_forget yRn_forget ∈ ce_W := ⟨ce_in (List.mem_append_right _ (List.mem_of_getElem? (i := 116) (by decide +kernel))) rfl, ce_in (List.mem_append_right _ (List.mem_of_getElem? (i := 117) (by decide +kernel))) rfl⟩
theorem mEx_clear : ce_M yEx_clear cEx_clear 2 (some .int) 1 := ⟨ce_in (List.mem_append_right _ (List.mem_of_getElem? (i := 122) (by decide +kernel))) rfl, iniEx, by decide +kernel⟩
theorem iEx_clear : Cond.instanceMethod yEx_clear ∈ ce_W ∧ Cond.selects REx yEx_clear yEx_clear ∈ ce_W := ⟨ce_in (List.mem_append_right _ (List.mem_of_getElem? (i := 120) (by decide +kernel))) rfl, ce_in (List.mem_append_right _ (List.mem_of_getElem? (i := 121) (by decide +kernel))) rfl⟩
theorem mPg_empty : ce_M yPg_empty cPg_empty 1 none 0 := ⟨ce_in (List.mem_append_right _ (List.mem_of_getElem? (i := 126) (by decide +kernel))) rfl, iniPg, by decide +kernel⟩
theorem iPg_empty : Cond.instanceMethod yPg_empty ∈ ce_W ∧ Cond.selects RPg yPg_empty yPg_empty ∈ ce_W := ⟨ce_in (List.mem_append_right _ (List.mem_of_getElem? (i := 124) (by decide +kernel))) rfl, ce_in (List.mem_append_right _ (List.mem_of_getElem? (i := 125) (by decide +kernel))) rfl⟩
theorem mEx_run : ce_M yEx_run cEx_run 3 (some .int) 2 := ⟨ce_in (List.mem_append_right _ (List.mem_of_getElem? (i := 130) (by decide +kernel))) rfl, iniEx, by decide +kernel⟩
theorem iEx_run : Cond.instanceMethod yEx_run ∈ ce_W ∧ Cond.selects REx yEx_run yEx_run ∈ ce_W := ⟨ce_in (List.mem_append_right _ (List.mem_of_getElem? (i := 128) (by decide +kernel))) rfl, ce_in (List.mem_append_right _ (List.mem_of_getElem? (i := 129) (by decide +kernel))) rfl⟩
theorem mEx_perform : ce_M yEx_perform cEx_perform 4 (some .int) 2 := ⟨ce_in (List.mem_append_right _ (List.mem_of_getElem? (i := 134) (by decide +kernel))) rfl, iniEx, by decide +kernel⟩
theorem iEx_perform : Cond.instanceMethod yEx_perform ∈ ce_W ∧ Cond.selects REx yEx_perform yEx_perform ∈ ce_W := ⟨ce_in (List.mem_append_right _ (List.mem_of_getElem? (i := 133) (by decide +kernel))) rfl, ce_in (List.mem_append_left _ (List.mem_of_getElem? (i := 0) (by decide +kernel))) rfl⟩
theorem mRn_perform : ce_M yRn_perform cRn_perform 2 none 1 := ⟨ce_in (List.mem_append_right _ (List.mem_of_getElem? (i := 138) (by decide +kernel))) rfl, iniRn, by decide +kernel⟩
theorem iRn_perform : Cond.instanceMethod yRn_perform ∈ ce_W ∧ Cond.selects RRn yRn_perform yRn_perform ∈ ce_W := ⟨ce_in (List.mem_append_right _ (List.mem_of_getElem? (i := 136) (by decide +kernel))) rfl, ce_in (List.mem_append_right _ (List.mem_of_getElem? (i := 137) (by decide +kernel))) rfl⟩
theorem mRn_begin : ce_M yRn_begin cRn_begin 3 none 1 := ⟨ce_in (List.mem_append_right _ (List.mem_of_getElem? (i := 142) (by decide +kernel))) rfl, iniRn, by decide +kernel⟩
theorem iRn_begin : Cond.instanceMethod yRn_begin ∈ ce_W ∧ Cond.selects RRn yRn_begin yRn_begin ∈ ce_W := ⟨ce_in (List.mem_append_right _ (List.mem_of_getElem? (i := 141) (by decide +kernel))) rfl, ce_in (List.mem_append_left _ (List.mem_of_getElem? (i := 1) (by decide +kernel))) rfl⟩
theorem mRn_forgetTrouble : ce_M yRn_forgetTrouble cRn_forgetTrouble 1 none 0 := ⟨ce_in (List.mem_append_right _ (List.mem_of_getElem? (i := 146) (by decide +kernel))) rfl, iniRn, by decide +kernel⟩
theorem iRn_forgetTrouble : Cond.instanceMethod yRn_forgetTrouble ∈ ce_W ∧ Cond.selects RRn yRn_forgetTrouble yRn_forgetTrouble ∈ ce_W := ⟨ce_in (List.mem_append_right _ (List.mem_of_getElem? (i := 145) (by decide +kernel))) rfl, ce_in (List.mem_append_left _ (List.mem_of_getElem? (i := 2) (by decide +kernel))) rfl⟩
theorem mPg_size : ce_M yPg_size cPg_size 1 (some .int) 0 := ⟨ce_in (List.mem_append_right _ (List.mem_of_getElem? (i := 150) (by decide +kernel))) rfl, iniPg, by decide +kernel⟩
theorem iPg_size : Cond.instanceMethod yPg_size ∈ ce_W ∧ Cond.selects RPg yPg_size yPg_size ∈ ce_W := ⟨ce_in (List.mem_append_right _ (List.mem_of_getElem? (i := 148) (by decide +kernel))) rfl, ce_in (List.mem_append_right _ (List.mem_of_getElem? (i := 149) (by decide +kernel))) rfl⟩
theorem mRn_doActions : ce_M yRn_doActions cRn_doActions 7 (some .int) 3 := ⟨ce_in (List.mem_append_right _ (List.mem_of_getElem? (i := 154) (by decide +kernel))) rfl, iniRn, by decide +kernel⟩
theorem iRn_doActions : Cond.instanceMethod yRn_doActions ∈ ce_W ∧ Cond.selects RRn yRn_doActions yRn_doActions ∈ ce_W := ⟨ce_in (List.mem_append_right _ (List.mem_of_getElem? (i := 153) (by decide +kernel))) rfl, ce_in (List.mem_append_left _ (List.mem_of_getElem? (i := 3) (by decide +kernel))) rfl⟩
theorem mPg_blockLength : ce_M yPg_blockLength cPg_blockLength 3 (some .int) 2 := ⟨ce_in (List.mem_append_right _ (List.mem_of_getElem? (i := 158) (by decide +kernel))) rfl, iniPg, by decide +kernel⟩
theorem iPg_blockLength : Cond.instanceMethod yPg_blockLength ∈ ce_W ∧ Cond.selects RPg yPg_blockLength yPg_blockLength ∈ ce_W := ⟨ce_in (List.mem_append_right _ (List.mem_of_getElem? (i := 156) (by decide +kernel))) rfl, ce_in (List.mem_append_right _ (List.mem_of_getElem? (i := 157) (by decide +kernel))) rfl⟩
theorem mPg_low : ce_M yPg_low cPg_low 2 (some .int) 1 := ⟨ce_in (List.mem_append_right _ (List.mem_of_getElem? (i := 162) (by decide +kernel))) rfl, iniPg, by decide +kernel⟩
theorem iPg_low : Cond.instanceMethod yPg_low ∈ ce_W ∧ Cond.selects RPg yPg_low yPg_low ∈ ce_W := ⟨ce_in (List.mem_append_right _ (List.mem_of_getElem? (i := 160) (by decide +kernel))) rfl, ce_in (List.mem_append_right _ (List.mem_of_getElem? (i := 161) (by decide +kernel))) rfl⟩
theorem mRn_doAction : ce_M yRn_doAction cRn_doAction 5 (some .int) 3 := ⟨ce_in (List.mem_append_right _ (List.mem_of_getElem? (i := 169) (by decide +kernel))) rfl, iniRn, by decide +kernel⟩
theorem iRn_doAction : Cond.instanceMethod yRn_doAction ∈ ce_W ∧ Cond.selects RRn yRn_doAction yRn_doAction ∈ ce_W := ⟨ce_in (List.mem_append_right _ (List.mem_of_getElem? (i := 168) (by decide +kernel))) rfl, ce_in (List.mem_append_left _ (List.mem_of_getElem? (i := 4) (by decide +kernel))) rfl⟩
theorem mPg_value : ce_M yPg_value cPg_value 2 (some .int) 1 := ⟨ce_in (List.mem_append_right _ (List.mem_of_getElem? (i := 173) (by decide +kernel))) rfl, iniPg, by decide +kernel⟩
theorem iPg_value : Cond.instanceMethod yPg_value ∈ ce_W ∧ Cond.selects RPg yPg_value yPg_value ∈ ce_W := ⟨ce_in (List.mem_append_right _ (List.mem_of_getElem? (i := 171) (by decide +kernel))) rfl, ce_in (List.mem_append_right _ (List.mem_of_getElem? (i := 172) (by decide +kernel))) rfl⟩
theorem mPg_op : ce_M yPg_op cPg_op 2 (some .int) 1 := ⟨ce_in (List.mem_append_right _ (List.mem_of_getElem? (i := 177) (by decide +kernel))) rfl, iniPg, by decide +kernel⟩
theorem iPg_op : Cond.instanceMethod yPg_op ∈ ce_W ∧ Cond.selects RPg yPg_op yPg_op ∈ ce_W := ⟨ce_in (List.mem_append_right _ (List.mem_of_getElem? (i := 175) (by decide +kernel))) rfl, ce_in (List.mem_append_right _ (List.mem_of_getElem? (i := 176) (by decide +kernel))) rfl⟩
theorem mRn_become : ce_M yRn_become cRn_become 2 (some .int) 1 := ⟨ce_in (List.mem_append_right _ (List.mem_of_getElem? (i := 181) (by decide +kernel))) rfl, iniRn, by decide +kernel⟩
theorem iRn_become : Cond.instanceMethod yRn_become ∈ ce_W ∧ Cond.selects RRn yRn_become yRn_become ∈ ce_W := ⟨ce_in (List.mem_append_right _ (List.mem_of_getElem? (i := 180) (by decide +kernel))) rfl, ce_in (List.mem_append_left _ (List.mem_of_getElem? (i := 5) (by decide +kernel))) rfl⟩
theorem mRn_comesUp : ce_M yRn_comesUp cRn_comesUp 3 (some .int) 2 := ⟨ce_in (List.mem_append_right _ (List.mem_of_getElem? (i := 185) (by decide +kernel))) rfl, iniRn, by decide +kernel⟩
theorem iRn_comesUp : Cond.instanceMethod yRn_comesUp ∈ ce_W ∧ Cond.selects RRn yRn_comesUp yRn_comesUp ∈ ce_W := ⟨ce_in (List.mem_append_right _ (List.mem_of_getElem? (i := 184) (by decide +kernel))) rfl, ce_in (List.mem_append_left _ (List.mem_of_getElem? (i := 6) (by decide +kernel))) rfl⟩
theorem mRn_isCell : ce_M yRn_isCell cRn_isCell 1 (some .boolean) 1 := ⟨ce_in (List.mem_append_right _ (List.mem_of_getElem? (i := 188) (by decide +kernel))) rfl, iniRn, by decide +kernel⟩
theorem sRn_isCell : Cond.static yRn_isCell ∈ ce_W := ce_in (List.mem_append_right _ (List.mem_of_getElem? (i := 187) (by decide +kernel))) rfl
theorem mRn_doKeep : ce_M yRn_doKeep cRn_doKeep 3 (some .int) 1 := ⟨ce_in (List.mem_append_right _ (List.mem_of_getElem? (i := 193) (by decide +kernel))) rfl, iniRn, by decide +kernel⟩
theorem iRn_doKeep : Cond.instanceMethod yRn_doKeep ∈ ce_W ∧ Cond.selects RRn yRn_doKeep yRn_doKeep ∈ ce_W := ⟨ce_in (List.mem_append_right _ (List.mem_of_getElem? (i := 192) (by decide +kernel))) rfl, ce_in (List.mem_append_left _ (List.mem_of_getElem? (i := 7) (by decide +kernel))) rfl⟩
theorem mRn_doBreak : ce_M yRn_doBreak cRn_doBreak 2 (some .int) 1 := ⟨ce_in (List.mem_append_right _ (List.mem_of_getElem? (i := 197) (by decide +kernel))) rfl, iniRn, by decide +kernel⟩
theorem iRn_doBreak : Cond.instanceMethod yRn_doBreak ∈ ce_W ∧ Cond.selects RRn yRn_doBreak yRn_doBreak ∈ ce_W := ⟨ce_in (List.mem_append_right _ (List.mem_of_getElem? (i := 196) (by decide +kernel))) rfl, ce_in (List.mem_append_left _ (List.mem_of_getElem? (i := 8) (by decide +kernel))) rfl⟩
theorem mPg_high : ce_M yPg_high cPg_high 2 (some .int) 1 := ⟨ce_in (List.mem_append_right _ (List.mem_of_getElem? (i := 201) (by decide +kernel))) rfl, iniPg, by decide +kernel⟩
theorem iPg_high : Cond.instanceMethod yPg_high ∈ ce_W ∧ Cond.selects RPg yPg_high yPg_high ∈ ce_W := ⟨ce_in (List.mem_append_right _ (List.mem_of_getElem? (i := 199) (by decide +kernel))) rfl, ce_in (List.mem_append_right _ (List.mem_of_getElem? (i := 200) (by decide +kernel))) rfl⟩
theorem mRn_doThrow : ce_M yRn_doThrow cRn_doThrow 2 (some .int) 1 := ⟨ce_in (List.mem_append_right _ (List.mem_of_getElem? (i := 206) (by decide +kernel))) rfl, iniRn, by decide +kernel⟩
theorem iRn_doThrow : Cond.instanceMethod yRn_doThrow ∈ ce_W ∧ Cond.selects RRn yRn_doThrow yRn_doThrow ∈ ce_W := ⟨ce_in (List.mem_append_right _ (List.mem_of_getElem? (i := 205) (by decide +kernel))) rfl, ce_in (List.mem_append_left _ (List.mem_of_getElem? (i := 9) (by decide +kernel))) rfl⟩
theorem mRn_ownComesUp : ce_M yRn_ownComesUp cRn_ownComesUp 3 (some .int) 2 := ⟨ce_in (List.mem_append_right _ (List.mem_of_getElem? (i := 210) (by decide +kernel))) rfl, iniRn, by decide +kernel⟩
theorem iRn_ownComesUp : Cond.instanceMethod yRn_ownComesUp ∈ ce_W ∧ Cond.selects RRn yRn_ownComesUp yRn_ownComesUp ∈ ce_W := ⟨ce_in (List.mem_append_right _ (List.mem_of_getElem? (i := 209) (by decide +kernel))) rfl, ce_in (List.mem_append_left _ (List.mem_of_getElem? (i := 10) (by decide +kernel))) rfl⟩
theorem mRn_doInterrupt : ce_M yRn_doInterrupt cRn_doInterrupt 1 (some .int) 0 := ⟨ce_in (List.mem_append_right _ (List.mem_of_getElem? (i := 214) (by decide +kernel))) rfl, iniRn, by decide +kernel⟩
theorem iRn_doInterrupt : Cond.instanceMethod yRn_doInterrupt ∈ ce_W ∧ Cond.selects RRn yRn_doInterrupt yRn_doInterrupt ∈ ce_W := ⟨ce_in (List.mem_append_right _ (List.mem_of_getElem? (i := 213) (by decide +kernel))) rfl, ce_in (List.mem_append_left _ (List.mem_of_getElem? (i := 11) (by decide +kernel))) rfl⟩
theorem mRn_doLook : ce_M yRn_doLook cRn_doLook 1 (some .int) 0 := ⟨ce_in (List.mem_append_right _ (List.mem_of_getElem? (i := 218) (by decide +kernel))) rfl, iniRn, by decide +kernel⟩
theorem iRn_doLook : Cond.instanceMethod yRn_doLook ∈ ce_W ∧ Cond.selects RRn yRn_doLook yRn_doLook ∈ ce_W := ⟨ce_in (List.mem_append_right _ (List.mem_of_getElem? (i := 217) (by decide +kernel))) rfl, ce_in (List.mem_append_left _ (List.mem_of_getElem? (i := 12) (by decide +kernel))) rfl⟩
theorem mRn_doCatch : ce_M yRn_doCatch cRn_doCatch 6 (some .int) 3 := ⟨ce_in (List.mem_append_right _ (List.mem_of_getElem? (i := 222) (by decide +kernel))) rfl, iniRn, by decide +kernel⟩
theorem iRn_doCatch : Cond.instanceMethod yRn_doCatch ∈ ce_W ∧ Cond.selects RRn yRn_doCatch yRn_doCatch ∈ ce_W := ⟨ce_in (List.mem_append_right _ (List.mem_of_getElem? (i := 221) (by decide +kernel))) rfl, ce_in (List.mem_append_left _ (List.mem_of_getElem? (i := 13) (by decide +kernel))) rfl⟩
theorem mRn_takes : ce_M yRn_takes cRn_takes 2 (some .boolean) 2 := ⟨ce_in (List.mem_append_right _ (List.mem_of_getElem? (i := 225) (by decide +kernel))) rfl, iniRn, by decide +kernel⟩
theorem sRn_takes : Cond.static yRn_takes ∈ ce_W := ce_in (List.mem_append_right _ (List.mem_of_getElem? (i := 224) (by decide +kernel))) rfl
theorem mRn_doFinally : ce_M yRn_doFinally cRn_doFinally 5 (some .int) 3 := ⟨ce_in (List.mem_append_right _ (List.mem_of_getElem? (i := 229) (by decide +kernel))) rfl, iniRn, by decide +kernel⟩
theorem iRn_doFinally : Cond.instanceMethod yRn_doFinally ∈ ce_W ∧ Cond.selects RRn yRn_doFinally yRn_doFinally ∈ ce_W := ⟨ce_in (List.mem_append_right _ (List.mem_of_getElem? (i := 228) (by decide +kernel))) rfl, ce_in (List.mem_append_left _ (List.mem_of_getElem? (i := 14) (by decide +kernel))) rfl⟩
theorem mRn_doDrop : ce_M yRn_doDrop cRn_doDrop 4 (some .int) 3 := ⟨ce_in (List.mem_append_right _ (List.mem_of_getElem? (i := 233) (by decide +kernel))) rfl, iniRn, by decide +kernel⟩
theorem iRn_doDrop : Cond.instanceMethod yRn_doDrop ∈ ce_W ∧ Cond.selects RRn yRn_doDrop yRn_doDrop ∈ ce_W := ⟨ce_in (List.mem_append_right _ (List.mem_of_getElem? (i := 232) (by decide +kernel))) rfl, ce_in (List.mem_append_left _ (List.mem_of_getElem? (i := 15) (by decide +kernel))) rfl⟩
theorem mRn_doHold : ce_M yRn_doHold cRn_doHold 6 (some .int) 3 := ⟨ce_in (List.mem_append_right _ (List.mem_of_getElem? (i := 237) (by decide +kernel))) rfl, iniRn, by decide +kernel⟩
theorem iRn_doHold : Cond.instanceMethod yRn_doHold ∈ ce_W ∧ Cond.selects RRn yRn_doHold yRn_doHold ∈ ce_W := ⟨ce_in (List.mem_append_right _ (List.mem_of_getElem? (i := 236) (by decide +kernel))) rfl, ce_in (List.mem_append_left _ (List.mem_of_getElem? (i := 16) (by decide +kernel))) rfl⟩
theorem mRn_doRepeat : ce_M yRn_doRepeat cRn_doRepeat 7 (some .int) 3 := ⟨ce_in (List.mem_append_right _ (List.mem_of_getElem? (i := 241) (by decide +kernel))) rfl, iniRn, by decide +kernel⟩
theorem iRn_doRepeat : Cond.instanceMethod yRn_doRepeat ∈ ce_W ∧ Cond.selects RRn yRn_doRepeat yRn_doRepeat ∈ ce_W := ⟨ce_in (List.mem_append_right _ (List.mem_of_getElem? (i := 240) (by decide +kernel))) rfl, ce_in (List.mem_append_left _ (List.mem_of_getElem? (i := 17) (by decide +kernel))) rfl⟩
theorem mRn_isHeld : ce_M yRn_isHeld cRn_isHeld 2 (some .boolean) 1 := ⟨ce_in (List.mem_append_right _ (List.mem_of_getElem? (i := 245) (by decide +kernel))) rfl, iniRn, by decide +kernel⟩
theorem iRn_isHeld : Cond.instanceMethod yRn_isHeld ∈ ce_W ∧ Cond.selects RRn yRn_isHeld yRn_isHeld ∈ ce_W := ⟨ce_in (List.mem_append_right _ (List.mem_of_getElem? (i := 244) (by decide +kernel))) rfl, ce_in (List.mem_append_left _ (List.mem_of_getElem? (i := 18) (by decide +kernel))) rfl⟩
theorem mRn_doSleep : ce_M yRn_doSleep cRn_doSleep 2 (some .int) 1 := ⟨ce_in (List.mem_append_right _ (List.mem_of_getElem? (i := 249) (by decide +kernel))) rfl, iniRn, by decide +kernel⟩
theorem iRn_doSleep : Cond.instanceMethod yRn_doSleep ∈ ce_W ∧ Cond.selects RRn yRn_doSleep yRn_doSleep ∈ ce_W := ⟨ce_in (List.mem_append_right _ (List.mem_of_getElem? (i := 248) (by decide +kernel))) rfl, ce_in (List.mem_append_left _ (List.mem_of_getElem? (i := 19) (by decide +kernel))) rfl⟩
theorem mRn_doCount : ce_M yRn_doCount cRn_doCount 2 (some .int) 1 := ⟨ce_in (List.mem_append_right _ (List.mem_of_getElem? (i := 253) (by decide +kernel))) rfl, iniRn, by decide +kernel⟩
theorem iRn_doCount : Cond.instanceMethod yRn_doCount ∈ ce_W ∧ Cond.selects RRn yRn_doCount yRn_doCount ∈ ce_W := ⟨ce_in (List.mem_append_right _ (List.mem_of_getElem? (i := 252) (by decide +kernel))) rfl, ce_in (List.mem_append_left _ (List.mem_of_getElem? (i := 20) (by decide +kernel))) rfl⟩
theorem mRn_outcome : ce_M yRn_outcome cRn_outcome 1 (some .int) 0 := ⟨ce_in (List.mem_append_right _ (List.mem_of_getElem? (i := 257) (by decide +kernel))) rfl, iniRn, by decide +kernel⟩
theorem iRn_outcome : Cond.instanceMethod yRn_outcome ∈ ce_W ∧ Cond.selects RRn yRn_outcome yRn_outcome ∈ ce_W := ⟨ce_in (List.mem_append_right _ (List.mem_of_getElem? (i := 255) (by decide +kernel))) rfl, ce_in (List.mem_append_right _ (List.mem_of_getElem? (i := 256) (by decide +kernel))) rfl⟩
theorem mRn_counted : ce_M yRn_counted cRn_counted 1 (some .long) 0 := ⟨ce_in (List.mem_append_right _ (List.mem_of_getElem? (i := 261) (by decide +kernel))) rfl, iniRn, by decide +kernel⟩
theorem iRn_counted : Cond.instanceMethod yRn_counted ∈ ce_W ∧ Cond.selects RRn yRn_counted yRn_counted ∈ ce_W := ⟨ce_in (List.mem_append_right _ (List.mem_of_getElem? (i := 259) (by decide +kernel))) rfl, ce_in (List.mem_append_right _ (List.mem_of_getElem? (i := 260) (by decide +kernel))) rfl⟩
theorem mEx_runAll : ce_M yEx_runAll cEx_runAll 4 (some .int) 1 := ⟨ce_in (List.mem_append_right _ (List.mem_of_getElem? (i := 265) (by decide +kernel))) rfl, iniEx, by decide +kernel⟩
theorem iEx_runAll : Cond.instanceMethod yEx_runAll ∈ ce_W ∧ Cond.selects REx yEx_runAll yEx_runAll ∈ ce_W := ⟨ce_in (List.mem_append_right _ (List.mem_of_getElem? (i := 263) (by decide +kernel))) rfl, ce_in (List.mem_append_right _ (List.mem_of_getElem? (i := 264) (by decide +kernel))) rfl⟩
theorem mEx_told : ce_M yEx_told cEx_told 3 (some .int) 2 := ⟨ce_in (List.mem_append_right _ (List.mem_of_getElem? (i := 269) (by decide +kernel))) rfl, iniEx, by decide +kernel⟩
theorem iEx_told : Cond.instanceMethod yEx_told ∈ ce_W ∧ Cond.selects REx yEx_told yEx_told ∈ ce_W := ⟨ce_in (List.mem_append_right _ (List.mem_of_getElem? (i := 267) (by decide +kernel))) rfl, ce_in (List.mem_append_right _ (List.mem_of_getElem? (i := 268) (by decide +kernel))) rfl⟩
theorem mRn_isKnown : ce_M yRn_isKnown cRn_isKnown 1 (some .boolean) 0 := ⟨ce_in (List.mem_append_right _ (List.mem_of_getElem? (i := 273) (by decide +kernel))) rfl, iniRn, by decide +kernel⟩
theorem iRn_isKnown : Cond.instanceMethod yRn_isKnown ∈ ce_W ∧ Cond.selects RRn yRn_isKnown yRn_isKnown ∈ ce_W := ⟨ce_in (List.mem_append_right _ (List.mem_of_getElem? (i := 271) (by decide +kernel))) rfl, ce_in (List.mem_append_right _ (List.mem_of_getElem? (i := 272) (by decide +kernel))) rfl⟩
theorem mRn_tell : ce_M yRn_tell cRn_tell 2 (some .int) 1 := ⟨ce_in (List.mem_append_right _ (List.mem_of_getElem? (i := 277) (by decide +kernel))) rfl, iniRn, by decide +kernel⟩
theorem iRn_tell : Cond.instanceMethod yRn_tell ∈ ce_W ∧ Cond.selects RRn yRn_tell yRn_tell ∈ ce_W := ⟨ce_in (List.mem_append_right _ (List.mem_of_getElem? (i := 275) (by decide +kernel))) rfl, ce_in (List.mem_append_right _ (List.mem_of_getElem? (i := 276) (by decide +kernel))) rfl⟩
theorem mEx_cell : ce_M yEx_cell cEx_cell 3 (some .int) 2 := ⟨ce_in (List.mem_append_right _ (List.mem_of_getElem? (i := 282) (by decide +kernel))) rfl, iniEx, by decide +kernel⟩
theorem iEx_cell : Cond.instanceMethod yEx_cell ∈ ce_W ∧ Cond.selects REx yEx_cell yEx_cell ∈ ce_W := ⟨ce_in (List.mem_append_right _ (List.mem_of_getElem? (i := 280) (by decide +kernel))) rfl, ce_in (List.mem_append_right _ (List.mem_of_getElem? (i := 281) (by decide +kernel))) rfl⟩
theorem mRn_cellAtEnd : ce_M yRn_cellAtEnd cRn_cellAtEnd 2 (some .int) 1 := ⟨ce_in (List.mem_append_right _ (List.mem_of_getElem? (i := 287) (by decide +kernel))) rfl, iniRn, by decide +kernel⟩
theorem iRn_cellAtEnd : Cond.instanceMethod yRn_cellAtEnd ∈ ce_W ∧ Cond.selects RRn yRn_cellAtEnd yRn_cellAtEnd ∈ ce_W := ⟨ce_in (List.mem_append_right _ (List.mem_of_getElem? (i := 285) (by decide +kernel))) rfl, ce_in (List.mem_append_right _ (List.mem_of_getElem? (i := 286) (by decide +kernel))) rfl⟩
theorem mEx_counter : ce_M yEx_counter cEx_counter 1 (some .long) 0 := ⟨ce_in (List.mem_append_right _ (List.mem_of_getElem? (i := 291) (by decide +kernel))) rfl, iniEx, by decide +kernel⟩
theorem iEx_counter : Cond.instanceMethod yEx_counter ∈ ce_W ∧ Cond.selects REx yEx_counter yEx_counter ∈ ce_W := ⟨ce_in (List.mem_append_right _ (List.mem_of_getElem? (i := 289) (by decide +kernel))) rfl, ce_in (List.mem_append_right _ (List.mem_of_getElem? (i := 290) (by decide +kernel))) rfl⟩
theorem mEx_count : ce_M yEx_count cEx_count 2 (some .int) 1 := ⟨ce_in (List.mem_append_right _ (List.mem_of_getElem? (i := 295) (by decide +kernel))) rfl, iniEx, by decide +kernel⟩
theorem iEx_count : Cond.instanceMethod yEx_count ∈ ce_W ∧ Cond.selects REx yEx_count yEx_count ∈ ce_W := ⟨ce_in (List.mem_append_right _ (List.mem_of_getElem? (i := 293) (by decide +kernel))) rfl, ce_in (List.mem_append_right _ (List.mem_of_getElem? (i := 294) (by decide +kernel))) rfl⟩
theorem mMd_init : ce_M yMd_init cMd_init 1 none 0 := ⟨ce_in (List.mem_append_right _ (List.mem_of_getElem? (i := 301) (by decide +kernel))) rfl, iniMd, by decide +kernel⟩
theorem iMd_init : Cond.instanceMethod yMd_init ∈ ce_W := ce_in (List.mem_append_right _ (List.mem_of_getElem? (i := 300) (by decide +kernel))) rfl
theorem mMd_add : ce_M yMd_add cMd_add 4 (some .int) 3 := ⟨ce_in (List.mem_append_right _ (List.mem_of_getElem? (i := 389) (by decide +kernel))) rfl, iniMd, by decide +kernel⟩
theorem iMd_add : Cond.instanceMethod yMd_add ∈ ce_W ∧ Cond.selects RMd yMd_add yMd_add ∈ ce_W := ⟨ce_in (List.mem_append_right _ (List.mem_of_getElem? (i := 387) (by decide +kernel))) rfl, ce_in (List.mem_append_right _ (List.mem_of_getElem? (i := 388) (by decide +kernel))) rfl⟩
theorem mMd_in : ce_M yMd_in cMd_in 2 (some .boolean) 2 := ⟨ce_in (List.mem_append_right _ (List.mem_of_getElem? (i := 392) (by decide +kernel))) rfl, iniMd, by decide +kernel⟩
theorem sMd_in : Cond.static yMd_in ∈ ce_W := ce_in (List.mem_append_right _ (List.mem_of_getElem? (i := 391) (by decide +kernel))) rfl
theorem mMd_forget : ce_M yMd_forget cMd_forget 3 none 1 := ⟨ce_in (List.mem_append_right _ (List.mem_of_getElem? (i := 396) (by decide +kernel))) rfl, iniMd, by decide +kernel⟩
theorem iMd_forget : Cond.instanceMethod yMd_forget ∈ ce_W ∧ Cond.selects RMd yMd_forget yMd_forget ∈ ce_W := ⟨ce_in (List.mem_append_right _ (List.mem_of_getElem? (i := 395) (by decide +kernel))) rfl, ce_in (List.mem_append_left _ (List.mem_of_getElem? (i := 21) (by decide +kernel))) rfl⟩
theorem mMd_clear : ce_M yMd_clear cMd_clear 2 (some .int) 1 := ⟨ce_in (List.mem_append_right _ (List.mem_of_getElem? (i := 400) (by decide +kernel))) rfl, iniMd, by decide +kernel⟩
theorem iMd_clear : Cond.instanceMethod yMd_clear ∈ ce_W ∧ Cond.selects RMd yMd_clear yMd_clear ∈ ce_W := ⟨ce_in (List.mem_append_right _ (List.mem_of_getElem? (i := 398) (by decide +kernel))) rfl, ce_in (List.mem_append_right _ (List.mem_of_getElem? (i := 399) (by decide +kernel))) rfl⟩
theorem mMd_run : ce_M yMd_run cMd_run 3 (some .int) 2 := ⟨ce_in (List.mem_append_right _ (List.mem_of_getElem? (i := 404) (by decide +kernel))) rfl, iniMd, by decide +kernel⟩
theorem iMd_run : Cond.instanceMethod yMd_run ∈ ce_W ∧ Cond.selects RMd yMd_run yMd_run ∈ ce_W := ⟨ce_in (List.mem_append_right _ (List.mem_of_getElem? (i := 402) (by decide +kernel))) rfl, ce_in (List.mem_append_right _ (List.mem_of_getElem? (i := 403) (by decide +kernel))) rfl⟩
theorem mMd_perform : ce_M yMd_perform cMd_perform 6 (some .int) 2 := ⟨ce_in (List.mem_append_right _ (List.mem_of_getElem? (i := 408) (by decide +kernel))) rfl, iniMd, by decide +kernel⟩
theorem iMd_perform : Cond.instanceMethod yMd_perform ∈ ce_W ∧ Cond.selects RMd yMd_perform yMd_perform ∈ ce_W := ⟨ce_in (List.mem_append_right _ (List.mem_of_getElem? (i := 407) (by decide +kernel))) rfl, ce_in (List.mem_append_left _ (List.mem_of_getElem? (i := 22) (by decide +kernel))) rfl⟩
theorem mMd_leave : ce_M yMd_leave cMd_leave 4 none 0 := ⟨ce_in (List.mem_append_right _ (List.mem_of_getElem? (i := 413) (by decide +kernel))) rfl, iniMd, by decide +kernel⟩
theorem iMd_leave : Cond.instanceMethod yMd_leave ∈ ce_W ∧ Cond.selects RMd yMd_leave yMd_leave ∈ ce_W := ⟨ce_in (List.mem_append_right _ (List.mem_of_getElem? (i := 412) (by decide +kernel))) rfl, ce_in (List.mem_append_left _ (List.mem_of_getElem? (i := 23) (by decide +kernel))) rfl⟩
theorem mMd_kOf : ce_M yMd_kOf cMd_kOf 2 (some .int) 1 := ⟨ce_in (List.mem_append_right _ (List.mem_of_getElem? (i := 417) (by decide +kernel))) rfl, iniMd, by decide +kernel⟩
theorem iMd_kOf : Cond.instanceMethod yMd_kOf ∈ ce_W ∧ Cond.selects RMd yMd_kOf yMd_kOf ∈ ce_W := ⟨ce_in (List.mem_append_right _ (List.mem_of_getElem? (i := 416) (by decide +kernel))) rfl, ce_in (List.mem_append_left _ (List.mem_of_getElem? (i := 24) (by decide +kernel))) rfl⟩
theorem mMd_takes : ce_M yMd_takes cMd_takes 2 (some .boolean) 2 := ⟨ce_in (List.mem_append_right _ (List.mem_of_getElem? (i := 420) (by decide +kernel))) rfl, iniMd, by decide +kernel⟩
theorem sMd_takes : Cond.static yMd_takes ∈ ce_W := ce_in (List.mem_append_right _ (List.mem_of_getElem? (i := 419) (by decide +kernel))) rfl
theorem mMd_raise : ce_M yMd_raise cMd_raise 3 none 2 := ⟨ce_in (List.mem_append_right _ (List.mem_of_getElem? (i := 424) (by decide +kernel))) rfl, iniMd, by decide +kernel⟩
theorem iMd_raise : Cond.instanceMethod yMd_raise ∈ ce_W ∧ Cond.selects RMd yMd_raise yMd_raise ∈ ce_W := ⟨ce_in (List.mem_append_right _ (List.mem_of_getElem? (i := 423) (by decide +kernel))) rfl, ce_in (List.mem_append_left _ (List.mem_of_getElem? (i := 25) (by decide +kernel))) rfl⟩
theorem mMd_step : ce_M yMd_step cMd_step 5 none 1 := ⟨ce_in (List.mem_append_right _ (List.mem_of_getElem? (i := 428) (by decide +kernel))) rfl, iniMd, by decide +kernel⟩
theorem iMd_step : Cond.instanceMethod yMd_step ∈ ce_W ∧ Cond.selects RMd yMd_step yMd_step ∈ ce_W := ⟨ce_in (List.mem_append_right _ (List.mem_of_getElem? (i := 427) (by decide +kernel))) rfl, ce_in (List.mem_append_left _ (List.mem_of_getElem? (i := 26) (by decide +kernel))) rfl⟩
theorem mMd_enter : ce_M yMd_enter cMd_enter 7 none 2 := ⟨ce_in (List.mem_append_right _ (List.mem_of_getElem? (i := 432) (by decide +kernel))) rfl, iniMd, by decide +kernel⟩
theorem iMd_enter : Cond.instanceMethod yMd_enter ∈ ce_W ∧ Cond.selects RMd yMd_enter yMd_enter ∈ ce_W := ⟨ce_in (List.mem_append_right _ (List.mem_of_getElem? (i := 431) (by decide +kernel))) rfl, ce_in (List.mem_append_left _ (List.mem_of_getElem? (i := 27) (by decide +kernel))) rfl⟩
theorem mMd_act : ce_M yMd_act cMd_act 5 none 4 := ⟨ce_in (List.mem_append_right _ (List.mem_of_getElem? (i := 436) (by decide +kernel))) rfl, iniMd, by decide +kernel⟩
theorem iMd_act : Cond.instanceMethod yMd_act ∈ ce_W ∧ Cond.selects RMd yMd_act yMd_act ∈ ce_W := ⟨ce_in (List.mem_append_right _ (List.mem_of_getElem? (i := 435) (by decide +kernel))) rfl, ce_in (List.mem_append_left _ (List.mem_of_getElem? (i := 28) (by decide +kernel))) rfl⟩
theorem mMd_divide : ce_M yMd_divide cMd_divide 3 none 2 := ⟨ce_in (List.mem_append_right _ (List.mem_of_getElem? (i := 440) (by decide +kernel))) rfl, iniMd, by decide +kernel⟩
theorem iMd_divide : Cond.instanceMethod yMd_divide ∈ ce_W ∧ Cond.selects RMd yMd_divide yMd_divide ∈ ce_W := ⟨ce_in (List.mem_append_right _ (List.mem_of_getElem? (i := 439) (by decide +kernel))) rfl, ce_in (List.mem_append_left _ (List.mem_of_getElem? (i := 29) (by decide +kernel))) rfl⟩
theorem mMd_touch : ce_M yMd_touch cMd_touch 3 none 2 := ⟨ce_in (List.mem_append_right _ (List.mem_of_getElem? (i := 444) (by decide +kernel))) rfl, iniMd, by decide +kernel⟩
theorem iMd_touch : Cond.instanceMethod yMd_touch ∈ ce_W ∧ Cond.selects RMd yMd_touch yMd_touch ∈ ce_W := ⟨ce_in (List.mem_append_right _ (List.mem_of_getElem? (i := 443) (by decide +kernel))) rfl, ce_in (List.mem_append_left _ (List.mem_of_getElem? (i := 30) (by decide +kernel))) rfl⟩
theorem mMd_interrupted : ce_M yMd_interrupted cMd_interrupted 1 none 0 := ⟨ce_in (List.mem_append_right _ (List.mem_of_getElem? (i := 448) (by decide +kernel))) rfl, iniMd, by decide +kernel⟩
theorem iMd_interrupted : Cond.instanceMethod yMd_interrupted ∈ ce_W ∧ Cond.selects RMd yMd_interrupted yMd_interrupted ∈ ce_W := ⟨ce_in (List.mem_append_right _ (List.mem_of_getElem? (i := 447) (by decide +kernel))) rfl, ce_in (List.mem_append_left _ (List.mem_of_getElem? (i := 31) (by decide +kernel))) rfl⟩
theorem mMd_runAll : ce_M yMd_runAll cMd_runAll 4 (some .int) 1 := ⟨ce_in (List.mem_append_right _ (List.mem_of_getElem? (i := 452) (by decide +kernel))) rfl, iniMd, by decide +kernel⟩
theorem iMd_runAll : Cond.instanceMethod yMd_runAll ∈ ce_W ∧ Cond.selects RMd yMd_runAll yMd_runAll ∈ ce_W := ⟨ce_in (List.mem_append_right _ (List.mem_of_getElem? (i := 450) (by decide +kernel))) rfl, ce_in (List.mem_append_right _ (List.mem_of_getElem? (i := 451) (by decide +kernel))) rfl⟩
theorem mMd_told : ce_M yMd_told cMd_told 3 (some .int) 2 := ⟨ce_in (List.mem_append_right _ (List.mem_of_getElem? (i := 456) (by decide +kernel))) rfl, iniMd, by decide +kernel⟩
theorem iMd_told : Cond.instanceMethod yMd_told ∈ ce_W ∧ Cond.selects RMd yMd_told yMd_told ∈ ce_W := ⟨ce_in (List.mem_append_right _ (List.mem_of_getElem? (i := 454) (by decide +kernel))) rfl, ce_in (List.mem_append_right _ (List.mem_of_getElem? (i := 455) (by decide +kernel))) rfl⟩
theorem mMd_cell : ce_M yMd_cell cMd_cell 3 (some .int) 2 := ⟨ce_in (List.mem_append_right _ (List.mem_of_getElem? (i := 460) (by decide +kernel))) rfl, iniMd, by decide +kernel⟩
theorem iMd_cell : Cond.instanceMethod yMd_cell ∈ ce_W ∧ Cond.selects RMd yMd_cell yMd_cell ∈ ce_W := ⟨ce_in (List.mem_append_right _ (List.mem_of_getElem? (i := 458) (by decide +kernel))) rfl, ce_in (List.mem_append_right _ (List.mem_of_getElem? (i := 459) (by decide +kernel))) rfl⟩
theorem mMd_counter : ce_M yMd_counter cMd_counter 1 (some .long) 0 := ⟨ce_in (List.mem_append_right _ (List.mem_of_getElem? (i := 464) (by decide +kernel))) rfl, iniMd, by decide +kernel⟩
theorem iMd_counter : Cond.instanceMethod yMd_counter ∈ ce_W ∧ Cond.selects RMd yMd_counter yMd_counter ∈ ce_W := ⟨ce_in (List.mem_append_right _ (List.mem_of_getElem? (i := 462) (by decide +kernel))) rfl, ce_in (List.mem_append_right _ (List.mem_of_getElem? (i := 463) (by decide +kernel))) rfl⟩
theorem mMd_count : ce_M yMd_count cMd_count 2 (some .int) 1 := ⟨ce_in (List.mem_append_right _ (List.mem_of_getElem? (i := 468) (by decide +kernel))) rfl, iniMd, by decide +kernel⟩
theorem iMd_count : Cond.instanceMethod yMd_count ∈ ce_W ∧ Cond.selects RMd yMd_count yMd_count ∈ ce_W := ⟨ce_in (List.mem_append_right _ (List.mem_of_getElem? (i := 466) (by decide +kernel))) rfl, ce_in (List.mem_append_right _ (List.mem_of_getElem? (i := 467) (by decide +kernel))) rfl⟩
theorem minI : Cond.initialized "java/lang/Math" ∈ ce_W := ce_in (List.mem_append_right _ (List.mem_of_getElem? (i := 5) (by decide +kernel))) rfl
theorem lEx_1 : Cond.methodLink REx 1 objectInit ∈ ce_W := ce_in (List.mem_append_right _ (List.mem_of_getElem? (i := 11) (by decide +kernel))) rfl
theorem objI : Cond.instanceMethod objectInit ∈ ce_W := ce_in (List.mem_append_right _ (List.mem_of_getElem? (i := 12) (by decide +kernel))) rfl
theorem objC : Cond.code objectInit ⟨#[0xb1]⟩ 1 none ∈ ce_W := ce_in (List.mem_append_right _ (List.mem_of_getElem? (i := 13) (by decide +kernel))) rfl
theorem lPg_3 : Cond.methodLink RPg 3 objectInit ∈ ce_W := ce_in (List.mem_append_right _ (List.mem_of_getElem? (i := 22) (by decide +kernel))) rfl
theorem arr_int : Cond.arrayClass .int ∈ ce_W := ce_in (List.mem_append_right _ (List.mem_of_getElem? (i := 33) (by decide +kernel))) rfl
theorem lRn_3 : Cond.methodLink RRn 3 objectInit ∈ ce_W := ce_in (List.mem_append_right _ (List.mem_of_getElem? (i := 38) (by decide +kernel))) rfl
theorem minL : Cond.methodLink RPg 28 Lib.Math.min.name ∈ ce_W := ce_in (List.mem_append_right _ (List.mem_of_getElem? (i := 163) (by decide +kernel))) rfl
theorem minS : Cond.static Lib.Math.min.name ∈ ce_W := ce_in (List.mem_append_right _ (List.mem_of_getElem? (i := 164) (by decide +kernel))) rfl
theorem minC : Cond.code Lib.Math.min.name Lib.Math.min.code 2 (some .int) ∈ ce_W := ce_in (List.mem_append_right _ (List.mem_of_getElem? (i := 165) (by decide +kernel))) rfl
theorem lMd_1 : Cond.methodLink RMd 1 objectInit ∈ ce_W := ce_in (List.mem_append_right _ (List.mem_of_getElem? (i := 302) (by decide +kernel))) rfl
theorem arr_boolean : Cond.arrayClass .boolean ∈ ce_W := ce_in (List.mem_append_right _ (List.mem_of_getElem? (i := 385) (by decide +kernel))) rfl
theorem kMd_122 : Cond.constant RMd 122 100000 ∈ ce_W := ce_in (List.mem_append_right _ (List.mem_of_getElem? (i := 409) (by decide +kernel))) rfl
theorem lLw_7 : Cond.classLink RLw 7 REx ∈ ce_W := ce_in (List.mem_append_right _ (List.mem_of_getElem? (i := 6) (by decide +kernel))) rfl
theorem inEx : Cond.instantiable REx 6 ∈ ce_W := ce_in (List.mem_append_right _ (List.mem_of_getElem? (i := 7) (by decide +kernel))) rfl
theorem lLw_9 : Cond.methodLink RLw 9 yEx_init ∈ ce_W := ce_in (List.mem_append_right _ (List.mem_of_getElem? (i := 8) (by decide +kernel))) rfl
theorem lEx_9 : Cond.classLink REx 9 RPg ∈ ce_W := ce_in (List.mem_append_right _ (List.mem_of_getElem? (i := 14) (by decide +kernel))) rfl
theorem lEx_15 : Cond.classLink REx 15 RRn ∈ ce_W := ce_in (List.mem_append_right _ (List.mem_of_getElem? (i := 16) (by decide +kernel))) rfl
theorem inPg : Cond.instantiable RPg 3 ∈ ce_W := ce_in (List.mem_append_right _ (List.mem_of_getElem? (i := 18) (by decide +kernel))) rfl
theorem lPg_9 : Cond.fieldLink RPg 9 RPg "ops" "[I" ∈ ce_W := ce_in (List.mem_append_right _ (List.mem_of_getElem? (i := 23) (by decide +kernel))) rfl
theorem lPg_15 : Cond.fieldLink RPg 15 RPg "arguments" "[I" ∈ ce_W := ce_in (List.mem_append_right _ (List.mem_of_getElem? (i := 24) (by decide +kernel))) rfl
theorem lPg_18 : Cond.fieldLink RPg 18 RPg "size" "I" ∈ ce_W := ce_in (List.mem_append_right _ (List.mem_of_getElem? (i := 25) (by decide +kernel))) rfl
theorem inRn : Cond.instantiable RRn 14 ∈ ce_W := ce_in (List.mem_append_right _ (List.mem_of_getElem? (i := 34) (by decide +kernel))) rfl
theorem lEx_22 : Cond.methodLink REx 22 yRn_init ∈ ce_W := ce_in (List.mem_append_right _ (List.mem_of_getElem? (i := 35) (by decide +kernel))) rfl
theorem lRn_18 : Cond.fieldLink RRn 18 RRn "program" "LCaseExecutor$Program;" ∈ ce_W := ce_in (List.mem_append_right _ (List.mem_of_getElem? (i := 39) (by decide +kernel))) rfl
theorem lRn_11 : Cond.fieldLink RRn 11 RRn "cells" "[I" ∈ ce_W := ce_in (List.mem_append_right _ (List.mem_of_getElem? (i := 40) (by decide +kernel))) rfl
theorem lRn_15 : Cond.fieldLink RRn 15 RRn "holds" "[I" ∈ ce_W := ce_in (List.mem_append_right _ (List.mem_of_getElem? (i := 41) (by decide +kernel))) rfl
theorem lRn_26 : Cond.fieldLink RRn 26 RRn "known" "Z" ∈ ce_W := ce_in (List.mem_append_right _ (List.mem_of_getElem? (i := 42) (by decide +kernel))) rfl
theorem lRn_76 : Cond.fieldLink RRn 76 RRn "name" "I" ∈ ce_W := ce_in (List.mem_append_right _ (List.mem_of_getElem? (i := 43) (by decide +kernel))) rfl
theorem lRn_42 : Cond.fieldLink RRn 42 RRn "accumulator" "I" ∈ ce_W := ce_in (List.mem_append_right _ (List.mem_of_getElem? (i := 44) (by decide +kernel))) rfl
theorem lRn_45 : Cond.fieldLink RRn 45 RRn "steps" "I" ∈ ce_W := ce_in (List.mem_append_right _ (List.mem_of_getElem? (i := 45) (by decide +kernel))) rfl
theorem lRn_48 : Cond.fieldLink RRn 48 RRn "finals" "I" ∈ ce_W := ce_in (List.mem_append_right _ (List.mem_of_getElem? (i := 46) (by decide +kernel))) rfl
theorem lRn_51 : Cond.fieldLink RRn 51 RRn "catches" "I" ∈ ce_W := ce_in (List.mem_append_right _ (List.mem_of_getElem? (i := 47) (by decide +kernel))) rfl
theorem lRn_60 : Cond.fieldLink RRn 60 RRn "marked" "Z" ∈ ce_W := ce_in (List.mem_append_right _ (List.mem_of_getElem? (i := 48) (by decide +kernel))) rfl
theorem lRn_34 : Cond.fieldLink RRn 34 RRn "counted" "J" ∈ ce_W := ce_in (List.mem_append_right _ (List.mem_of_getElem? (i := 49) (by decide +kernel))) rfl
theorem lRn_30 : Cond.fieldLink RRn 30 RRn "trouble" "I" ∈ ce_W := ce_in (List.mem_append_right _ (List.mem_of_getElem? (i := 50) (by decide +kernel))) rfl
theorem lRn_54 : Cond.fieldLink RRn 54 RRn "troubleAction" "I" ∈ ce_W := ce_in (List.mem_append_right _ (List.mem_of_getElem? (i := 51) (by decide +kernel))) rfl
theorem lRn_57 : Cond.fieldLink RRn 57 RRn "ownNumber" "I" ∈ ce_W := ce_in (List.mem_append_right _ (List.mem_of_getElem? (i := 52) (by decide +kernel))) rfl
theorem lEx_11 : Cond.fieldLink REx 11 REx "programs" "[LCaseExecutor$Program;" ∈ ce_W := ce_in (List.mem_append_right _ (List.mem_of_getElem? (i := 82) (by decide +kernel))) rfl
theorem lEx_17 : Cond.fieldLink REx 17 REx "latest" "[LCaseExecutor$Run;" ∈ ce_W := ce_in (List.mem_append_right _ (List.mem_of_getElem? (i := 83) (by decide +kernel))) rfl
theorem lEx_61 : Cond.fieldLink REx 61 REx "theCounter" "J" ∈ ce_W := ce_in (List.mem_append_right _ (List.mem_of_getElem? (i := 84) (by decide +kernel))) rfl
theorem lEx_65 : Cond.fieldLink REx 65 REx "runs" "I" ∈ ce_W := ce_in (List.mem_append_right _ (List.mem_of_getElem? (i := 85) (by decide +kernel))) rfl
theorem lEx_69 : Cond.fieldLink REx 69 REx "threadRuns" "I" ∈ ce_W := ce_in (List.mem_append_right _ (List.mem_of_getElem? (i := 86) (by decide +kernel))) rfl
theorem lEx_72 : Cond.fieldLink REx 72 REx "troubledRuns" "I" ∈ ce_W := ce_in (List.mem_append_right _ (List.mem_of_getElem? (i := 87) (by decide +kernel))) rfl
theorem lLw_13 : Cond.methodLink RLw 13 yEx_add ∈ ce_W := ce_in (List.mem_append_right _ (List.mem_of_getElem? (i := 101) (by decide +kernel))) rfl
theorem lEx_25 : Cond.methodLink REx 25 yEx_isProgram ∈ ce_W := ce_in (List.mem_append_right _ (List.mem_of_getElem? (i := 105) (by decide +kernel))) rfl
theorem lEx_29 : Cond.methodLink REx 29 yEx_isWithin ∈ ce_W := ce_in (List.mem_append_right _ (List.mem_of_getElem? (i := 108) (by decide +kernel))) rfl
theorem lEx_33 : Cond.methodLink REx 33 yPg_append ∈ ce_W := ce_in (List.mem_append_right _ (List.mem_of_getElem? (i := 111) (by decide +kernel))) rfl
theorem lEx_37 : Cond.methodLink REx 37 yRn_forget ∈ ce_W := ce_in (List.mem_append_right _ (List.mem_of_getElem? (i := 115) (by decide +kernel))) rfl
theorem lLw_18 : Cond.methodLink RLw 18 yEx_clear ∈ ce_W := ce_in (List.mem_append_right _ (List.mem_of_getElem? (i := 119) (by decide +kernel))) rfl
theorem lEx_40 : Cond.methodLink REx 40 yPg_empty ∈ ce_W := ce_in (List.mem_append_right _ (List.mem_of_getElem? (i := 123) (by decide +kernel))) rfl
theorem lLw_23 : Cond.methodLink RLw 23 yEx_run ∈ ce_W := ce_in (List.mem_append_right _ (List.mem_of_getElem? (i := 127) (by decide +kernel))) rfl
theorem lEx_43 : Cond.methodLink REx 43 yEx_perform ∈ ce_W := ce_in (List.mem_append_right _ (List.mem_of_getElem? (i := 131) (by decide +kernel))) rfl
theorem lEx_79 : Cond.methodLink REx 79 yRn_perform ∈ ce_W := ce_in (List.mem_append_right _ (List.mem_of_getElem? (i := 135) (by decide +kernel))) rfl
theorem lRn_63 : Cond.methodLink RRn 63 yRn_begin ∈ ce_W := ce_in (List.mem_append_right _ (List.mem_of_getElem? (i := 139) (by decide +kernel))) rfl
theorem lRn_79 : Cond.methodLink RRn 79 yRn_forgetTrouble ∈ ce_W := ce_in (List.mem_append_right _ (List.mem_of_getElem? (i := 143) (by decide +kernel))) rfl
theorem lRn_67 : Cond.methodLink RRn 67 yPg_size ∈ ce_W := ce_in (List.mem_append_right _ (List.mem_of_getElem? (i := 147) (by decide +kernel))) rfl
theorem lRn_72 : Cond.methodLink RRn 72 yRn_doActions ∈ ce_W := ce_in (List.mem_append_right _ (List.mem_of_getElem? (i := 151) (by decide +kernel))) rfl
theorem lRn_82 : Cond.methodLink RRn 82 yPg_blockLength ∈ ce_W := ce_in (List.mem_append_right _ (List.mem_of_getElem? (i := 155) (by decide +kernel))) rfl
theorem lPg_24 : Cond.methodLink RPg 24 yPg_low ∈ ce_W := ce_in (List.mem_append_right _ (List.mem_of_getElem? (i := 159) (by decide +kernel))) rfl
theorem lRn_86 : Cond.methodLink RRn 86 yRn_doAction ∈ ce_W := ce_in (List.mem_append_right _ (List.mem_of_getElem? (i := 166) (by decide +kernel))) rfl
theorem lRn_89 : Cond.methodLink RRn 89 yPg_value ∈ ce_W := ce_in (List.mem_append_right _ (List.mem_of_getElem? (i := 170) (by decide +kernel))) rfl
theorem lRn_93 : Cond.methodLink RRn 93 yPg_op ∈ ce_W := ce_in (List.mem_append_right _ (List.mem_of_getElem? (i := 174) (by decide +kernel))) rfl
theorem lRn_96 : Cond.methodLink RRn 96 yRn_become ∈ ce_W := ce_in (List.mem_append_right _ (List.mem_of_getElem? (i := 178) (by decide +kernel))) rfl
theorem lRn_99 : Cond.methodLink RRn 99 yRn_comesUp ∈ ce_W := ce_in (List.mem_append_right _ (List.mem_of_getElem? (i := 182) (by decide +kernel))) rfl
theorem lRn_102 : Cond.methodLink RRn 102 yRn_isCell ∈ ce_W := ce_in (List.mem_append_right _ (List.mem_of_getElem? (i := 186) (by decide +kernel))) rfl
theorem lRn_106 : Cond.methodLink RRn 106 yRn_doKeep ∈ ce_W := ce_in (List.mem_append_right _ (List.mem_of_getElem? (i := 190) (by decide +kernel))) rfl
theorem lRn_109 : Cond.methodLink RRn 109 yRn_doBreak ∈ ce_W := ce_in (List.mem_append_right _ (List.mem_of_getElem? (i := 194) (by decide +kernel))) rfl
theorem lRn_145 : Cond.methodLink RRn 145 yPg_high ∈ ce_W := ce_in (List.mem_append_right _ (List.mem_of_getElem? (i := 198) (by decide +kernel))) rfl
theorem lRn_154 : Cond.methodLink RRn 154 yPg_low ∈ ce_W := ce_in (List.mem_append_right _ (List.mem_of_getElem? (i := 202) (by decide +kernel))) rfl
theorem lRn_112 : Cond.methodLink RRn 112 yRn_doThrow ∈ ce_W := ce_in (List.mem_append_right _ (List.mem_of_getElem? (i := 203) (by decide +kernel))) rfl
theorem lRn_151 : Cond.methodLink RRn 151 yRn_ownComesUp ∈ ce_W := ce_in (List.mem_append_right _ (List.mem_of_getElem? (i := 207) (by decide +kernel))) rfl
theorem lRn_115 : Cond.methodLink RRn 115 yRn_doInterrupt ∈ ce_W := ce_in (List.mem_append_right _ (List.mem_of_getElem? (i := 211) (by decide +kernel))) rfl
theorem lRn_118 : Cond.methodLink RRn 118 yRn_doLook ∈ ce_W := ce_in (List.mem_append_right _ (List.mem_of_getElem? (i := 215) (by decide +kernel))) rfl
theorem lRn_121 : Cond.methodLink RRn 121 yRn_doCatch ∈ ce_W := ce_in (List.mem_append_right _ (List.mem_of_getElem? (i := 219) (by decide +kernel))) rfl
theorem lRn_148 : Cond.methodLink RRn 148 yRn_takes ∈ ce_W := ce_in (List.mem_append_right _ (List.mem_of_getElem? (i := 223) (by decide +kernel))) rfl
theorem lRn_124 : Cond.methodLink RRn 124 yRn_doFinally ∈ ce_W := ce_in (List.mem_append_right _ (List.mem_of_getElem? (i := 226) (by decide +kernel))) rfl
theorem lRn_127 : Cond.methodLink RRn 127 yRn_doDrop ∈ ce_W := ce_in (List.mem_append_right _ (List.mem_of_getElem? (i := 230) (by decide +kernel))) rfl
theorem lRn_130 : Cond.methodLink RRn 130 yRn_doHold ∈ ce_W := ce_in (List.mem_append_right _ (List.mem_of_getElem? (i := 234) (by decide +kernel))) rfl
theorem lRn_133 : Cond.methodLink RRn 133 yRn_doRepeat ∈ ce_W := ce_in (List.mem_append_right _ (List.mem_of_getElem? (i := 238) (by decide +kernel))) rfl
theorem lRn_136 : Cond.methodLink RRn 136 yRn_isHeld ∈ ce_W := ce_in (List.mem_append_right _ (List.mem_of_getElem? (i := 242) (by decide +kernel))) rfl
theorem lRn_139 : Cond.methodLink RRn 139 yRn_doSleep ∈ ce_W := ce_in (List.mem_append_right _ (List.mem_of_getElem? (i := 246) (by decide +kernel))) rfl
theorem lRn_142 : Cond.methodLink RRn 142 yRn_doCount ∈ ce_W := ce_in (List.mem_append_right _ (List.mem_of_getElem? (i := 250) (by decide +kernel))) rfl
theorem lEx_82 : Cond.methodLink REx 82 yRn_outcome ∈ ce_W := ce_in (List.mem_append_right _ (List.mem_of_getElem? (i := 254) (by decide +kernel))) rfl
theorem lEx_85 : Cond.methodLink REx 85 yRn_counted ∈ ce_W := ce_in (List.mem_append_right _ (List.mem_of_getElem? (i := 258) (by decide +kernel))) rfl
theorem lLw_28 : Cond.methodLink RLw 28 yEx_runAll ∈ ce_W := ce_in (List.mem_append_right _ (List.mem_of_getElem? (i := 262) (by decide +kernel))) rfl
theorem lLw_32 : Cond.methodLink RLw 32 yEx_told ∈ ce_W := ce_in (List.mem_append_right _ (List.mem_of_getElem? (i := 266) (by decide +kernel))) rfl
theorem lEx_47 : Cond.methodLink REx 47 yRn_isKnown ∈ ce_W := ce_in (List.mem_append_right _ (List.mem_of_getElem? (i := 270) (by decide +kernel))) rfl
theorem lEx_51 : Cond.methodLink REx 51 yRn_tell ∈ ce_W := ce_in (List.mem_append_right _ (List.mem_of_getElem? (i := 274) (by decide +kernel))) rfl
theorem lRn_38 : Cond.methodLink RRn 38 yRn_outcome ∈ ce_W := ce_in (List.mem_append_right _ (List.mem_of_getElem? (i := 278) (by decide +kernel))) rfl
theorem lLw_37 : Cond.methodLink RLw 37 yEx_cell ∈ ce_W := ce_in (List.mem_append_right _ (List.mem_of_getElem? (i := 279) (by decide +kernel))) rfl
theorem lEx_55 : Cond.methodLink REx 55 yRn_isCell ∈ ce_W := ce_in (List.mem_append_right _ (List.mem_of_getElem? (i := 283) (by decide +kernel))) rfl
theorem lEx_58 : Cond.methodLink REx 58 yRn_cellAtEnd ∈ ce_W := ce_in (List.mem_append_right _ (List.mem_of_getElem? (i := 284) (by decide +kernel))) rfl
theorem lLw_41 : Cond.methodLink RLw 41 yEx_counter ∈ ce_W := ce_in (List.mem_append_right _ (List.mem_of_getElem? (i := 288) (by decide +kernel))) rfl
theorem lLw_46 : Cond.methodLink RLw 46 yEx_count ∈ ce_W := ce_in (List.mem_append_right _ (List.mem_of_getElem? (i := 292) (by decide +kernel))) rfl
theorem lEx_75 : Cond.methodLink REx 75 yPg_size ∈ ce_W := ce_in (List.mem_append_right _ (List.mem_of_getElem? (i := 296) (by decide +kernel))) rfl
theorem lLw_10 : Cond.classLink RLw 10 RMd ∈ ce_W := ce_in (List.mem_append_right _ (List.mem_of_getElem? (i := 297) (by decide +kernel))) rfl
theorem inMd : Cond.instantiable RMd 27 ∈ ce_W := ce_in (List.mem_append_right _ (List.mem_of_getElem? (i := 298) (by decide +kernel))) rfl
theorem lLw_12 : Cond.methodLink RLw 12 yMd_init ∈ ce_W := ce_in (List.mem_append_right _ (List.mem_of_getElem? (i := 299) (by decide +kernel))) rfl
theorem lMd_7 : Cond.fieldLink RMd 7 RMd "op" "[I" ∈ ce_W := ce_in (List.mem_append_right _ (List.mem_of_getElem? (i := 303) (by decide +kernel))) rfl
theorem lMd_13 : Cond.fieldLink RMd 13 RMd "argument" "[I" ∈ ce_W := ce_in (List.mem_append_right _ (List.mem_of_getElem? (i := 304) (by decide +kernel))) rfl
theorem lMd_16 : Cond.fieldLink RMd 16 RMd "size" "[I" ∈ ce_W := ce_in (List.mem_append_right _ (List.mem_of_getElem? (i := 305) (by decide +kernel))) rfl
theorem lMd_19 : Cond.fieldLink RMd 19 RMd "told" "[I" ∈ ce_W := ce_in (List.mem_append_right _ (List.mem_of_getElem? (i := 306) (by decide +kernel))) rfl
theorem lMd_22 : Cond.fieldLink RMd 22 RMd "cells" "[I" ∈ ce_W := ce_in (List.mem_append_right _ (List.mem_of_getElem? (i := 307) (by decide +kernel))) rfl
theorem lMd_25 : Cond.fieldLink RMd 25 RMd "ran" "[Z" ∈ ce_W := ce_in (List.mem_append_right _ (List.mem_of_getElem? (i := 308) (by decide +kernel))) rfl
theorem lMd_108 : Cond.fieldLink RMd 108 RMd "counter" "J" ∈ ce_W := ce_in (List.mem_append_right _ (List.mem_of_getElem? (i := 309) (by decide +kernel))) rfl
theorem lMd_130 : Cond.fieldLink RMd 130 RMd "runs" "I" ∈ ce_W := ce_in (List.mem_append_right _ (List.mem_of_getElem? (i := 310) (by decide +kernel))) rfl
theorem lMd_133 : Cond.fieldLink RMd 133 RMd "threads" "I" ∈ ce_W := ce_in (List.mem_append_right _ (List.mem_of_getElem? (i := 311) (by decide +kernel))) rfl
theorem lMd_136 : Cond.fieldLink RMd 136 RMd "troubled" "I" ∈ ce_W := ce_in (List.mem_append_right _ (List.mem_of_getElem? (i := 312) (by decide +kernel))) rfl
theorem lMd_29 : Cond.fieldLink RMd 29 RMd "block" "[I" ∈ ce_W := ce_in (List.mem_append_right _ (List.mem_of_getElem? (i := 313) (by decide +kernel))) rfl
theorem lMd_32 : Cond.fieldLink RMd 32 RMd "end" "[I" ∈ ce_W := ce_in (List.mem_append_right _ (List.mem_of_getElem? (i := 314) (by decide +kernel))) rfl
theorem lMd_35 : Cond.fieldLink RMd 35 RMd "left" "[I" ∈ ce_W := ce_in (List.mem_append_right _ (List.mem_of_getElem? (i := 315) (by decide +kernel))) rfl
theorem lMd_68 : Cond.fieldLink RMd 68 RMd "open" "I" ∈ ce_W := ce_in (List.mem_append_right _ (List.mem_of_getElem? (i := 316) (by decide +kernel))) rfl
theorem lMd_38 : Cond.fieldLink RMd 38 RMd "cell" "[I" ∈ ce_W := ce_in (List.mem_append_right _ (List.mem_of_getElem? (i := 317) (by decide +kernel))) rfl
theorem lMd_41 : Cond.fieldLink RMd 41 RMd "held" "[I" ∈ ce_W := ce_in (List.mem_append_right _ (List.mem_of_getElem? (i := 318) (by decide +kernel))) rfl
theorem lMd_65 : Cond.fieldLink RMd 65 RMd "program" "I" ∈ ce_W := ce_in (List.mem_append_right _ (List.mem_of_getElem? (i := 319) (by decide +kernel))) rfl
theorem lMd_59 : Cond.fieldLink RMd 59 RMd "at" "I" ∈ ce_W := ce_in (List.mem_append_right _ (List.mem_of_getElem? (i := 320) (by decide +kernel))) rfl
theorem lMd_78 : Cond.fieldLink RMd 78 RMd "accumulator" "I" ∈ ce_W := ce_in (List.mem_append_right _ (List.mem_of_getElem? (i := 321) (by decide +kernel))) rfl
theorem lMd_112 : Cond.fieldLink RMd 112 RMd "steps" "I" ∈ ce_W := ce_in (List.mem_append_right _ (List.mem_of_getElem? (i := 322) (by decide +kernel))) rfl
theorem lMd_75 : Cond.fieldLink RMd 75 RMd "finals" "I" ∈ ce_W := ce_in (List.mem_append_right _ (List.mem_of_getElem? (i := 323) (by decide +kernel))) rfl
theorem lMd_88 : Cond.fieldLink RMd 88 RMd "catches" "I" ∈ ce_W := ce_in (List.mem_append_right _ (List.mem_of_getElem? (i := 324) (by decide +kernel))) rfl
theorem lMd_52 : Cond.fieldLink RMd 52 RMd "trouble" "I" ∈ ce_W := ce_in (List.mem_append_right _ (List.mem_of_getElem? (i := 325) (by decide +kernel))) rfl
theorem lMd_56 : Cond.fieldLink RMd 56 RMd "number" "I" ∈ ce_W := ce_in (List.mem_append_right _ (List.mem_of_getElem? (i := 326) (by decide +kernel))) rfl
theorem lMd_62 : Cond.fieldLink RMd 62 RMd "origin" "I" ∈ ce_W := ce_in (List.mem_append_right _ (List.mem_of_getElem? (i := 327) (by decide +kernel))) rfl
theorem lMd_95 : Cond.fieldLink RMd 95 RMd "mark" "Z" ∈ ce_W := ce_in (List.mem_append_right _ (List.mem_of_getElem? (i := 328) (by decide +kernel))) rfl
theorem lMd_81 : Cond.fieldLink RMd 81 RMd "stopping" "Z" ∈ ce_W := ce_in (List.mem_append_right _ (List.mem_of_getElem? (i := 329) (by decide +kernel))) rfl
theorem lLw_17 : Cond.methodLink RLw 17 yMd_add ∈ ce_W := ce_in (List.mem_append_right _ (List.mem_of_getElem? (i := 386) (by decide +kernel))) rfl
theorem lMd_44 : Cond.methodLink RMd 44 yMd_in ∈ ce_W := ce_in (List.mem_append_right _ (List.mem_of_getElem? (i := 390) (by decide +kernel))) rfl
theorem lMd_48 : Cond.methodLink RMd 48 yMd_forget ∈ ce_W := ce_in (List.mem_append_right _ (List.mem_of_getElem? (i := 393) (by decide +kernel))) rfl
theorem lLw_22 : Cond.methodLink RLw 22 yMd_clear ∈ ce_W := ce_in (List.mem_append_right _ (List.mem_of_getElem? (i := 397) (by decide +kernel))) rfl
theorem lLw_27 : Cond.methodLink RLw 27 yMd_run ∈ ce_W := ce_in (List.mem_append_right _ (List.mem_of_getElem? (i := 401) (by decide +kernel))) rfl
theorem lMd_139 : Cond.methodLink RMd 139 yMd_perform ∈ ce_W := ce_in (List.mem_append_right _ (List.mem_of_getElem? (i := 405) (by decide +kernel))) rfl
theorem lMd_123 : Cond.methodLink RMd 123 yMd_leave ∈ ce_W := ce_in (List.mem_append_right _ (List.mem_of_getElem? (i := 410) (by decide +kernel))) rfl
theorem lMd_71 : Cond.methodLink RMd 71 yMd_kOf ∈ ce_W := ce_in (List.mem_append_right _ (List.mem_of_getElem? (i := 414) (by decide +kernel))) rfl
theorem lMd_85 : Cond.methodLink RMd 85 yMd_takes ∈ ce_W := ce_in (List.mem_append_right _ (List.mem_of_getElem? (i := 418) (by decide +kernel))) rfl
theorem lMd_91 : Cond.methodLink RMd 91 yMd_raise ∈ ce_W := ce_in (List.mem_append_right _ (List.mem_of_getElem? (i := 421) (by decide +kernel))) rfl
theorem lMd_126 : Cond.methodLink RMd 126 yMd_step ∈ ce_W := ce_in (List.mem_append_right _ (List.mem_of_getElem? (i := 425) (by decide +kernel))) rfl
theorem lMd_115 : Cond.methodLink RMd 115 yMd_enter ∈ ce_W := ce_in (List.mem_append_right _ (List.mem_of_getElem? (i := 429) (by decide +kernel))) rfl
theorem lMd_118 : Cond.methodLink RMd 118 yMd_act ∈ ce_W := ce_in (List.mem_append_right _ (List.mem_of_getElem? (i := 433) (by decide +kernel))) rfl
theorem lMd_98 : Cond.methodLink RMd 98 yMd_divide ∈ ce_W := ce_in (List.mem_append_right _ (List.mem_of_getElem? (i := 437) (by decide +kernel))) rfl
theorem lMd_102 : Cond.methodLink RMd 102 yMd_touch ∈ ce_W := ce_in (List.mem_append_right _ (List.mem_of_getElem? (i := 441) (by decide +kernel))) rfl
theorem lMd_105 : Cond.methodLink RMd 105 yMd_interrupted ∈ ce_W := ce_in (List.mem_append_right _ (List.mem_of_getElem? (i := 445) (by decide +kernel))) rfl
theorem lLw_31 : Cond.methodLink RLw 31 yMd_runAll ∈ ce_W := ce_in (List.mem_append_right _ (List.mem_of_getElem? (i := 449) (by decide +kernel))) rfl
theorem lLw_36 : Cond.methodLink RLw 36 yMd_told ∈ ce_W := ce_in (List.mem_append_right _ (List.mem_of_getElem? (i := 453) (by decide +kernel))) rfl
theorem lLw_40 : Cond.methodLink RLw 40 yMd_cell ∈ ce_W := ce_in (List.mem_append_right _ (List.mem_of_getElem? (i := 457) (by decide +kernel))) rfl
theorem lLw_45 : Cond.methodLink RLw 45 yMd_counter ∈ ce_W := ce_in (List.mem_append_right _ (List.mem_of_getElem? (i := 461) (by decide +kernel))) rfl
theorem lLw_49 : Cond.methodLink RLw 49 yMd_count ∈ ce_W := ce_in (List.mem_append_right _ (List.mem_of_getElem? (i := 465) (by decide +kernel))) rfl
