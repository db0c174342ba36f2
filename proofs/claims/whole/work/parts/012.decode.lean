theorem dPg_value_0 : decode cPg_value 0 = .ok (.aload_n 0, 1) := by decide +kernel
theorem dPg_value_1 : decode cPg_value 1 = .ok (.getfield 15, 3) := by decide +kernel
theorem dPg_value_4 : decode cPg_value 4 = .ok (.iload_n 1, 1) := by decide +kernel
theorem dPg_value_5 : decode cPg_value 5 = .ok (.iaload, 1) := by decide +kernel
theorem dPg_value_6 : decode cPg_value 6 = .ok (.bipush 100, 2) := by decide +kernel
theorem dPg_value_8 : decode cPg_value 8 = .ok (.isub, 1) := by decide +kernel
theorem dPg_value_9 : decode cPg_value 9 = .ok (.ireturn, 1) := by decide +kernel
theorem dPg_op_0 : decode cPg_op 0 = .ok (.aload_n 0, 1) := by decide +kernel
theorem dPg_op_1 : decode cPg_op 1 = .ok (.getfield 9, 3) := by decide +kernel
theorem dPg_op_4 : decode cPg_op 4 = .ok (.iload_n 1, 1) := by decide +kernel
theorem dPg_op_5 : decode cPg_op 5 = .ok (.iaload, 1) := by decide +kernel
theorem dPg_op_6 : decode cPg_op 6 = .ok (.ireturn, 1) := by decide +kernel
theorem dRn_become_0 : decode cRn_become 0 = .ok (.aload_n 0, 1) := by decide +kernel
theorem dRn_become_1 : decode cRn_become 1 = .ok (.iload_n 1, 1) := by decide +kernel
theorem dRn_become_2 : decode cRn_become 2 = .ok (.putfield 42, 3) := by decide +kernel
theorem dRn_become_5 : decode cRn_become 5 = .ok (.iconst 0, 1) := by decide +kernel
theorem dRn_become_6 : decode cRn_become 6 = .ok (.ireturn, 1) := by decide +kernel
theorem dRn_comesUp_0 : decode cRn_comesUp 0 = .ok (.aload_n 0, 1) := by decide +kernel
theorem dRn_comesUp_1 : decode cRn_comesUp 1 = .ok (.iload_n 2, 1) := by decide +kernel
theorem dRn_comesUp_2 : decode cRn_comesUp 2 = .ok (.putfield 30, 3) := by decide +kernel
theorem dRn_comesUp_5 : decode cRn_comesUp 5 = .ok (.aload_n 0, 1) := by decide +kernel
theorem dRn_comesUp_6 : decode cRn_comesUp 6 = .ok (.iload_n 1, 1) := by decide +kernel
theorem dRn_comesUp_7 : decode cRn_comesUp 7 = .ok (.putfield 54, 3) := by decide +kernel
theorem dRn_comesUp_10 : decode cRn_comesUp 10 = .ok (.aload_n 0, 1) := by decide +kernel
theorem dRn_comesUp_11 : decode cRn_comesUp 11 = .ok (.iconst (-1), 1) := by decide +kernel
theorem dRn_comesUp_12 : decode cRn_comesUp 12 = .ok (.putfield 57, 3) := by decide +kernel
theorem dRn_comesUp_15 : decode cRn_comesUp 15 = .ok (.iconst 2, 1) := by decide +kernel
theorem dRn_comesUp_16 : decode cRn_comesUp 16 = .ok (.ireturn, 1) := by decide +kernel
theorem dRn_isCell_0 : decode cRn_isCell 0 = .ok (.iload_n 0, 1) := by decide +kernel
theorem dRn_isCell_1 : decode cRn_isCell 1 = .ok (.bipush 7, 2) := by decide +kernel
theorem dRn_isCell_3 : decode cRn_isCell 3 = .ok (.invokestatic 22, 3) := by decide +kernel
theorem dRn_isCell_6 : decode cRn_isCell 6 = .ok (.ireturn, 1) := by decide +kernel
theorem dRn_doKeep_0 : decode cRn_doKeep 0 = .ok (.aload_n 0, 1) := by decide +kernel
theorem dRn_doKeep_1 : decode cRn_doKeep 1 = .ok (.getfield 18, 3) := by decide +kernel
theorem dRn_doKeep_4 : decode cRn_doKeep 4 = .ok (.iload_n 1, 1) := by decide +kernel
theorem dRn_doKeep_5 : decode cRn_doKeep 5 = .ok (.invokevirtual 89, 3) := by decide +kernel
theorem dRn_doKeep_8 : decode cRn_doKeep 8 = .ok (.istore_n 2, 1) := by decide +kernel
theorem dRn_doKeep_9 : decode cRn_doKeep 9 = .ok (.iload_n 2, 1) := by decide +kernel
theorem dRn_doKeep_10 : decode cRn_doKeep 10 = .ok (.invokestatic 102, 3) := by decide +kernel
theorem dRn_doKeep_13 : decode cRn_doKeep 13 = .ok (.ifCond .ne 10, 3) := by decide +kernel
theorem dRn_doKeep_16 : decode cRn_doKeep 16 = .ok (.aload_n 0, 1) := by decide +kernel
theorem dRn_doKeep_17 : decode cRn_doKeep 17 = .ok (.iload_n 1, 1) := by decide +kernel
theorem dRn_doKeep_18 : decode cRn_doKeep 18 = .ok (.iconst 1, 1) := by decide +kernel
theorem dRn_doKeep_19 : decode cRn_doKeep 19 = .ok (.invokevirtual 99, 3) := by decide +kernel
theorem dRn_doKeep_22 : decode cRn_doKeep 22 = .ok (.ireturn, 1) := by decide +kernel
theorem dRn_doKeep_23 : decode cRn_doKeep 23 = .ok (.aload_n 0, 1) := by decide +kernel
theorem dRn_doKeep_24 : decode cRn_doKeep 24 = .ok (.getfield 11, 3) := by decide +kernel
theorem dRn_doKeep_27 : decode cRn_doKeep 27 = .ok (.iload_n 2, 1) := by decide +kernel
theorem dRn_doKeep_28 : decode cRn_doKeep 28 = .ok (.aload_n 0, 1) := by decide +kernel
theorem dRn_doKeep_29 : decode cRn_doKeep 29 = .ok (.getfield 42, 3) := by decide +kernel
theorem dRn_doKeep_32 : decode cRn_doKeep 32 = .ok (.iastore, 1) := by decide +kernel
theorem dRn_doKeep_33 : decode cRn_doKeep 33 = .ok (.iconst 0, 1) := by decide +kernel
theorem dRn_doKeep_34 : decode cRn_doKeep 34 = .ok (.ireturn, 1) := by decide +kernel
theorem dRn_doBreak_0 : decode cRn_doBreak 0 = .ok (.aload_n 0, 1) := by decide +kernel
theorem dRn_doBreak_1 : decode cRn_doBreak 1 = .ok (.getfield 18, 3) := by decide +kernel
theorem dRn_doBreak_4 : decode cRn_doBreak 4 = .ok (.iload_n 1, 1) := by decide +kernel
theorem dRn_doBreak_5 : decode cRn_doBreak 5 = .ok (.invokevirtual 145, 3) := by decide +kernel
theorem dRn_doBreak_8 : decode cRn_doBreak 8 = .ok (.iconst 5, 1) := by decide +kernel
theorem dRn_doBreak_9 : decode cRn_doBreak 9 = .ok (.if_icmp .gt 17, 3) := by decide +kernel
theorem dRn_doBreak_12 : decode cRn_doBreak 12 = .ok (.aload_n 0, 1) := by decide +kernel
theorem dRn_doBreak_13 : decode cRn_doBreak 13 = .ok (.iload_n 1, 1) := by decide +kernel
theorem dRn_doBreak_14 : decode cRn_doBreak 14 = .ok (.aload_n 0, 1) := by decide +kernel
theorem dRn_doBreak_15 : decode cRn_doBreak 15 = .ok (.getfield 18, 3) := by decide +kernel
theorem dRn_doBreak_18 : decode cRn_doBreak 18 = .ok (.iload_n 1, 1) := by decide +kernel
theorem dRn_doBreak_19 : decode cRn_doBreak 19 = .ok (.invokevirtual 145, 3) := by decide +kernel
theorem dRn_doBreak_22 : decode cRn_doBreak 22 = .ok (.invokevirtual 99, 3) := by decide +kernel
theorem dRn_doBreak_25 : decode cRn_doBreak 25 = .ok (.ireturn, 1) := by decide +kernel
theorem dRn_doBreak_26 : decode cRn_doBreak 26 = .ok (.aload_n 0, 1) := by decide +kernel
theorem dRn_doBreak_27 : decode cRn_doBreak 27 = .ok (.aload_n 0, 1) := by decide +kernel
theorem dRn_doBreak_28 : decode cRn_doBreak 28 = .ok (.getfield 18, 3) := by decide +kernel
theorem dRn_doBreak_31 : decode cRn_doBreak 31 = .ok (.iload_n 1, 1) := by decide +kernel
theorem dRn_doBreak_32 : decode cRn_doBreak 32 = .ok (.invokevirtual 154, 3) := by decide +kernel
theorem dRn_doBreak_35 : decode cRn_doBreak 35 = .ok (.invokevirtual 96, 3) := by decide +kernel
theorem dRn_doBreak_38 : decode cRn_doBreak 38 = .ok (.ireturn, 1) := by decide +kernel
theorem dPg_high_0 : decode cPg_high 0 = .ok (.aload_n 0, 1) := by decide +kernel
theorem dPg_high_1 : decode cPg_high 1 = .ok (.getfield 15, 3) := by decide +kernel
theorem dPg_high_4 : decode cPg_high 4 = .ok (.iload_n 1, 1) := by decide +kernel
theorem dPg_high_5 : decode cPg_high 5 = .ok (.iaload, 1) := by decide +kernel
theorem dPg_high_6 : decode cPg_high 6 = .ok (.bipush 16, 2) := by decide +kernel
theorem dPg_high_8 : decode cPg_high 8 = .ok (.idiv, 1) := by decide +kernel
theorem dPg_high_9 : decode cPg_high 9 = .ok (.ireturn, 1) := by decide +kernel
theorem dRn_doThrow_0 : decode cRn_doThrow 0 = .ok (.aload_n 0, 1) := by decide +kernel
theorem dRn_doThrow_1 : decode cRn_doThrow 1 = .ok (.getfield 18, 3) := by decide +kernel
theorem dRn_doThrow_4 : decode cRn_doThrow 4 = .ok (.iload_n 1, 1) := by decide +kernel
theorem dRn_doThrow_5 : decode cRn_doThrow 5 = .ok (.invokevirtual 145, 3) := by decide +kernel
theorem dRn_doThrow_8 : decode cRn_doThrow 8 = .ok (.tableswitch 60 7 10 #[32, 32, 32, 46], 32) := by decide +kernel
theorem dRn_doThrow_40 : decode cRn_doThrow 40 = .ok (.aload_n 0, 1) := by decide +kernel
theorem dRn_doThrow_41 : decode cRn_doThrow 41 = .ok (.iload_n 1, 1) := by decide +kernel
theorem dRn_doThrow_42 : decode cRn_doThrow 42 = .ok (.aload_n 0, 1) := by decide +kernel
theorem dRn_doThrow_43 : decode cRn_doThrow 43 = .ok (.getfield 18, 3) := by decide +kernel
theorem dRn_doThrow_46 : decode cRn_doThrow 46 = .ok (.iload_n 1, 1) := by decide +kernel
theorem dRn_doThrow_47 : decode cRn_doThrow 47 = .ok (.invokevirtual 145, 3) := by decide +kernel
theorem dRn_doThrow_50 : decode cRn_doThrow 50 = .ok (.invokevirtual 99, 3) := by decide +kernel
theorem dRn_doThrow_53 : decode cRn_doThrow 53 = .ok (.ireturn, 1) := by decide +kernel
theorem dRn_doThrow_54 : decode cRn_doThrow 54 = .ok (.aload_n 0, 1) := by decide +kernel
theorem dRn_doThrow_55 : decode cRn_doThrow 55 = .ok (.iload_n 1, 1) := by decide +kernel
theorem dRn_doThrow_56 : decode cRn_doThrow 56 = .ok (.aload_n 0, 1) := by decide +kernel
theorem dRn_doThrow_57 : decode cRn_doThrow 57 = .ok (.getfield 18, 3) := by decide +kernel
theorem dRn_doThrow_60 : decode cRn_doThrow 60 = .ok (.iload_n 1, 1) := by decide +kernel
theorem dRn_doThrow_61 : decode cRn_doThrow 61 = .ok (.invokevirtual 154, 3) := by decide +kernel
theorem dRn_doThrow_64 : decode cRn_doThrow 64 = .ok (.invokevirtual 151, 3) := by decide +kernel
theorem dRn_doThrow_67 : decode cRn_doThrow 67 = .ok (.ireturn, 1) := by decide +kernel
theorem dRn_doThrow_68 : decode cRn_doThrow 68 = .ok (.iconst 0, 1) := by decide +kernel
theorem dRn_doThrow_69 : decode cRn_doThrow 69 = .ok (.ireturn, 1) := by decide +kernel
theorem dRn_ownComesUp_0 : decode cRn_ownComesUp 0 = .ok (.aload_n 0, 1) := by decide +kernel
theorem dRn_ownComesUp_1 : decode cRn_ownComesUp 1 = .ok (.bipush 10, 2) := by decide +kernel
theorem dRn_ownComesUp_3 : decode cRn_ownComesUp 3 = .ok (.putfield 30, 3) := by decide +kernel
theorem dRn_ownComesUp_6 : decode cRn_ownComesUp 6 = .ok (.aload_n 0, 1) := by decide +kernel
theorem dRn_ownComesUp_7 : decode cRn_ownComesUp 7 = .ok (.iload_n 1, 1) := by decide +kernel
theorem dRn_ownComesUp_8 : decode cRn_ownComesUp 8 = .ok (.putfield 54, 3) := by decide +kernel
theorem dRn_ownComesUp_11 : decode cRn_ownComesUp 11 = .ok (.aload_n 0, 1) := by decide +kernel
theorem dRn_ownComesUp_12 : decode cRn_ownComesUp 12 = .ok (.iload_n 2, 1) := by decide +kernel
theorem dRn_ownComesUp_13 : decode cRn_ownComesUp 13 = .ok (.putfield 57, 3) := by decide +kernel
theorem dRn_ownComesUp_16 : decode cRn_ownComesUp 16 = .ok (.iconst 2, 1) := by decide +kernel
theorem dRn_ownComesUp_17 : decode cRn_ownComesUp 17 = .ok (.ireturn, 1) := by decide +kernel
theorem dRn_doInterrupt_0 : decode cRn_doInterrupt 0 = .ok (.aload_n 0, 1) := by decide +kernel
theorem dRn_doInterrupt_1 : decode cRn_doInterrupt 1 = .ok (.iconst 1, 1) := by decide +kernel
theorem dRn_doInterrupt_2 : decode cRn_doInterrupt 2 = .ok (.putfield 60, 3) := by decide +kernel
theorem dRn_doInterrupt_5 : decode cRn_doInterrupt 5 = .ok (.iconst 0, 1) := by decide +kernel
theorem dRn_doInterrupt_6 : decode cRn_doInterrupt 6 = .ok (.ireturn, 1) := by decide +kernel
theorem dRn_doLook_0 : decode cRn_doLook 0 = .ok (.aload_n 0, 1) := by decide +kernel
theorem dRn_doLook_1 : decode cRn_doLook 1 = .ok (.aload_n 0, 1) := by decide +kernel
theorem dRn_doLook_2 : decode cRn_doLook 2 = .ok (.getfield 60, 3) := by decide +kernel
theorem dRn_doLook_5 : decode cRn_doLook 5 = .ok (.ifCond .eq 7, 3) := by decide +kernel
theorem dRn_doLook_8 : decode cRn_doLook 8 = .ok (.iconst 1, 1) := by decide +kernel
theorem dRn_doLook_9 : decode cRn_doLook 9 = .ok (.goto 4, 3) := by decide +kernel
theorem dRn_doLook_12 : decode cRn_doLook 12 = .ok (.iconst 0, 1) := by decide +kernel
theorem dRn_doLook_13 : decode cRn_doLook 13 = .ok (.putfield 42, 3) := by decide +kernel
theorem dRn_doLook_16 : decode cRn_doLook 16 = .ok (.aload_n 0, 1) := by decide +kernel
theorem dRn_doLook_17 : decode cRn_doLook 17 = .ok (.iconst 0, 1) := by decide +kernel
theorem dRn_doLook_18 : decode cRn_doLook 18 = .ok (.putfield 60, 3) := by decide +kernel
theorem dRn_doLook_21 : decode cRn_doLook 21 = .ok (.iconst 0, 1) := by decide +kernel
theorem dRn_doLook_22 : decode cRn_doLook 22 = .ok (.ireturn, 1) := by decide +kernel
theorem dRn_doCatch_0 : decode cRn_doCatch 0 = .ok (.aload_n 0, 1) := by decide +kernel
theorem dRn_doCatch_1 : decode cRn_doCatch 1 = .ok (.iload_n 1, 1) := by decide +kernel
theorem dRn_doCatch_2 : decode cRn_doCatch 2 = .ok (.iconst 1, 1) := by decide +kernel
theorem dRn_doCatch_3 : decode cRn_doCatch 3 = .ok (.iadd, 1) := by decide +kernel
theorem dRn_doCatch_4 : decode cRn_doCatch 4 = .ok (.iload_n 2, 1) := by decide +kernel
theorem dRn_doCatch_5 : decode cRn_doCatch 5 = .ok (.iload_n 3, 1) := by decide +kernel
theorem dRn_doCatch_6 : decode cRn_doCatch 6 = .ok (.iconst 1, 1) := by decide +kernel
theorem dRn_doCatch_7 : decode cRn_doCatch 7 = .ok (.iadd, 1) := by decide +kernel
theorem dRn_doCatch_8 : decode cRn_doCatch 8 = .ok (.invokevirtual 72, 3) := by decide +kernel
theorem dRn_doCatch_11 : decode cRn_doCatch 11 = .ok (.istore 4, 2) := by decide +kernel
theorem dRn_doCatch_13 : decode cRn_doCatch 13 = .ok (.aload_n 0, 1) := by decide +kernel
theorem dRn_doCatch_14 : decode cRn_doCatch 14 = .ok (.getfield 18, 3) := by decide +kernel
theorem dRn_doCatch_17 : decode cRn_doCatch 17 = .ok (.iload_n 1, 1) := by decide +kernel
theorem dRn_doCatch_18 : decode cRn_doCatch 18 = .ok (.invokevirtual 145, 3) := by decide +kernel
theorem dRn_doCatch_21 : decode cRn_doCatch 21 = .ok (.istore 5, 2) := by decide +kernel
theorem dRn_doCatch_23 : decode cRn_doCatch 23 = .ok (.iload 4, 2) := by decide +kernel
theorem dRn_doCatch_25 : decode cRn_doCatch 25 = .ok (.iconst 2, 1) := by decide +kernel
theorem dRn_doCatch_26 : decode cRn_doCatch 26 = .ok (.if_icmp .ne 15, 3) := by decide +kernel
theorem dRn_doCatch_29 : decode cRn_doCatch 29 = .ok (.iload 5, 2) := by decide +kernel
theorem dRn_doCatch_31 : decode cRn_doCatch 31 = .ok (.aload_n 0, 1) := by decide +kernel
theorem dRn_doCatch_32 : decode cRn_doCatch 32 = .ok (.getfield 30, 3) := by decide +kernel
theorem dRn_doCatch_35 : decode cRn_doCatch 35 = .ok (.invokestatic 148, 3) := by decide +kernel
theorem dRn_doCatch_38 : decode cRn_doCatch 38 = .ok (.ifCond .ne 6, 3) := by decide +kernel
theorem dRn_doCatch_41 : decode cRn_doCatch 41 = .ok (.iload 4, 2) := by decide +kernel
theorem dRn_doCatch_43 : decode cRn_doCatch 43 = .ok (.ireturn, 1) := by decide +kernel
theorem dRn_doCatch_44 : decode cRn_doCatch 44 = .ok (.aload_n 0, 1) := by decide +kernel
theorem dRn_doCatch_45 : decode cRn_doCatch 45 = .ok (.dup, 1) := by decide +kernel
theorem dRn_doCatch_46 : decode cRn_doCatch 46 = .ok (.getfield 51, 3) := by decide +kernel
theorem dRn_doCatch_49 : decode cRn_doCatch 49 = .ok (.iconst 1, 1) := by decide +kernel
theorem dRn_doCatch_50 : decode cRn_doCatch 50 = .ok (.iadd, 1) := by decide +kernel
theorem dRn_doCatch_51 : decode cRn_doCatch 51 = .ok (.putfield 51, 3) := by decide +kernel
theorem dRn_doCatch_54 : decode cRn_doCatch 54 = .ok (.aload_n 0, 1) := by decide +kernel
theorem dRn_doCatch_55 : decode cRn_doCatch 55 = .ok (.sipush 1000, 3) := by decide +kernel
theorem dRn_doCatch_58 : decode cRn_doCatch 58 = .ok (.bipush 16, 2) := by decide +kernel
theorem dRn_doCatch_60 : decode cRn_doCatch 60 = .ok (.aload_n 0, 1) := by decide +kernel
theorem dRn_doCatch_61 : decode cRn_doCatch 61 = .ok (.getfield 30, 3) := by decide +kernel
theorem dRn_doCatch_64 : decode cRn_doCatch 64 = .ok (.imul, 1) := by decide +kernel
theorem dRn_doCatch_65 : decode cRn_doCatch 65 = .ok (.iadd, 1) := by decide +kernel
theorem dRn_doCatch_66 : decode cRn_doCatch 66 = .ok (.aload_n 0, 1) := by decide +kernel
theorem dRn_doCatch_67 : decode cRn_doCatch 67 = .ok (.getfield 30, 3) := by decide +kernel
theorem dRn_doCatch_70 : decode cRn_doCatch 70 = .ok (.bipush 10, 2) := by decide +kernel
theorem dRn_doCatch_72 : decode cRn_doCatch 72 = .ok (.if_icmp .ne 10, 3) := by decide +kernel
theorem dRn_doCatch_75 : decode cRn_doCatch 75 = .ok (.aload_n 0, 1) := by decide +kernel
theorem dRn_doCatch_76 : decode cRn_doCatch 76 = .ok (.getfield 57, 3) := by decide +kernel
theorem dRn_doCatch_79 : decode cRn_doCatch 79 = .ok (.goto 4, 3) := by decide +kernel
theorem dRn_doCatch_82 : decode cRn_doCatch 82 = .ok (.iconst 0, 1) := by decide +kernel
theorem dRn_doCatch_83 : decode cRn_doCatch 83 = .ok (.iadd, 1) := by decide +kernel
theorem dRn_doCatch_84 : decode cRn_doCatch 84 = .ok (.putfield 42, 3) := by decide +kernel
theorem dRn_doCatch_87 : decode cRn_doCatch 87 = .ok (.aload_n 0, 1) := by decide +kernel
theorem dRn_doCatch_88 : decode cRn_doCatch 88 = .ok (.invokevirtual 79, 3) := by decide +kernel
theorem dRn_doCatch_91 : decode cRn_doCatch 91 = .ok (.iload 5, 2) := by decide +kernel
theorem dRn_doCatch_93 : decode cRn_doCatch 93 = .ok (.bipush 14, 2) := by decide +kernel
theorem dRn_doCatch_95 : decode cRn_doCatch 95 = .ok (.if_icmp .ne 13, 3) := by decide +kernel
theorem dRn_doCatch_98 : decode cRn_doCatch 98 = .ok (.aload_n 0, 1) := by decide +kernel
theorem dRn_doCatch_99 : decode cRn_doCatch 99 = .ok (.iload_n 1, 1) := by decide +kernel
theorem dRn_doCatch_100 : decode cRn_doCatch 100 = .ok (.bipush 14, 2) := by decide +kernel
theorem dRn_doCatch_102 : decode cRn_doCatch 102 = .ok (.invokevirtual 151, 3) := by decide +kernel
theorem dRn_doCatch_105 : decode cRn_doCatch 105 = .ok (.goto 4, 3) := by decide +kernel
theorem dRn_doCatch_108 : decode cRn_doCatch 108 = .ok (.iconst 0, 1) := by decide +kernel
theorem dRn_doCatch_109 : decode cRn_doCatch 109 = .ok (.ireturn, 1) := by decide +kernel
theorem dRn_takes_0 : decode cRn_takes 0 = .ok (.iload_n 0, 1) := by decide +kernel
theorem dRn_takes_1 : decode cRn_takes 1 = .ok (.tableswitch 90 11 15 #[35, 53, 70, 35, 88], 35) := by decide +kernel
theorem dRn_takes_36 : decode cRn_takes 36 = .ok (.iload_n 1, 1) := by decide +kernel
theorem dRn_takes_37 : decode cRn_takes 37 = .ok (.bipush 7, 2) := by decide +kernel
theorem dRn_takes_39 : decode cRn_takes 39 = .ok (.if_icmp .eq 13, 3) := by decide +kernel
theorem dRn_takes_42 : decode cRn_takes 42 = .ok (.iload_n 1, 1) := by decide +kernel
theorem dRn_takes_43 : decode cRn_takes 43 = .ok (.bipush 10, 2) := by decide +kernel
theorem dRn_takes_45 : decode cRn_takes 45 = .ok (.if_icmp .eq 7, 3) := by decide +kernel
theorem dRn_takes_48 : decode cRn_takes 48 = .ok (.iconst 1, 1) := by decide +kernel
theorem dRn_takes_49 : decode cRn_takes 49 = .ok (.goto 4, 3) := by decide +kernel
theorem dRn_takes_52 : decode cRn_takes 52 = .ok (.iconst 0, 1) := by decide +kernel
theorem dRn_takes_53 : decode cRn_takes 53 = .ok (.ireturn, 1) := by decide +kernel
theorem dRn_takes_54 : decode cRn_takes 54 = .ok (.iload_n 1, 1) := by decide +kernel
theorem dRn_takes_55 : decode cRn_takes 55 = .ok (.iconst 1, 1) := by decide +kernel
theorem dRn_takes_56 : decode cRn_takes 56 = .ok (.if_icmp .eq 9, 3) := by decide +kernel
theorem dRn_takes_59 : decode cRn_takes 59 = .ok (.iload_n 1, 1) := by decide +kernel
theorem dRn_takes_60 : decode cRn_takes 60 = .ok (.bipush 9, 2) := by decide +kernel
theorem dRn_takes_62 : decode cRn_takes 62 = .ok (.if_icmp .ne 7, 3) := by decide +kernel
theorem dRn_takes_65 : decode cRn_takes 65 = .ok (.iconst 1, 1) := by decide +kernel
theorem dRn_takes_66 : decode cRn_takes 66 = .ok (.goto 4, 3) := by decide +kernel
theorem dRn_takes_69 : decode cRn_takes 69 = .ok (.iconst 0, 1) := by decide +kernel
theorem dRn_takes_70 : decode cRn_takes 70 = .ok (.ireturn, 1) := by decide +kernel
theorem dRn_takes_71 : decode cRn_takes 71 = .ok (.iload_n 1, 1) := by decide +kernel
theorem dRn_takes_72 : decode cRn_takes 72 = .ok (.bipush 7, 2) := by decide +kernel
theorem dRn_takes_74 : decode cRn_takes 74 = .ok (.if_icmp .eq 9, 3) := by decide +kernel
theorem dRn_takes_77 : decode cRn_takes 77 = .ok (.iload_n 1, 1) := by decide +kernel
theorem dRn_takes_78 : decode cRn_takes 78 = .ok (.bipush 10, 2) := by decide +kernel
theorem dRn_takes_80 : decode cRn_takes 80 = .ok (.if_icmp .ne 7, 3) := by decide +kernel
theorem dRn_takes_83 : decode cRn_takes 83 = .ok (.iconst 1, 1) := by decide +kernel
theorem dRn_takes_84 : decode cRn_takes 84 = .ok (.goto 4, 3) := by decide +kernel
theorem dRn_takes_87 : decode cRn_takes 87 = .ok (.iconst 0, 1) := by decide +kernel
theorem dRn_takes_88 : decode cRn_takes 88 = .ok (.ireturn, 1) := by decide +kernel
theorem dRn_takes_89 : decode cRn_takes 89 = .ok (.iconst 1, 1) := by decide +kernel
theorem dRn_takes_90 : decode cRn_takes 90 = .ok (.ireturn, 1) := by decide +kernel
theorem dRn_takes_91 : decode cRn_takes 91 = .ok (.iload_n 1, 1) := by decide +kernel
theorem dRn_takes_92 : decode cRn_takes 92 = .ok (.iload_n 0, 1) := by decide +kernel
theorem dRn_takes_93 : decode cRn_takes 93 = .ok (.if_icmp .ne 7, 3) := by decide +kernel
theorem dRn_takes_96 : decode cRn_takes 96 = .ok (.iconst 1, 1) := by decide +kernel
theorem dRn_takes_97 : decode cRn_takes 97 = .ok (.goto 4, 3) := by decide +kernel
theorem dRn_takes_100 : decode cRn_takes 100 = .ok (.iconst 0, 1) := by decide +kernel
theorem dRn_takes_101 : decode cRn_takes 101 = .ok (.ireturn, 1) := by decide +kernel
theorem dRn_doFinally_0 : decode cRn_doFinally 0 = .ok (.aload_n 0, 1) := by decide +kernel
theorem dRn_doFinally_1 : decode cRn_doFinally 1 = .ok (.iload_n 1, 1) := by decide +kernel
theorem dRn_doFinally_2 : decode cRn_doFinally 2 = .ok (.iconst 1, 1) := by decide +kernel
theorem dRn_doFinally_3 : decode cRn_doFinally 3 = .ok (.iadd, 1) := by decide +kernel
theorem dRn_doFinally_4 : decode cRn_doFinally 4 = .ok (.iload_n 2, 1) := by decide +kernel
theorem dRn_doFinally_5 : decode cRn_doFinally 5 = .ok (.iload_n 3, 1) := by decide +kernel
theorem dRn_doFinally_6 : decode cRn_doFinally 6 = .ok (.iconst 1, 1) := by decide +kernel
theorem dRn_doFinally_7 : decode cRn_doFinally 7 = .ok (.iadd, 1) := by decide +kernel
theorem dRn_doFinally_8 : decode cRn_doFinally 8 = .ok (.invokevirtual 72, 3) := by decide +kernel
theorem dRn_doFinally_11 : decode cRn_doFinally 11 = .ok (.istore 4, 2) := by decide +kernel
theorem dRn_doFinally_13 : decode cRn_doFinally 13 = .ok (.aload_n 0, 1) := by decide +kernel
theorem dRn_doFinally_14 : decode cRn_doFinally 14 = .ok (.dup, 1) := by decide +kernel
theorem dRn_doFinally_15 : decode cRn_doFinally 15 = .ok (.getfield 48, 3) := by decide +kernel
theorem dRn_doFinally_18 : decode cRn_doFinally 18 = .ok (.iconst 1, 1) := by decide +kernel
theorem dRn_doFinally_19 : decode cRn_doFinally 19 = .ok (.iadd, 1) := by decide +kernel
theorem dRn_doFinally_20 : decode cRn_doFinally 20 = .ok (.putfield 48, 3) := by decide +kernel
theorem dRn_doFinally_23 : decode cRn_doFinally 23 = .ok (.aload_n 0, 1) := by decide +kernel
theorem dRn_doFinally_24 : decode cRn_doFinally 24 = .ok (.aload_n 0, 1) := by decide +kernel
theorem dRn_doFinally_25 : decode cRn_doFinally 25 = .ok (.getfield 42, 3) := by decide +kernel
theorem dRn_doFinally_28 : decode cRn_doFinally 28 = .ok (.ineg, 1) := by decide +kernel
theorem dRn_doFinally_29 : decode cRn_doFinally 29 = .ok (.putfield 42, 3) := by decide +kernel
theorem dRn_doFinally_32 : decode cRn_doFinally 32 = .ok (.iload 4, 2) := by decide +kernel
theorem dRn_doFinally_34 : decode cRn_doFinally 34 = .ok (.ireturn, 1) := by decide +kernel
theorem dRn_doDrop_0 : decode cRn_doDrop 0 = .ok (.aload_n 0, 1) := by decide +kernel
theorem dRn_doDrop_1 : decode cRn_doDrop 1 = .ok (.iload_n 1, 1) := by decide +kernel
theorem dRn_doDrop_2 : decode cRn_doDrop 2 = .ok (.iconst 1, 1) := by decide +kernel
theorem dRn_doDrop_3 : decode cRn_doDrop 3 = .ok (.iadd, 1) := by decide +kernel
theorem dRn_doDrop_4 : decode cRn_doDrop 4 = .ok (.iload_n 2, 1) := by decide +kernel
theorem dRn_doDrop_5 : decode cRn_doDrop 5 = .ok (.iload_n 3, 1) := by decide +kernel
theorem dRn_doDrop_6 : decode cRn_doDrop 6 = .ok (.iconst 1, 1) := by decide +kernel
theorem dRn_doDrop_7 : decode cRn_doDrop 7 = .ok (.iadd, 1) := by decide +kernel
theorem dRn_doDrop_8 : decode cRn_doDrop 8 = .ok (.invokevirtual 72, 3) := by decide +kernel
theorem dRn_doDrop_11 : decode cRn_doDrop 11 = .ok (.pop, 1) := by decide +kernel
theorem dRn_doDrop_12 : decode cRn_doDrop 12 = .ok (.aload_n 0, 1) := by decide +kernel
theorem dRn_doDrop_13 : decode cRn_doDrop 13 = .ok (.invokevirtual 79, 3) := by decide +kernel
theorem dRn_doDrop_16 : decode cRn_doDrop 16 = .ok (.aload_n 0, 1) := by decide +kernel
theorem dRn_doDrop_17 : decode cRn_doDrop 17 = .ok (.dup, 1) := by decide +kernel
theorem dRn_doDrop_18 : decode cRn_doDrop 18 = .ok (.getfield 48, 3) := by decide +kernel
theorem dRn_doDrop_21 : decode cRn_doDrop 21 = .ok (.iconst 1, 1) := by decide +kernel
theorem dRn_doDrop_22 : decode cRn_doDrop 22 = .ok (.iadd, 1) := by decide +kernel
theorem dRn_doDrop_23 : decode cRn_doDrop 23 = .ok (.putfield 48, 3) := by decide +kernel
theorem dRn_doDrop_26 : decode cRn_doDrop 26 = .ok (.iconst 0, 1) := by decide +kernel
theorem dRn_doDrop_27 : decode cRn_doDrop 27 = .ok (.ireturn, 1) := by decide +kernel
theorem dRn_doHold_0 : decode cRn_doHold 0 = .ok (.aload_n 0, 1) := by decide +kernel
theorem dRn_doHold_1 : decode cRn_doHold 1 = .ok (.getfield 18, 3) := by decide +kernel
theorem dRn_doHold_4 : decode cRn_doHold 4 = .ok (.iload_n 1, 1) := by decide +kernel
theorem dRn_doHold_5 : decode cRn_doHold 5 = .ok (.invokevirtual 145, 3) := by decide +kernel
theorem dRn_doHold_8 : decode cRn_doHold 8 = .ok (.iconst 2, 1) := by decide +kernel
theorem dRn_doHold_9 : decode cRn_doHold 9 = .ok (.irem, 1) := by decide +kernel
theorem dRn_doHold_10 : decode cRn_doHold 10 = .ok (.istore 4, 2) := by decide +kernel
theorem dRn_doHold_12 : decode cRn_doHold 12 = .ok (.aload_n 0, 1) := by decide +kernel
theorem dRn_doHold_13 : decode cRn_doHold 13 = .ok (.getfield 15, 3) := by decide +kernel
theorem dRn_doHold_16 : decode cRn_doHold 16 = .ok (.iload 4, 2) := by decide +kernel
theorem dRn_doHold_18 : decode cRn_doHold 18 = .ok (.dup2, 1) := by decide +kernel
theorem dRn_doHold_19 : decode cRn_doHold 19 = .ok (.iaload, 1) := by decide +kernel
theorem dRn_doHold_20 : decode cRn_doHold 20 = .ok (.iconst 1, 1) := by decide +kernel
theorem dRn_doHold_21 : decode cRn_doHold 21 = .ok (.iadd, 1) := by decide +kernel
theorem dRn_doHold_22 : decode cRn_doHold 22 = .ok (.iastore, 1) := by decide +kernel
theorem dRn_doHold_23 : decode cRn_doHold 23 = .ok (.aload_n 0, 1) := by decide +kernel
theorem dRn_doHold_24 : decode cRn_doHold 24 = .ok (.iload_n 1, 1) := by decide +kernel
theorem dRn_doHold_25 : decode cRn_doHold 25 = .ok (.iconst 1, 1) := by decide +kernel
theorem dRn_doHold_26 : decode cRn_doHold 26 = .ok (.iadd, 1) := by decide +kernel
theorem dRn_doHold_27 : decode cRn_doHold 27 = .ok (.iload_n 2, 1) := by decide +kernel
theorem dRn_doHold_28 : decode cRn_doHold 28 = .ok (.iload_n 3, 1) := by decide +kernel
theorem dRn_doHold_29 : decode cRn_doHold 29 = .ok (.iconst 1, 1) := by decide +kernel
theorem dRn_doHold_30 : decode cRn_doHold 30 = .ok (.iadd, 1) := by decide +kernel
theorem dRn_doHold_31 : decode cRn_doHold 31 = .ok (.invokevirtual 72, 3) := by decide +kernel
theorem dRn_doHold_34 : decode cRn_doHold 34 = .ok (.istore 5, 2) := by decide +kernel
theorem dRn_doHold_36 : decode cRn_doHold 36 = .ok (.aload_n 0, 1) := by decide +kernel
theorem dRn_doHold_37 : decode cRn_doHold 37 = .ok (.getfield 15, 3) := by decide +kernel
theorem dRn_doHold_40 : decode cRn_doHold 40 = .ok (.iload 4, 2) := by decide +kernel
theorem dRn_doHold_42 : decode cRn_doHold 42 = .ok (.dup2, 1) := by decide +kernel
theorem dRn_doHold_43 : decode cRn_doHold 43 = .ok (.iaload, 1) := by decide +kernel
theorem dRn_doHold_44 : decode cRn_doHold 44 = .ok (.iconst 1, 1) := by decide +kernel
theorem dRn_doHold_45 : decode cRn_doHold 45 = .ok (.isub, 1) := by decide +kernel
theorem dRn_doHold_46 : decode cRn_doHold 46 = .ok (.iastore, 1) := by decide +kernel
theorem dRn_doHold_47 : decode cRn_doHold 47 = .ok (.iload 5, 2) := by decide +kernel
theorem dRn_doHold_49 : decode cRn_doHold 49 = .ok (.ireturn, 1) := by decide +kernel
theorem dRn_doRepeat_0 : decode cRn_doRepeat 0 = .ok (.aload_n 0, 1) := by decide +kernel
theorem dRn_doRepeat_1 : decode cRn_doRepeat 1 = .ok (.getfield 18, 3) := by decide +kernel
theorem dRn_doRepeat_4 : decode cRn_doRepeat 4 = .ok (.iload_n 1, 1) := by decide +kernel
theorem dRn_doRepeat_5 : decode cRn_doRepeat 5 = .ok (.invokevirtual 145, 3) := by decide +kernel
theorem dRn_doRepeat_8 : decode cRn_doRepeat 8 = .ok (.istore 4, 2) := by decide +kernel
theorem dRn_doRepeat_10 : decode cRn_doRepeat 10 = .ok (.iconst 0, 1) := by decide +kernel
theorem dRn_doRepeat_11 : decode cRn_doRepeat 11 = .ok (.istore 5, 2) := by decide +kernel
theorem dRn_doRepeat_13 : decode cRn_doRepeat 13 = .ok (.iload 5, 2) := by decide +kernel
theorem dRn_doRepeat_15 : decode cRn_doRepeat 15 = .ok (.iload 4, 2) := by decide +kernel
theorem dRn_doRepeat_17 : decode cRn_doRepeat 17 = .ok (.if_icmp .ge 30, 3) := by decide +kernel
theorem dRn_doRepeat_20 : decode cRn_doRepeat 20 = .ok (.aload_n 0, 1) := by decide +kernel
theorem dRn_doRepeat_21 : decode cRn_doRepeat 21 = .ok (.iload_n 1, 1) := by decide +kernel
theorem dRn_doRepeat_22 : decode cRn_doRepeat 22 = .ok (.iconst 1, 1) := by decide +kernel
theorem dRn_doRepeat_23 : decode cRn_doRepeat 23 = .ok (.iadd, 1) := by decide +kernel
theorem dRn_doRepeat_24 : decode cRn_doRepeat 24 = .ok (.iload_n 2, 1) := by decide +kernel
theorem dRn_doRepeat_25 : decode cRn_doRepeat 25 = .ok (.iload_n 3, 1) := by decide +kernel
theorem dRn_doRepeat_26 : decode cRn_doRepeat 26 = .ok (.iconst 1, 1) := by decide +kernel
theorem dRn_doRepeat_27 : decode cRn_doRepeat 27 = .ok (.iadd, 1) := by decide +kernel
theorem dRn_doRepeat_28 : decode cRn_doRepeat 28 = .ok (.invokevirtual 72, 3) := by decide +kernel
theorem dRn_doRepeat_31 : decode cRn_doRepeat 31 = .ok (.istore 6, 2) := by decide +kernel
theorem dRn_doRepeat_33 : decode cRn_doRepeat 33 = .ok (.iload 6, 2) := by decide +kernel
theorem dRn_doRepeat_35 : decode cRn_doRepeat 35 = .ok (.ifCond .eq 6, 3) := by decide +kernel
theorem dRn_doRepeat_38 : decode cRn_doRepeat 38 = .ok (.iload 6, 2) := by decide +kernel
theorem dRn_doRepeat_40 : decode cRn_doRepeat 40 = .ok (.ireturn, 1) := by decide +kernel
theorem dRn_doRepeat_41 : decode cRn_doRepeat 41 = .ok (.iinc 5 1, 3) := by decide +kernel
theorem dRn_doRepeat_44 : decode cRn_doRepeat 44 = .ok (.goto (-31), 3) := by decide +kernel
theorem dRn_doRepeat_47 : decode cRn_doRepeat 47 = .ok (.iconst 0, 1) := by decide +kernel
theorem dRn_doRepeat_48 : decode cRn_doRepeat 48 = .ok (.ireturn, 1) := by decide +kernel
theorem dRn_isHeld_0 : decode cRn_isHeld 0 = .ok (.aload_n 0, 1) := by decide +kernel
theorem dRn_isHeld_1 : decode cRn_isHeld 1 = .ok (.getfield 15, 3) := by decide +kernel
theorem dRn_isHeld_4 : decode cRn_isHeld 4 = .ok (.aload_n 0, 1) := by decide +kernel
theorem dRn_isHeld_5 : decode cRn_isHeld 5 = .ok (.getfield 18, 3) := by decide +kernel
theorem dRn_isHeld_8 : decode cRn_isHeld 8 = .ok (.iload_n 1, 1) := by decide +kernel
theorem dRn_isHeld_9 : decode cRn_isHeld 9 = .ok (.invokevirtual 145, 3) := by decide +kernel
theorem dRn_isHeld_12 : decode cRn_isHeld 12 = .ok (.iconst 2, 1) := by decide +kernel
theorem dRn_isHeld_13 : decode cRn_isHeld 13 = .ok (.irem, 1) := by decide +kernel
theorem dRn_isHeld_14 : decode cRn_isHeld 14 = .ok (.iaload, 1) := by decide +kernel
theorem dRn_isHeld_15 : decode cRn_isHeld 15 = .ok (.ifCond .le 7, 3) := by decide +kernel
theorem dRn_isHeld_18 : decode cRn_isHeld 18 = .ok (.iconst 1, 1) := by decide +kernel
theorem dRn_isHeld_19 : decode cRn_isHeld 19 = .ok (.goto 4, 3) := by decide +kernel
theorem dRn_isHeld_22 : decode cRn_isHeld 22 = .ok (.iconst 0, 1) := by decide +kernel
theorem dRn_isHeld_23 : decode cRn_isHeld 23 = .ok (.ireturn, 1) := by decide +kernel
theorem dRn_doSleep_0 : decode cRn_doSleep 0 = .ok (.aload_n 0, 1) := by decide +kernel
theorem dRn_doSleep_1 : decode cRn_doSleep 1 = .ok (.getfield 60, 3) := by decide +kernel
theorem dRn_doSleep_4 : decode cRn_doSleep 4 = .ok (.ifCond .ne 5, 3) := by decide +kernel
theorem dRn_doSleep_7 : decode cRn_doSleep 7 = .ok (.iconst 0, 1) := by decide +kernel
theorem dRn_doSleep_8 : decode cRn_doSleep 8 = .ok (.ireturn, 1) := by decide +kernel
theorem dRn_doSleep_9 : decode cRn_doSleep 9 = .ok (.aload_n 0, 1) := by decide +kernel
theorem dRn_doSleep_10 : decode cRn_doSleep 10 = .ok (.iconst 0, 1) := by decide +kernel
theorem dRn_doSleep_11 : decode cRn_doSleep 11 = .ok (.putfield 60, 3) := by decide +kernel
theorem dRn_doSleep_14 : decode cRn_doSleep 14 = .ok (.aload_n 0, 1) := by decide +kernel
theorem dRn_doSleep_15 : decode cRn_doSleep 15 = .ok (.iload_n 1, 1) := by decide +kernel
theorem dRn_doSleep_16 : decode cRn_doSleep 16 = .ok (.bipush 7, 2) := by decide +kernel
theorem dRn_doSleep_18 : decode cRn_doSleep 18 = .ok (.invokevirtual 99, 3) := by decide +kernel
theorem dRn_doSleep_21 : decode cRn_doSleep 21 = .ok (.ireturn, 1) := by decide +kernel
theorem dRn_doCount_0 : decode cRn_doCount 0 = .ok (.aload_n 0, 1) := by decide +kernel
theorem dRn_doCount_1 : decode cRn_doCount 1 = .ok (.dup, 1) := by decide +kernel
theorem dRn_doCount_2 : decode cRn_doCount 2 = .ok (.getfield 34, 3) := by decide +kernel
theorem dRn_doCount_5 : decode cRn_doCount 5 = .ok (.aload_n 0, 1) := by decide +kernel
theorem dRn_doCount_6 : decode cRn_doCount 6 = .ok (.getfield 18, 3) := by decide +kernel
theorem dRn_doCount_9 : decode cRn_doCount 9 = .ok (.iload_n 1, 1) := by decide +kernel
theorem dRn_doCount_10 : decode cRn_doCount 10 = .ok (.invokevirtual 89, 3) := by decide +kernel
theorem dRn_doCount_13 : decode cRn_doCount 13 = .ok (.i2l, 1) := by decide +kernel
theorem dRn_doCount_14 : decode cRn_doCount 14 = .ok (.ladd, 1) := by decide +kernel
theorem dRn_doCount_15 : decode cRn_doCount 15 = .ok (.putfield 34, 3) := by decide +kernel
theorem dRn_doCount_18 : decode cRn_doCount 18 = .ok (.iconst 0, 1) := by decide +kernel
theorem dRn_doCount_19 : decode cRn_doCount 19 = .ok (.ireturn, 1) := by decide +kernel
theorem dRn_outcome_0 : decode cRn_outcome 0 = .ok (.aload_n 0, 1) := by decide +kernel
theorem dRn_outcome_1 : decode cRn_outcome 1 = .ok (.getfield 30, 3) := by decide +kernel
theorem dRn_outcome_4 : decode cRn_outcome 4 = .ok (.iconst (-1), 1) := by decide +kernel
theorem dRn_outcome_5 : decode cRn_outcome 5 = .ok (.if_icmp .ne 7, 3) := by decide +kernel
theorem dRn_outcome_8 : decode cRn_outcome 8 = .ok (.iconst 0, 1) := by decide +kernel
theorem dRn_outcome_9 : decode cRn_outcome 9 = .ok (.goto 10, 3) := by decide +kernel
theorem dRn_outcome_12 : decode cRn_outcome 12 = .ok (.bipush 100, 2) := by decide +kernel
theorem dRn_outcome_14 : decode cRn_outcome 14 = .ok (.aload_n 0, 1) := by decide +kernel
theorem dRn_outcome_15 : decode cRn_outcome 15 = .ok (.getfield 30, 3) := by decide +kernel
theorem dRn_outcome_18 : decode cRn_outcome 18 = .ok (.iadd, 1) := by decide +kernel
theorem dRn_outcome_19 : decode cRn_outcome 19 = .ok (.ireturn, 1) := by decide +kernel
theorem dRn_counted_0 : decode cRn_counted 0 = .ok (.aload_n 0, 1) := by decide +kernel
theorem dRn_counted_1 : decode cRn_counted 1 = .ok (.getfield 34, 3) := by decide +kernel
theorem dRn_counted_4 : decode cRn_counted 4 = .ok (.lreturn, 1) := by decide +kernel
theorem dEx_runAll_0 : decode cEx_runAll 0 = .ok (.iload_n 1, 1) := by decide +kernel
theorem dEx_runAll_1 : decode cEx_runAll 1 = .ok (.bipush 63, 2) := by decide +kernel
theorem dEx_runAll_3 : decode cEx_runAll 3 = .ok (.invokestatic 29, 3) := by decide +kernel
theorem dEx_runAll_6 : decode cEx_runAll 6 = .ok (.ifCond .ne 5, 3) := by decide +kernel
theorem dEx_runAll_9 : decode cEx_runAll 9 = .ok (.iconst (-1), 1) := by decide +kernel
theorem dEx_runAll_10 : decode cEx_runAll 10 = .ok (.ireturn, 1) := by decide +kernel
theorem dEx_runAll_11 : decode cEx_runAll 11 = .ok (.iconst 0, 1) := by decide +kernel
theorem dEx_runAll_12 : decode cEx_runAll 12 = .ok (.istore_n 2, 1) := by decide +kernel
theorem dEx_runAll_13 : decode cEx_runAll 13 = .ok (.iconst 0, 1) := by decide +kernel
theorem dEx_runAll_14 : decode cEx_runAll 14 = .ok (.istore_n 3, 1) := by decide +kernel
theorem dEx_runAll_15 : decode cEx_runAll 15 = .ok (.iload_n 3, 1) := by decide +kernel
theorem dEx_runAll_16 : decode cEx_runAll 16 = .ok (.bipush 6, 2) := by decide +kernel
theorem dEx_runAll_18 : decode cEx_runAll 18 = .ok (.if_icmp .ge 30, 3) := by decide +kernel
theorem dEx_runAll_21 : decode cEx_runAll 21 = .ok (.iload_n 1, 1) := by decide +kernel
theorem dEx_runAll_22 : decode cEx_runAll 22 = .ok (.iload_n 3, 1) := by decide +kernel
theorem dEx_runAll_23 : decode cEx_runAll 23 = .ok (.ishr, 1) := by decide +kernel
theorem dEx_runAll_24 : decode cEx_runAll 24 = .ok (.iconst 1, 1) := by decide +kernel
theorem dEx_runAll_25 : decode cEx_runAll 25 = .ok (.iand, 1) := by decide +kernel
theorem dEx_runAll_26 : decode cEx_runAll 26 = .ok (.iconst 1, 1) := by decide +kernel
theorem dEx_runAll_27 : decode cEx_runAll 27 = .ok (.if_icmp .ne 15, 3) := by decide +kernel
theorem dEx_runAll_30 : decode cEx_runAll 30 = .ok (.aload_n 0, 1) := by decide +kernel
theorem dEx_runAll_31 : decode cEx_runAll 31 = .ok (.iload_n 3, 1) := by decide +kernel
theorem dEx_runAll_32 : decode cEx_runAll 32 = .ok (.iconst 1, 1) := by decide +kernel
theorem dEx_runAll_33 : decode cEx_runAll 33 = .ok (.invokevirtual 43, 3) := by decide +kernel
theorem dEx_runAll_36 : decode cEx_runAll 36 = .ok (.ifCond .eq 6, 3) := by decide +kernel
theorem dEx_runAll_39 : decode cEx_runAll 39 = .ok (.iinc 2 1, 3) := by decide +kernel
theorem dEx_runAll_42 : decode cEx_runAll 42 = .ok (.iinc 3 1, 3) := by decide +kernel
theorem dEx_runAll_45 : decode cEx_runAll 45 = .ok (.goto (-30), 3) := by decide +kernel
theorem dEx_runAll_48 : decode cEx_runAll 48 = .ok (.iload_n 2, 1) := by decide +kernel
theorem dEx_runAll_49 : decode cEx_runAll 49 = .ok (.ireturn, 1) := by decide +kernel
theorem dEx_told_0 : decode cEx_told 0 = .ok (.iload_n 1, 1) := by decide +kernel
theorem dEx_told_1 : decode cEx_told 1 = .ok (.invokestatic 25, 3) := by decide +kernel
theorem dEx_told_4 : decode cEx_told 4 = .ok (.ifCond .eq 12, 3) := by decide +kernel
theorem dEx_told_7 : decode cEx_told 7 = .ok (.iload_n 2, 1) := by decide +kernel
theorem dEx_told_8 : decode cEx_told 8 = .ok (.bipush 7, 2) := by decide +kernel
theorem dEx_told_10 : decode cEx_told 10 = .ok (.invokestatic 29, 3) := by decide +kernel
theorem dEx_told_13 : decode cEx_told 13 = .ok (.ifCond .ne 5, 3) := by decide +kernel
theorem dEx_told_16 : decode cEx_told 16 = .ok (.iconst (-1), 1) := by decide +kernel
theorem dEx_told_17 : decode cEx_told 17 = .ok (.ireturn, 1) := by decide +kernel
theorem dEx_told_18 : decode cEx_told 18 = .ok (.aload_n 0, 1) := by decide +kernel
theorem dEx_told_19 : decode cEx_told 19 = .ok (.getfield 17, 3) := by decide +kernel
theorem dEx_told_22 : decode cEx_told 22 = .ok (.iload_n 1, 1) := by decide +kernel
theorem dEx_told_23 : decode cEx_told 23 = .ok (.aaload, 1) := by decide +kernel
theorem dEx_told_24 : decode cEx_told 24 = .ok (.invokevirtual 47, 3) := by decide +kernel
theorem dEx_told_27 : decode cEx_told 27 = .ok (.ifCond .eq 16, 3) := by decide +kernel
theorem dEx_told_30 : decode cEx_told 30 = .ok (.aload_n 0, 1) := by decide +kernel
theorem dEx_told_31 : decode cEx_told 31 = .ok (.getfield 17, 3) := by decide +kernel
theorem dEx_told_34 : decode cEx_told 34 = .ok (.iload_n 1, 1) := by decide +kernel
theorem dEx_told_35 : decode cEx_told 35 = .ok (.aaload, 1) := by decide +kernel
theorem dEx_told_36 : decode cEx_told 36 = .ok (.iload_n 2, 1) := by decide +kernel
theorem dEx_told_37 : decode cEx_told 37 = .ok (.invokevirtual 51, 3) := by decide +kernel
theorem dEx_told_40 : decode cEx_told 40 = .ok (.goto 5, 3) := by decide +kernel
theorem dEx_told_43 : decode cEx_told 43 = .ok (.bipush (-3), 2) := by decide +kernel
theorem dEx_told_45 : decode cEx_told 45 = .ok (.ireturn, 1) := by decide +kernel
theorem dRn_isKnown_0 : decode cRn_isKnown 0 = .ok (.aload_n 0, 1) := by decide +kernel
theorem dRn_isKnown_1 : decode cRn_isKnown 1 = .ok (.getfield 26, 3) := by decide +kernel
theorem dRn_isKnown_4 : decode cRn_isKnown 4 = .ok (.ireturn, 1) := by decide +kernel
theorem dRn_tell_0 : decode cRn_tell 0 = .ok (.iload_n 1, 1) := by decide +kernel
theorem dRn_tell_1 : decode cRn_tell 1 = .ok (.tableswitch 78 0 6 #[43, 48, 53, 58, 63, 68, 73], 43) := by decide +kernel
theorem dRn_tell_44 : decode cRn_tell 44 = .ok (.aload_n 0, 1) := by decide +kernel
theorem dRn_tell_45 : decode cRn_tell 45 = .ok (.invokevirtual 38, 3) := by decide +kernel
theorem dRn_tell_48 : decode cRn_tell 48 = .ok (.ireturn, 1) := by decide +kernel
theorem dRn_tell_49 : decode cRn_tell 49 = .ok (.aload_n 0, 1) := by decide +kernel
theorem dRn_tell_50 : decode cRn_tell 50 = .ok (.getfield 42, 3) := by decide +kernel
theorem dRn_tell_53 : decode cRn_tell 53 = .ok (.ireturn, 1) := by decide +kernel
theorem dRn_tell_54 : decode cRn_tell 54 = .ok (.aload_n 0, 1) := by decide +kernel
theorem dRn_tell_55 : decode cRn_tell 55 = .ok (.getfield 45, 3) := by decide +kernel
theorem dRn_tell_58 : decode cRn_tell 58 = .ok (.ireturn, 1) := by decide +kernel
theorem dRn_tell_59 : decode cRn_tell 59 = .ok (.aload_n 0, 1) := by decide +kernel
theorem dRn_tell_60 : decode cRn_tell 60 = .ok (.getfield 48, 3) := by decide +kernel
theorem dRn_tell_63 : decode cRn_tell 63 = .ok (.ireturn, 1) := by decide +kernel
theorem dRn_tell_64 : decode cRn_tell 64 = .ok (.aload_n 0, 1) := by decide +kernel
theorem dRn_tell_65 : decode cRn_tell 65 = .ok (.getfield 51, 3) := by decide +kernel
theorem dRn_tell_68 : decode cRn_tell 68 = .ok (.ireturn, 1) := by decide +kernel
theorem dRn_tell_69 : decode cRn_tell 69 = .ok (.aload_n 0, 1) := by decide +kernel
theorem dRn_tell_70 : decode cRn_tell 70 = .ok (.getfield 54, 3) := by decide +kernel
theorem dRn_tell_73 : decode cRn_tell 73 = .ok (.ireturn, 1) := by decide +kernel
theorem dRn_tell_74 : decode cRn_tell 74 = .ok (.aload_n 0, 1) := by decide +kernel
theorem dRn_tell_75 : decode cRn_tell 75 = .ok (.getfield 57, 3) := by decide +kernel
theorem dRn_tell_78 : decode cRn_tell 78 = .ok (.ireturn, 1) := by decide +kernel
theorem dRn_tell_79 : decode cRn_tell 79 = .ok (.aload_n 0, 1) := by decide +kernel
theorem dRn_tell_80 : decode cRn_tell 80 = .ok (.getfield 60, 3) := by decide +kernel
theorem dRn_tell_83 : decode cRn_tell 83 = .ok (.ifCond .eq 7, 3) := by decide +kernel
theorem dRn_tell_86 : decode cRn_tell 86 = .ok (.iconst 1, 1) := by decide +kernel
theorem dRn_tell_87 : decode cRn_tell 87 = .ok (.goto 4, 3) := by decide +kernel
theorem dRn_tell_90 : decode cRn_tell 90 = .ok (.iconst 0, 1) := by decide +kernel
theorem dRn_tell_91 : decode cRn_tell 91 = .ok (.ireturn, 1) := by decide +kernel
theorem dEx_cell_0 : decode cEx_cell 0 = .ok (.iload_n 1, 1) := by decide +kernel
theorem dEx_cell_1 : decode cEx_cell 1 = .ok (.invokestatic 25, 3) := by decide +kernel
theorem dEx_cell_4 : decode cEx_cell 4 = .ok (.ifCond .eq 10, 3) := by decide +kernel
theorem dEx_cell_7 : decode cEx_cell 7 = .ok (.iload_n 2, 1) := by decide +kernel
theorem dEx_cell_8 : decode cEx_cell 8 = .ok (.invokestatic 55, 3) := by decide +kernel
theorem dEx_cell_11 : decode cEx_cell 11 = .ok (.ifCond .ne 5, 3) := by decide +kernel
theorem dEx_cell_14 : decode cEx_cell 14 = .ok (.iconst (-1), 1) := by decide +kernel
theorem dEx_cell_15 : decode cEx_cell 15 = .ok (.ireturn, 1) := by decide +kernel
theorem dEx_cell_16 : decode cEx_cell 16 = .ok (.aload_n 0, 1) := by decide +kernel
theorem dEx_cell_17 : decode cEx_cell 17 = .ok (.getfield 17, 3) := by decide +kernel
theorem dEx_cell_20 : decode cEx_cell 20 = .ok (.iload_n 1, 1) := by decide +kernel
theorem dEx_cell_21 : decode cEx_cell 21 = .ok (.aaload, 1) := by decide +kernel
theorem dEx_cell_22 : decode cEx_cell 22 = .ok (.invokevirtual 47, 3) := by decide +kernel
theorem dEx_cell_25 : decode cEx_cell 25 = .ok (.ifCond .eq 16, 3) := by decide +kernel
theorem dEx_cell_28 : decode cEx_cell 28 = .ok (.aload_n 0, 1) := by decide +kernel
theorem dEx_cell_29 : decode cEx_cell 29 = .ok (.getfield 17, 3) := by decide +kernel
theorem dEx_cell_32 : decode cEx_cell 32 = .ok (.iload_n 1, 1) := by decide +kernel
theorem dEx_cell_33 : decode cEx_cell 33 = .ok (.aaload, 1) := by decide +kernel
theorem dEx_cell_34 : decode cEx_cell 34 = .ok (.iload_n 2, 1) := by decide +kernel
theorem dEx_cell_35 : decode cEx_cell 35 = .ok (.invokevirtual 58, 3) := by decide +kernel
theorem dEx_cell_38 : decode cEx_cell 38 = .ok (.goto 4, 3) := by decide +kernel
theorem dEx_cell_41 : decode cEx_cell 41 = .ok (.iconst 0, 1) := by decide +kernel
theorem dEx_cell_42 : decode cEx_cell 42 = .ok (.ireturn, 1) := by decide +kernel
