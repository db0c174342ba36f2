theorem dEx_init_0 : decode cEx_init 0 = .ok (.aload_n 0, 1) := by decide +kernel
theorem dEx_init_1 : decode cEx_init 1 = .ok (.invokespecial 1, 3) := by decide +kernel
theorem dEx_init_4 : decode cEx_init 4 = .ok (.aload_n 0, 1) := by decide +kernel
theorem dEx_init_5 : decode cEx_init 5 = .ok (.bipush 6, 2) := by decide +kernel
theorem dEx_init_7 : decode cEx_init 7 = .ok (.anewarray 9, 3) := by decide +kernel
theorem dEx_init_10 : decode cEx_init 10 = .ok (.putfield 11, 3) := by decide +kernel
theorem dEx_init_13 : decode cEx_init 13 = .ok (.aload_n 0, 1) := by decide +kernel
theorem dEx_init_14 : decode cEx_init 14 = .ok (.bipush 6, 2) := by decide +kernel
theorem dEx_init_16 : decode cEx_init 16 = .ok (.anewarray 15, 3) := by decide +kernel
theorem dEx_init_19 : decode cEx_init 19 = .ok (.putfield 17, 3) := by decide +kernel
theorem dEx_init_22 : decode cEx_init 22 = .ok (.iconst 0, 1) := by decide +kernel
theorem dEx_init_23 : decode cEx_init 23 = .ok (.istore_n 1, 1) := by decide +kernel
theorem dEx_init_24 : decode cEx_init 24 = .ok (.iload_n 1, 1) := by decide +kernel
theorem dEx_init_25 : decode cEx_init 25 = .ok (.bipush 6, 2) := by decide +kernel
theorem dEx_init_27 : decode cEx_init 27 = .ok (.if_icmp .ge 41, 3) := by decide +kernel
theorem dEx_init_30 : decode cEx_init 30 = .ok (.aload_n 0, 1) := by decide +kernel
theorem dEx_init_31 : decode cEx_init 31 = .ok (.getfield 11, 3) := by decide +kernel
theorem dEx_init_34 : decode cEx_init 34 = .ok (.iload_n 1, 1) := by decide +kernel
theorem dEx_init_35 : decode cEx_init 35 = .ok (.new 9, 3) := by decide +kernel
theorem dEx_init_38 : decode cEx_init 38 = .ok (.dup, 1) := by decide +kernel
theorem dEx_init_39 : decode cEx_init 39 = .ok (.invokespecial 21, 3) := by decide +kernel
theorem dEx_init_42 : decode cEx_init 42 = .ok (.aastore, 1) := by decide +kernel
theorem dEx_init_43 : decode cEx_init 43 = .ok (.aload_n 0, 1) := by decide +kernel
theorem dEx_init_44 : decode cEx_init 44 = .ok (.getfield 17, 3) := by decide +kernel
theorem dEx_init_47 : decode cEx_init 47 = .ok (.iload_n 1, 1) := by decide +kernel
theorem dEx_init_48 : decode cEx_init 48 = .ok (.new 15, 3) := by decide +kernel
theorem dEx_init_51 : decode cEx_init 51 = .ok (.dup, 1) := by decide +kernel
theorem dEx_init_52 : decode cEx_init 52 = .ok (.aload_n 0, 1) := by decide +kernel
theorem dEx_init_53 : decode cEx_init 53 = .ok (.getfield 11, 3) := by decide +kernel
theorem dEx_init_56 : decode cEx_init 56 = .ok (.iload_n 1, 1) := by decide +kernel
theorem dEx_init_57 : decode cEx_init 57 = .ok (.aaload, 1) := by decide +kernel
theorem dEx_init_58 : decode cEx_init 58 = .ok (.invokespecial 22, 3) := by decide +kernel
theorem dEx_init_61 : decode cEx_init 61 = .ok (.aastore, 1) := by decide +kernel
theorem dEx_init_62 : decode cEx_init 62 = .ok (.iinc 1 1, 3) := by decide +kernel
theorem dEx_init_65 : decode cEx_init 65 = .ok (.goto (-41), 3) := by decide +kernel
theorem dEx_init_68 : decode cEx_init 68 = .ok (.return_, 1) := by decide +kernel
theorem dPg_init_0 : decode cPg_init 0 = .ok (.aload_n 0, 1) := by decide +kernel
theorem dPg_init_1 : decode cPg_init 1 = .ok (.invokespecial 3, 3) := by decide +kernel
theorem dPg_init_4 : decode cPg_init 4 = .ok (.aload_n 0, 1) := by decide +kernel
theorem dPg_init_5 : decode cPg_init 5 = .ok (.bipush 14, 2) := by decide +kernel
theorem dPg_init_7 : decode cPg_init 7 = .ok (.newarray .int, 2) := by decide +kernel
theorem dPg_init_9 : decode cPg_init 9 = .ok (.putfield 9, 3) := by decide +kernel
theorem dPg_init_12 : decode cPg_init 12 = .ok (.aload_n 0, 1) := by decide +kernel
theorem dPg_init_13 : decode cPg_init 13 = .ok (.bipush 14, 2) := by decide +kernel
theorem dPg_init_15 : decode cPg_init 15 = .ok (.newarray .int, 2) := by decide +kernel
theorem dPg_init_17 : decode cPg_init 17 = .ok (.putfield 15, 3) := by decide +kernel
theorem dPg_init_20 : decode cPg_init 20 = .ok (.return_, 1) := by decide +kernel
theorem dRn_init_0 : decode cRn_init 0 = .ok (.aload_n 0, 1) := by decide +kernel
theorem dRn_init_1 : decode cRn_init 1 = .ok (.invokespecial 3, 3) := by decide +kernel
theorem dRn_init_4 : decode cRn_init 4 = .ok (.aload_n 0, 1) := by decide +kernel
theorem dRn_init_5 : decode cRn_init 5 = .ok (.bipush 8, 2) := by decide +kernel
theorem dRn_init_7 : decode cRn_init 7 = .ok (.newarray .int, 2) := by decide +kernel
theorem dRn_init_9 : decode cRn_init 9 = .ok (.putfield 11, 3) := by decide +kernel
theorem dRn_init_12 : decode cRn_init 12 = .ok (.aload_n 0, 1) := by decide +kernel
theorem dRn_init_13 : decode cRn_init 13 = .ok (.iconst 2, 1) := by decide +kernel
theorem dRn_init_14 : decode cRn_init 14 = .ok (.newarray .int, 2) := by decide +kernel
theorem dRn_init_16 : decode cRn_init 16 = .ok (.putfield 15, 3) := by decide +kernel
theorem dRn_init_19 : decode cRn_init 19 = .ok (.aload_n 0, 1) := by decide +kernel
theorem dRn_init_20 : decode cRn_init 20 = .ok (.aload_n 1, 1) := by decide +kernel
theorem dRn_init_21 : decode cRn_init 21 = .ok (.putfield 18, 3) := by decide +kernel
theorem dRn_init_24 : decode cRn_init 24 = .ok (.return_, 1) := by decide +kernel
theorem dEx_add_0 : decode cEx_add 0 = .ok (.iload_n 1, 1) := by decide +kernel
theorem dEx_add_1 : decode cEx_add 1 = .ok (.invokestatic 25, 3) := by decide +kernel
theorem dEx_add_4 : decode cEx_add 4 = .ok (.ifCond .eq 22, 3) := by decide +kernel
theorem dEx_add_7 : decode cEx_add 7 = .ok (.iload_n 2, 1) := by decide +kernel
theorem dEx_add_8 : decode cEx_add 8 = .ok (.bipush 21, 2) := by decide +kernel
theorem dEx_add_10 : decode cEx_add 10 = .ok (.invokestatic 29, 3) := by decide +kernel
theorem dEx_add_13 : decode cEx_add 13 = .ok (.ifCond .eq 13, 3) := by decide +kernel
theorem dEx_add_16 : decode cEx_add 16 = .ok (.iload_n 3, 1) := by decide +kernel
theorem dEx_add_17 : decode cEx_add 17 = .ok (.sipush 255, 3) := by decide +kernel
theorem dEx_add_20 : decode cEx_add 20 = .ok (.invokestatic 29, 3) := by decide +kernel
theorem dEx_add_23 : decode cEx_add 23 = .ok (.ifCond .ne 5, 3) := by decide +kernel
theorem dEx_add_26 : decode cEx_add 26 = .ok (.iconst (-1), 1) := by decide +kernel
theorem dEx_add_27 : decode cEx_add 27 = .ok (.ireturn, 1) := by decide +kernel
theorem dEx_add_28 : decode cEx_add 28 = .ok (.aload_n 0, 1) := by decide +kernel
theorem dEx_add_29 : decode cEx_add 29 = .ok (.getfield 11, 3) := by decide +kernel
theorem dEx_add_32 : decode cEx_add 32 = .ok (.iload_n 1, 1) := by decide +kernel
theorem dEx_add_33 : decode cEx_add 33 = .ok (.aaload, 1) := by decide +kernel
theorem dEx_add_34 : decode cEx_add 34 = .ok (.iload_n 2, 1) := by decide +kernel
theorem dEx_add_35 : decode cEx_add 35 = .ok (.iload_n 3, 1) := by decide +kernel
theorem dEx_add_36 : decode cEx_add 36 = .ok (.invokevirtual 33, 3) := by decide +kernel
theorem dEx_add_39 : decode cEx_add 39 = .ok (.istore 4, 2) := by decide +kernel
theorem dEx_add_41 : decode cEx_add 41 = .ok (.iload 4, 2) := by decide +kernel
theorem dEx_add_43 : decode cEx_add 43 = .ok (.bipush (-2), 2) := by decide +kernel
theorem dEx_add_45 : decode cEx_add 45 = .ok (.if_icmp .eq 12, 3) := by decide +kernel
theorem dEx_add_48 : decode cEx_add 48 = .ok (.aload_n 0, 1) := by decide +kernel
theorem dEx_add_49 : decode cEx_add 49 = .ok (.getfield 17, 3) := by decide +kernel
theorem dEx_add_52 : decode cEx_add 52 = .ok (.iload_n 1, 1) := by decide +kernel
theorem dEx_add_53 : decode cEx_add 53 = .ok (.aaload, 1) := by decide +kernel
theorem dEx_add_54 : decode cEx_add 54 = .ok (.invokevirtual 37, 3) := by decide +kernel
theorem dEx_add_57 : decode cEx_add 57 = .ok (.iload 4, 2) := by decide +kernel
theorem dEx_add_59 : decode cEx_add 59 = .ok (.ireturn, 1) := by decide +kernel
theorem dEx_isProgram_0 : decode cEx_isProgram 0 = .ok (.iload_n 0, 1) := by decide +kernel
theorem dEx_isProgram_1 : decode cEx_isProgram 1 = .ok (.iconst 5, 1) := by decide +kernel
theorem dEx_isProgram_2 : decode cEx_isProgram 2 = .ok (.invokestatic 29, 3) := by decide +kernel
theorem dEx_isProgram_5 : decode cEx_isProgram 5 = .ok (.ireturn, 1) := by decide +kernel
theorem dEx_isWithin_0 : decode cEx_isWithin 0 = .ok (.iload_n 0, 1) := by decide +kernel
theorem dEx_isWithin_1 : decode cEx_isWithin 1 = .ok (.ifCond .lt 12, 3) := by decide +kernel
theorem dEx_isWithin_4 : decode cEx_isWithin 4 = .ok (.iload_n 0, 1) := by decide +kernel
theorem dEx_isWithin_5 : decode cEx_isWithin 5 = .ok (.iload_n 1, 1) := by decide +kernel
theorem dEx_isWithin_6 : decode cEx_isWithin 6 = .ok (.if_icmp .gt 7, 3) := by decide +kernel
theorem dEx_isWithin_9 : decode cEx_isWithin 9 = .ok (.iconst 1, 1) := by decide +kernel
theorem dEx_isWithin_10 : decode cEx_isWithin 10 = .ok (.goto 4, 3) := by decide +kernel
theorem dEx_isWithin_13 : decode cEx_isWithin 13 = .ok (.iconst 0, 1) := by decide +kernel
theorem dEx_isWithin_14 : decode cEx_isWithin 14 = .ok (.ireturn, 1) := by decide +kernel
theorem dPg_append_0 : decode cPg_append 0 = .ok (.aload_n 0, 1) := by decide +kernel
theorem dPg_append_1 : decode cPg_append 1 = .ok (.getfield 18, 3) := by decide +kernel
theorem dPg_append_4 : decode cPg_append 4 = .ok (.bipush 14, 2) := by decide +kernel
theorem dPg_append_6 : decode cPg_append 6 = .ok (.if_icmp .lt 6, 3) := by decide +kernel
theorem dPg_append_9 : decode cPg_append 9 = .ok (.bipush (-2), 2) := by decide +kernel
theorem dPg_append_11 : decode cPg_append 11 = .ok (.ireturn, 1) := by decide +kernel
theorem dPg_append_12 : decode cPg_append 12 = .ok (.aload_n 0, 1) := by decide +kernel
theorem dPg_append_13 : decode cPg_append 13 = .ok (.getfield 9, 3) := by decide +kernel
theorem dPg_append_16 : decode cPg_append 16 = .ok (.aload_n 0, 1) := by decide +kernel
theorem dPg_append_17 : decode cPg_append 17 = .ok (.getfield 18, 3) := by decide +kernel
theorem dPg_append_20 : decode cPg_append 20 = .ok (.iload_n 1, 1) := by decide +kernel
theorem dPg_append_21 : decode cPg_append 21 = .ok (.iastore, 1) := by decide +kernel
theorem dPg_append_22 : decode cPg_append 22 = .ok (.aload_n 0, 1) := by decide +kernel
theorem dPg_append_23 : decode cPg_append 23 = .ok (.getfield 15, 3) := by decide +kernel
theorem dPg_append_26 : decode cPg_append 26 = .ok (.aload_n 0, 1) := by decide +kernel
theorem dPg_append_27 : decode cPg_append 27 = .ok (.getfield 18, 3) := by decide +kernel
theorem dPg_append_30 : decode cPg_append 30 = .ok (.iload_n 2, 1) := by decide +kernel
theorem dPg_append_31 : decode cPg_append 31 = .ok (.iastore, 1) := by decide +kernel
theorem dPg_append_32 : decode cPg_append 32 = .ok (.aload_n 0, 1) := by decide +kernel
theorem dPg_append_33 : decode cPg_append 33 = .ok (.dup, 1) := by decide +kernel
theorem dPg_append_34 : decode cPg_append 34 = .ok (.getfield 18, 3) := by decide +kernel
theorem dPg_append_37 : decode cPg_append 37 = .ok (.iconst 1, 1) := by decide +kernel
theorem dPg_append_38 : decode cPg_append 38 = .ok (.iadd, 1) := by decide +kernel
theorem dPg_append_39 : decode cPg_append 39 = .ok (.putfield 18, 3) := by decide +kernel
theorem dPg_append_42 : decode cPg_append 42 = .ok (.aload_n 0, 1) := by decide +kernel
theorem dPg_append_43 : decode cPg_append 43 = .ok (.getfield 18, 3) := by decide +kernel
theorem dPg_append_46 : decode cPg_append 46 = .ok (.iconst 1, 1) := by decide +kernel
theorem dPg_append_47 : decode cPg_append 47 = .ok (.isub, 1) := by decide +kernel
theorem dPg_append_48 : decode cPg_append 48 = .ok (.ireturn, 1) := by decide +kernel
theorem dRn_forget_0 : decode cRn_forget 0 = .ok (.aload_n 0, 1) := by decide +kernel
theorem dRn_forget_1 : decode cRn_forget 1 = .ok (.iconst 0, 1) := by decide +kernel
theorem dRn_forget_2 : decode cRn_forget 2 = .ok (.putfield 26, 3) := by decide +kernel
theorem dRn_forget_5 : decode cRn_forget 5 = .ok (.return_, 1) := by decide +kernel
theorem dEx_clear_0 : decode cEx_clear 0 = .ok (.iload_n 1, 1) := by decide +kernel
theorem dEx_clear_1 : decode cEx_clear 1 = .ok (.invokestatic 25, 3) := by decide +kernel
theorem dEx_clear_4 : decode cEx_clear 4 = .ok (.ifCond .ne 5, 3) := by decide +kernel
theorem dEx_clear_7 : decode cEx_clear 7 = .ok (.iconst (-1), 1) := by decide +kernel
theorem dEx_clear_8 : decode cEx_clear 8 = .ok (.ireturn, 1) := by decide +kernel
theorem dEx_clear_9 : decode cEx_clear 9 = .ok (.aload_n 0, 1) := by decide +kernel
theorem dEx_clear_10 : decode cEx_clear 10 = .ok (.getfield 17, 3) := by decide +kernel
theorem dEx_clear_13 : decode cEx_clear 13 = .ok (.iload_n 1, 1) := by decide +kernel
theorem dEx_clear_14 : decode cEx_clear 14 = .ok (.aaload, 1) := by decide +kernel
theorem dEx_clear_15 : decode cEx_clear 15 = .ok (.invokevirtual 37, 3) := by decide +kernel
theorem dEx_clear_18 : decode cEx_clear 18 = .ok (.aload_n 0, 1) := by decide +kernel
theorem dEx_clear_19 : decode cEx_clear 19 = .ok (.getfield 11, 3) := by decide +kernel
theorem dEx_clear_22 : decode cEx_clear 22 = .ok (.iload_n 1, 1) := by decide +kernel
theorem dEx_clear_23 : decode cEx_clear 23 = .ok (.aaload, 1) := by decide +kernel
theorem dEx_clear_24 : decode cEx_clear 24 = .ok (.invokevirtual 40, 3) := by decide +kernel
theorem dEx_clear_27 : decode cEx_clear 27 = .ok (.iconst 0, 1) := by decide +kernel
theorem dEx_clear_28 : decode cEx_clear 28 = .ok (.ireturn, 1) := by decide +kernel
theorem dPg_empty_0 : decode cPg_empty 0 = .ok (.aload_n 0, 1) := by decide +kernel
theorem dPg_empty_1 : decode cPg_empty 1 = .ok (.iconst 0, 1) := by decide +kernel
theorem dPg_empty_2 : decode cPg_empty 2 = .ok (.putfield 18, 3) := by decide +kernel
theorem dPg_empty_5 : decode cPg_empty 5 = .ok (.return_, 1) := by decide +kernel
theorem dEx_run_0 : decode cEx_run 0 = .ok (.iload_n 1, 1) := by decide +kernel
theorem dEx_run_1 : decode cEx_run 1 = .ok (.invokestatic 25, 3) := by decide +kernel
theorem dEx_run_4 : decode cEx_run 4 = .ok (.ifCond .ne 5, 3) := by decide +kernel
theorem dEx_run_7 : decode cEx_run 7 = .ok (.iconst (-1), 1) := by decide +kernel
theorem dEx_run_8 : decode cEx_run 8 = .ok (.ireturn, 1) := by decide +kernel
theorem dEx_run_9 : decode cEx_run 9 = .ok (.aload_n 0, 1) := by decide +kernel
theorem dEx_run_10 : decode cEx_run 10 = .ok (.iload_n 1, 1) := by decide +kernel
theorem dEx_run_11 : decode cEx_run 11 = .ok (.iload_n 2, 1) := by decide +kernel
theorem dEx_run_12 : decode cEx_run 12 = .ok (.invokevirtual 43, 3) := by decide +kernel
theorem dEx_run_15 : decode cEx_run 15 = .ok (.ireturn, 1) := by decide +kernel
theorem dEx_perform_0 : decode cEx_perform 0 = .ok (.aload_n 0, 1) := by decide +kernel
theorem dEx_perform_1 : decode cEx_perform 1 = .ok (.getfield 17, 3) := by decide +kernel
theorem dEx_perform_4 : decode cEx_perform 4 = .ok (.iload_n 1, 1) := by decide +kernel
theorem dEx_perform_5 : decode cEx_perform 5 = .ok (.aaload, 1) := by decide +kernel
theorem dEx_perform_6 : decode cEx_perform 6 = .ok (.astore_n 3, 1) := by decide +kernel
theorem dEx_perform_7 : decode cEx_perform 7 = .ok (.aload_n 3, 1) := by decide +kernel
theorem dEx_perform_8 : decode cEx_perform 8 = .ok (.iload_n 2, 1) := by decide +kernel
theorem dEx_perform_9 : decode cEx_perform 9 = .ok (.ifCond .eq 10, 3) := by decide +kernel
theorem dEx_perform_12 : decode cEx_perform 12 = .ok (.bipush 20, 2) := by decide +kernel
theorem dEx_perform_14 : decode cEx_perform 14 = .ok (.iload_n 1, 1) := by decide +kernel
theorem dEx_perform_15 : decode cEx_perform 15 = .ok (.iadd, 1) := by decide +kernel
theorem dEx_perform_16 : decode cEx_perform 16 = .ok (.goto 5, 3) := by decide +kernel
theorem dEx_perform_19 : decode cEx_perform 19 = .ok (.bipush 10, 2) := by decide +kernel
theorem dEx_perform_21 : decode cEx_perform 21 = .ok (.invokevirtual 79, 3) := by decide +kernel
theorem dEx_perform_24 : decode cEx_perform 24 = .ok (.aload_n 0, 1) := by decide +kernel
theorem dEx_perform_25 : decode cEx_perform 25 = .ok (.dup, 1) := by decide +kernel
theorem dEx_perform_26 : decode cEx_perform 26 = .ok (.getfield 65, 3) := by decide +kernel
theorem dEx_perform_29 : decode cEx_perform 29 = .ok (.iconst 1, 1) := by decide +kernel
theorem dEx_perform_30 : decode cEx_perform 30 = .ok (.iadd, 1) := by decide +kernel
theorem dEx_perform_31 : decode cEx_perform 31 = .ok (.putfield 65, 3) := by decide +kernel
theorem dEx_perform_34 : decode cEx_perform 34 = .ok (.iload_n 2, 1) := by decide +kernel
theorem dEx_perform_35 : decode cEx_perform 35 = .ok (.ifCond .eq 13, 3) := by decide +kernel
theorem dEx_perform_38 : decode cEx_perform 38 = .ok (.aload_n 0, 1) := by decide +kernel
theorem dEx_perform_39 : decode cEx_perform 39 = .ok (.dup, 1) := by decide +kernel
theorem dEx_perform_40 : decode cEx_perform 40 = .ok (.getfield 69, 3) := by decide +kernel
theorem dEx_perform_43 : decode cEx_perform 43 = .ok (.iconst 1, 1) := by decide +kernel
theorem dEx_perform_44 : decode cEx_perform 44 = .ok (.iadd, 1) := by decide +kernel
theorem dEx_perform_45 : decode cEx_perform 45 = .ok (.putfield 69, 3) := by decide +kernel
theorem dEx_perform_48 : decode cEx_perform 48 = .ok (.aload_n 3, 1) := by decide +kernel
theorem dEx_perform_49 : decode cEx_perform 49 = .ok (.invokevirtual 82, 3) := by decide +kernel
theorem dEx_perform_52 : decode cEx_perform 52 = .ok (.ifCond .eq 13, 3) := by decide +kernel
theorem dEx_perform_55 : decode cEx_perform 55 = .ok (.aload_n 0, 1) := by decide +kernel
theorem dEx_perform_56 : decode cEx_perform 56 = .ok (.dup, 1) := by decide +kernel
theorem dEx_perform_57 : decode cEx_perform 57 = .ok (.getfield 72, 3) := by decide +kernel
theorem dEx_perform_60 : decode cEx_perform 60 = .ok (.iconst 1, 1) := by decide +kernel
theorem dEx_perform_61 : decode cEx_perform 61 = .ok (.iadd, 1) := by decide +kernel
theorem dEx_perform_62 : decode cEx_perform 62 = .ok (.putfield 72, 3) := by decide +kernel
theorem dEx_perform_65 : decode cEx_perform 65 = .ok (.aload_n 0, 1) := by decide +kernel
theorem dEx_perform_66 : decode cEx_perform 66 = .ok (.dup, 1) := by decide +kernel
theorem dEx_perform_67 : decode cEx_perform 67 = .ok (.getfield 61, 3) := by decide +kernel
theorem dEx_perform_70 : decode cEx_perform 70 = .ok (.aload_n 3, 1) := by decide +kernel
theorem dEx_perform_71 : decode cEx_perform 71 = .ok (.invokevirtual 85, 3) := by decide +kernel
theorem dEx_perform_74 : decode cEx_perform 74 = .ok (.ladd, 1) := by decide +kernel
theorem dEx_perform_75 : decode cEx_perform 75 = .ok (.putfield 61, 3) := by decide +kernel
theorem dEx_perform_78 : decode cEx_perform 78 = .ok (.aload_n 3, 1) := by decide +kernel
theorem dEx_perform_79 : decode cEx_perform 79 = .ok (.invokevirtual 82, 3) := by decide +kernel
theorem dEx_perform_82 : decode cEx_perform 82 = .ok (.ireturn, 1) := by decide +kernel
theorem dRn_perform_0 : decode cRn_perform 0 = .ok (.aload_n 0, 1) := by decide +kernel
theorem dRn_perform_1 : decode cRn_perform 1 = .ok (.iload_n 1, 1) := by decide +kernel
theorem dRn_perform_2 : decode cRn_perform 2 = .ok (.invokevirtual 63, 3) := by decide +kernel
theorem dRn_perform_5 : decode cRn_perform 5 = .ok (.aload_n 0, 1) := by decide +kernel
theorem dRn_perform_6 : decode cRn_perform 6 = .ok (.iconst 0, 1) := by decide +kernel
theorem dRn_perform_7 : decode cRn_perform 7 = .ok (.aload_n 0, 1) := by decide +kernel
theorem dRn_perform_8 : decode cRn_perform 8 = .ok (.getfield 18, 3) := by decide +kernel
theorem dRn_perform_11 : decode cRn_perform 11 = .ok (.invokevirtual 67, 3) := by decide +kernel
theorem dRn_perform_14 : decode cRn_perform 14 = .ok (.iconst 0, 1) := by decide +kernel
theorem dRn_perform_15 : decode cRn_perform 15 = .ok (.invokevirtual 72, 3) := by decide +kernel
theorem dRn_perform_18 : decode cRn_perform 18 = .ok (.pop, 1) := by decide +kernel
theorem dRn_perform_19 : decode cRn_perform 19 = .ok (.aload_n 0, 1) := by decide +kernel
theorem dRn_perform_20 : decode cRn_perform 20 = .ok (.iconst 1, 1) := by decide +kernel
theorem dRn_perform_21 : decode cRn_perform 21 = .ok (.putfield 26, 3) := by decide +kernel
theorem dRn_perform_24 : decode cRn_perform 24 = .ok (.return_, 1) := by decide +kernel
theorem dRn_begin_0 : decode cRn_begin 0 = .ok (.aload_n 0, 1) := by decide +kernel
theorem dRn_begin_1 : decode cRn_begin 1 = .ok (.iload_n 1, 1) := by decide +kernel
theorem dRn_begin_2 : decode cRn_begin 2 = .ok (.putfield 76, 3) := by decide +kernel
theorem dRn_begin_5 : decode cRn_begin 5 = .ok (.aload_n 0, 1) := by decide +kernel
theorem dRn_begin_6 : decode cRn_begin 6 = .ok (.iconst 0, 1) := by decide +kernel
theorem dRn_begin_7 : decode cRn_begin 7 = .ok (.putfield 42, 3) := by decide +kernel
theorem dRn_begin_10 : decode cRn_begin 10 = .ok (.aload_n 0, 1) := by decide +kernel
theorem dRn_begin_11 : decode cRn_begin 11 = .ok (.iconst 0, 1) := by decide +kernel
theorem dRn_begin_12 : decode cRn_begin 12 = .ok (.putfield 45, 3) := by decide +kernel
theorem dRn_begin_15 : decode cRn_begin 15 = .ok (.aload_n 0, 1) := by decide +kernel
theorem dRn_begin_16 : decode cRn_begin 16 = .ok (.iconst 0, 1) := by decide +kernel
theorem dRn_begin_17 : decode cRn_begin 17 = .ok (.putfield 48, 3) := by decide +kernel
theorem dRn_begin_20 : decode cRn_begin 20 = .ok (.aload_n 0, 1) := by decide +kernel
theorem dRn_begin_21 : decode cRn_begin 21 = .ok (.iconst 0, 1) := by decide +kernel
theorem dRn_begin_22 : decode cRn_begin 22 = .ok (.putfield 51, 3) := by decide +kernel
theorem dRn_begin_25 : decode cRn_begin 25 = .ok (.aload_n 0, 1) := by decide +kernel
theorem dRn_begin_26 : decode cRn_begin 26 = .ok (.iconst 0, 1) := by decide +kernel
theorem dRn_begin_27 : decode cRn_begin 27 = .ok (.putfield 60, 3) := by decide +kernel
theorem dRn_begin_30 : decode cRn_begin 30 = .ok (.aload_n 0, 1) := by decide +kernel
theorem dRn_begin_31 : decode cRn_begin 31 = .ok (.lconst 0, 1) := by decide +kernel
theorem dRn_begin_32 : decode cRn_begin 32 = .ok (.putfield 34, 3) := by decide +kernel
theorem dRn_begin_35 : decode cRn_begin 35 = .ok (.iconst 0, 1) := by decide +kernel
theorem dRn_begin_36 : decode cRn_begin 36 = .ok (.istore_n 2, 1) := by decide +kernel
theorem dRn_begin_37 : decode cRn_begin 37 = .ok (.iload_n 2, 1) := by decide +kernel
theorem dRn_begin_38 : decode cRn_begin 38 = .ok (.bipush 8, 2) := by decide +kernel
theorem dRn_begin_40 : decode cRn_begin 40 = .ok (.if_icmp .ge 16, 3) := by decide +kernel
theorem dRn_begin_43 : decode cRn_begin 43 = .ok (.aload_n 0, 1) := by decide +kernel
theorem dRn_begin_44 : decode cRn_begin 44 = .ok (.getfield 11, 3) := by decide +kernel
theorem dRn_begin_47 : decode cRn_begin 47 = .ok (.iload_n 2, 1) := by decide +kernel
theorem dRn_begin_48 : decode cRn_begin 48 = .ok (.iconst 0, 1) := by decide +kernel
theorem dRn_begin_49 : decode cRn_begin 49 = .ok (.iastore, 1) := by decide +kernel
theorem dRn_begin_50 : decode cRn_begin 50 = .ok (.iinc 2 1, 3) := by decide +kernel
theorem dRn_begin_53 : decode cRn_begin 53 = .ok (.goto (-16), 3) := by decide +kernel
theorem dRn_begin_56 : decode cRn_begin 56 = .ok (.iconst 0, 1) := by decide +kernel
theorem dRn_begin_57 : decode cRn_begin 57 = .ok (.istore_n 2, 1) := by decide +kernel
theorem dRn_begin_58 : decode cRn_begin 58 = .ok (.iload_n 2, 1) := by decide +kernel
theorem dRn_begin_59 : decode cRn_begin 59 = .ok (.iconst 2, 1) := by decide +kernel
theorem dRn_begin_60 : decode cRn_begin 60 = .ok (.if_icmp .ge 16, 3) := by decide +kernel
theorem dRn_begin_63 : decode cRn_begin 63 = .ok (.aload_n 0, 1) := by decide +kernel
theorem dRn_begin_64 : decode cRn_begin 64 = .ok (.getfield 15, 3) := by decide +kernel
theorem dRn_begin_67 : decode cRn_begin 67 = .ok (.iload_n 2, 1) := by decide +kernel
theorem dRn_begin_68 : decode cRn_begin 68 = .ok (.iconst 0, 1) := by decide +kernel
theorem dRn_begin_69 : decode cRn_begin 69 = .ok (.iastore, 1) := by decide +kernel
theorem dRn_begin_70 : decode cRn_begin 70 = .ok (.iinc 2 1, 3) := by decide +kernel
theorem dRn_begin_73 : decode cRn_begin 73 = .ok (.goto (-15), 3) := by decide +kernel
theorem dRn_begin_76 : decode cRn_begin 76 = .ok (.aload_n 0, 1) := by decide +kernel
theorem dRn_begin_77 : decode cRn_begin 77 = .ok (.invokevirtual 79, 3) := by decide +kernel
theorem dRn_begin_80 : decode cRn_begin 80 = .ok (.return_, 1) := by decide +kernel
theorem dRn_forgetTrouble_0 : decode cRn_forgetTrouble 0 = .ok (.aload_n 0, 1) := by decide +kernel
theorem dRn_forgetTrouble_1 : decode cRn_forgetTrouble 1 = .ok (.iconst (-1), 1) := by decide +kernel
theorem dRn_forgetTrouble_2 : decode cRn_forgetTrouble 2 = .ok (.putfield 30, 3) := by decide +kernel
theorem dRn_forgetTrouble_5 : decode cRn_forgetTrouble 5 = .ok (.aload_n 0, 1) := by decide +kernel
theorem dRn_forgetTrouble_6 : decode cRn_forgetTrouble 6 = .ok (.iconst (-1), 1) := by decide +kernel
theorem dRn_forgetTrouble_7 : decode cRn_forgetTrouble 7 = .ok (.putfield 54, 3) := by decide +kernel
theorem dRn_forgetTrouble_10 : decode cRn_forgetTrouble 10 = .ok (.aload_n 0, 1) := by decide +kernel
theorem dRn_forgetTrouble_11 : decode cRn_forgetTrouble 11 = .ok (.iconst (-1), 1) := by decide +kernel
theorem dRn_forgetTrouble_12 : decode cRn_forgetTrouble 12 = .ok (.putfield 57, 3) := by decide +kernel
theorem dRn_forgetTrouble_15 : decode cRn_forgetTrouble 15 = .ok (.return_, 1) := by decide +kernel
theorem dPg_size_0 : decode cPg_size 0 = .ok (.aload_n 0, 1) := by decide +kernel
theorem dPg_size_1 : decode cPg_size 1 = .ok (.getfield 18, 3) := by decide +kernel
theorem dPg_size_4 : decode cPg_size 4 = .ok (.ireturn, 1) := by decide +kernel
theorem dRn_doActions_0 : decode cRn_doActions 0 = .ok (.iload_n 3, 1) := by decide +kernel
theorem dRn_doActions_1 : decode cRn_doActions 1 = .ok (.bipush 14, 2) := by decide +kernel
theorem dRn_doActions_3 : decode cRn_doActions 3 = .ok (.if_icmp .le 5, 3) := by decide +kernel
theorem dRn_doActions_6 : decode cRn_doActions 6 = .ok (.iconst 1, 1) := by decide +kernel
theorem dRn_doActions_7 : decode cRn_doActions 7 = .ok (.ireturn, 1) := by decide +kernel
theorem dRn_doActions_8 : decode cRn_doActions 8 = .ok (.iload_n 1, 1) := by decide +kernel
theorem dRn_doActions_9 : decode cRn_doActions 9 = .ok (.istore 4, 2) := by decide +kernel
theorem dRn_doActions_11 : decode cRn_doActions 11 = .ok (.iload 4, 2) := by decide +kernel
theorem dRn_doActions_13 : decode cRn_doActions 13 = .ok (.iload_n 2, 1) := by decide +kernel
theorem dRn_doActions_14 : decode cRn_doActions 14 = .ok (.if_icmp .ge 74, 3) := by decide +kernel
theorem dRn_doActions_17 : decode cRn_doActions 17 = .ok (.aload_n 0, 1) := by decide +kernel
theorem dRn_doActions_18 : decode cRn_doActions 18 = .ok (.getfield 45, 3) := by decide +kernel
theorem dRn_doActions_21 : decode cRn_doActions 21 = .ok (.sipush 400, 3) := by decide +kernel
theorem dRn_doActions_24 : decode cRn_doActions 24 = .ok (.if_icmp .lt 5, 3) := by decide +kernel
theorem dRn_doActions_27 : decode cRn_doActions 27 = .ok (.iconst 1, 1) := by decide +kernel
theorem dRn_doActions_28 : decode cRn_doActions 28 = .ok (.ireturn, 1) := by decide +kernel
theorem dRn_doActions_29 : decode cRn_doActions 29 = .ok (.aload_n 0, 1) := by decide +kernel
theorem dRn_doActions_30 : decode cRn_doActions 30 = .ok (.dup, 1) := by decide +kernel
theorem dRn_doActions_31 : decode cRn_doActions 31 = .ok (.getfield 45, 3) := by decide +kernel
theorem dRn_doActions_34 : decode cRn_doActions 34 = .ok (.iconst 1, 1) := by decide +kernel
theorem dRn_doActions_35 : decode cRn_doActions 35 = .ok (.iadd, 1) := by decide +kernel
theorem dRn_doActions_36 : decode cRn_doActions 36 = .ok (.putfield 45, 3) := by decide +kernel
theorem dRn_doActions_39 : decode cRn_doActions 39 = .ok (.aload_n 0, 1) := by decide +kernel
theorem dRn_doActions_40 : decode cRn_doActions 40 = .ok (.getfield 18, 3) := by decide +kernel
theorem dRn_doActions_43 : decode cRn_doActions 43 = .ok (.iload 4, 2) := by decide +kernel
theorem dRn_doActions_45 : decode cRn_doActions 45 = .ok (.iload_n 2, 1) := by decide +kernel
theorem dRn_doActions_46 : decode cRn_doActions 46 = .ok (.invokevirtual 82, 3) := by decide +kernel
theorem dRn_doActions_49 : decode cRn_doActions 49 = .ok (.istore 5, 2) := by decide +kernel
theorem dRn_doActions_51 : decode cRn_doActions 51 = .ok (.aload_n 0, 1) := by decide +kernel
theorem dRn_doActions_52 : decode cRn_doActions 52 = .ok (.iload 4, 2) := by decide +kernel
theorem dRn_doActions_54 : decode cRn_doActions 54 = .ok (.iload 4, 2) := by decide +kernel
theorem dRn_doActions_56 : decode cRn_doActions 56 = .ok (.iconst 1, 1) := by decide +kernel
theorem dRn_doActions_57 : decode cRn_doActions 57 = .ok (.iadd, 1) := by decide +kernel
theorem dRn_doActions_58 : decode cRn_doActions 58 = .ok (.iload 5, 2) := by decide +kernel
theorem dRn_doActions_60 : decode cRn_doActions 60 = .ok (.iadd, 1) := by decide +kernel
theorem dRn_doActions_61 : decode cRn_doActions 61 = .ok (.iload_n 3, 1) := by decide +kernel
theorem dRn_doActions_62 : decode cRn_doActions 62 = .ok (.invokevirtual 86, 3) := by decide +kernel
theorem dRn_doActions_65 : decode cRn_doActions 65 = .ok (.istore 6, 2) := by decide +kernel
theorem dRn_doActions_67 : decode cRn_doActions 67 = .ok (.iload 6, 2) := by decide +kernel
theorem dRn_doActions_69 : decode cRn_doActions 69 = .ok (.ifCond .eq 6, 3) := by decide +kernel
theorem dRn_doActions_72 : decode cRn_doActions 72 = .ok (.iload 6, 2) := by decide +kernel
theorem dRn_doActions_74 : decode cRn_doActions 74 = .ok (.ireturn, 1) := by decide +kernel
theorem dRn_doActions_75 : decode cRn_doActions 75 = .ok (.iload 4, 2) := by decide +kernel
theorem dRn_doActions_77 : decode cRn_doActions 77 = .ok (.iload 5, 2) := by decide +kernel
theorem dRn_doActions_79 : decode cRn_doActions 79 = .ok (.iadd, 1) := by decide +kernel
theorem dRn_doActions_80 : decode cRn_doActions 80 = .ok (.istore 4, 2) := by decide +kernel
theorem dRn_doActions_82 : decode cRn_doActions 82 = .ok (.iinc 4 1, 3) := by decide +kernel
theorem dRn_doActions_85 : decode cRn_doActions 85 = .ok (.goto (-74), 3) := by decide +kernel
theorem dRn_doActions_88 : decode cRn_doActions 88 = .ok (.iconst 0, 1) := by decide +kernel
theorem dRn_doActions_89 : decode cRn_doActions 89 = .ok (.ireturn, 1) := by decide +kernel
theorem dPg_blockLength_0 : decode cPg_blockLength 0 = .ok (.aload_n 0, 1) := by decide +kernel
theorem dPg_blockLength_1 : decode cPg_blockLength 1 = .ok (.getfield 9, 3) := by decide +kernel
theorem dPg_blockLength_4 : decode cPg_blockLength 4 = .ok (.iload_n 1, 1) := by decide +kernel
theorem dPg_blockLength_5 : decode cPg_blockLength 5 = .ok (.iaload, 1) := by decide +kernel
theorem dPg_blockLength_6 : decode cPg_blockLength 6 = .ok (.bipush 10, 2) := by decide +kernel
theorem dPg_blockLength_8 : decode cPg_blockLength 8 = .ok (.if_icmp .lt 14, 3) := by decide +kernel
theorem dPg_blockLength_11 : decode cPg_blockLength 11 = .ok (.aload_n 0, 1) := by decide +kernel
theorem dPg_blockLength_12 : decode cPg_blockLength 12 = .ok (.getfield 9, 3) := by decide +kernel
theorem dPg_blockLength_15 : decode cPg_blockLength 15 = .ok (.iload_n 1, 1) := by decide +kernel
theorem dPg_blockLength_16 : decode cPg_blockLength 16 = .ok (.iaload, 1) := by decide +kernel
theorem dPg_blockLength_17 : decode cPg_blockLength 17 = .ok (.bipush 14, 2) := by decide +kernel
theorem dPg_blockLength_19 : decode cPg_blockLength 19 = .ok (.if_icmp .le 5, 3) := by decide +kernel
theorem dPg_blockLength_22 : decode cPg_blockLength 22 = .ok (.iconst 0, 1) := by decide +kernel
theorem dPg_blockLength_23 : decode cPg_blockLength 23 = .ok (.ireturn, 1) := by decide +kernel
theorem dPg_blockLength_24 : decode cPg_blockLength 24 = .ok (.aload_n 0, 1) := by decide +kernel
theorem dPg_blockLength_25 : decode cPg_blockLength 25 = .ok (.iload_n 1, 1) := by decide +kernel
theorem dPg_blockLength_26 : decode cPg_blockLength 26 = .ok (.invokevirtual 24, 3) := by decide +kernel
theorem dPg_blockLength_29 : decode cPg_blockLength 29 = .ok (.iload_n 2, 1) := by decide +kernel
theorem dPg_blockLength_30 : decode cPg_blockLength 30 = .ok (.iload_n 1, 1) := by decide +kernel
theorem dPg_blockLength_31 : decode cPg_blockLength 31 = .ok (.isub, 1) := by decide +kernel
theorem dPg_blockLength_32 : decode cPg_blockLength 32 = .ok (.iconst 1, 1) := by decide +kernel
theorem dPg_blockLength_33 : decode cPg_blockLength 33 = .ok (.isub, 1) := by decide +kernel
theorem dPg_blockLength_34 : decode cPg_blockLength 34 = .ok (.invokestatic 28, 3) := by decide +kernel
theorem dPg_blockLength_37 : decode cPg_blockLength 37 = .ok (.ireturn, 1) := by decide +kernel
theorem dPg_low_0 : decode cPg_low 0 = .ok (.aload_n 0, 1) := by decide +kernel
theorem dPg_low_1 : decode cPg_low 1 = .ok (.getfield 15, 3) := by decide +kernel
theorem dPg_low_4 : decode cPg_low 4 = .ok (.iload_n 1, 1) := by decide +kernel
theorem dPg_low_5 : decode cPg_low 5 = .ok (.iaload, 1) := by decide +kernel
theorem dPg_low_6 : decode cPg_low 6 = .ok (.bipush 16, 2) := by decide +kernel
theorem dPg_low_8 : decode cPg_low 8 = .ok (.irem, 1) := by decide +kernel
theorem dPg_low_9 : decode cPg_low 9 = .ok (.ireturn, 1) := by decide +kernel
theorem dRn_doAction_0 : decode cRn_doAction 0 = .ok (.aload_n 0, 1) := by decide +kernel
theorem dRn_doAction_1 : decode cRn_doAction 1 = .ok (.getfield 18, 3) := by decide +kernel
theorem dRn_doAction_4 : decode cRn_doAction 4 = .ok (.iload_n 1, 1) := by decide +kernel
theorem dRn_doAction_5 : decode cRn_doAction 5 = .ok (.invokevirtual 89, 3) := by decide +kernel
theorem dRn_doAction_8 : decode cRn_doAction 8 = .ok (.istore 4, 2) := by decide +kernel
theorem dRn_doAction_10 : decode cRn_doAction 10 = .ok (.aload_n 0, 1) := by decide +kernel
theorem dRn_doAction_11 : decode cRn_doAction 11 = .ok (.getfield 18, 3) := by decide +kernel
theorem dRn_doAction_14 : decode cRn_doAction 14 = .ok (.iload_n 1, 1) := by decide +kernel
theorem dRn_doAction_15 : decode cRn_doAction 15 = .ok (.invokevirtual 93, 3) := by decide +kernel
theorem dRn_doAction_18 : decode cRn_doAction 18 = .ok (.tableswitch 360 0 21 #[102, 114, 126, 152, 178, 207, 213, 219, 225, 230, 235, 243, 251, 259, 267, 275, 295, 319, 325, 343, 349, 351], 102) := by decide +kernel
theorem dRn_doAction_120 : decode cRn_doAction 120 = .ok (.aload_n 0, 1) := by decide +kernel
theorem dRn_doAction_121 : decode cRn_doAction 121 = .ok (.aload_n 0, 1) := by decide +kernel
theorem dRn_doAction_122 : decode cRn_doAction 122 = .ok (.getfield 42, 3) := by decide +kernel
theorem dRn_doAction_125 : decode cRn_doAction 125 = .ok (.iload 4, 2) := by decide +kernel
theorem dRn_doAction_127 : decode cRn_doAction 127 = .ok (.iadd, 1) := by decide +kernel
theorem dRn_doAction_128 : decode cRn_doAction 128 = .ok (.invokevirtual 96, 3) := by decide +kernel
theorem dRn_doAction_131 : decode cRn_doAction 131 = .ok (.ireturn, 1) := by decide +kernel
theorem dRn_doAction_132 : decode cRn_doAction 132 = .ok (.aload_n 0, 1) := by decide +kernel
theorem dRn_doAction_133 : decode cRn_doAction 133 = .ok (.aload_n 0, 1) := by decide +kernel
theorem dRn_doAction_134 : decode cRn_doAction 134 = .ok (.getfield 42, 3) := by decide +kernel
theorem dRn_doAction_137 : decode cRn_doAction 137 = .ok (.iload 4, 2) := by decide +kernel
theorem dRn_doAction_139 : decode cRn_doAction 139 = .ok (.imul, 1) := by decide +kernel
theorem dRn_doAction_140 : decode cRn_doAction 140 = .ok (.invokevirtual 96, 3) := by decide +kernel
theorem dRn_doAction_143 : decode cRn_doAction 143 = .ok (.ireturn, 1) := by decide +kernel
theorem dRn_doAction_144 : decode cRn_doAction 144 = .ok (.iload 4, 2) := by decide +kernel
theorem dRn_doAction_146 : decode cRn_doAction 146 = .ok (.ifCond .ne 12, 3) := by decide +kernel
theorem dRn_doAction_149 : decode cRn_doAction 149 = .ok (.aload_n 0, 1) := by decide +kernel
theorem dRn_doAction_150 : decode cRn_doAction 150 = .ok (.iload_n 1, 1) := by decide +kernel
theorem dRn_doAction_151 : decode cRn_doAction 151 = .ok (.iconst 0, 1) := by decide +kernel
theorem dRn_doAction_152 : decode cRn_doAction 152 = .ok (.invokevirtual 99, 3) := by decide +kernel
theorem dRn_doAction_155 : decode cRn_doAction 155 = .ok (.goto 14, 3) := by decide +kernel
theorem dRn_doAction_158 : decode cRn_doAction 158 = .ok (.aload_n 0, 1) := by decide +kernel
theorem dRn_doAction_159 : decode cRn_doAction 159 = .ok (.aload_n 0, 1) := by decide +kernel
theorem dRn_doAction_160 : decode cRn_doAction 160 = .ok (.getfield 42, 3) := by decide +kernel
theorem dRn_doAction_163 : decode cRn_doAction 163 = .ok (.iload 4, 2) := by decide +kernel
theorem dRn_doAction_165 : decode cRn_doAction 165 = .ok (.idiv, 1) := by decide +kernel
theorem dRn_doAction_166 : decode cRn_doAction 166 = .ok (.invokevirtual 96, 3) := by decide +kernel
theorem dRn_doAction_169 : decode cRn_doAction 169 = .ok (.ireturn, 1) := by decide +kernel
theorem dRn_doAction_170 : decode cRn_doAction 170 = .ok (.iload 4, 2) := by decide +kernel
theorem dRn_doAction_172 : decode cRn_doAction 172 = .ok (.ifCond .ne 12, 3) := by decide +kernel
theorem dRn_doAction_175 : decode cRn_doAction 175 = .ok (.aload_n 0, 1) := by decide +kernel
theorem dRn_doAction_176 : decode cRn_doAction 176 = .ok (.iload_n 1, 1) := by decide +kernel
theorem dRn_doAction_177 : decode cRn_doAction 177 = .ok (.iconst 0, 1) := by decide +kernel
theorem dRn_doAction_178 : decode cRn_doAction 178 = .ok (.invokevirtual 99, 3) := by decide +kernel
theorem dRn_doAction_181 : decode cRn_doAction 181 = .ok (.goto 14, 3) := by decide +kernel
theorem dRn_doAction_184 : decode cRn_doAction 184 = .ok (.aload_n 0, 1) := by decide +kernel
theorem dRn_doAction_185 : decode cRn_doAction 185 = .ok (.aload_n 0, 1) := by decide +kernel
theorem dRn_doAction_186 : decode cRn_doAction 186 = .ok (.getfield 42, 3) := by decide +kernel
theorem dRn_doAction_189 : decode cRn_doAction 189 = .ok (.iload 4, 2) := by decide +kernel
theorem dRn_doAction_191 : decode cRn_doAction 191 = .ok (.irem, 1) := by decide +kernel
theorem dRn_doAction_192 : decode cRn_doAction 192 = .ok (.invokevirtual 96, 3) := by decide +kernel
theorem dRn_doAction_195 : decode cRn_doAction 195 = .ok (.ireturn, 1) := by decide +kernel
theorem dRn_doAction_196 : decode cRn_doAction 196 = .ok (.iload 4, 2) := by decide +kernel
theorem dRn_doAction_198 : decode cRn_doAction 198 = .ok (.invokestatic 102, 3) := by decide +kernel
theorem dRn_doAction_201 : decode cRn_doAction 201 = .ok (.ifCond .eq 17, 3) := by decide +kernel
theorem dRn_doAction_204 : decode cRn_doAction 204 = .ok (.aload_n 0, 1) := by decide +kernel
theorem dRn_doAction_205 : decode cRn_doAction 205 = .ok (.aload_n 0, 1) := by decide +kernel
theorem dRn_doAction_206 : decode cRn_doAction 206 = .ok (.getfield 11, 3) := by decide +kernel
theorem dRn_doAction_209 : decode cRn_doAction 209 = .ok (.iload 4, 2) := by decide +kernel
theorem dRn_doAction_211 : decode cRn_doAction 211 = .ok (.iaload, 1) := by decide +kernel
theorem dRn_doAction_212 : decode cRn_doAction 212 = .ok (.invokevirtual 96, 3) := by decide +kernel
theorem dRn_doAction_215 : decode cRn_doAction 215 = .ok (.goto 9, 3) := by decide +kernel
theorem dRn_doAction_218 : decode cRn_doAction 218 = .ok (.aload_n 0, 1) := by decide +kernel
theorem dRn_doAction_219 : decode cRn_doAction 219 = .ok (.iload_n 1, 1) := by decide +kernel
theorem dRn_doAction_220 : decode cRn_doAction 220 = .ok (.iconst 1, 1) := by decide +kernel
theorem dRn_doAction_221 : decode cRn_doAction 221 = .ok (.invokevirtual 99, 3) := by decide +kernel
theorem dRn_doAction_224 : decode cRn_doAction 224 = .ok (.ireturn, 1) := by decide +kernel
theorem dRn_doAction_225 : decode cRn_doAction 225 = .ok (.aload_n 0, 1) := by decide +kernel
theorem dRn_doAction_226 : decode cRn_doAction 226 = .ok (.iload_n 1, 1) := by decide +kernel
theorem dRn_doAction_227 : decode cRn_doAction 227 = .ok (.invokevirtual 106, 3) := by decide +kernel
theorem dRn_doAction_230 : decode cRn_doAction 230 = .ok (.ireturn, 1) := by decide +kernel
theorem dRn_doAction_231 : decode cRn_doAction 231 = .ok (.aload_n 0, 1) := by decide +kernel
theorem dRn_doAction_232 : decode cRn_doAction 232 = .ok (.iload_n 1, 1) := by decide +kernel
theorem dRn_doAction_233 : decode cRn_doAction 233 = .ok (.invokevirtual 109, 3) := by decide +kernel
theorem dRn_doAction_236 : decode cRn_doAction 236 = .ok (.ireturn, 1) := by decide +kernel
theorem dRn_doAction_237 : decode cRn_doAction 237 = .ok (.aload_n 0, 1) := by decide +kernel
theorem dRn_doAction_238 : decode cRn_doAction 238 = .ok (.iload_n 1, 1) := by decide +kernel
theorem dRn_doAction_239 : decode cRn_doAction 239 = .ok (.invokevirtual 112, 3) := by decide +kernel
theorem dRn_doAction_242 : decode cRn_doAction 242 = .ok (.ireturn, 1) := by decide +kernel
theorem dRn_doAction_243 : decode cRn_doAction 243 = .ok (.aload_n 0, 1) := by decide +kernel
theorem dRn_doAction_244 : decode cRn_doAction 244 = .ok (.invokevirtual 115, 3) := by decide +kernel
theorem dRn_doAction_247 : decode cRn_doAction 247 = .ok (.ireturn, 1) := by decide +kernel
theorem dRn_doAction_248 : decode cRn_doAction 248 = .ok (.aload_n 0, 1) := by decide +kernel
theorem dRn_doAction_249 : decode cRn_doAction 249 = .ok (.invokevirtual 118, 3) := by decide +kernel
theorem dRn_doAction_252 : decode cRn_doAction 252 = .ok (.ireturn, 1) := by decide +kernel
theorem dRn_doAction_253 : decode cRn_doAction 253 = .ok (.aload_n 0, 1) := by decide +kernel
theorem dRn_doAction_254 : decode cRn_doAction 254 = .ok (.iload_n 1, 1) := by decide +kernel
theorem dRn_doAction_255 : decode cRn_doAction 255 = .ok (.iload_n 2, 1) := by decide +kernel
theorem dRn_doAction_256 : decode cRn_doAction 256 = .ok (.iload_n 3, 1) := by decide +kernel
theorem dRn_doAction_257 : decode cRn_doAction 257 = .ok (.invokevirtual 121, 3) := by decide +kernel
theorem dRn_doAction_260 : decode cRn_doAction 260 = .ok (.ireturn, 1) := by decide +kernel
theorem dRn_doAction_261 : decode cRn_doAction 261 = .ok (.aload_n 0, 1) := by decide +kernel
theorem dRn_doAction_262 : decode cRn_doAction 262 = .ok (.iload_n 1, 1) := by decide +kernel
theorem dRn_doAction_263 : decode cRn_doAction 263 = .ok (.iload_n 2, 1) := by decide +kernel
theorem dRn_doAction_264 : decode cRn_doAction 264 = .ok (.iload_n 3, 1) := by decide +kernel
theorem dRn_doAction_265 : decode cRn_doAction 265 = .ok (.invokevirtual 124, 3) := by decide +kernel
theorem dRn_doAction_268 : decode cRn_doAction 268 = .ok (.ireturn, 1) := by decide +kernel
theorem dRn_doAction_269 : decode cRn_doAction 269 = .ok (.aload_n 0, 1) := by decide +kernel
theorem dRn_doAction_270 : decode cRn_doAction 270 = .ok (.iload_n 1, 1) := by decide +kernel
theorem dRn_doAction_271 : decode cRn_doAction 271 = .ok (.iload_n 2, 1) := by decide +kernel
theorem dRn_doAction_272 : decode cRn_doAction 272 = .ok (.iload_n 3, 1) := by decide +kernel
theorem dRn_doAction_273 : decode cRn_doAction 273 = .ok (.invokevirtual 127, 3) := by decide +kernel
theorem dRn_doAction_276 : decode cRn_doAction 276 = .ok (.ireturn, 1) := by decide +kernel
theorem dRn_doAction_277 : decode cRn_doAction 277 = .ok (.aload_n 0, 1) := by decide +kernel
theorem dRn_doAction_278 : decode cRn_doAction 278 = .ok (.iload_n 1, 1) := by decide +kernel
theorem dRn_doAction_279 : decode cRn_doAction 279 = .ok (.iload_n 2, 1) := by decide +kernel
theorem dRn_doAction_280 : decode cRn_doAction 280 = .ok (.iload_n 3, 1) := by decide +kernel
theorem dRn_doAction_281 : decode cRn_doAction 281 = .ok (.invokevirtual 130, 3) := by decide +kernel
theorem dRn_doAction_284 : decode cRn_doAction 284 = .ok (.ireturn, 1) := by decide +kernel
theorem dRn_doAction_285 : decode cRn_doAction 285 = .ok (.aload_n 0, 1) := by decide +kernel
theorem dRn_doAction_286 : decode cRn_doAction 286 = .ok (.iload_n 1, 1) := by decide +kernel
theorem dRn_doAction_287 : decode cRn_doAction 287 = .ok (.iload_n 2, 1) := by decide +kernel
theorem dRn_doAction_288 : decode cRn_doAction 288 = .ok (.iload_n 3, 1) := by decide +kernel
theorem dRn_doAction_289 : decode cRn_doAction 289 = .ok (.invokevirtual 133, 3) := by decide +kernel
theorem dRn_doAction_292 : decode cRn_doAction 292 = .ok (.ireturn, 1) := by decide +kernel
theorem dRn_doAction_293 : decode cRn_doAction 293 = .ok (.aload_n 0, 1) := by decide +kernel
theorem dRn_doAction_294 : decode cRn_doAction 294 = .ok (.iload_n 1, 1) := by decide +kernel
theorem dRn_doAction_295 : decode cRn_doAction 295 = .ok (.invokevirtual 136, 3) := by decide +kernel
theorem dRn_doAction_298 : decode cRn_doAction 298 = .ok (.ifCond .eq 7, 3) := by decide +kernel
theorem dRn_doAction_301 : decode cRn_doAction 301 = .ok (.iconst 0, 1) := by decide +kernel
theorem dRn_doAction_302 : decode cRn_doAction 302 = .ok (.goto 10, 3) := by decide +kernel
theorem dRn_doAction_305 : decode cRn_doAction 305 = .ok (.aload_n 0, 1) := by decide +kernel
theorem dRn_doAction_306 : decode cRn_doAction 306 = .ok (.iload_n 1, 1) := by decide +kernel
theorem dRn_doAction_307 : decode cRn_doAction 307 = .ok (.bipush 6, 2) := by decide +kernel
theorem dRn_doAction_309 : decode cRn_doAction 309 = .ok (.invokevirtual 99, 3) := by decide +kernel
theorem dRn_doAction_312 : decode cRn_doAction 312 = .ok (.ireturn, 1) := by decide +kernel
theorem dRn_doAction_313 : decode cRn_doAction 313 = .ok (.aload_n 0, 1) := by decide +kernel
theorem dRn_doAction_314 : decode cRn_doAction 314 = .ok (.iload_n 1, 1) := by decide +kernel
theorem dRn_doAction_315 : decode cRn_doAction 315 = .ok (.invokevirtual 136, 3) := by decide +kernel
theorem dRn_doAction_318 : decode cRn_doAction 318 = .ok (.ifCond .eq 11, 3) := by decide +kernel
theorem dRn_doAction_321 : decode cRn_doAction 321 = .ok (.aload_n 0, 1) := by decide +kernel
theorem dRn_doAction_322 : decode cRn_doAction 322 = .ok (.iload_n 1, 1) := by decide +kernel
theorem dRn_doAction_323 : decode cRn_doAction 323 = .ok (.invokevirtual 139, 3) := by decide +kernel
theorem dRn_doAction_326 : decode cRn_doAction 326 = .ok (.goto 10, 3) := by decide +kernel
theorem dRn_doAction_329 : decode cRn_doAction 329 = .ok (.aload_n 0, 1) := by decide +kernel
theorem dRn_doAction_330 : decode cRn_doAction 330 = .ok (.iload_n 1, 1) := by decide +kernel
theorem dRn_doAction_331 : decode cRn_doAction 331 = .ok (.bipush 6, 2) := by decide +kernel
theorem dRn_doAction_333 : decode cRn_doAction 333 = .ok (.invokevirtual 99, 3) := by decide +kernel
theorem dRn_doAction_336 : decode cRn_doAction 336 = .ok (.ireturn, 1) := by decide +kernel
theorem dRn_doAction_337 : decode cRn_doAction 337 = .ok (.aload_n 0, 1) := by decide +kernel
theorem dRn_doAction_338 : decode cRn_doAction 338 = .ok (.iload_n 1, 1) := by decide +kernel
theorem dRn_doAction_339 : decode cRn_doAction 339 = .ok (.invokevirtual 139, 3) := by decide +kernel
theorem dRn_doAction_342 : decode cRn_doAction 342 = .ok (.ireturn, 1) := by decide +kernel
theorem dRn_doAction_343 : decode cRn_doAction 343 = .ok (.aload_n 0, 1) := by decide +kernel
theorem dRn_doAction_344 : decode cRn_doAction 344 = .ok (.aload_n 0, 1) := by decide +kernel
theorem dRn_doAction_345 : decode cRn_doAction 345 = .ok (.iload_n 1, 1) := by decide +kernel
theorem dRn_doAction_346 : decode cRn_doAction 346 = .ok (.invokevirtual 136, 3) := by decide +kernel
theorem dRn_doAction_349 : decode cRn_doAction 349 = .ok (.ifCond .eq 7, 3) := by decide +kernel
theorem dRn_doAction_352 : decode cRn_doAction 352 = .ok (.iconst 1, 1) := by decide +kernel
theorem dRn_doAction_353 : decode cRn_doAction 353 = .ok (.goto 4, 3) := by decide +kernel
theorem dRn_doAction_356 : decode cRn_doAction 356 = .ok (.iconst 0, 1) := by decide +kernel
theorem dRn_doAction_357 : decode cRn_doAction 357 = .ok (.invokevirtual 96, 3) := by decide +kernel
theorem dRn_doAction_360 : decode cRn_doAction 360 = .ok (.ireturn, 1) := by decide +kernel
theorem dRn_doAction_361 : decode cRn_doAction 361 = .ok (.aload_n 0, 1) := by decide +kernel
theorem dRn_doAction_362 : decode cRn_doAction 362 = .ok (.iload_n 1, 1) := by decide +kernel
theorem dRn_doAction_363 : decode cRn_doAction 363 = .ok (.invokevirtual 142, 3) := by decide +kernel
theorem dRn_doAction_366 : decode cRn_doAction 366 = .ok (.ireturn, 1) := by decide +kernel
theorem dRn_doAction_367 : decode cRn_doAction 367 = .ok (.iconst 1, 1) := by decide +kernel
theorem dRn_doAction_368 : decode cRn_doAction 368 = .ok (.ireturn, 1) := by decide +kernel
theorem dRn_doAction_369 : decode cRn_doAction 369 = .ok (.aload_n 0, 1) := by decide +kernel
theorem dRn_doAction_370 : decode cRn_doAction 370 = .ok (.aload_n 0, 1) := by decide +kernel
theorem dRn_doAction_371 : decode cRn_doAction 371 = .ok (.getfield 76, 3) := by decide +kernel
theorem dRn_doAction_374 : decode cRn_doAction 374 = .ok (.invokevirtual 96, 3) := by decide +kernel
theorem dRn_doAction_377 : decode cRn_doAction 377 = .ok (.ireturn, 1) := by decide +kernel
theorem dRn_doAction_378 : decode cRn_doAction 378 = .ok (.iconst 0, 1) := by decide +kernel
theorem dRn_doAction_379 : decode cRn_doAction 379 = .ok (.ireturn, 1) := by decide +kernel
