theorem dRn_cellAtEnd_0 : decode cRn_cellAtEnd 0 = .ok (.aload_n 0, 1) := by decide +kernel
theorem dRn_cellAtEnd_1 : decode cRn_cellAtEnd 1 = .ok (.getfield 11, 3) := by decide +kernel
theorem dRn_cellAtEnd_4 : decode cRn_cellAtEnd 4 = .ok (.iload_n 1, 1) := by decide +kernel
theorem dRn_cellAtEnd_5 : decode cRn_cellAtEnd 5 = .ok (.iaload, 1) := by decide +kernel
theorem dRn_cellAtEnd_6 : decode cRn_cellAtEnd 6 = .ok (.ireturn, 1) := by decide +kernel
theorem dEx_counter_0 : decode cEx_counter 0 = .ok (.aload_n 0, 1) := by decide +kernel
theorem dEx_counter_1 : decode cEx_counter 1 = .ok (.getfield 61, 3) := by decide +kernel
theorem dEx_counter_4 : decode cEx_counter 4 = .ok (.lreturn, 1) := by decide +kernel
theorem dEx_count_0 : decode cEx_count 0 = .ok (.iload_n 1, 1) := by decide +kernel
theorem dEx_count_1 : decode cEx_count 1 = .ok (.tableswitch 42 0 2 #[27, 32, 37], 27) := by decide +kernel
theorem dEx_count_28 : decode cEx_count 28 = .ok (.aload_n 0, 1) := by decide +kernel
theorem dEx_count_29 : decode cEx_count 29 = .ok (.getfield 65, 3) := by decide +kernel
theorem dEx_count_32 : decode cEx_count 32 = .ok (.ireturn, 1) := by decide +kernel
theorem dEx_count_33 : decode cEx_count 33 = .ok (.aload_n 0, 1) := by decide +kernel
theorem dEx_count_34 : decode cEx_count 34 = .ok (.getfield 69, 3) := by decide +kernel
theorem dEx_count_37 : decode cEx_count 37 = .ok (.ireturn, 1) := by decide +kernel
theorem dEx_count_38 : decode cEx_count 38 = .ok (.aload_n 0, 1) := by decide +kernel
theorem dEx_count_39 : decode cEx_count 39 = .ok (.getfield 72, 3) := by decide +kernel
theorem dEx_count_42 : decode cEx_count 42 = .ok (.ireturn, 1) := by decide +kernel
theorem dEx_count_43 : decode cEx_count 43 = .ok (.iload_n 1, 1) := by decide +kernel
theorem dEx_count_44 : decode cEx_count 44 = .ok (.iconst 3, 1) := by decide +kernel
theorem dEx_count_45 : decode cEx_count 45 = .ok (.isub, 1) := by decide +kernel
theorem dEx_count_46 : decode cEx_count 46 = .ok (.invokestatic 25, 3) := by decide +kernel
theorem dEx_count_49 : decode cEx_count 49 = .ok (.ifCond .eq 17, 3) := by decide +kernel
theorem dEx_count_52 : decode cEx_count 52 = .ok (.aload_n 0, 1) := by decide +kernel
theorem dEx_count_53 : decode cEx_count 53 = .ok (.getfield 11, 3) := by decide +kernel
theorem dEx_count_56 : decode cEx_count 56 = .ok (.iload_n 1, 1) := by decide +kernel
theorem dEx_count_57 : decode cEx_count 57 = .ok (.iconst 3, 1) := by decide +kernel
theorem dEx_count_58 : decode cEx_count 58 = .ok (.isub, 1) := by decide +kernel
theorem dEx_count_59 : decode cEx_count 59 = .ok (.aaload, 1) := by decide +kernel
theorem dEx_count_60 : decode cEx_count 60 = .ok (.invokevirtual 75, 3) := by decide +kernel
theorem dEx_count_63 : decode cEx_count 63 = .ok (.goto 4, 3) := by decide +kernel
theorem dEx_count_66 : decode cEx_count 66 = .ok (.iconst (-1), 1) := by decide +kernel
theorem dEx_count_67 : decode cEx_count 67 = .ok (.ireturn, 1) := by decide +kernel
theorem dMd_init_0 : decode cMd_init 0 = .ok (.aload_n 0, 1) := by decide +kernel
theorem dMd_init_1 : decode cMd_init 1 = .ok (.invokespecial 1, 3) := by decide +kernel
theorem dMd_init_4 : decode cMd_init 4 = .ok (.aload_n 0, 1) := by decide +kernel
theorem dMd_init_5 : decode cMd_init 5 = .ok (.bipush 84, 2) := by decide +kernel
theorem dMd_init_7 : decode cMd_init 7 = .ok (.newarray .int, 2) := by decide +kernel
theorem dMd_init_9 : decode cMd_init 9 = .ok (.putfield 7, 3) := by decide +kernel
theorem dMd_init_12 : decode cMd_init 12 = .ok (.aload_n 0, 1) := by decide +kernel
theorem dMd_init_13 : decode cMd_init 13 = .ok (.bipush 84, 2) := by decide +kernel
theorem dMd_init_15 : decode cMd_init 15 = .ok (.newarray .int, 2) := by decide +kernel
theorem dMd_init_17 : decode cMd_init 17 = .ok (.putfield 13, 3) := by decide +kernel
theorem dMd_init_20 : decode cMd_init 20 = .ok (.aload_n 0, 1) := by decide +kernel
theorem dMd_init_21 : decode cMd_init 21 = .ok (.bipush 6, 2) := by decide +kernel
theorem dMd_init_23 : decode cMd_init 23 = .ok (.newarray .int, 2) := by decide +kernel
theorem dMd_init_25 : decode cMd_init 25 = .ok (.putfield 16, 3) := by decide +kernel
theorem dMd_init_28 : decode cMd_init 28 = .ok (.aload_n 0, 1) := by decide +kernel
theorem dMd_init_29 : decode cMd_init 29 = .ok (.bipush 48, 2) := by decide +kernel
theorem dMd_init_31 : decode cMd_init 31 = .ok (.newarray .int, 2) := by decide +kernel
theorem dMd_init_33 : decode cMd_init 33 = .ok (.putfield 19, 3) := by decide +kernel
theorem dMd_init_36 : decode cMd_init 36 = .ok (.aload_n 0, 1) := by decide +kernel
theorem dMd_init_37 : decode cMd_init 37 = .ok (.bipush 48, 2) := by decide +kernel
theorem dMd_init_39 : decode cMd_init 39 = .ok (.newarray .int, 2) := by decide +kernel
theorem dMd_init_41 : decode cMd_init 41 = .ok (.putfield 22, 3) := by decide +kernel
theorem dMd_init_44 : decode cMd_init 44 = .ok (.aload_n 0, 1) := by decide +kernel
theorem dMd_init_45 : decode cMd_init 45 = .ok (.bipush 6, 2) := by decide +kernel
theorem dMd_init_47 : decode cMd_init 47 = .ok (.newarray .boolean, 2) := by decide +kernel
theorem dMd_init_49 : decode cMd_init 49 = .ok (.putfield 25, 3) := by decide +kernel
theorem dMd_init_52 : decode cMd_init 52 = .ok (.aload_n 0, 1) := by decide +kernel
theorem dMd_init_53 : decode cMd_init 53 = .ok (.bipush 15, 2) := by decide +kernel
theorem dMd_init_55 : decode cMd_init 55 = .ok (.newarray .int, 2) := by decide +kernel
theorem dMd_init_57 : decode cMd_init 57 = .ok (.putfield 29, 3) := by decide +kernel
theorem dMd_init_60 : decode cMd_init 60 = .ok (.aload_n 0, 1) := by decide +kernel
theorem dMd_init_61 : decode cMd_init 61 = .ok (.bipush 15, 2) := by decide +kernel
theorem dMd_init_63 : decode cMd_init 63 = .ok (.newarray .int, 2) := by decide +kernel
theorem dMd_init_65 : decode cMd_init 65 = .ok (.putfield 32, 3) := by decide +kernel
theorem dMd_init_68 : decode cMd_init 68 = .ok (.aload_n 0, 1) := by decide +kernel
theorem dMd_init_69 : decode cMd_init 69 = .ok (.bipush 15, 2) := by decide +kernel
theorem dMd_init_71 : decode cMd_init 71 = .ok (.newarray .int, 2) := by decide +kernel
theorem dMd_init_73 : decode cMd_init 73 = .ok (.putfield 35, 3) := by decide +kernel
theorem dMd_init_76 : decode cMd_init 76 = .ok (.aload_n 0, 1) := by decide +kernel
theorem dMd_init_77 : decode cMd_init 77 = .ok (.bipush 8, 2) := by decide +kernel
theorem dMd_init_79 : decode cMd_init 79 = .ok (.newarray .int, 2) := by decide +kernel
theorem dMd_init_81 : decode cMd_init 81 = .ok (.putfield 38, 3) := by decide +kernel
theorem dMd_init_84 : decode cMd_init 84 = .ok (.aload_n 0, 1) := by decide +kernel
theorem dMd_init_85 : decode cMd_init 85 = .ok (.iconst 2, 1) := by decide +kernel
theorem dMd_init_86 : decode cMd_init 86 = .ok (.newarray .int, 2) := by decide +kernel
theorem dMd_init_88 : decode cMd_init 88 = .ok (.putfield 41, 3) := by decide +kernel
theorem dMd_init_91 : decode cMd_init 91 = .ok (.return_, 1) := by decide +kernel
theorem dMd_add_0 : decode cMd_add 0 = .ok (.iload_n 1, 1) := by decide +kernel
theorem dMd_add_1 : decode cMd_add 1 = .ok (.bipush 6, 2) := by decide +kernel
theorem dMd_add_3 : decode cMd_add 3 = .ok (.invokestatic 44, 3) := by decide +kernel
theorem dMd_add_6 : decode cMd_add 6 = .ok (.ifCond .eq 22, 3) := by decide +kernel
theorem dMd_add_9 : decode cMd_add 9 = .ok (.iload_n 2, 1) := by decide +kernel
theorem dMd_add_10 : decode cMd_add 10 = .ok (.bipush 22, 2) := by decide +kernel
theorem dMd_add_12 : decode cMd_add 12 = .ok (.invokestatic 44, 3) := by decide +kernel
theorem dMd_add_15 : decode cMd_add 15 = .ok (.ifCond .eq 13, 3) := by decide +kernel
theorem dMd_add_18 : decode cMd_add 18 = .ok (.iload_n 3, 1) := by decide +kernel
theorem dMd_add_19 : decode cMd_add 19 = .ok (.sipush 256, 3) := by decide +kernel
theorem dMd_add_22 : decode cMd_add 22 = .ok (.invokestatic 44, 3) := by decide +kernel
theorem dMd_add_25 : decode cMd_add 25 = .ok (.ifCond .ne 5, 3) := by decide +kernel
theorem dMd_add_28 : decode cMd_add 28 = .ok (.iconst (-1), 1) := by decide +kernel
theorem dMd_add_29 : decode cMd_add 29 = .ok (.ireturn, 1) := by decide +kernel
theorem dMd_add_30 : decode cMd_add 30 = .ok (.aload_n 0, 1) := by decide +kernel
theorem dMd_add_31 : decode cMd_add 31 = .ok (.getfield 16, 3) := by decide +kernel
theorem dMd_add_34 : decode cMd_add 34 = .ok (.iload_n 1, 1) := by decide +kernel
theorem dMd_add_35 : decode cMd_add 35 = .ok (.iaload, 1) := by decide +kernel
theorem dMd_add_36 : decode cMd_add 36 = .ok (.bipush 14, 2) := by decide +kernel
theorem dMd_add_38 : decode cMd_add 38 = .ok (.if_icmp .ne 6, 3) := by decide +kernel
theorem dMd_add_41 : decode cMd_add 41 = .ok (.bipush (-2), 2) := by decide +kernel
theorem dMd_add_43 : decode cMd_add 43 = .ok (.ireturn, 1) := by decide +kernel
theorem dMd_add_44 : decode cMd_add 44 = .ok (.aload_n 0, 1) := by decide +kernel
theorem dMd_add_45 : decode cMd_add 45 = .ok (.getfield 7, 3) := by decide +kernel
theorem dMd_add_48 : decode cMd_add 48 = .ok (.iload_n 1, 1) := by decide +kernel
theorem dMd_add_49 : decode cMd_add 49 = .ok (.bipush 14, 2) := by decide +kernel
theorem dMd_add_51 : decode cMd_add 51 = .ok (.imul, 1) := by decide +kernel
theorem dMd_add_52 : decode cMd_add 52 = .ok (.aload_n 0, 1) := by decide +kernel
theorem dMd_add_53 : decode cMd_add 53 = .ok (.getfield 16, 3) := by decide +kernel
theorem dMd_add_56 : decode cMd_add 56 = .ok (.iload_n 1, 1) := by decide +kernel
theorem dMd_add_57 : decode cMd_add 57 = .ok (.iaload, 1) := by decide +kernel
theorem dMd_add_58 : decode cMd_add 58 = .ok (.iadd, 1) := by decide +kernel
theorem dMd_add_59 : decode cMd_add 59 = .ok (.iload_n 2, 1) := by decide +kernel
theorem dMd_add_60 : decode cMd_add 60 = .ok (.iastore, 1) := by decide +kernel
theorem dMd_add_61 : decode cMd_add 61 = .ok (.aload_n 0, 1) := by decide +kernel
theorem dMd_add_62 : decode cMd_add 62 = .ok (.getfield 13, 3) := by decide +kernel
theorem dMd_add_65 : decode cMd_add 65 = .ok (.iload_n 1, 1) := by decide +kernel
theorem dMd_add_66 : decode cMd_add 66 = .ok (.bipush 14, 2) := by decide +kernel
theorem dMd_add_68 : decode cMd_add 68 = .ok (.imul, 1) := by decide +kernel
theorem dMd_add_69 : decode cMd_add 69 = .ok (.aload_n 0, 1) := by decide +kernel
theorem dMd_add_70 : decode cMd_add 70 = .ok (.getfield 16, 3) := by decide +kernel
theorem dMd_add_73 : decode cMd_add 73 = .ok (.iload_n 1, 1) := by decide +kernel
theorem dMd_add_74 : decode cMd_add 74 = .ok (.iaload, 1) := by decide +kernel
theorem dMd_add_75 : decode cMd_add 75 = .ok (.iadd, 1) := by decide +kernel
theorem dMd_add_76 : decode cMd_add 76 = .ok (.iload_n 3, 1) := by decide +kernel
theorem dMd_add_77 : decode cMd_add 77 = .ok (.iastore, 1) := by decide +kernel
theorem dMd_add_78 : decode cMd_add 78 = .ok (.aload_n 0, 1) := by decide +kernel
theorem dMd_add_79 : decode cMd_add 79 = .ok (.getfield 16, 3) := by decide +kernel
theorem dMd_add_82 : decode cMd_add 82 = .ok (.iload_n 1, 1) := by decide +kernel
theorem dMd_add_83 : decode cMd_add 83 = .ok (.dup2, 1) := by decide +kernel
theorem dMd_add_84 : decode cMd_add 84 = .ok (.iaload, 1) := by decide +kernel
theorem dMd_add_85 : decode cMd_add 85 = .ok (.iconst 1, 1) := by decide +kernel
theorem dMd_add_86 : decode cMd_add 86 = .ok (.iadd, 1) := by decide +kernel
theorem dMd_add_87 : decode cMd_add 87 = .ok (.iastore, 1) := by decide +kernel
theorem dMd_add_88 : decode cMd_add 88 = .ok (.aload_n 0, 1) := by decide +kernel
theorem dMd_add_89 : decode cMd_add 89 = .ok (.iload_n 1, 1) := by decide +kernel
theorem dMd_add_90 : decode cMd_add 90 = .ok (.invokevirtual 48, 3) := by decide +kernel
theorem dMd_add_93 : decode cMd_add 93 = .ok (.aload_n 0, 1) := by decide +kernel
theorem dMd_add_94 : decode cMd_add 94 = .ok (.getfield 16, 3) := by decide +kernel
theorem dMd_add_97 : decode cMd_add 97 = .ok (.iload_n 1, 1) := by decide +kernel
theorem dMd_add_98 : decode cMd_add 98 = .ok (.iaload, 1) := by decide +kernel
theorem dMd_add_99 : decode cMd_add 99 = .ok (.iconst 1, 1) := by decide +kernel
theorem dMd_add_100 : decode cMd_add 100 = .ok (.isub, 1) := by decide +kernel
theorem dMd_add_101 : decode cMd_add 101 = .ok (.ireturn, 1) := by decide +kernel
theorem dMd_in_0 : decode cMd_in 0 = .ok (.iload_n 0, 1) := by decide +kernel
theorem dMd_in_1 : decode cMd_in 1 = .ok (.ifCond .lt 12, 3) := by decide +kernel
theorem dMd_in_4 : decode cMd_in 4 = .ok (.iload_n 0, 1) := by decide +kernel
theorem dMd_in_5 : decode cMd_in 5 = .ok (.iload_n 1, 1) := by decide +kernel
theorem dMd_in_6 : decode cMd_in 6 = .ok (.if_icmp .ge 7, 3) := by decide +kernel
theorem dMd_in_9 : decode cMd_in 9 = .ok (.iconst 1, 1) := by decide +kernel
theorem dMd_in_10 : decode cMd_in 10 = .ok (.goto 4, 3) := by decide +kernel
theorem dMd_in_13 : decode cMd_in 13 = .ok (.iconst 0, 1) := by decide +kernel
theorem dMd_in_14 : decode cMd_in 14 = .ok (.ireturn, 1) := by decide +kernel
theorem dMd_forget_0 : decode cMd_forget 0 = .ok (.aload_n 0, 1) := by decide +kernel
theorem dMd_forget_1 : decode cMd_forget 1 = .ok (.getfield 25, 3) := by decide +kernel
theorem dMd_forget_4 : decode cMd_forget 4 = .ok (.iload_n 1, 1) := by decide +kernel
theorem dMd_forget_5 : decode cMd_forget 5 = .ok (.iconst 0, 1) := by decide +kernel
theorem dMd_forget_6 : decode cMd_forget 6 = .ok (.bastore, 1) := by decide +kernel
theorem dMd_forget_7 : decode cMd_forget 7 = .ok (.iconst 0, 1) := by decide +kernel
theorem dMd_forget_8 : decode cMd_forget 8 = .ok (.istore_n 2, 1) := by decide +kernel
theorem dMd_forget_9 : decode cMd_forget 9 = .ok (.iload_n 2, 1) := by decide +kernel
theorem dMd_forget_10 : decode cMd_forget 10 = .ok (.bipush 8, 2) := by decide +kernel
theorem dMd_forget_12 : decode cMd_forget 12 = .ok (.if_icmp .ge 21, 3) := by decide +kernel
theorem dMd_forget_15 : decode cMd_forget 15 = .ok (.aload_n 0, 1) := by decide +kernel
theorem dMd_forget_16 : decode cMd_forget 16 = .ok (.getfield 22, 3) := by decide +kernel
theorem dMd_forget_19 : decode cMd_forget 19 = .ok (.iload_n 1, 1) := by decide +kernel
theorem dMd_forget_20 : decode cMd_forget 20 = .ok (.bipush 8, 2) := by decide +kernel
theorem dMd_forget_22 : decode cMd_forget 22 = .ok (.imul, 1) := by decide +kernel
theorem dMd_forget_23 : decode cMd_forget 23 = .ok (.iload_n 2, 1) := by decide +kernel
theorem dMd_forget_24 : decode cMd_forget 24 = .ok (.iadd, 1) := by decide +kernel
theorem dMd_forget_25 : decode cMd_forget 25 = .ok (.iconst 0, 1) := by decide +kernel
theorem dMd_forget_26 : decode cMd_forget 26 = .ok (.iastore, 1) := by decide +kernel
theorem dMd_forget_27 : decode cMd_forget 27 = .ok (.iinc 2 1, 3) := by decide +kernel
theorem dMd_forget_30 : decode cMd_forget 30 = .ok (.goto (-21), 3) := by decide +kernel
theorem dMd_forget_33 : decode cMd_forget 33 = .ok (.return_, 1) := by decide +kernel
theorem dMd_clear_0 : decode cMd_clear 0 = .ok (.iload_n 1, 1) := by decide +kernel
theorem dMd_clear_1 : decode cMd_clear 1 = .ok (.bipush 6, 2) := by decide +kernel
theorem dMd_clear_3 : decode cMd_clear 3 = .ok (.invokestatic 44, 3) := by decide +kernel
theorem dMd_clear_6 : decode cMd_clear 6 = .ok (.ifCond .ne 5, 3) := by decide +kernel
theorem dMd_clear_9 : decode cMd_clear 9 = .ok (.iconst (-1), 1) := by decide +kernel
theorem dMd_clear_10 : decode cMd_clear 10 = .ok (.ireturn, 1) := by decide +kernel
theorem dMd_clear_11 : decode cMd_clear 11 = .ok (.aload_n 0, 1) := by decide +kernel
theorem dMd_clear_12 : decode cMd_clear 12 = .ok (.getfield 16, 3) := by decide +kernel
theorem dMd_clear_15 : decode cMd_clear 15 = .ok (.iload_n 1, 1) := by decide +kernel
theorem dMd_clear_16 : decode cMd_clear 16 = .ok (.iconst 0, 1) := by decide +kernel
theorem dMd_clear_17 : decode cMd_clear 17 = .ok (.iastore, 1) := by decide +kernel
theorem dMd_clear_18 : decode cMd_clear 18 = .ok (.aload_n 0, 1) := by decide +kernel
theorem dMd_clear_19 : decode cMd_clear 19 = .ok (.iload_n 1, 1) := by decide +kernel
theorem dMd_clear_20 : decode cMd_clear 20 = .ok (.invokevirtual 48, 3) := by decide +kernel
theorem dMd_clear_23 : decode cMd_clear 23 = .ok (.iconst 0, 1) := by decide +kernel
theorem dMd_clear_24 : decode cMd_clear 24 = .ok (.ireturn, 1) := by decide +kernel
theorem dMd_run_0 : decode cMd_run 0 = .ok (.iload_n 1, 1) := by decide +kernel
theorem dMd_run_1 : decode cMd_run 1 = .ok (.bipush 6, 2) := by decide +kernel
theorem dMd_run_3 : decode cMd_run 3 = .ok (.invokestatic 44, 3) := by decide +kernel
theorem dMd_run_6 : decode cMd_run 6 = .ok (.ifCond .eq 12, 3) := by decide +kernel
theorem dMd_run_9 : decode cMd_run 9 = .ok (.aload_n 0, 1) := by decide +kernel
theorem dMd_run_10 : decode cMd_run 10 = .ok (.iload_n 1, 1) := by decide +kernel
theorem dMd_run_11 : decode cMd_run 11 = .ok (.iload_n 2, 1) := by decide +kernel
theorem dMd_run_12 : decode cMd_run 12 = .ok (.invokevirtual 139, 3) := by decide +kernel
theorem dMd_run_15 : decode cMd_run 15 = .ok (.goto 4, 3) := by decide +kernel
theorem dMd_run_18 : decode cMd_run 18 = .ok (.iconst (-1), 1) := by decide +kernel
theorem dMd_run_19 : decode cMd_run 19 = .ok (.ireturn, 1) := by decide +kernel
theorem dMd_perform_0 : decode cMd_perform 0 = .ok (.aload_n 0, 1) := by decide +kernel
theorem dMd_perform_1 : decode cMd_perform 1 = .ok (.iload_n 1, 1) := by decide +kernel
theorem dMd_perform_2 : decode cMd_perform 2 = .ok (.putfield 65, 3) := by decide +kernel
theorem dMd_perform_5 : decode cMd_perform 5 = .ok (.aload_n 0, 1) := by decide +kernel
theorem dMd_perform_6 : decode cMd_perform 6 = .ok (.aload_n 0, 1) := by decide +kernel
theorem dMd_perform_7 : decode cMd_perform 7 = .ok (.aload_n 0, 1) := by decide +kernel
theorem dMd_perform_8 : decode cMd_perform 8 = .ok (.aload_n 0, 1) := by decide +kernel
theorem dMd_perform_9 : decode cMd_perform 9 = .ok (.aload_n 0, 1) := by decide +kernel
theorem dMd_perform_10 : decode cMd_perform 10 = .ok (.aload_n 0, 1) := by decide +kernel
theorem dMd_perform_11 : decode cMd_perform 11 = .ok (.iconst 0, 1) := by decide +kernel
theorem dMd_perform_12 : decode cMd_perform 12 = .ok (.dup_x1, 1) := by decide +kernel
theorem dMd_perform_13 : decode cMd_perform 13 = .ok (.putfield 88, 3) := by decide +kernel
theorem dMd_perform_16 : decode cMd_perform 16 = .ok (.dup_x1, 1) := by decide +kernel
theorem dMd_perform_17 : decode cMd_perform 17 = .ok (.putfield 75, 3) := by decide +kernel
theorem dMd_perform_20 : decode cMd_perform 20 = .ok (.dup_x1, 1) := by decide +kernel
theorem dMd_perform_21 : decode cMd_perform 21 = .ok (.putfield 112, 3) := by decide +kernel
theorem dMd_perform_24 : decode cMd_perform 24 = .ok (.dup_x1, 1) := by decide +kernel
theorem dMd_perform_25 : decode cMd_perform 25 = .ok (.putfield 78, 3) := by decide +kernel
theorem dMd_perform_28 : decode cMd_perform 28 = .ok (.dup_x1, 1) := by decide +kernel
theorem dMd_perform_29 : decode cMd_perform 29 = .ok (.putfield 68, 3) := by decide +kernel
theorem dMd_perform_32 : decode cMd_perform 32 = .ok (.putfield 59, 3) := by decide +kernel
theorem dMd_perform_35 : decode cMd_perform 35 = .ok (.aload_n 0, 1) := by decide +kernel
theorem dMd_perform_36 : decode cMd_perform 36 = .ok (.iconst (-1), 1) := by decide +kernel
theorem dMd_perform_37 : decode cMd_perform 37 = .ok (.putfield 52, 3) := by decide +kernel
theorem dMd_perform_40 : decode cMd_perform 40 = .ok (.aload_n 0, 1) := by decide +kernel
theorem dMd_perform_41 : decode cMd_perform 41 = .ok (.aload_n 0, 1) := by decide +kernel
theorem dMd_perform_42 : decode cMd_perform 42 = .ok (.iconst (-1), 1) := by decide +kernel
theorem dMd_perform_43 : decode cMd_perform 43 = .ok (.dup_x1, 1) := by decide +kernel
theorem dMd_perform_44 : decode cMd_perform 44 = .ok (.putfield 62, 3) := by decide +kernel
theorem dMd_perform_47 : decode cMd_perform 47 = .ok (.putfield 56, 3) := by decide +kernel
theorem dMd_perform_50 : decode cMd_perform 50 = .ok (.aload_n 0, 1) := by decide +kernel
theorem dMd_perform_51 : decode cMd_perform 51 = .ok (.aload_n 0, 1) := by decide +kernel
theorem dMd_perform_52 : decode cMd_perform 52 = .ok (.iconst 0, 1) := by decide +kernel
theorem dMd_perform_53 : decode cMd_perform 53 = .ok (.dup_x1, 1) := by decide +kernel
theorem dMd_perform_54 : decode cMd_perform 54 = .ok (.putfield 81, 3) := by decide +kernel
theorem dMd_perform_57 : decode cMd_perform 57 = .ok (.putfield 95, 3) := by decide +kernel
theorem dMd_perform_60 : decode cMd_perform 60 = .ok (.iconst 0, 1) := by decide +kernel
theorem dMd_perform_61 : decode cMd_perform 61 = .ok (.istore_n 3, 1) := by decide +kernel
theorem dMd_perform_62 : decode cMd_perform 62 = .ok (.iload_n 3, 1) := by decide +kernel
theorem dMd_perform_63 : decode cMd_perform 63 = .ok (.bipush 8, 2) := by decide +kernel
theorem dMd_perform_65 : decode cMd_perform 65 = .ok (.if_icmp .ge 16, 3) := by decide +kernel
theorem dMd_perform_68 : decode cMd_perform 68 = .ok (.aload_n 0, 1) := by decide +kernel
theorem dMd_perform_69 : decode cMd_perform 69 = .ok (.getfield 38, 3) := by decide +kernel
theorem dMd_perform_72 : decode cMd_perform 72 = .ok (.iload_n 3, 1) := by decide +kernel
theorem dMd_perform_73 : decode cMd_perform 73 = .ok (.iconst 0, 1) := by decide +kernel
theorem dMd_perform_74 : decode cMd_perform 74 = .ok (.iastore, 1) := by decide +kernel
theorem dMd_perform_75 : decode cMd_perform 75 = .ok (.iinc 3 1, 3) := by decide +kernel
theorem dMd_perform_78 : decode cMd_perform 78 = .ok (.goto (-16), 3) := by decide +kernel
theorem dMd_perform_81 : decode cMd_perform 81 = .ok (.aload_n 0, 1) := by decide +kernel
theorem dMd_perform_82 : decode cMd_perform 82 = .ok (.getfield 41, 3) := by decide +kernel
theorem dMd_perform_85 : decode cMd_perform 85 = .ok (.iconst 0, 1) := by decide +kernel
theorem dMd_perform_86 : decode cMd_perform 86 = .ok (.aload_n 0, 1) := by decide +kernel
theorem dMd_perform_87 : decode cMd_perform 87 = .ok (.getfield 41, 3) := by decide +kernel
theorem dMd_perform_90 : decode cMd_perform 90 = .ok (.iconst 1, 1) := by decide +kernel
theorem dMd_perform_91 : decode cMd_perform 91 = .ok (.iconst 0, 1) := by decide +kernel
theorem dMd_perform_92 : decode cMd_perform 92 = .ok (.dup_x2, 1) := by decide +kernel
theorem dMd_perform_93 : decode cMd_perform 93 = .ok (.iastore, 1) := by decide +kernel
theorem dMd_perform_94 : decode cMd_perform 94 = .ok (.iastore, 1) := by decide +kernel
theorem dMd_perform_95 : decode cMd_perform 95 = .ok (.iconst 0, 1) := by decide +kernel
theorem dMd_perform_96 : decode cMd_perform 96 = .ok (.istore_n 3, 1) := by decide +kernel
theorem dMd_perform_97 : decode cMd_perform 97 = .ok (.iload_n 3, 1) := by decide +kernel
theorem dMd_perform_98 : decode cMd_perform 98 = .ok (.ldc 122, 2) := by decide +kernel
theorem dMd_perform_100 : decode cMd_perform 100 = .ok (.if_icmp .ge 93, 3) := by decide +kernel
theorem dMd_perform_103 : decode cMd_perform 103 = .ok (.aload_n 0, 1) := by decide +kernel
theorem dMd_perform_104 : decode cMd_perform 104 = .ok (.getfield 52, 3) := by decide +kernel
theorem dMd_perform_107 : decode cMd_perform 107 = .ok (.ifCond .ge 14, 3) := by decide +kernel
theorem dMd_perform_110 : decode cMd_perform 110 = .ok (.aload_n 0, 1) := by decide +kernel
theorem dMd_perform_111 : decode cMd_perform 111 = .ok (.getfield 81, 3) := by decide +kernel
theorem dMd_perform_114 : decode cMd_perform 114 = .ok (.ifCond .ne 7, 3) := by decide +kernel
theorem dMd_perform_117 : decode cMd_perform 117 = .ok (.iconst 1, 1) := by decide +kernel
theorem dMd_perform_118 : decode cMd_perform 118 = .ok (.goto 4, 3) := by decide +kernel
theorem dMd_perform_121 : decode cMd_perform 121 = .ok (.iconst 0, 1) := by decide +kernel
theorem dMd_perform_122 : decode cMd_perform 122 = .ok (.istore 4, 2) := by decide +kernel
theorem dMd_perform_124 : decode cMd_perform 124 = .ok (.aload_n 0, 1) := by decide +kernel
theorem dMd_perform_125 : decode cMd_perform 125 = .ok (.getfield 68, 3) := by decide +kernel
theorem dMd_perform_128 : decode cMd_perform 128 = .ok (.ifCond .le 33, 3) := by decide +kernel
theorem dMd_perform_131 : decode cMd_perform 131 = .ok (.iload 4, 2) := by decide +kernel
theorem dMd_perform_133 : decode cMd_perform 133 = .ok (.ifCond .eq 21, 3) := by decide +kernel
theorem dMd_perform_136 : decode cMd_perform 136 = .ok (.aload_n 0, 1) := by decide +kernel
theorem dMd_perform_137 : decode cMd_perform 137 = .ok (.getfield 59, 3) := by decide +kernel
theorem dMd_perform_140 : decode cMd_perform 140 = .ok (.aload_n 0, 1) := by decide +kernel
theorem dMd_perform_141 : decode cMd_perform 141 = .ok (.getfield 32, 3) := by decide +kernel
theorem dMd_perform_144 : decode cMd_perform 144 = .ok (.aload_n 0, 1) := by decide +kernel
theorem dMd_perform_145 : decode cMd_perform 145 = .ok (.getfield 68, 3) := by decide +kernel
theorem dMd_perform_148 : decode cMd_perform 148 = .ok (.iconst 1, 1) := by decide +kernel
theorem dMd_perform_149 : decode cMd_perform 149 = .ok (.isub, 1) := by decide +kernel
theorem dMd_perform_150 : decode cMd_perform 150 = .ok (.iaload, 1) := by decide +kernel
theorem dMd_perform_151 : decode cMd_perform 151 = .ok (.if_icmp .ne 10, 3) := by decide +kernel
theorem dMd_perform_154 : decode cMd_perform 154 = .ok (.aload_n 0, 1) := by decide +kernel
theorem dMd_perform_155 : decode cMd_perform 155 = .ok (.invokevirtual 123, 3) := by decide +kernel
theorem dMd_perform_158 : decode cMd_perform 158 = .ok (.goto 29, 3) := by decide +kernel
theorem dMd_perform_161 : decode cMd_perform 161 = .ok (.iload 4, 2) := by decide +kernel
theorem dMd_perform_163 : decode cMd_perform 163 = .ok (.ifCond .eq 30, 3) := by decide +kernel
theorem dMd_perform_166 : decode cMd_perform 166 = .ok (.aload_n 0, 1) := by decide +kernel
theorem dMd_perform_167 : decode cMd_perform 167 = .ok (.getfield 59, 3) := by decide +kernel
theorem dMd_perform_170 : decode cMd_perform 170 = .ok (.aload_n 0, 1) := by decide +kernel
theorem dMd_perform_171 : decode cMd_perform 171 = .ok (.getfield 16, 3) := by decide +kernel
theorem dMd_perform_174 : decode cMd_perform 174 = .ok (.iload_n 1, 1) := by decide +kernel
theorem dMd_perform_175 : decode cMd_perform 175 = .ok (.iaload, 1) := by decide +kernel
theorem dMd_perform_176 : decode cMd_perform 176 = .ok (.if_icmp .ne 6, 3) := by decide +kernel
theorem dMd_perform_179 : decode cMd_perform 179 = .ok (.goto 14, 3) := by decide +kernel
theorem dMd_perform_182 : decode cMd_perform 182 = .ok (.aload_n 0, 1) := by decide +kernel
theorem dMd_perform_183 : decode cMd_perform 183 = .ok (.iload_n 2, 1) := by decide +kernel
theorem dMd_perform_184 : decode cMd_perform 184 = .ok (.invokevirtual 126, 3) := by decide +kernel
theorem dMd_perform_187 : decode cMd_perform 187 = .ok (.iinc 3 1, 3) := by decide +kernel
theorem dMd_perform_190 : decode cMd_perform 190 = .ok (.goto (-93), 3) := by decide +kernel
theorem dMd_perform_193 : decode cMd_perform 193 = .ok (.aload_n 0, 1) := by decide +kernel
theorem dMd_perform_194 : decode cMd_perform 194 = .ok (.dup, 1) := by decide +kernel
theorem dMd_perform_195 : decode cMd_perform 195 = .ok (.getfield 130, 3) := by decide +kernel
theorem dMd_perform_198 : decode cMd_perform 198 = .ok (.iconst 1, 1) := by decide +kernel
theorem dMd_perform_199 : decode cMd_perform 199 = .ok (.iadd, 1) := by decide +kernel
theorem dMd_perform_200 : decode cMd_perform 200 = .ok (.putfield 130, 3) := by decide +kernel
theorem dMd_perform_203 : decode cMd_perform 203 = .ok (.iload_n 2, 1) := by decide +kernel
theorem dMd_perform_204 : decode cMd_perform 204 = .ok (.ifCond .eq 13, 3) := by decide +kernel
theorem dMd_perform_207 : decode cMd_perform 207 = .ok (.aload_n 0, 1) := by decide +kernel
theorem dMd_perform_208 : decode cMd_perform 208 = .ok (.dup, 1) := by decide +kernel
theorem dMd_perform_209 : decode cMd_perform 209 = .ok (.getfield 133, 3) := by decide +kernel
theorem dMd_perform_212 : decode cMd_perform 212 = .ok (.iconst 1, 1) := by decide +kernel
theorem dMd_perform_213 : decode cMd_perform 213 = .ok (.iadd, 1) := by decide +kernel
theorem dMd_perform_214 : decode cMd_perform 214 = .ok (.putfield 133, 3) := by decide +kernel
theorem dMd_perform_217 : decode cMd_perform 217 = .ok (.aload_n 0, 1) := by decide +kernel
theorem dMd_perform_218 : decode cMd_perform 218 = .ok (.getfield 52, 3) := by decide +kernel
theorem dMd_perform_221 : decode cMd_perform 221 = .ok (.ifCond .lt 13, 3) := by decide +kernel
theorem dMd_perform_224 : decode cMd_perform 224 = .ok (.aload_n 0, 1) := by decide +kernel
theorem dMd_perform_225 : decode cMd_perform 225 = .ok (.dup, 1) := by decide +kernel
theorem dMd_perform_226 : decode cMd_perform 226 = .ok (.getfield 136, 3) := by decide +kernel
theorem dMd_perform_229 : decode cMd_perform 229 = .ok (.iconst 1, 1) := by decide +kernel
theorem dMd_perform_230 : decode cMd_perform 230 = .ok (.iadd, 1) := by decide +kernel
theorem dMd_perform_231 : decode cMd_perform 231 = .ok (.putfield 136, 3) := by decide +kernel
theorem dMd_perform_234 : decode cMd_perform 234 = .ok (.aload_n 0, 1) := by decide +kernel
theorem dMd_perform_235 : decode cMd_perform 235 = .ok (.getfield 52, 3) := by decide +kernel
theorem dMd_perform_238 : decode cMd_perform 238 = .ok (.ifCond .lt 13, 3) := by decide +kernel
theorem dMd_perform_241 : decode cMd_perform 241 = .ok (.bipush 100, 2) := by decide +kernel
theorem dMd_perform_243 : decode cMd_perform 243 = .ok (.aload_n 0, 1) := by decide +kernel
theorem dMd_perform_244 : decode cMd_perform 244 = .ok (.getfield 52, 3) := by decide +kernel
theorem dMd_perform_247 : decode cMd_perform 247 = .ok (.iadd, 1) := by decide +kernel
theorem dMd_perform_248 : decode cMd_perform 248 = .ok (.goto 4, 3) := by decide +kernel
theorem dMd_perform_251 : decode cMd_perform 251 = .ok (.iconst 0, 1) := by decide +kernel
theorem dMd_perform_252 : decode cMd_perform 252 = .ok (.istore_n 3, 1) := by decide +kernel
theorem dMd_perform_253 : decode cMd_perform 253 = .ok (.iload_n 1, 1) := by decide +kernel
theorem dMd_perform_254 : decode cMd_perform 254 = .ok (.bipush 8, 2) := by decide +kernel
theorem dMd_perform_256 : decode cMd_perform 256 = .ok (.imul, 1) := by decide +kernel
theorem dMd_perform_257 : decode cMd_perform 257 = .ok (.istore 4, 2) := by decide +kernel
theorem dMd_perform_259 : decode cMd_perform 259 = .ok (.aload_n 0, 1) := by decide +kernel
theorem dMd_perform_260 : decode cMd_perform 260 = .ok (.getfield 19, 3) := by decide +kernel
theorem dMd_perform_263 : decode cMd_perform 263 = .ok (.iload 4, 2) := by decide +kernel
theorem dMd_perform_265 : decode cMd_perform 265 = .ok (.iload_n 3, 1) := by decide +kernel
theorem dMd_perform_266 : decode cMd_perform 266 = .ok (.iastore, 1) := by decide +kernel
theorem dMd_perform_267 : decode cMd_perform 267 = .ok (.aload_n 0, 1) := by decide +kernel
theorem dMd_perform_268 : decode cMd_perform 268 = .ok (.getfield 19, 3) := by decide +kernel
theorem dMd_perform_271 : decode cMd_perform 271 = .ok (.iload 4, 2) := by decide +kernel
theorem dMd_perform_273 : decode cMd_perform 273 = .ok (.iconst 1, 1) := by decide +kernel
theorem dMd_perform_274 : decode cMd_perform 274 = .ok (.iadd, 1) := by decide +kernel
theorem dMd_perform_275 : decode cMd_perform 275 = .ok (.aload_n 0, 1) := by decide +kernel
theorem dMd_perform_276 : decode cMd_perform 276 = .ok (.getfield 78, 3) := by decide +kernel
theorem dMd_perform_279 : decode cMd_perform 279 = .ok (.iastore, 1) := by decide +kernel
theorem dMd_perform_280 : decode cMd_perform 280 = .ok (.aload_n 0, 1) := by decide +kernel
theorem dMd_perform_281 : decode cMd_perform 281 = .ok (.getfield 19, 3) := by decide +kernel
theorem dMd_perform_284 : decode cMd_perform 284 = .ok (.iload 4, 2) := by decide +kernel
theorem dMd_perform_286 : decode cMd_perform 286 = .ok (.iconst 2, 1) := by decide +kernel
theorem dMd_perform_287 : decode cMd_perform 287 = .ok (.iadd, 1) := by decide +kernel
theorem dMd_perform_288 : decode cMd_perform 288 = .ok (.aload_n 0, 1) := by decide +kernel
theorem dMd_perform_289 : decode cMd_perform 289 = .ok (.getfield 112, 3) := by decide +kernel
theorem dMd_perform_292 : decode cMd_perform 292 = .ok (.iastore, 1) := by decide +kernel
theorem dMd_perform_293 : decode cMd_perform 293 = .ok (.aload_n 0, 1) := by decide +kernel
theorem dMd_perform_294 : decode cMd_perform 294 = .ok (.getfield 19, 3) := by decide +kernel
theorem dMd_perform_297 : decode cMd_perform 297 = .ok (.iload 4, 2) := by decide +kernel
theorem dMd_perform_299 : decode cMd_perform 299 = .ok (.iconst 3, 1) := by decide +kernel
theorem dMd_perform_300 : decode cMd_perform 300 = .ok (.iadd, 1) := by decide +kernel
theorem dMd_perform_301 : decode cMd_perform 301 = .ok (.aload_n 0, 1) := by decide +kernel
theorem dMd_perform_302 : decode cMd_perform 302 = .ok (.getfield 75, 3) := by decide +kernel
theorem dMd_perform_305 : decode cMd_perform 305 = .ok (.iastore, 1) := by decide +kernel
theorem dMd_perform_306 : decode cMd_perform 306 = .ok (.aload_n 0, 1) := by decide +kernel
theorem dMd_perform_307 : decode cMd_perform 307 = .ok (.getfield 19, 3) := by decide +kernel
theorem dMd_perform_310 : decode cMd_perform 310 = .ok (.iload 4, 2) := by decide +kernel
theorem dMd_perform_312 : decode cMd_perform 312 = .ok (.iconst 4, 1) := by decide +kernel
theorem dMd_perform_313 : decode cMd_perform 313 = .ok (.iadd, 1) := by decide +kernel
theorem dMd_perform_314 : decode cMd_perform 314 = .ok (.aload_n 0, 1) := by decide +kernel
theorem dMd_perform_315 : decode cMd_perform 315 = .ok (.getfield 88, 3) := by decide +kernel
theorem dMd_perform_318 : decode cMd_perform 318 = .ok (.iastore, 1) := by decide +kernel
theorem dMd_perform_319 : decode cMd_perform 319 = .ok (.aload_n 0, 1) := by decide +kernel
theorem dMd_perform_320 : decode cMd_perform 320 = .ok (.getfield 19, 3) := by decide +kernel
theorem dMd_perform_323 : decode cMd_perform 323 = .ok (.iload 4, 2) := by decide +kernel
theorem dMd_perform_325 : decode cMd_perform 325 = .ok (.iconst 5, 1) := by decide +kernel
theorem dMd_perform_326 : decode cMd_perform 326 = .ok (.iadd, 1) := by decide +kernel
theorem dMd_perform_327 : decode cMd_perform 327 = .ok (.aload_n 0, 1) := by decide +kernel
theorem dMd_perform_328 : decode cMd_perform 328 = .ok (.getfield 52, 3) := by decide +kernel
theorem dMd_perform_331 : decode cMd_perform 331 = .ok (.ifCond .lt 10, 3) := by decide +kernel
theorem dMd_perform_334 : decode cMd_perform 334 = .ok (.aload_n 0, 1) := by decide +kernel
theorem dMd_perform_335 : decode cMd_perform 335 = .ok (.getfield 62, 3) := by decide +kernel
theorem dMd_perform_338 : decode cMd_perform 338 = .ok (.goto 4, 3) := by decide +kernel
theorem dMd_perform_341 : decode cMd_perform 341 = .ok (.iconst (-1), 1) := by decide +kernel
theorem dMd_perform_342 : decode cMd_perform 342 = .ok (.iastore, 1) := by decide +kernel
theorem dMd_perform_343 : decode cMd_perform 343 = .ok (.aload_n 0, 1) := by decide +kernel
theorem dMd_perform_344 : decode cMd_perform 344 = .ok (.getfield 19, 3) := by decide +kernel
theorem dMd_perform_347 : decode cMd_perform 347 = .ok (.iload 4, 2) := by decide +kernel
theorem dMd_perform_349 : decode cMd_perform 349 = .ok (.bipush 6, 2) := by decide +kernel
theorem dMd_perform_351 : decode cMd_perform 351 = .ok (.iadd, 1) := by decide +kernel
theorem dMd_perform_352 : decode cMd_perform 352 = .ok (.aload_n 0, 1) := by decide +kernel
theorem dMd_perform_353 : decode cMd_perform 353 = .ok (.getfield 52, 3) := by decide +kernel
theorem dMd_perform_356 : decode cMd_perform 356 = .ok (.bipush 10, 2) := by decide +kernel
theorem dMd_perform_358 : decode cMd_perform 358 = .ok (.if_icmp .ne 10, 3) := by decide +kernel
theorem dMd_perform_361 : decode cMd_perform 361 = .ok (.aload_n 0, 1) := by decide +kernel
theorem dMd_perform_362 : decode cMd_perform 362 = .ok (.getfield 56, 3) := by decide +kernel
theorem dMd_perform_365 : decode cMd_perform 365 = .ok (.goto 4, 3) := by decide +kernel
theorem dMd_perform_368 : decode cMd_perform 368 = .ok (.iconst (-1), 1) := by decide +kernel
theorem dMd_perform_369 : decode cMd_perform 369 = .ok (.iastore, 1) := by decide +kernel
theorem dMd_perform_370 : decode cMd_perform 370 = .ok (.aload_n 0, 1) := by decide +kernel
theorem dMd_perform_371 : decode cMd_perform 371 = .ok (.getfield 19, 3) := by decide +kernel
theorem dMd_perform_374 : decode cMd_perform 374 = .ok (.iload 4, 2) := by decide +kernel
theorem dMd_perform_376 : decode cMd_perform 376 = .ok (.bipush 7, 2) := by decide +kernel
theorem dMd_perform_378 : decode cMd_perform 378 = .ok (.iadd, 1) := by decide +kernel
theorem dMd_perform_379 : decode cMd_perform 379 = .ok (.aload_n 0, 1) := by decide +kernel
theorem dMd_perform_380 : decode cMd_perform 380 = .ok (.getfield 95, 3) := by decide +kernel
theorem dMd_perform_383 : decode cMd_perform 383 = .ok (.ifCond .eq 7, 3) := by decide +kernel
theorem dMd_perform_386 : decode cMd_perform 386 = .ok (.iconst 1, 1) := by decide +kernel
theorem dMd_perform_387 : decode cMd_perform 387 = .ok (.goto 4, 3) := by decide +kernel
theorem dMd_perform_390 : decode cMd_perform 390 = .ok (.iconst 0, 1) := by decide +kernel
theorem dMd_perform_391 : decode cMd_perform 391 = .ok (.iastore, 1) := by decide +kernel
theorem dMd_perform_392 : decode cMd_perform 392 = .ok (.iconst 0, 1) := by decide +kernel
theorem dMd_perform_393 : decode cMd_perform 393 = .ok (.istore 5, 2) := by decide +kernel
theorem dMd_perform_395 : decode cMd_perform 395 = .ok (.iload 5, 2) := by decide +kernel
theorem dMd_perform_397 : decode cMd_perform 397 = .ok (.bipush 8, 2) := by decide +kernel
theorem dMd_perform_399 : decode cMd_perform 399 = .ok (.if_icmp .ge 26, 3) := by decide +kernel
theorem dMd_perform_402 : decode cMd_perform 402 = .ok (.aload_n 0, 1) := by decide +kernel
theorem dMd_perform_403 : decode cMd_perform 403 = .ok (.getfield 22, 3) := by decide +kernel
theorem dMd_perform_406 : decode cMd_perform 406 = .ok (.iload 4, 2) := by decide +kernel
theorem dMd_perform_408 : decode cMd_perform 408 = .ok (.iload 5, 2) := by decide +kernel
theorem dMd_perform_410 : decode cMd_perform 410 = .ok (.iadd, 1) := by decide +kernel
theorem dMd_perform_411 : decode cMd_perform 411 = .ok (.aload_n 0, 1) := by decide +kernel
theorem dMd_perform_412 : decode cMd_perform 412 = .ok (.getfield 38, 3) := by decide +kernel
theorem dMd_perform_415 : decode cMd_perform 415 = .ok (.iload 5, 2) := by decide +kernel
theorem dMd_perform_417 : decode cMd_perform 417 = .ok (.iaload, 1) := by decide +kernel
theorem dMd_perform_418 : decode cMd_perform 418 = .ok (.iastore, 1) := by decide +kernel
theorem dMd_perform_419 : decode cMd_perform 419 = .ok (.iinc 5 1, 3) := by decide +kernel
theorem dMd_perform_422 : decode cMd_perform 422 = .ok (.goto (-27), 3) := by decide +kernel
theorem dMd_perform_425 : decode cMd_perform 425 = .ok (.aload_n 0, 1) := by decide +kernel
theorem dMd_perform_426 : decode cMd_perform 426 = .ok (.getfield 25, 3) := by decide +kernel
theorem dMd_perform_429 : decode cMd_perform 429 = .ok (.iload_n 1, 1) := by decide +kernel
theorem dMd_perform_430 : decode cMd_perform 430 = .ok (.iconst 1, 1) := by decide +kernel
theorem dMd_perform_431 : decode cMd_perform 431 = .ok (.bastore, 1) := by decide +kernel
theorem dMd_perform_432 : decode cMd_perform 432 = .ok (.iload_n 3, 1) := by decide +kernel
theorem dMd_perform_433 : decode cMd_perform 433 = .ok (.ireturn, 1) := by decide +kernel
theorem dMd_leave_0 : decode cMd_leave 0 = .ok (.aload_n 0, 1) := by decide +kernel
theorem dMd_leave_1 : decode cMd_leave 1 = .ok (.dup, 1) := by decide +kernel
theorem dMd_leave_2 : decode cMd_leave 2 = .ok (.getfield 68, 3) := by decide +kernel
theorem dMd_leave_5 : decode cMd_leave 5 = .ok (.iconst 1, 1) := by decide +kernel
theorem dMd_leave_6 : decode cMd_leave 6 = .ok (.isub, 1) := by decide +kernel
theorem dMd_leave_7 : decode cMd_leave 7 = .ok (.putfield 68, 3) := by decide +kernel
theorem dMd_leave_10 : decode cMd_leave 10 = .ok (.aload_n 0, 1) := by decide +kernel
theorem dMd_leave_11 : decode cMd_leave 11 = .ok (.getfield 29, 3) := by decide +kernel
theorem dMd_leave_14 : decode cMd_leave 14 = .ok (.aload_n 0, 1) := by decide +kernel
theorem dMd_leave_15 : decode cMd_leave 15 = .ok (.getfield 68, 3) := by decide +kernel
theorem dMd_leave_18 : decode cMd_leave 18 = .ok (.iaload, 1) := by decide +kernel
theorem dMd_leave_19 : decode cMd_leave 19 = .ok (.istore_n 1, 1) := by decide +kernel
theorem dMd_leave_20 : decode cMd_leave 20 = .ok (.aload_n 0, 1) := by decide +kernel
theorem dMd_leave_21 : decode cMd_leave 21 = .ok (.getfield 7, 3) := by decide +kernel
theorem dMd_leave_24 : decode cMd_leave 24 = .ok (.aload_n 0, 1) := by decide +kernel
theorem dMd_leave_25 : decode cMd_leave 25 = .ok (.getfield 65, 3) := by decide +kernel
theorem dMd_leave_28 : decode cMd_leave 28 = .ok (.bipush 14, 2) := by decide +kernel
theorem dMd_leave_30 : decode cMd_leave 30 = .ok (.imul, 1) := by decide +kernel
theorem dMd_leave_31 : decode cMd_leave 31 = .ok (.iload_n 1, 1) := by decide +kernel
theorem dMd_leave_32 : decode cMd_leave 32 = .ok (.iadd, 1) := by decide +kernel
theorem dMd_leave_33 : decode cMd_leave 33 = .ok (.iaload, 1) := by decide +kernel
theorem dMd_leave_34 : decode cMd_leave 34 = .ok (.istore_n 2, 1) := by decide +kernel
theorem dMd_leave_35 : decode cMd_leave 35 = .ok (.aload_n 0, 1) := by decide +kernel
theorem dMd_leave_36 : decode cMd_leave 36 = .ok (.iload_n 1, 1) := by decide +kernel
theorem dMd_leave_37 : decode cMd_leave 37 = .ok (.invokevirtual 71, 3) := by decide +kernel
theorem dMd_leave_40 : decode cMd_leave 40 = .ok (.istore_n 3, 1) := by decide +kernel
theorem dMd_leave_41 : decode cMd_leave 41 = .ok (.aload_n 0, 1) := by decide +kernel
theorem dMd_leave_42 : decode cMd_leave 42 = .ok (.aload_n 0, 1) := by decide +kernel
theorem dMd_leave_43 : decode cMd_leave 43 = .ok (.getfield 32, 3) := by decide +kernel
theorem dMd_leave_46 : decode cMd_leave 46 = .ok (.aload_n 0, 1) := by decide +kernel
theorem dMd_leave_47 : decode cMd_leave 47 = .ok (.getfield 68, 3) := by decide +kernel
theorem dMd_leave_50 : decode cMd_leave 50 = .ok (.iaload, 1) := by decide +kernel
theorem dMd_leave_51 : decode cMd_leave 51 = .ok (.putfield 59, 3) := by decide +kernel
theorem dMd_leave_54 : decode cMd_leave 54 = .ok (.iload_n 2, 1) := by decide +kernel
theorem dMd_leave_55 : decode cMd_leave 55 = .ok (.bipush 11, 2) := by decide +kernel
theorem dMd_leave_57 : decode cMd_leave 57 = .ok (.if_icmp .eq 9, 3) := by decide +kernel
theorem dMd_leave_60 : decode cMd_leave 60 = .ok (.iload_n 2, 1) := by decide +kernel
theorem dMd_leave_61 : decode cMd_leave 61 = .ok (.bipush 12, 2) := by decide +kernel
theorem dMd_leave_63 : decode cMd_leave 63 = .ok (.if_icmp .ne 13, 3) := by decide +kernel
theorem dMd_leave_66 : decode cMd_leave 66 = .ok (.aload_n 0, 1) := by decide +kernel
theorem dMd_leave_67 : decode cMd_leave 67 = .ok (.dup, 1) := by decide +kernel
theorem dMd_leave_68 : decode cMd_leave 68 = .ok (.getfield 75, 3) := by decide +kernel
theorem dMd_leave_71 : decode cMd_leave 71 = .ok (.iconst 1, 1) := by decide +kernel
theorem dMd_leave_72 : decode cMd_leave 72 = .ok (.iadd, 1) := by decide +kernel
theorem dMd_leave_73 : decode cMd_leave 73 = .ok (.putfield 75, 3) := by decide +kernel
theorem dMd_leave_76 : decode cMd_leave 76 = .ok (.iload_n 2, 1) := by decide +kernel
theorem dMd_leave_77 : decode cMd_leave 77 = .ok (.bipush 11, 2) := by decide +kernel
theorem dMd_leave_79 : decode cMd_leave 79 = .ok (.if_icmp .ne 12, 3) := by decide +kernel
theorem dMd_leave_82 : decode cMd_leave 82 = .ok (.aload_n 0, 1) := by decide +kernel
theorem dMd_leave_83 : decode cMd_leave 83 = .ok (.aload_n 0, 1) := by decide +kernel
theorem dMd_leave_84 : decode cMd_leave 84 = .ok (.getfield 78, 3) := by decide +kernel
theorem dMd_leave_87 : decode cMd_leave 87 = .ok (.ineg, 1) := by decide +kernel
theorem dMd_leave_88 : decode cMd_leave 88 = .ok (.putfield 78, 3) := by decide +kernel
theorem dMd_leave_91 : decode cMd_leave 91 = .ok (.iload_n 2, 1) := by decide +kernel
theorem dMd_leave_92 : decode cMd_leave 92 = .ok (.bipush 13, 2) := by decide +kernel
theorem dMd_leave_94 : decode cMd_leave 94 = .ok (.if_icmp .ne 15, 3) := by decide +kernel
theorem dMd_leave_97 : decode cMd_leave 97 = .ok (.aload_n 0, 1) := by decide +kernel
theorem dMd_leave_98 : decode cMd_leave 98 = .ok (.getfield 41, 3) := by decide +kernel
theorem dMd_leave_101 : decode cMd_leave 101 = .ok (.iload_n 3, 1) := by decide +kernel
theorem dMd_leave_102 : decode cMd_leave 102 = .ok (.iconst 2, 1) := by decide +kernel
theorem dMd_leave_103 : decode cMd_leave 103 = .ok (.irem, 1) := by decide +kernel
theorem dMd_leave_104 : decode cMd_leave 104 = .ok (.dup2, 1) := by decide +kernel
theorem dMd_leave_105 : decode cMd_leave 105 = .ok (.iaload, 1) := by decide +kernel
theorem dMd_leave_106 : decode cMd_leave 106 = .ok (.iconst 1, 1) := by decide +kernel
theorem dMd_leave_107 : decode cMd_leave 107 = .ok (.isub, 1) := by decide +kernel
theorem dMd_leave_108 : decode cMd_leave 108 = .ok (.iastore, 1) := by decide +kernel
theorem dMd_leave_109 : decode cMd_leave 109 = .ok (.iload_n 2, 1) := by decide +kernel
theorem dMd_leave_110 : decode cMd_leave 110 = .ok (.bipush 12, 2) := by decide +kernel
theorem dMd_leave_112 : decode cMd_leave 112 = .ok (.if_icmp .ne 13, 3) := by decide +kernel
theorem dMd_leave_115 : decode cMd_leave 115 = .ok (.aload_n 0, 1) := by decide +kernel
theorem dMd_leave_116 : decode cMd_leave 116 = .ok (.iconst (-1), 1) := by decide +kernel
theorem dMd_leave_117 : decode cMd_leave 117 = .ok (.putfield 52, 3) := by decide +kernel
theorem dMd_leave_120 : decode cMd_leave 120 = .ok (.aload_n 0, 1) := by decide +kernel
theorem dMd_leave_121 : decode cMd_leave 121 = .ok (.iconst 0, 1) := by decide +kernel
theorem dMd_leave_122 : decode cMd_leave 122 = .ok (.putfield 81, 3) := by decide +kernel
theorem dMd_leave_125 : decode cMd_leave 125 = .ok (.iload_n 2, 1) := by decide +kernel
theorem dMd_leave_126 : decode cMd_leave 126 = .ok (.bipush 10, 2) := by decide +kernel
theorem dMd_leave_128 : decode cMd_leave 128 = .ok (.if_icmp .ne 101, 3) := by decide +kernel
theorem dMd_leave_131 : decode cMd_leave 131 = .ok (.aload_n 0, 1) := by decide +kernel
theorem dMd_leave_132 : decode cMd_leave 132 = .ok (.getfield 52, 3) := by decide +kernel
theorem dMd_leave_135 : decode cMd_leave 135 = .ok (.ifCond .lt 94, 3) := by decide +kernel
theorem dMd_leave_138 : decode cMd_leave 138 = .ok (.iload_n 3, 1) := by decide +kernel
theorem dMd_leave_139 : decode cMd_leave 139 = .ok (.aload_n 0, 1) := by decide +kernel
theorem dMd_leave_140 : decode cMd_leave 140 = .ok (.getfield 52, 3) := by decide +kernel
theorem dMd_leave_143 : decode cMd_leave 143 = .ok (.invokestatic 85, 3) := by decide +kernel
theorem dMd_leave_146 : decode cMd_leave 146 = .ok (.ifCond .eq 83, 3) := by decide +kernel
theorem dMd_leave_149 : decode cMd_leave 149 = .ok (.aload_n 0, 1) := by decide +kernel
theorem dMd_leave_150 : decode cMd_leave 150 = .ok (.dup, 1) := by decide +kernel
theorem dMd_leave_151 : decode cMd_leave 151 = .ok (.getfield 88, 3) := by decide +kernel
theorem dMd_leave_154 : decode cMd_leave 154 = .ok (.iconst 1, 1) := by decide +kernel
theorem dMd_leave_155 : decode cMd_leave 155 = .ok (.iadd, 1) := by decide +kernel
theorem dMd_leave_156 : decode cMd_leave 156 = .ok (.putfield 88, 3) := by decide +kernel
theorem dMd_leave_159 : decode cMd_leave 159 = .ok (.aload_n 0, 1) := by decide +kernel
theorem dMd_leave_160 : decode cMd_leave 160 = .ok (.sipush 1000, 3) := by decide +kernel
theorem dMd_leave_163 : decode cMd_leave 163 = .ok (.bipush 16, 2) := by decide +kernel
theorem dMd_leave_165 : decode cMd_leave 165 = .ok (.aload_n 0, 1) := by decide +kernel
theorem dMd_leave_166 : decode cMd_leave 166 = .ok (.getfield 52, 3) := by decide +kernel
theorem dMd_leave_169 : decode cMd_leave 169 = .ok (.imul, 1) := by decide +kernel
theorem dMd_leave_170 : decode cMd_leave 170 = .ok (.iadd, 1) := by decide +kernel
theorem dMd_leave_171 : decode cMd_leave 171 = .ok (.aload_n 0, 1) := by decide +kernel
theorem dMd_leave_172 : decode cMd_leave 172 = .ok (.getfield 52, 3) := by decide +kernel
theorem dMd_leave_175 : decode cMd_leave 175 = .ok (.bipush 10, 2) := by decide +kernel
theorem dMd_leave_177 : decode cMd_leave 177 = .ok (.if_icmp .ne 10, 3) := by decide +kernel
theorem dMd_leave_180 : decode cMd_leave 180 = .ok (.aload_n 0, 1) := by decide +kernel
theorem dMd_leave_181 : decode cMd_leave 181 = .ok (.getfield 56, 3) := by decide +kernel
theorem dMd_leave_184 : decode cMd_leave 184 = .ok (.goto 4, 3) := by decide +kernel
theorem dMd_leave_187 : decode cMd_leave 187 = .ok (.iconst 0, 1) := by decide +kernel
theorem dMd_leave_188 : decode cMd_leave 188 = .ok (.iadd, 1) := by decide +kernel
theorem dMd_leave_189 : decode cMd_leave 189 = .ok (.putfield 78, 3) := by decide +kernel
theorem dMd_leave_192 : decode cMd_leave 192 = .ok (.aload_n 0, 1) := by decide +kernel
theorem dMd_leave_193 : decode cMd_leave 193 = .ok (.iconst (-1), 1) := by decide +kernel
theorem dMd_leave_194 : decode cMd_leave 194 = .ok (.putfield 52, 3) := by decide +kernel
theorem dMd_leave_197 : decode cMd_leave 197 = .ok (.aload_n 0, 1) := by decide +kernel
theorem dMd_leave_198 : decode cMd_leave 198 = .ok (.iload_n 1, 1) := by decide +kernel
theorem dMd_leave_199 : decode cMd_leave 199 = .ok (.putfield 59, 3) := by decide +kernel
theorem dMd_leave_202 : decode cMd_leave 202 = .ok (.iload_n 3, 1) := by decide +kernel
theorem dMd_leave_203 : decode cMd_leave 203 = .ok (.bipush 14, 2) := by decide +kernel
theorem dMd_leave_205 : decode cMd_leave 205 = .ok (.if_icmp .ne 11, 3) := by decide +kernel
theorem dMd_leave_208 : decode cMd_leave 208 = .ok (.aload_n 0, 1) := by decide +kernel
theorem dMd_leave_209 : decode cMd_leave 209 = .ok (.bipush 10, 2) := by decide +kernel
theorem dMd_leave_211 : decode cMd_leave 211 = .ok (.bipush 14, 2) := by decide +kernel
theorem dMd_leave_213 : decode cMd_leave 213 = .ok (.invokevirtual 91, 3) := by decide +kernel
theorem dMd_leave_216 : decode cMd_leave 216 = .ok (.aload_n 0, 1) := by decide +kernel
theorem dMd_leave_217 : decode cMd_leave 217 = .ok (.aload_n 0, 1) := by decide +kernel
theorem dMd_leave_218 : decode cMd_leave 218 = .ok (.getfield 32, 3) := by decide +kernel
theorem dMd_leave_221 : decode cMd_leave 221 = .ok (.aload_n 0, 1) := by decide +kernel
theorem dMd_leave_222 : decode cMd_leave 222 = .ok (.getfield 68, 3) := by decide +kernel
theorem dMd_leave_225 : decode cMd_leave 225 = .ok (.iaload, 1) := by decide +kernel
theorem dMd_leave_226 : decode cMd_leave 226 = .ok (.putfield 59, 3) := by decide +kernel
theorem dMd_leave_229 : decode cMd_leave 229 = .ok (.iload_n 2, 1) := by decide +kernel
theorem dMd_leave_230 : decode cMd_leave 230 = .ok (.bipush 14, 2) := by decide +kernel
theorem dMd_leave_232 : decode cMd_leave 232 = .ok (.if_icmp .ne 30, 3) := by decide +kernel
theorem dMd_leave_235 : decode cMd_leave 235 = .ok (.aload_n 0, 1) := by decide +kernel
theorem dMd_leave_236 : decode cMd_leave 236 = .ok (.getfield 52, 3) := by decide +kernel
theorem dMd_leave_239 : decode cMd_leave 239 = .ok (.ifCond .ge 23, 3) := by decide +kernel
theorem dMd_leave_242 : decode cMd_leave 242 = .ok (.aload_n 0, 1) := by decide +kernel
theorem dMd_leave_243 : decode cMd_leave 243 = .ok (.getfield 81, 3) := by decide +kernel
theorem dMd_leave_246 : decode cMd_leave 246 = .ok (.ifCond .ne 16, 3) := by decide +kernel
theorem dMd_leave_249 : decode cMd_leave 249 = .ok (.aload_n 0, 1) := by decide +kernel
theorem dMd_leave_250 : decode cMd_leave 250 = .ok (.getfield 35, 3) := by decide +kernel
theorem dMd_leave_253 : decode cMd_leave 253 = .ok (.aload_n 0, 1) := by decide +kernel
theorem dMd_leave_254 : decode cMd_leave 254 = .ok (.getfield 68, 3) := by decide +kernel
theorem dMd_leave_257 : decode cMd_leave 257 = .ok (.iaload, 1) := by decide +kernel
theorem dMd_leave_258 : decode cMd_leave 258 = .ok (.iconst 1, 1) := by decide +kernel
theorem dMd_leave_259 : decode cMd_leave 259 = .ok (.if_icmp .gt 4, 3) := by decide +kernel
theorem dMd_leave_262 : decode cMd_leave 262 = .ok (.return_, 1) := by decide +kernel
theorem dMd_leave_263 : decode cMd_leave 263 = .ok (.aload_n 0, 1) := by decide +kernel
theorem dMd_leave_264 : decode cMd_leave 264 = .ok (.getfield 35, 3) := by decide +kernel
theorem dMd_leave_267 : decode cMd_leave 267 = .ok (.aload_n 0, 1) := by decide +kernel
theorem dMd_leave_268 : decode cMd_leave 268 = .ok (.getfield 68, 3) := by decide +kernel
theorem dMd_leave_271 : decode cMd_leave 271 = .ok (.dup2, 1) := by decide +kernel
theorem dMd_leave_272 : decode cMd_leave 272 = .ok (.iaload, 1) := by decide +kernel
theorem dMd_leave_273 : decode cMd_leave 273 = .ok (.iconst 1, 1) := by decide +kernel
theorem dMd_leave_274 : decode cMd_leave 274 = .ok (.isub, 1) := by decide +kernel
theorem dMd_leave_275 : decode cMd_leave 275 = .ok (.iastore, 1) := by decide +kernel
theorem dMd_leave_276 : decode cMd_leave 276 = .ok (.aload_n 0, 1) := by decide +kernel
theorem dMd_leave_277 : decode cMd_leave 277 = .ok (.iload_n 1, 1) := by decide +kernel
theorem dMd_leave_278 : decode cMd_leave 278 = .ok (.iconst 1, 1) := by decide +kernel
theorem dMd_leave_279 : decode cMd_leave 279 = .ok (.iadd, 1) := by decide +kernel
theorem dMd_leave_280 : decode cMd_leave 280 = .ok (.putfield 59, 3) := by decide +kernel
theorem dMd_leave_283 : decode cMd_leave 283 = .ok (.aload_n 0, 1) := by decide +kernel
theorem dMd_leave_284 : decode cMd_leave 284 = .ok (.dup, 1) := by decide +kernel
theorem dMd_leave_285 : decode cMd_leave 285 = .ok (.getfield 68, 3) := by decide +kernel
theorem dMd_leave_288 : decode cMd_leave 288 = .ok (.iconst 1, 1) := by decide +kernel
theorem dMd_leave_289 : decode cMd_leave 289 = .ok (.iadd, 1) := by decide +kernel
theorem dMd_leave_290 : decode cMd_leave 290 = .ok (.putfield 68, 3) := by decide +kernel
theorem dMd_leave_293 : decode cMd_leave 293 = .ok (.return_, 1) := by decide +kernel
