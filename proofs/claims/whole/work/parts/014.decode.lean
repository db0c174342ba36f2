theorem dMd_kOf_0 : decode cMd_kOf 0 = .ok (.aload_n 0, 1) := by decide +kernel
theorem dMd_kOf_1 : decode cMd_kOf 1 = .ok (.getfield 13, 3) := by decide +kernel
theorem dMd_kOf_4 : decode cMd_kOf 4 = .ok (.aload_n 0, 1) := by decide +kernel
theorem dMd_kOf_5 : decode cMd_kOf 5 = .ok (.getfield 65, 3) := by decide +kernel
theorem dMd_kOf_8 : decode cMd_kOf 8 = .ok (.bipush 14, 2) := by decide +kernel
theorem dMd_kOf_10 : decode cMd_kOf 10 = .ok (.imul, 1) := by decide +kernel
theorem dMd_kOf_11 : decode cMd_kOf 11 = .ok (.iload_n 1, 1) := by decide +kernel
theorem dMd_kOf_12 : decode cMd_kOf 12 = .ok (.iadd, 1) := by decide +kernel
theorem dMd_kOf_13 : decode cMd_kOf 13 = .ok (.iaload, 1) := by decide +kernel
theorem dMd_kOf_14 : decode cMd_kOf 14 = .ok (.bipush 16, 2) := by decide +kernel
theorem dMd_kOf_16 : decode cMd_kOf 16 = .ok (.idiv, 1) := by decide +kernel
theorem dMd_kOf_17 : decode cMd_kOf 17 = .ok (.ireturn, 1) := by decide +kernel
theorem dMd_takes_0 : decode cMd_takes 0 = .ok (.iload_n 0, 1) := by decide +kernel
theorem dMd_takes_1 : decode cMd_takes 1 = .ok (.bipush 11, 2) := by decide +kernel
theorem dMd_takes_3 : decode cMd_takes 3 = .ok (.if_icmp .ge 14, 3) := by decide +kernel
theorem dMd_takes_6 : decode cMd_takes 6 = .ok (.iload_n 0, 1) := by decide +kernel
theorem dMd_takes_7 : decode cMd_takes 7 = .ok (.iload_n 1, 1) := by decide +kernel
theorem dMd_takes_8 : decode cMd_takes 8 = .ok (.if_icmp .ne 7, 3) := by decide +kernel
theorem dMd_takes_11 : decode cMd_takes 11 = .ok (.iconst 1, 1) := by decide +kernel
theorem dMd_takes_12 : decode cMd_takes 12 = .ok (.goto 4, 3) := by decide +kernel
theorem dMd_takes_15 : decode cMd_takes 15 = .ok (.iconst 0, 1) := by decide +kernel
theorem dMd_takes_16 : decode cMd_takes 16 = .ok (.ireturn, 1) := by decide +kernel
theorem dMd_takes_17 : decode cMd_takes 17 = .ok (.iload_n 0, 1) := by decide +kernel
theorem dMd_takes_18 : decode cMd_takes 18 = .ok (.bipush 11, 2) := by decide +kernel
theorem dMd_takes_20 : decode cMd_takes 20 = .ok (.if_icmp .eq 9, 3) := by decide +kernel
theorem dMd_takes_23 : decode cMd_takes 23 = .ok (.iload_n 0, 1) := by decide +kernel
theorem dMd_takes_24 : decode cMd_takes 24 = .ok (.bipush 14, 2) := by decide +kernel
theorem dMd_takes_26 : decode cMd_takes 26 = .ok (.if_icmp .ne 27, 3) := by decide +kernel
theorem dMd_takes_29 : decode cMd_takes 29 = .ok (.iload_n 1, 1) := by decide +kernel
theorem dMd_takes_30 : decode cMd_takes 30 = .ok (.bipush 7, 2) := by decide +kernel
theorem dMd_takes_32 : decode cMd_takes 32 = .ok (.if_icmp .lt 15, 3) := by decide +kernel
theorem dMd_takes_35 : decode cMd_takes 35 = .ok (.iload_n 1, 1) := by decide +kernel
theorem dMd_takes_36 : decode cMd_takes 36 = .ok (.bipush 8, 2) := by decide +kernel
theorem dMd_takes_38 : decode cMd_takes 38 = .ok (.if_icmp .eq 9, 3) := by decide +kernel
theorem dMd_takes_41 : decode cMd_takes 41 = .ok (.iload_n 1, 1) := by decide +kernel
theorem dMd_takes_42 : decode cMd_takes 42 = .ok (.bipush 9, 2) := by decide +kernel
theorem dMd_takes_44 : decode cMd_takes 44 = .ok (.if_icmp .ne 7, 3) := by decide +kernel
theorem dMd_takes_47 : decode cMd_takes 47 = .ok (.iconst 1, 1) := by decide +kernel
theorem dMd_takes_48 : decode cMd_takes 48 = .ok (.goto 4, 3) := by decide +kernel
theorem dMd_takes_51 : decode cMd_takes 51 = .ok (.iconst 0, 1) := by decide +kernel
theorem dMd_takes_52 : decode cMd_takes 52 = .ok (.ireturn, 1) := by decide +kernel
theorem dMd_takes_53 : decode cMd_takes 53 = .ok (.iload_n 0, 1) := by decide +kernel
theorem dMd_takes_54 : decode cMd_takes 54 = .ok (.bipush 12, 2) := by decide +kernel
theorem dMd_takes_56 : decode cMd_takes 56 = .ok (.if_icmp .ne 20, 3) := by decide +kernel
theorem dMd_takes_59 : decode cMd_takes 59 = .ok (.iload_n 1, 1) := by decide +kernel
theorem dMd_takes_60 : decode cMd_takes 60 = .ok (.iconst 1, 1) := by decide +kernel
theorem dMd_takes_61 : decode cMd_takes 61 = .ok (.if_icmp .eq 9, 3) := by decide +kernel
theorem dMd_takes_64 : decode cMd_takes 64 = .ok (.iload_n 1, 1) := by decide +kernel
theorem dMd_takes_65 : decode cMd_takes 65 = .ok (.bipush 9, 2) := by decide +kernel
theorem dMd_takes_67 : decode cMd_takes 67 = .ok (.if_icmp .ne 7, 3) := by decide +kernel
theorem dMd_takes_70 : decode cMd_takes 70 = .ok (.iconst 1, 1) := by decide +kernel
theorem dMd_takes_71 : decode cMd_takes 71 = .ok (.goto 4, 3) := by decide +kernel
theorem dMd_takes_74 : decode cMd_takes 74 = .ok (.iconst 0, 1) := by decide +kernel
theorem dMd_takes_75 : decode cMd_takes 75 = .ok (.ireturn, 1) := by decide +kernel
theorem dMd_takes_76 : decode cMd_takes 76 = .ok (.iload_n 0, 1) := by decide +kernel
theorem dMd_takes_77 : decode cMd_takes 77 = .ok (.bipush 15, 2) := by decide +kernel
theorem dMd_takes_79 : decode cMd_takes 79 = .ok (.if_icmp .eq 15, 3) := by decide +kernel
theorem dMd_takes_82 : decode cMd_takes 82 = .ok (.iload_n 1, 1) := by decide +kernel
theorem dMd_takes_83 : decode cMd_takes 83 = .ok (.bipush 7, 2) := by decide +kernel
theorem dMd_takes_85 : decode cMd_takes 85 = .ok (.if_icmp .eq 9, 3) := by decide +kernel
theorem dMd_takes_88 : decode cMd_takes 88 = .ok (.iload_n 1, 1) := by decide +kernel
theorem dMd_takes_89 : decode cMd_takes 89 = .ok (.bipush 10, 2) := by decide +kernel
theorem dMd_takes_91 : decode cMd_takes 91 = .ok (.if_icmp .ne 7, 3) := by decide +kernel
theorem dMd_takes_94 : decode cMd_takes 94 = .ok (.iconst 1, 1) := by decide +kernel
theorem dMd_takes_95 : decode cMd_takes 95 = .ok (.goto 4, 3) := by decide +kernel
theorem dMd_takes_98 : decode cMd_takes 98 = .ok (.iconst 0, 1) := by decide +kernel
theorem dMd_takes_99 : decode cMd_takes 99 = .ok (.ireturn, 1) := by decide +kernel
theorem dMd_raise_0 : decode cMd_raise 0 = .ok (.aload_n 0, 1) := by decide +kernel
theorem dMd_raise_1 : decode cMd_raise 1 = .ok (.iload_n 1, 1) := by decide +kernel
theorem dMd_raise_2 : decode cMd_raise 2 = .ok (.putfield 52, 3) := by decide +kernel
theorem dMd_raise_5 : decode cMd_raise 5 = .ok (.aload_n 0, 1) := by decide +kernel
theorem dMd_raise_6 : decode cMd_raise 6 = .ok (.iload_n 2, 1) := by decide +kernel
theorem dMd_raise_7 : decode cMd_raise 7 = .ok (.putfield 56, 3) := by decide +kernel
theorem dMd_raise_10 : decode cMd_raise 10 = .ok (.aload_n 0, 1) := by decide +kernel
theorem dMd_raise_11 : decode cMd_raise 11 = .ok (.aload_n 0, 1) := by decide +kernel
theorem dMd_raise_12 : decode cMd_raise 12 = .ok (.getfield 59, 3) := by decide +kernel
theorem dMd_raise_15 : decode cMd_raise 15 = .ok (.putfield 62, 3) := by decide +kernel
theorem dMd_raise_18 : decode cMd_raise 18 = .ok (.return_, 1) := by decide +kernel
theorem dMd_step_0 : decode cMd_step 0 = .ok (.aload_n 0, 1) := by decide +kernel
theorem dMd_step_1 : decode cMd_step 1 = .ok (.getfield 112, 3) := by decide +kernel
theorem dMd_step_4 : decode cMd_step 4 = .ok (.sipush 400, 3) := by decide +kernel
theorem dMd_step_7 : decode cMd_step 7 = .ok (.if_icmp .ne 9, 3) := by decide +kernel
theorem dMd_step_10 : decode cMd_step 10 = .ok (.aload_n 0, 1) := by decide +kernel
theorem dMd_step_11 : decode cMd_step 11 = .ok (.iconst 1, 1) := by decide +kernel
theorem dMd_step_12 : decode cMd_step 12 = .ok (.putfield 81, 3) := by decide +kernel
theorem dMd_step_15 : decode cMd_step 15 = .ok (.return_, 1) := by decide +kernel
theorem dMd_step_16 : decode cMd_step 16 = .ok (.aload_n 0, 1) := by decide +kernel
theorem dMd_step_17 : decode cMd_step 17 = .ok (.dup, 1) := by decide +kernel
theorem dMd_step_18 : decode cMd_step 18 = .ok (.getfield 112, 3) := by decide +kernel
theorem dMd_step_21 : decode cMd_step 21 = .ok (.iconst 1, 1) := by decide +kernel
theorem dMd_step_22 : decode cMd_step 22 = .ok (.iadd, 1) := by decide +kernel
theorem dMd_step_23 : decode cMd_step 23 = .ok (.putfield 112, 3) := by decide +kernel
theorem dMd_step_26 : decode cMd_step 26 = .ok (.aload_n 0, 1) := by decide +kernel
theorem dMd_step_27 : decode cMd_step 27 = .ok (.getfield 59, 3) := by decide +kernel
theorem dMd_step_30 : decode cMd_step 30 = .ok (.istore_n 2, 1) := by decide +kernel
theorem dMd_step_31 : decode cMd_step 31 = .ok (.aload_n 0, 1) := by decide +kernel
theorem dMd_step_32 : decode cMd_step 32 = .ok (.getfield 7, 3) := by decide +kernel
theorem dMd_step_35 : decode cMd_step 35 = .ok (.aload_n 0, 1) := by decide +kernel
theorem dMd_step_36 : decode cMd_step 36 = .ok (.getfield 65, 3) := by decide +kernel
theorem dMd_step_39 : decode cMd_step 39 = .ok (.bipush 14, 2) := by decide +kernel
theorem dMd_step_41 : decode cMd_step 41 = .ok (.imul, 1) := by decide +kernel
theorem dMd_step_42 : decode cMd_step 42 = .ok (.iload_n 2, 1) := by decide +kernel
theorem dMd_step_43 : decode cMd_step 43 = .ok (.iadd, 1) := by decide +kernel
theorem dMd_step_44 : decode cMd_step 44 = .ok (.iaload, 1) := by decide +kernel
theorem dMd_step_45 : decode cMd_step 45 = .ok (.istore_n 3, 1) := by decide +kernel
theorem dMd_step_46 : decode cMd_step 46 = .ok (.aload_n 0, 1) := by decide +kernel
theorem dMd_step_47 : decode cMd_step 47 = .ok (.getfield 13, 3) := by decide +kernel
theorem dMd_step_50 : decode cMd_step 50 = .ok (.aload_n 0, 1) := by decide +kernel
theorem dMd_step_51 : decode cMd_step 51 = .ok (.getfield 65, 3) := by decide +kernel
theorem dMd_step_54 : decode cMd_step 54 = .ok (.bipush 14, 2) := by decide +kernel
theorem dMd_step_56 : decode cMd_step 56 = .ok (.imul, 1) := by decide +kernel
theorem dMd_step_57 : decode cMd_step 57 = .ok (.iload_n 2, 1) := by decide +kernel
theorem dMd_step_58 : decode cMd_step 58 = .ok (.iadd, 1) := by decide +kernel
theorem dMd_step_59 : decode cMd_step 59 = .ok (.iaload, 1) := by decide +kernel
theorem dMd_step_60 : decode cMd_step 60 = .ok (.istore 4, 2) := by decide +kernel
theorem dMd_step_62 : decode cMd_step 62 = .ok (.iload_n 3, 1) := by decide +kernel
theorem dMd_step_63 : decode cMd_step 63 = .ok (.bipush 9, 2) := by decide +kernel
theorem dMd_step_65 : decode cMd_step 65 = .ok (.if_icmp .le 27, 3) := by decide +kernel
theorem dMd_step_68 : decode cMd_step 68 = .ok (.iload_n 3, 1) := by decide +kernel
theorem dMd_step_69 : decode cMd_step 69 = .ok (.bipush 15, 2) := by decide +kernel
theorem dMd_step_71 : decode cMd_step 71 = .ok (.if_icmp .ge 21, 3) := by decide +kernel
theorem dMd_step_74 : decode cMd_step 74 = .ok (.aload_n 0, 1) := by decide +kernel
theorem dMd_step_75 : decode cMd_step 75 = .ok (.iload_n 2, 1) := by decide +kernel
theorem dMd_step_76 : decode cMd_step 76 = .ok (.iconst 1, 1) := by decide +kernel
theorem dMd_step_77 : decode cMd_step 77 = .ok (.iadd, 1) := by decide +kernel
theorem dMd_step_78 : decode cMd_step 78 = .ok (.putfield 59, 3) := by decide +kernel
theorem dMd_step_81 : decode cMd_step 81 = .ok (.aload_n 0, 1) := by decide +kernel
theorem dMd_step_82 : decode cMd_step 82 = .ok (.iload_n 2, 1) := by decide +kernel
theorem dMd_step_83 : decode cMd_step 83 = .ok (.iload 4, 2) := by decide +kernel
theorem dMd_step_85 : decode cMd_step 85 = .ok (.bipush 16, 2) := by decide +kernel
theorem dMd_step_87 : decode cMd_step 87 = .ok (.irem, 1) := by decide +kernel
theorem dMd_step_88 : decode cMd_step 88 = .ok (.invokevirtual 115, 3) := by decide +kernel
theorem dMd_step_91 : decode cMd_step 91 = .ok (.return_, 1) := by decide +kernel
theorem dMd_step_92 : decode cMd_step 92 = .ok (.iload_n 3, 1) := by decide +kernel
theorem dMd_step_93 : decode cMd_step 93 = .ok (.bipush 21, 2) := by decide +kernel
theorem dMd_step_95 : decode cMd_step 95 = .ok (.if_icmp .ne 26, 3) := by decide +kernel
theorem dMd_step_98 : decode cMd_step 98 = .ok (.aload_n 0, 1) := by decide +kernel
theorem dMd_step_99 : decode cMd_step 99 = .ok (.iload_n 1, 1) := by decide +kernel
theorem dMd_step_100 : decode cMd_step 100 = .ok (.ifCond .eq 13, 3) := by decide +kernel
theorem dMd_step_103 : decode cMd_step 103 = .ok (.bipush 20, 2) := by decide +kernel
theorem dMd_step_105 : decode cMd_step 105 = .ok (.aload_n 0, 1) := by decide +kernel
theorem dMd_step_106 : decode cMd_step 106 = .ok (.getfield 65, 3) := by decide +kernel
theorem dMd_step_109 : decode cMd_step 109 = .ok (.iadd, 1) := by decide +kernel
theorem dMd_step_110 : decode cMd_step 110 = .ok (.goto 5, 3) := by decide +kernel
theorem dMd_step_113 : decode cMd_step 113 = .ok (.bipush 10, 2) := by decide +kernel
theorem dMd_step_115 : decode cMd_step 115 = .ok (.putfield 78, 3) := by decide +kernel
theorem dMd_step_118 : decode cMd_step 118 = .ok (.goto 23, 3) := by decide +kernel
theorem dMd_step_121 : decode cMd_step 121 = .ok (.aload_n 0, 1) := by decide +kernel
theorem dMd_step_122 : decode cMd_step 122 = .ok (.iload_n 3, 1) := by decide +kernel
theorem dMd_step_123 : decode cMd_step 123 = .ok (.iload 4, 2) := by decide +kernel
theorem dMd_step_125 : decode cMd_step 125 = .ok (.bipush 100, 2) := by decide +kernel
theorem dMd_step_127 : decode cMd_step 127 = .ok (.isub, 1) := by decide +kernel
theorem dMd_step_128 : decode cMd_step 128 = .ok (.iload 4, 2) := by decide +kernel
theorem dMd_step_130 : decode cMd_step 130 = .ok (.bipush 16, 2) := by decide +kernel
theorem dMd_step_132 : decode cMd_step 132 = .ok (.irem, 1) := by decide +kernel
theorem dMd_step_133 : decode cMd_step 133 = .ok (.iload 4, 2) := by decide +kernel
theorem dMd_step_135 : decode cMd_step 135 = .ok (.bipush 16, 2) := by decide +kernel
theorem dMd_step_137 : decode cMd_step 137 = .ok (.idiv, 1) := by decide +kernel
theorem dMd_step_138 : decode cMd_step 138 = .ok (.invokevirtual 118, 3) := by decide +kernel
theorem dMd_step_141 : decode cMd_step 141 = .ok (.aload_n 0, 1) := by decide +kernel
theorem dMd_step_142 : decode cMd_step 142 = .ok (.iload_n 2, 1) := by decide +kernel
theorem dMd_step_143 : decode cMd_step 143 = .ok (.iconst 1, 1) := by decide +kernel
theorem dMd_step_144 : decode cMd_step 144 = .ok (.iadd, 1) := by decide +kernel
theorem dMd_step_145 : decode cMd_step 145 = .ok (.putfield 59, 3) := by decide +kernel
theorem dMd_step_148 : decode cMd_step 148 = .ok (.return_, 1) := by decide +kernel
theorem dMd_enter_0 : decode cMd_enter 0 = .ok (.aload_n 0, 1) := by decide +kernel
theorem dMd_enter_1 : decode cMd_enter 1 = .ok (.getfield 68, 3) := by decide +kernel
theorem dMd_enter_4 : decode cMd_enter 4 = .ok (.ifCond .ne 15, 3) := by decide +kernel
theorem dMd_enter_7 : decode cMd_enter 7 = .ok (.aload_n 0, 1) := by decide +kernel
theorem dMd_enter_8 : decode cMd_enter 8 = .ok (.getfield 16, 3) := by decide +kernel
theorem dMd_enter_11 : decode cMd_enter 11 = .ok (.aload_n 0, 1) := by decide +kernel
theorem dMd_enter_12 : decode cMd_enter 12 = .ok (.getfield 65, 3) := by decide +kernel
theorem dMd_enter_15 : decode cMd_enter 15 = .ok (.iaload, 1) := by decide +kernel
theorem dMd_enter_16 : decode cMd_enter 16 = .ok (.goto 14, 3) := by decide +kernel
theorem dMd_enter_19 : decode cMd_enter 19 = .ok (.aload_n 0, 1) := by decide +kernel
theorem dMd_enter_20 : decode cMd_enter 20 = .ok (.getfield 32, 3) := by decide +kernel
theorem dMd_enter_23 : decode cMd_enter 23 = .ok (.aload_n 0, 1) := by decide +kernel
theorem dMd_enter_24 : decode cMd_enter 24 = .ok (.getfield 68, 3) := by decide +kernel
theorem dMd_enter_27 : decode cMd_enter 27 = .ok (.iconst 1, 1) := by decide +kernel
theorem dMd_enter_28 : decode cMd_enter 28 = .ok (.isub, 1) := by decide +kernel
theorem dMd_enter_29 : decode cMd_enter 29 = .ok (.iaload, 1) := by decide +kernel
theorem dMd_enter_30 : decode cMd_enter 30 = .ok (.istore_n 3, 1) := by decide +kernel
theorem dMd_enter_31 : decode cMd_enter 31 = .ok (.iload_n 1, 1) := by decide +kernel
theorem dMd_enter_32 : decode cMd_enter 32 = .ok (.iconst 1, 1) := by decide +kernel
theorem dMd_enter_33 : decode cMd_enter 33 = .ok (.iadd, 1) := by decide +kernel
theorem dMd_enter_34 : decode cMd_enter 34 = .ok (.iload_n 2, 1) := by decide +kernel
theorem dMd_enter_35 : decode cMd_enter 35 = .ok (.iadd, 1) := by decide +kernel
theorem dMd_enter_36 : decode cMd_enter 36 = .ok (.iload_n 3, 1) := by decide +kernel
theorem dMd_enter_37 : decode cMd_enter 37 = .ok (.if_icmp .ge 11, 3) := by decide +kernel
theorem dMd_enter_40 : decode cMd_enter 40 = .ok (.iload_n 1, 1) := by decide +kernel
theorem dMd_enter_41 : decode cMd_enter 41 = .ok (.iconst 1, 1) := by decide +kernel
theorem dMd_enter_42 : decode cMd_enter 42 = .ok (.iadd, 1) := by decide +kernel
theorem dMd_enter_43 : decode cMd_enter 43 = .ok (.iload_n 2, 1) := by decide +kernel
theorem dMd_enter_44 : decode cMd_enter 44 = .ok (.iadd, 1) := by decide +kernel
theorem dMd_enter_45 : decode cMd_enter 45 = .ok (.goto 4, 3) := by decide +kernel
theorem dMd_enter_48 : decode cMd_enter 48 = .ok (.iload_n 3, 1) := by decide +kernel
theorem dMd_enter_49 : decode cMd_enter 49 = .ok (.istore 4, 2) := by decide +kernel
theorem dMd_enter_51 : decode cMd_enter 51 = .ok (.aload_n 0, 1) := by decide +kernel
theorem dMd_enter_52 : decode cMd_enter 52 = .ok (.getfield 7, 3) := by decide +kernel
theorem dMd_enter_55 : decode cMd_enter 55 = .ok (.aload_n 0, 1) := by decide +kernel
theorem dMd_enter_56 : decode cMd_enter 56 = .ok (.getfield 65, 3) := by decide +kernel
theorem dMd_enter_59 : decode cMd_enter 59 = .ok (.bipush 14, 2) := by decide +kernel
theorem dMd_enter_61 : decode cMd_enter 61 = .ok (.imul, 1) := by decide +kernel
theorem dMd_enter_62 : decode cMd_enter 62 = .ok (.iload_n 1, 1) := by decide +kernel
theorem dMd_enter_63 : decode cMd_enter 63 = .ok (.iadd, 1) := by decide +kernel
theorem dMd_enter_64 : decode cMd_enter 64 = .ok (.iaload, 1) := by decide +kernel
theorem dMd_enter_65 : decode cMd_enter 65 = .ok (.istore 5, 2) := by decide +kernel
theorem dMd_enter_67 : decode cMd_enter 67 = .ok (.aload_n 0, 1) := by decide +kernel
theorem dMd_enter_68 : decode cMd_enter 68 = .ok (.iload_n 1, 1) := by decide +kernel
theorem dMd_enter_69 : decode cMd_enter 69 = .ok (.invokevirtual 71, 3) := by decide +kernel
theorem dMd_enter_72 : decode cMd_enter 72 = .ok (.istore 6, 2) := by decide +kernel
theorem dMd_enter_74 : decode cMd_enter 74 = .ok (.iload 5, 2) := by decide +kernel
theorem dMd_enter_76 : decode cMd_enter 76 = .ok (.bipush 14, 2) := by decide +kernel
theorem dMd_enter_78 : decode cMd_enter 78 = .ok (.if_icmp .ne 15, 3) := by decide +kernel
theorem dMd_enter_81 : decode cMd_enter 81 = .ok (.iload 6, 2) := by decide +kernel
theorem dMd_enter_83 : decode cMd_enter 83 = .ok (.ifCond .ne 10, 3) := by decide +kernel
theorem dMd_enter_86 : decode cMd_enter 86 = .ok (.aload_n 0, 1) := by decide +kernel
theorem dMd_enter_87 : decode cMd_enter 87 = .ok (.iload 4, 2) := by decide +kernel
theorem dMd_enter_89 : decode cMd_enter 89 = .ok (.putfield 59, 3) := by decide +kernel
theorem dMd_enter_92 : decode cMd_enter 92 = .ok (.return_, 1) := by decide +kernel
theorem dMd_enter_93 : decode cMd_enter 93 = .ok (.aload_n 0, 1) := by decide +kernel
theorem dMd_enter_94 : decode cMd_enter 94 = .ok (.getfield 29, 3) := by decide +kernel
theorem dMd_enter_97 : decode cMd_enter 97 = .ok (.aload_n 0, 1) := by decide +kernel
theorem dMd_enter_98 : decode cMd_enter 98 = .ok (.getfield 68, 3) := by decide +kernel
theorem dMd_enter_101 : decode cMd_enter 101 = .ok (.iload_n 1, 1) := by decide +kernel
theorem dMd_enter_102 : decode cMd_enter 102 = .ok (.iastore, 1) := by decide +kernel
theorem dMd_enter_103 : decode cMd_enter 103 = .ok (.aload_n 0, 1) := by decide +kernel
theorem dMd_enter_104 : decode cMd_enter 104 = .ok (.getfield 32, 3) := by decide +kernel
theorem dMd_enter_107 : decode cMd_enter 107 = .ok (.aload_n 0, 1) := by decide +kernel
theorem dMd_enter_108 : decode cMd_enter 108 = .ok (.getfield 68, 3) := by decide +kernel
theorem dMd_enter_111 : decode cMd_enter 111 = .ok (.iload 4, 2) := by decide +kernel
theorem dMd_enter_113 : decode cMd_enter 113 = .ok (.iastore, 1) := by decide +kernel
theorem dMd_enter_114 : decode cMd_enter 114 = .ok (.aload_n 0, 1) := by decide +kernel
theorem dMd_enter_115 : decode cMd_enter 115 = .ok (.getfield 35, 3) := by decide +kernel
theorem dMd_enter_118 : decode cMd_enter 118 = .ok (.aload_n 0, 1) := by decide +kernel
theorem dMd_enter_119 : decode cMd_enter 119 = .ok (.getfield 68, 3) := by decide +kernel
theorem dMd_enter_122 : decode cMd_enter 122 = .ok (.iload 6, 2) := by decide +kernel
theorem dMd_enter_124 : decode cMd_enter 124 = .ok (.iastore, 1) := by decide +kernel
theorem dMd_enter_125 : decode cMd_enter 125 = .ok (.aload_n 0, 1) := by decide +kernel
theorem dMd_enter_126 : decode cMd_enter 126 = .ok (.dup, 1) := by decide +kernel
theorem dMd_enter_127 : decode cMd_enter 127 = .ok (.getfield 68, 3) := by decide +kernel
theorem dMd_enter_130 : decode cMd_enter 130 = .ok (.iconst 1, 1) := by decide +kernel
theorem dMd_enter_131 : decode cMd_enter 131 = .ok (.iadd, 1) := by decide +kernel
theorem dMd_enter_132 : decode cMd_enter 132 = .ok (.putfield 68, 3) := by decide +kernel
theorem dMd_enter_135 : decode cMd_enter 135 = .ok (.iload 5, 2) := by decide +kernel
theorem dMd_enter_137 : decode cMd_enter 137 = .ok (.bipush 13, 2) := by decide +kernel
theorem dMd_enter_139 : decode cMd_enter 139 = .ok (.if_icmp .ne 16, 3) := by decide +kernel
theorem dMd_enter_142 : decode cMd_enter 142 = .ok (.aload_n 0, 1) := by decide +kernel
theorem dMd_enter_143 : decode cMd_enter 143 = .ok (.getfield 41, 3) := by decide +kernel
theorem dMd_enter_146 : decode cMd_enter 146 = .ok (.iload 6, 2) := by decide +kernel
theorem dMd_enter_148 : decode cMd_enter 148 = .ok (.iconst 2, 1) := by decide +kernel
theorem dMd_enter_149 : decode cMd_enter 149 = .ok (.irem, 1) := by decide +kernel
theorem dMd_enter_150 : decode cMd_enter 150 = .ok (.dup2, 1) := by decide +kernel
theorem dMd_enter_151 : decode cMd_enter 151 = .ok (.iaload, 1) := by decide +kernel
theorem dMd_enter_152 : decode cMd_enter 152 = .ok (.iconst 1, 1) := by decide +kernel
theorem dMd_enter_153 : decode cMd_enter 153 = .ok (.iadd, 1) := by decide +kernel
theorem dMd_enter_154 : decode cMd_enter 154 = .ok (.iastore, 1) := by decide +kernel
theorem dMd_enter_155 : decode cMd_enter 155 = .ok (.return_, 1) := by decide +kernel
theorem dMd_act_0 : decode cMd_act 0 = .ok (.iload_n 1, 1) := by decide +kernel
theorem dMd_act_1 : decode cMd_act 1 = .ok (.tableswitch 345 0 19 #[95, 108, 121, 121, 139, 139, 157, 182, 217, 225, 345, 345, 345, 345, 345, 249, 271, 300, 307, 331], 95) := by decide +kernel
theorem dMd_act_96 : decode cMd_act 96 = .ok (.aload_n 0, 1) := by decide +kernel
theorem dMd_act_97 : decode cMd_act 97 = .ok (.dup, 1) := by decide +kernel
theorem dMd_act_98 : decode cMd_act 98 = .ok (.getfield 78, 3) := by decide +kernel
theorem dMd_act_101 : decode cMd_act 101 = .ok (.iload_n 2, 1) := by decide +kernel
theorem dMd_act_102 : decode cMd_act 102 = .ok (.iadd, 1) := by decide +kernel
theorem dMd_act_103 : decode cMd_act 103 = .ok (.putfield 78, 3) := by decide +kernel
theorem dMd_act_106 : decode cMd_act 106 = .ok (.goto 245, 3) := by decide +kernel
theorem dMd_act_109 : decode cMd_act 109 = .ok (.aload_n 0, 1) := by decide +kernel
theorem dMd_act_110 : decode cMd_act 110 = .ok (.dup, 1) := by decide +kernel
theorem dMd_act_111 : decode cMd_act 111 = .ok (.getfield 78, 3) := by decide +kernel
theorem dMd_act_114 : decode cMd_act 114 = .ok (.iload_n 2, 1) := by decide +kernel
theorem dMd_act_115 : decode cMd_act 115 = .ok (.imul, 1) := by decide +kernel
theorem dMd_act_116 : decode cMd_act 116 = .ok (.putfield 78, 3) := by decide +kernel
theorem dMd_act_119 : decode cMd_act 119 = .ok (.goto 232, 3) := by decide +kernel
theorem dMd_act_122 : decode cMd_act 122 = .ok (.aload_n 0, 1) := by decide +kernel
theorem dMd_act_123 : decode cMd_act 123 = .ok (.iload_n 2, 1) := by decide +kernel
theorem dMd_act_124 : decode cMd_act 124 = .ok (.iload_n 1, 1) := by decide +kernel
theorem dMd_act_125 : decode cMd_act 125 = .ok (.iconst 3, 1) := by decide +kernel
theorem dMd_act_126 : decode cMd_act 126 = .ok (.if_icmp .ne 7, 3) := by decide +kernel
theorem dMd_act_129 : decode cMd_act 129 = .ok (.iconst 1, 1) := by decide +kernel
theorem dMd_act_130 : decode cMd_act 130 = .ok (.goto 4, 3) := by decide +kernel
theorem dMd_act_133 : decode cMd_act 133 = .ok (.iconst 0, 1) := by decide +kernel
theorem dMd_act_134 : decode cMd_act 134 = .ok (.invokevirtual 98, 3) := by decide +kernel
theorem dMd_act_137 : decode cMd_act 137 = .ok (.goto 214, 3) := by decide +kernel
theorem dMd_act_140 : decode cMd_act 140 = .ok (.aload_n 0, 1) := by decide +kernel
theorem dMd_act_141 : decode cMd_act 141 = .ok (.iload_n 2, 1) := by decide +kernel
theorem dMd_act_142 : decode cMd_act 142 = .ok (.iload_n 1, 1) := by decide +kernel
theorem dMd_act_143 : decode cMd_act 143 = .ok (.iconst 4, 1) := by decide +kernel
theorem dMd_act_144 : decode cMd_act 144 = .ok (.if_icmp .ne 7, 3) := by decide +kernel
theorem dMd_act_147 : decode cMd_act 147 = .ok (.iconst 1, 1) := by decide +kernel
theorem dMd_act_148 : decode cMd_act 148 = .ok (.goto 4, 3) := by decide +kernel
theorem dMd_act_151 : decode cMd_act 151 = .ok (.iconst 0, 1) := by decide +kernel
theorem dMd_act_152 : decode cMd_act 152 = .ok (.invokevirtual 102, 3) := by decide +kernel
theorem dMd_act_155 : decode cMd_act 155 = .ok (.goto 196, 3) := by decide +kernel
theorem dMd_act_158 : decode cMd_act 158 = .ok (.iload 4, 2) := by decide +kernel
theorem dMd_act_160 : decode cMd_act 160 = .ok (.bipush 6, 2) := by decide +kernel
theorem dMd_act_162 : decode cMd_act 162 = .ok (.if_icmp .ge 13, 3) := by decide +kernel
theorem dMd_act_165 : decode cMd_act 165 = .ok (.aload_n 0, 1) := by decide +kernel
theorem dMd_act_166 : decode cMd_act 166 = .ok (.iload 4, 2) := by decide +kernel
theorem dMd_act_168 : decode cMd_act 168 = .ok (.iconst (-1), 1) := by decide +kernel
theorem dMd_act_169 : decode cMd_act 169 = .ok (.invokevirtual 91, 3) := by decide +kernel
theorem dMd_act_172 : decode cMd_act 172 = .ok (.goto 179, 3) := by decide +kernel
theorem dMd_act_175 : decode cMd_act 175 = .ok (.aload_n 0, 1) := by decide +kernel
theorem dMd_act_176 : decode cMd_act 176 = .ok (.iload_n 3, 1) := by decide +kernel
theorem dMd_act_177 : decode cMd_act 177 = .ok (.putfield 78, 3) := by decide +kernel
theorem dMd_act_180 : decode cMd_act 180 = .ok (.goto 171, 3) := by decide +kernel
theorem dMd_act_183 : decode cMd_act 183 = .ok (.iload 4, 2) := by decide +kernel
theorem dMd_act_185 : decode cMd_act 185 = .ok (.bipush 6, 2) := by decide +kernel
theorem dMd_act_187 : decode cMd_act 187 = .ok (.if_icmp .le 164, 3) := by decide +kernel
theorem dMd_act_190 : decode cMd_act 190 = .ok (.iload 4, 2) := by decide +kernel
theorem dMd_act_192 : decode cMd_act 192 = .ok (.bipush 11, 2) := by decide +kernel
theorem dMd_act_194 : decode cMd_act 194 = .ok (.if_icmp .ge 157, 3) := by decide +kernel
theorem dMd_act_197 : decode cMd_act 197 = .ok (.aload_n 0, 1) := by decide +kernel
theorem dMd_act_198 : decode cMd_act 198 = .ok (.iload 4, 2) := by decide +kernel
theorem dMd_act_200 : decode cMd_act 200 = .ok (.iload 4, 2) := by decide +kernel
theorem dMd_act_202 : decode cMd_act 202 = .ok (.bipush 10, 2) := by decide +kernel
theorem dMd_act_204 : decode cMd_act 204 = .ok (.if_icmp .ne 7, 3) := by decide +kernel
theorem dMd_act_207 : decode cMd_act 207 = .ok (.iload_n 3, 1) := by decide +kernel
theorem dMd_act_208 : decode cMd_act 208 = .ok (.goto 4, 3) := by decide +kernel
theorem dMd_act_211 : decode cMd_act 211 = .ok (.iconst (-1), 1) := by decide +kernel
theorem dMd_act_212 : decode cMd_act 212 = .ok (.invokevirtual 91, 3) := by decide +kernel
theorem dMd_act_215 : decode cMd_act 215 = .ok (.goto 136, 3) := by decide +kernel
theorem dMd_act_218 : decode cMd_act 218 = .ok (.aload_n 0, 1) := by decide +kernel
theorem dMd_act_219 : decode cMd_act 219 = .ok (.iconst 1, 1) := by decide +kernel
theorem dMd_act_220 : decode cMd_act 220 = .ok (.putfield 95, 3) := by decide +kernel
theorem dMd_act_223 : decode cMd_act 223 = .ok (.goto 128, 3) := by decide +kernel
theorem dMd_act_226 : decode cMd_act 226 = .ok (.aload_n 0, 1) := by decide +kernel
theorem dMd_act_227 : decode cMd_act 227 = .ok (.aload_n 0, 1) := by decide +kernel
theorem dMd_act_228 : decode cMd_act 228 = .ok (.getfield 95, 3) := by decide +kernel
theorem dMd_act_231 : decode cMd_act 231 = .ok (.ifCond .eq 7, 3) := by decide +kernel
theorem dMd_act_234 : decode cMd_act 234 = .ok (.iconst 1, 1) := by decide +kernel
theorem dMd_act_235 : decode cMd_act 235 = .ok (.goto 4, 3) := by decide +kernel
theorem dMd_act_238 : decode cMd_act 238 = .ok (.iconst 0, 1) := by decide +kernel
theorem dMd_act_239 : decode cMd_act 239 = .ok (.putfield 78, 3) := by decide +kernel
theorem dMd_act_242 : decode cMd_act 242 = .ok (.aload_n 0, 1) := by decide +kernel
theorem dMd_act_243 : decode cMd_act 243 = .ok (.iconst 0, 1) := by decide +kernel
theorem dMd_act_244 : decode cMd_act 244 = .ok (.putfield 95, 3) := by decide +kernel
theorem dMd_act_247 : decode cMd_act 247 = .ok (.goto 104, 3) := by decide +kernel
theorem dMd_act_250 : decode cMd_act 250 = .ok (.aload_n 0, 1) := by decide +kernel
theorem dMd_act_251 : decode cMd_act 251 = .ok (.getfield 41, 3) := by decide +kernel
theorem dMd_act_254 : decode cMd_act 254 = .ok (.iload 4, 2) := by decide +kernel
theorem dMd_act_256 : decode cMd_act 256 = .ok (.iconst 2, 1) := by decide +kernel
theorem dMd_act_257 : decode cMd_act 257 = .ok (.irem, 1) := by decide +kernel
theorem dMd_act_258 : decode cMd_act 258 = .ok (.iaload, 1) := by decide +kernel
theorem dMd_act_259 : decode cMd_act 259 = .ok (.ifCond .ne 92, 3) := by decide +kernel
theorem dMd_act_262 : decode cMd_act 262 = .ok (.aload_n 0, 1) := by decide +kernel
theorem dMd_act_263 : decode cMd_act 263 = .ok (.bipush 6, 2) := by decide +kernel
theorem dMd_act_265 : decode cMd_act 265 = .ok (.iconst (-1), 1) := by decide +kernel
theorem dMd_act_266 : decode cMd_act 266 = .ok (.invokevirtual 91, 3) := by decide +kernel
theorem dMd_act_269 : decode cMd_act 269 = .ok (.goto 82, 3) := by decide +kernel
theorem dMd_act_272 : decode cMd_act 272 = .ok (.aload_n 0, 1) := by decide +kernel
theorem dMd_act_273 : decode cMd_act 273 = .ok (.getfield 41, 3) := by decide +kernel
theorem dMd_act_276 : decode cMd_act 276 = .ok (.iload 4, 2) := by decide +kernel
theorem dMd_act_278 : decode cMd_act 278 = .ok (.iconst 2, 1) := by decide +kernel
theorem dMd_act_279 : decode cMd_act 279 = .ok (.irem, 1) := by decide +kernel
theorem dMd_act_280 : decode cMd_act 280 = .ok (.iaload, 1) := by decide +kernel
theorem dMd_act_281 : decode cMd_act 281 = .ok (.ifCond .ne 13, 3) := by decide +kernel
theorem dMd_act_284 : decode cMd_act 284 = .ok (.aload_n 0, 1) := by decide +kernel
theorem dMd_act_285 : decode cMd_act 285 = .ok (.bipush 6, 2) := by decide +kernel
theorem dMd_act_287 : decode cMd_act 287 = .ok (.iconst (-1), 1) := by decide +kernel
theorem dMd_act_288 : decode cMd_act 288 = .ok (.invokevirtual 91, 3) := by decide +kernel
theorem dMd_act_291 : decode cMd_act 291 = .ok (.goto 60, 3) := by decide +kernel
theorem dMd_act_294 : decode cMd_act 294 = .ok (.aload_n 0, 1) := by decide +kernel
theorem dMd_act_295 : decode cMd_act 295 = .ok (.invokevirtual 105, 3) := by decide +kernel
theorem dMd_act_298 : decode cMd_act 298 = .ok (.goto 53, 3) := by decide +kernel
theorem dMd_act_301 : decode cMd_act 301 = .ok (.aload_n 0, 1) := by decide +kernel
theorem dMd_act_302 : decode cMd_act 302 = .ok (.invokevirtual 105, 3) := by decide +kernel
theorem dMd_act_305 : decode cMd_act 305 = .ok (.goto 46, 3) := by decide +kernel
theorem dMd_act_308 : decode cMd_act 308 = .ok (.aload_n 0, 1) := by decide +kernel
theorem dMd_act_309 : decode cMd_act 309 = .ok (.aload_n 0, 1) := by decide +kernel
theorem dMd_act_310 : decode cMd_act 310 = .ok (.getfield 41, 3) := by decide +kernel
theorem dMd_act_313 : decode cMd_act 313 = .ok (.iload 4, 2) := by decide +kernel
theorem dMd_act_315 : decode cMd_act 315 = .ok (.iconst 2, 1) := by decide +kernel
theorem dMd_act_316 : decode cMd_act 316 = .ok (.irem, 1) := by decide +kernel
theorem dMd_act_317 : decode cMd_act 317 = .ok (.iaload, 1) := by decide +kernel
theorem dMd_act_318 : decode cMd_act 318 = .ok (.ifCond .le 7, 3) := by decide +kernel
theorem dMd_act_321 : decode cMd_act 321 = .ok (.iconst 1, 1) := by decide +kernel
theorem dMd_act_322 : decode cMd_act 322 = .ok (.goto 4, 3) := by decide +kernel
theorem dMd_act_325 : decode cMd_act 325 = .ok (.iconst 0, 1) := by decide +kernel
theorem dMd_act_326 : decode cMd_act 326 = .ok (.putfield 78, 3) := by decide +kernel
theorem dMd_act_329 : decode cMd_act 329 = .ok (.goto 22, 3) := by decide +kernel
theorem dMd_act_332 : decode cMd_act 332 = .ok (.aload_n 0, 1) := by decide +kernel
theorem dMd_act_333 : decode cMd_act 333 = .ok (.dup, 1) := by decide +kernel
theorem dMd_act_334 : decode cMd_act 334 = .ok (.getfield 108, 3) := by decide +kernel
theorem dMd_act_337 : decode cMd_act 337 = .ok (.iload_n 2, 1) := by decide +kernel
theorem dMd_act_338 : decode cMd_act 338 = .ok (.i2l, 1) := by decide +kernel
theorem dMd_act_339 : decode cMd_act 339 = .ok (.ladd, 1) := by decide +kernel
theorem dMd_act_340 : decode cMd_act 340 = .ok (.putfield 108, 3) := by decide +kernel
theorem dMd_act_343 : decode cMd_act 343 = .ok (.goto 8, 3) := by decide +kernel
theorem dMd_act_346 : decode cMd_act 346 = .ok (.aload_n 0, 1) := by decide +kernel
theorem dMd_act_347 : decode cMd_act 347 = .ok (.iconst 1, 1) := by decide +kernel
theorem dMd_act_348 : decode cMd_act 348 = .ok (.putfield 81, 3) := by decide +kernel
theorem dMd_act_351 : decode cMd_act 351 = .ok (.return_, 1) := by decide +kernel
theorem dMd_divide_0 : decode cMd_divide 0 = .ok (.iload_n 1, 1) := by decide +kernel
theorem dMd_divide_1 : decode cMd_divide 1 = .ok (.ifCond .ne 12, 3) := by decide +kernel
theorem dMd_divide_4 : decode cMd_divide 4 = .ok (.aload_n 0, 1) := by decide +kernel
theorem dMd_divide_5 : decode cMd_divide 5 = .ok (.iconst 0, 1) := by decide +kernel
theorem dMd_divide_6 : decode cMd_divide 6 = .ok (.iconst (-1), 1) := by decide +kernel
theorem dMd_divide_7 : decode cMd_divide 7 = .ok (.invokevirtual 91, 3) := by decide +kernel
theorem dMd_divide_10 : decode cMd_divide 10 = .ok (.goto 26, 3) := by decide +kernel
theorem dMd_divide_13 : decode cMd_divide 13 = .ok (.aload_n 0, 1) := by decide +kernel
theorem dMd_divide_14 : decode cMd_divide 14 = .ok (.iload_n 2, 1) := by decide +kernel
theorem dMd_divide_15 : decode cMd_divide 15 = .ok (.ifCond .eq 12, 3) := by decide +kernel
theorem dMd_divide_18 : decode cMd_divide 18 = .ok (.aload_n 0, 1) := by decide +kernel
theorem dMd_divide_19 : decode cMd_divide 19 = .ok (.getfield 78, 3) := by decide +kernel
theorem dMd_divide_22 : decode cMd_divide 22 = .ok (.iload_n 1, 1) := by decide +kernel
theorem dMd_divide_23 : decode cMd_divide 23 = .ok (.irem, 1) := by decide +kernel
theorem dMd_divide_24 : decode cMd_divide 24 = .ok (.goto 9, 3) := by decide +kernel
theorem dMd_divide_27 : decode cMd_divide 27 = .ok (.aload_n 0, 1) := by decide +kernel
theorem dMd_divide_28 : decode cMd_divide 28 = .ok (.getfield 78, 3) := by decide +kernel
theorem dMd_divide_31 : decode cMd_divide 31 = .ok (.iload_n 1, 1) := by decide +kernel
theorem dMd_divide_32 : decode cMd_divide 32 = .ok (.idiv, 1) := by decide +kernel
theorem dMd_divide_33 : decode cMd_divide 33 = .ok (.putfield 78, 3) := by decide +kernel
theorem dMd_divide_36 : decode cMd_divide 36 = .ok (.return_, 1) := by decide +kernel
theorem dMd_touch_0 : decode cMd_touch 0 = .ok (.iload_n 1, 1) := by decide +kernel
theorem dMd_touch_1 : decode cMd_touch 1 = .ok (.bipush 8, 2) := by decide +kernel
theorem dMd_touch_3 : decode cMd_touch 3 = .ok (.invokestatic 44, 3) := by decide +kernel
theorem dMd_touch_6 : decode cMd_touch 6 = .ok (.ifCond .ne 12, 3) := by decide +kernel
theorem dMd_touch_9 : decode cMd_touch 9 = .ok (.aload_n 0, 1) := by decide +kernel
theorem dMd_touch_10 : decode cMd_touch 10 = .ok (.iconst 1, 1) := by decide +kernel
theorem dMd_touch_11 : decode cMd_touch 11 = .ok (.iconst (-1), 1) := by decide +kernel
theorem dMd_touch_12 : decode cMd_touch 12 = .ok (.invokevirtual 91, 3) := by decide +kernel
theorem dMd_touch_15 : decode cMd_touch 15 = .ok (.goto 30, 3) := by decide +kernel
theorem dMd_touch_18 : decode cMd_touch 18 = .ok (.iload_n 2, 1) := by decide +kernel
theorem dMd_touch_19 : decode cMd_touch 19 = .ok (.ifCond .eq 16, 3) := by decide +kernel
theorem dMd_touch_22 : decode cMd_touch 22 = .ok (.aload_n 0, 1) := by decide +kernel
theorem dMd_touch_23 : decode cMd_touch 23 = .ok (.aload_n 0, 1) := by decide +kernel
theorem dMd_touch_24 : decode cMd_touch 24 = .ok (.getfield 38, 3) := by decide +kernel
theorem dMd_touch_27 : decode cMd_touch 27 = .ok (.iload_n 1, 1) := by decide +kernel
theorem dMd_touch_28 : decode cMd_touch 28 = .ok (.iaload, 1) := by decide +kernel
theorem dMd_touch_29 : decode cMd_touch 29 = .ok (.putfield 78, 3) := by decide +kernel
theorem dMd_touch_32 : decode cMd_touch 32 = .ok (.goto 13, 3) := by decide +kernel
theorem dMd_touch_35 : decode cMd_touch 35 = .ok (.aload_n 0, 1) := by decide +kernel
theorem dMd_touch_36 : decode cMd_touch 36 = .ok (.getfield 38, 3) := by decide +kernel
theorem dMd_touch_39 : decode cMd_touch 39 = .ok (.iload_n 1, 1) := by decide +kernel
theorem dMd_touch_40 : decode cMd_touch 40 = .ok (.aload_n 0, 1) := by decide +kernel
theorem dMd_touch_41 : decode cMd_touch 41 = .ok (.getfield 78, 3) := by decide +kernel
theorem dMd_touch_44 : decode cMd_touch 44 = .ok (.iastore, 1) := by decide +kernel
theorem dMd_touch_45 : decode cMd_touch 45 = .ok (.return_, 1) := by decide +kernel
theorem dMd_interrupted_0 : decode cMd_interrupted 0 = .ok (.aload_n 0, 1) := by decide +kernel
theorem dMd_interrupted_1 : decode cMd_interrupted 1 = .ok (.getfield 95, 3) := by decide +kernel
theorem dMd_interrupted_4 : decode cMd_interrupted 4 = .ok (.ifCond .ne 4, 3) := by decide +kernel
theorem dMd_interrupted_7 : decode cMd_interrupted 7 = .ok (.return_, 1) := by decide +kernel
theorem dMd_interrupted_8 : decode cMd_interrupted 8 = .ok (.aload_n 0, 1) := by decide +kernel
theorem dMd_interrupted_9 : decode cMd_interrupted 9 = .ok (.iconst 0, 1) := by decide +kernel
theorem dMd_interrupted_10 : decode cMd_interrupted 10 = .ok (.putfield 95, 3) := by decide +kernel
theorem dMd_interrupted_13 : decode cMd_interrupted 13 = .ok (.aload_n 0, 1) := by decide +kernel
theorem dMd_interrupted_14 : decode cMd_interrupted 14 = .ok (.bipush 7, 2) := by decide +kernel
theorem dMd_interrupted_16 : decode cMd_interrupted 16 = .ok (.iconst (-1), 1) := by decide +kernel
theorem dMd_interrupted_17 : decode cMd_interrupted 17 = .ok (.invokevirtual 91, 3) := by decide +kernel
theorem dMd_interrupted_20 : decode cMd_interrupted 20 = .ok (.return_, 1) := by decide +kernel
theorem dMd_runAll_0 : decode cMd_runAll 0 = .ok (.iload_n 1, 1) := by decide +kernel
theorem dMd_runAll_1 : decode cMd_runAll 1 = .ok (.bipush 64, 2) := by decide +kernel
theorem dMd_runAll_3 : decode cMd_runAll 3 = .ok (.invokestatic 44, 3) := by decide +kernel
theorem dMd_runAll_6 : decode cMd_runAll 6 = .ok (.ifCond .ne 5, 3) := by decide +kernel
theorem dMd_runAll_9 : decode cMd_runAll 9 = .ok (.iconst (-1), 1) := by decide +kernel
theorem dMd_runAll_10 : decode cMd_runAll 10 = .ok (.ireturn, 1) := by decide +kernel
theorem dMd_runAll_11 : decode cMd_runAll 11 = .ok (.iconst 0, 1) := by decide +kernel
theorem dMd_runAll_12 : decode cMd_runAll 12 = .ok (.istore_n 2, 1) := by decide +kernel
theorem dMd_runAll_13 : decode cMd_runAll 13 = .ok (.iconst 0, 1) := by decide +kernel
theorem dMd_runAll_14 : decode cMd_runAll 14 = .ok (.istore_n 3, 1) := by decide +kernel
theorem dMd_runAll_15 : decode cMd_runAll 15 = .ok (.iload_n 3, 1) := by decide +kernel
theorem dMd_runAll_16 : decode cMd_runAll 16 = .ok (.bipush 6, 2) := by decide +kernel
theorem dMd_runAll_18 : decode cMd_runAll 18 = .ok (.if_icmp .ge 29, 3) := by decide +kernel
theorem dMd_runAll_21 : decode cMd_runAll 21 = .ok (.iload_n 1, 1) := by decide +kernel
theorem dMd_runAll_22 : decode cMd_runAll 22 = .ok (.iload_n 3, 1) := by decide +kernel
theorem dMd_runAll_23 : decode cMd_runAll 23 = .ok (.ishr, 1) := by decide +kernel
theorem dMd_runAll_24 : decode cMd_runAll 24 = .ok (.iconst 1, 1) := by decide +kernel
theorem dMd_runAll_25 : decode cMd_runAll 25 = .ok (.iand, 1) := by decide +kernel
theorem dMd_runAll_26 : decode cMd_runAll 26 = .ok (.ifCond .eq 15, 3) := by decide +kernel
theorem dMd_runAll_29 : decode cMd_runAll 29 = .ok (.aload_n 0, 1) := by decide +kernel
theorem dMd_runAll_30 : decode cMd_runAll 30 = .ok (.iload_n 3, 1) := by decide +kernel
theorem dMd_runAll_31 : decode cMd_runAll 31 = .ok (.iconst 1, 1) := by decide +kernel
theorem dMd_runAll_32 : decode cMd_runAll 32 = .ok (.invokevirtual 139, 3) := by decide +kernel
theorem dMd_runAll_35 : decode cMd_runAll 35 = .ok (.ifCond .le 6, 3) := by decide +kernel
theorem dMd_runAll_38 : decode cMd_runAll 38 = .ok (.iinc 2 1, 3) := by decide +kernel
theorem dMd_runAll_41 : decode cMd_runAll 41 = .ok (.iinc 3 1, 3) := by decide +kernel
theorem dMd_runAll_44 : decode cMd_runAll 44 = .ok (.goto (-29), 3) := by decide +kernel
theorem dMd_runAll_47 : decode cMd_runAll 47 = .ok (.iload_n 2, 1) := by decide +kernel
theorem dMd_runAll_48 : decode cMd_runAll 48 = .ok (.ireturn, 1) := by decide +kernel
theorem dMd_told_0 : decode cMd_told 0 = .ok (.iload_n 1, 1) := by decide +kernel
theorem dMd_told_1 : decode cMd_told 1 = .ok (.bipush 6, 2) := by decide +kernel
theorem dMd_told_3 : decode cMd_told 3 = .ok (.invokestatic 44, 3) := by decide +kernel
theorem dMd_told_6 : decode cMd_told 6 = .ok (.ifCond .eq 12, 3) := by decide +kernel
theorem dMd_told_9 : decode cMd_told 9 = .ok (.iload_n 2, 1) := by decide +kernel
theorem dMd_told_10 : decode cMd_told 10 = .ok (.bipush 8, 2) := by decide +kernel
theorem dMd_told_12 : decode cMd_told 12 = .ok (.invokestatic 44, 3) := by decide +kernel
theorem dMd_told_15 : decode cMd_told 15 = .ok (.ifCond .ne 5, 3) := by decide +kernel
theorem dMd_told_18 : decode cMd_told 18 = .ok (.iconst (-1), 1) := by decide +kernel
theorem dMd_told_19 : decode cMd_told 19 = .ok (.ireturn, 1) := by decide +kernel
theorem dMd_told_20 : decode cMd_told 20 = .ok (.aload_n 0, 1) := by decide +kernel
theorem dMd_told_21 : decode cMd_told 21 = .ok (.getfield 25, 3) := by decide +kernel
theorem dMd_told_24 : decode cMd_told 24 = .ok (.iload_n 1, 1) := by decide +kernel
theorem dMd_told_25 : decode cMd_told 25 = .ok (.baload, 1) := by decide +kernel
theorem dMd_told_26 : decode cMd_told 26 = .ok (.ifCond .eq 17, 3) := by decide +kernel
theorem dMd_told_29 : decode cMd_told 29 = .ok (.aload_n 0, 1) := by decide +kernel
theorem dMd_told_30 : decode cMd_told 30 = .ok (.getfield 19, 3) := by decide +kernel
theorem dMd_told_33 : decode cMd_told 33 = .ok (.iload_n 1, 1) := by decide +kernel
theorem dMd_told_34 : decode cMd_told 34 = .ok (.bipush 8, 2) := by decide +kernel
theorem dMd_told_36 : decode cMd_told 36 = .ok (.imul, 1) := by decide +kernel
theorem dMd_told_37 : decode cMd_told 37 = .ok (.iload_n 2, 1) := by decide +kernel
theorem dMd_told_38 : decode cMd_told 38 = .ok (.iadd, 1) := by decide +kernel
theorem dMd_told_39 : decode cMd_told 39 = .ok (.iaload, 1) := by decide +kernel
theorem dMd_told_40 : decode cMd_told 40 = .ok (.goto 5, 3) := by decide +kernel
theorem dMd_told_43 : decode cMd_told 43 = .ok (.bipush (-3), 2) := by decide +kernel
theorem dMd_told_45 : decode cMd_told 45 = .ok (.ireturn, 1) := by decide +kernel
