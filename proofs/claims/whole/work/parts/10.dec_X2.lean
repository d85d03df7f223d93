theorem dX2_init_0 : decode cX2_init 0 = .ok (.aload_n 0, 1) := by decide +kernel
theorem dX2_init_1 : decode cX2_init 1 = .ok (.invokespecial 3, 3) := by decide +kernel
theorem dX2_init_4 : decode cX2_init 4 = .ok (.aload_n 0, 1) := by decide +kernel
theorem dX2_init_5 : decode cX2_init 5 = .ok (.sipush 150, 3) := by decide +kernel
theorem dX2_init_8 : decode cX2_init 8 = .ok (.newarray .int, 2) := by decide +kernel
theorem dX2_init_10 : decode cX2_init 10 = .ok (.putfield 9, 3) := by decide +kernel
theorem dX2_init_13 : decode cX2_init 13 = .ok (.aload_n 0, 1) := by decide +kernel
theorem dX2_init_14 : decode cX2_init 14 = .ok (.bipush 8, 2) := by decide +kernel
theorem dX2_init_16 : decode cX2_init 16 = .ok (.newarray .int, 2) := by decide +kernel
theorem dX2_init_18 : decode cX2_init 18 = .ok (.putfield 15, 3) := by decide +kernel
theorem dX2_init_21 : decode cX2_init 21 = .ok (.aload_n 0, 1) := by decide +kernel
theorem dX2_init_22 : decode cX2_init 22 = .ok (.bipush 32, 2) := by decide +kernel
theorem dX2_init_24 : decode cX2_init 24 = .ok (.newarray .int, 2) := by decide +kernel
theorem dX2_init_26 : decode cX2_init 26 = .ok (.putfield 18, 3) := by decide +kernel
theorem dX2_init_29 : decode cX2_init 29 = .ok (.aload_n 0, 1) := by decide +kernel
theorem dX2_init_30 : decode cX2_init 30 = .ok (.invokevirtual 21, 3) := by decide +kernel
theorem dX2_init_33 : decode cX2_init 33 = .ok (.return_, 1) := by decide +kernel
theorem dX2_becomeUntold_0 : decode cX2_becomeUntold 0 = .ok (.getstatic 24, 3) := by decide +kernel
theorem dX2_becomeUntold_3 : decode cX2_becomeUntold 3 = .ok (.aload_n 0, 1) := by decide +kernel
theorem dX2_becomeUntold_4 : decode cX2_becomeUntold 4 = .ok (.getfield 9, 3) := by decide +kernel
theorem dX2_becomeUntold_7 : decode cX2_becomeUntold 7 = .ok (.invokestatic 27, 3) := by decide +kernel
theorem dX2_becomeUntold_10 : decode cX2_becomeUntold 10 = .ok (.aload_n 0, 1) := by decide +kernel
theorem dX2_becomeUntold_11 : decode cX2_becomeUntold 11 = .ok (.getstatic 24, 3) := by decide +kernel
theorem dX2_becomeUntold_14 : decode cX2_becomeUntold 14 = .ok (.arraylength, 1) := by decide +kernel
theorem dX2_becomeUntold_15 : decode cX2_becomeUntold 15 = .ok (.putfield 31, 3) := by decide +kernel
theorem dX2_becomeUntold_18 : decode cX2_becomeUntold 18 = .ok (.return_, 1) := by decide +kernel
theorem dX2_copyFrom_0 : decode cX2_copyFrom 0 = .ok (.aload_n 1, 1) := by decide +kernel
theorem dX2_copyFrom_1 : decode cX2_copyFrom 1 = .ok (.getfield 9, 3) := by decide +kernel
theorem dX2_copyFrom_4 : decode cX2_copyFrom 4 = .ok (.aload_n 0, 1) := by decide +kernel
theorem dX2_copyFrom_5 : decode cX2_copyFrom 5 = .ok (.getfield 9, 3) := by decide +kernel
theorem dX2_copyFrom_8 : decode cX2_copyFrom 8 = .ok (.invokestatic 27, 3) := by decide +kernel
theorem dX2_copyFrom_11 : decode cX2_copyFrom 11 = .ok (.aload_n 0, 1) := by decide +kernel
theorem dX2_copyFrom_12 : decode cX2_copyFrom 12 = .ok (.aload_n 1, 1) := by decide +kernel
theorem dX2_copyFrom_13 : decode cX2_copyFrom 13 = .ok (.getfield 31, 3) := by decide +kernel
theorem dX2_copyFrom_16 : decode cX2_copyFrom 16 = .ok (.putfield 31, 3) := by decide +kernel
theorem dX2_copyFrom_19 : decode cX2_copyFrom 19 = .ok (.return_, 1) := by decide +kernel
theorem dX2_tellLoan_0 : decode cX2_tellLoan 0 = .ok (.aload_n 0, 1) := by decide +kernel
theorem dX2_tellLoan_1 : decode cX2_tellLoan 1 = .ok (.getfield 15, 3) := by decide +kernel
theorem dX2_tellLoan_4 : decode cX2_tellLoan 4 = .ok (.iconst 0, 1) := by decide +kernel
theorem dX2_tellLoan_5 : decode cX2_tellLoan 5 = .ok (.iload_n 1, 1) := by decide +kernel
theorem dX2_tellLoan_6 : decode cX2_tellLoan 6 = .ok (.iastore, 1) := by decide +kernel
theorem dX2_tellLoan_7 : decode cX2_tellLoan 7 = .ok (.aload_n 0, 1) := by decide +kernel
theorem dX2_tellLoan_8 : decode cX2_tellLoan 8 = .ok (.getfield 15, 3) := by decide +kernel
theorem dX2_tellLoan_11 : decode cX2_tellLoan 11 = .ok (.iconst 1, 1) := by decide +kernel
theorem dX2_tellLoan_12 : decode cX2_tellLoan 12 = .ok (.iload_n 2, 1) := by decide +kernel
theorem dX2_tellLoan_13 : decode cX2_tellLoan 13 = .ok (.iastore, 1) := by decide +kernel
theorem dX2_tellLoan_14 : decode cX2_tellLoan 14 = .ok (.aload_n 0, 1) := by decide +kernel
theorem dX2_tellLoan_15 : decode cX2_tellLoan 15 = .ok (.getfield 15, 3) := by decide +kernel
theorem dX2_tellLoan_18 : decode cX2_tellLoan 18 = .ok (.iconst 2, 1) := by decide +kernel
theorem dX2_tellLoan_19 : decode cX2_tellLoan 19 = .ok (.iload_n 3, 1) := by decide +kernel
theorem dX2_tellLoan_20 : decode cX2_tellLoan 20 = .ok (.iastore, 1) := by decide +kernel
theorem dX2_tellLoan_21 : decode cX2_tellLoan 21 = .ok (.aload_n 0, 1) := by decide +kernel
theorem dX2_tellLoan_22 : decode cX2_tellLoan 22 = .ok (.getfield 15, 3) := by decide +kernel
theorem dX2_tellLoan_25 : decode cX2_tellLoan 25 = .ok (.iconst 3, 1) := by decide +kernel
theorem dX2_tellLoan_26 : decode cX2_tellLoan 26 = .ok (.iload 4, 2) := by decide +kernel
theorem dX2_tellLoan_28 : decode cX2_tellLoan 28 = .ok (.iastore, 1) := by decide +kernel
theorem dX2_tellLoan_29 : decode cX2_tellLoan 29 = .ok (.return_, 1) := by decide +kernel
theorem dX2_tellRest_0 : decode cX2_tellRest 0 = .ok (.aload_n 0, 1) := by decide +kernel
theorem dX2_tellRest_1 : decode cX2_tellRest 1 = .ok (.getfield 15, 3) := by decide +kernel
theorem dX2_tellRest_4 : decode cX2_tellRest 4 = .ok (.iconst 4, 1) := by decide +kernel
theorem dX2_tellRest_5 : decode cX2_tellRest 5 = .ok (.iload_n 1, 1) := by decide +kernel
theorem dX2_tellRest_6 : decode cX2_tellRest 6 = .ok (.iastore, 1) := by decide +kernel
theorem dX2_tellRest_7 : decode cX2_tellRest 7 = .ok (.aload_n 0, 1) := by decide +kernel
theorem dX2_tellRest_8 : decode cX2_tellRest 8 = .ok (.getfield 15, 3) := by decide +kernel
theorem dX2_tellRest_11 : decode cX2_tellRest 11 = .ok (.iconst 5, 1) := by decide +kernel
theorem dX2_tellRest_12 : decode cX2_tellRest 12 = .ok (.iload_n 2, 1) := by decide +kernel
theorem dX2_tellRest_13 : decode cX2_tellRest 13 = .ok (.iastore, 1) := by decide +kernel
theorem dX2_tellRest_14 : decode cX2_tellRest 14 = .ok (.aload_n 0, 1) := by decide +kernel
theorem dX2_tellRest_15 : decode cX2_tellRest 15 = .ok (.getfield 15, 3) := by decide +kernel
theorem dX2_tellRest_18 : decode cX2_tellRest 18 = .ok (.bipush 6, 2) := by decide +kernel
theorem dX2_tellRest_20 : decode cX2_tellRest 20 = .ok (.iload_n 3, 1) := by decide +kernel
theorem dX2_tellRest_21 : decode cX2_tellRest 21 = .ok (.iastore, 1) := by decide +kernel
theorem dX2_tellRest_22 : decode cX2_tellRest 22 = .ok (.aload_n 0, 1) := by decide +kernel
theorem dX2_tellRest_23 : decode cX2_tellRest 23 = .ok (.getfield 15, 3) := by decide +kernel
theorem dX2_tellRest_26 : decode cX2_tellRest 26 = .ok (.bipush 7, 2) := by decide +kernel
theorem dX2_tellRest_28 : decode cX2_tellRest 28 = .ok (.iload 4, 2) := by decide +kernel
theorem dX2_tellRest_30 : decode cX2_tellRest 30 = .ok (.iastore, 1) := by decide +kernel
theorem dX2_tellRest_31 : decode cX2_tellRest 31 = .ok (.return_, 1) := by decide +kernel
theorem dX2_owes_0 : decode cX2_owes 0 = .ok (.iconst 0, 1) := by decide +kernel
theorem dX2_owes_1 : decode cX2_owes 1 = .ok (.istore_n 1, 1) := by decide +kernel
theorem dX2_owes_2 : decode cX2_owes 2 = .ok (.iconst 0, 1) := by decide +kernel
theorem dX2_owes_3 : decode cX2_owes 3 = .ok (.istore_n 2, 1) := by decide +kernel
theorem dX2_owes_4 : decode cX2_owes 4 = .ok (.iload_n 2, 1) := by decide +kernel
theorem dX2_owes_5 : decode cX2_owes 5 = .ok (.aload_n 0, 1) := by decide +kernel
theorem dX2_owes_6 : decode cX2_owes 6 = .ok (.getfield 31, 3) := by decide +kernel
theorem dX2_owes_9 : decode cX2_owes 9 = .ok (.if_icmp .ge 126, 3) := by decide +kernel
theorem dX2_owes_12 : decode cX2_owes 12 = .ok (.iload_n 2, 1) := by decide +kernel
theorem dX2_owes_13 : decode cX2_owes 13 = .ok (.aload_n 0, 1) := by decide +kernel
theorem dX2_owes_14 : decode cX2_owes 14 = .ok (.getfield 9, 3) := by decide +kernel
theorem dX2_owes_17 : decode cX2_owes 17 = .ok (.arraylength, 1) := by decide +kernel
theorem dX2_owes_18 : decode cX2_owes 18 = .ok (.if_icmp .ge 117, 3) := by decide +kernel
theorem dX2_owes_21 : decode cX2_owes 21 = .ok (.aload_n 0, 1) := by decide +kernel
theorem dX2_owes_22 : decode cX2_owes 22 = .ok (.getfield 9, 3) := by decide +kernel
theorem dX2_owes_25 : decode cX2_owes 25 = .ok (.iload_n 2, 1) := by decide +kernel
theorem dX2_owes_26 : decode cX2_owes 26 = .ok (.iaload, 1) := by decide +kernel
theorem dX2_owes_27 : decode cX2_owes 27 = .ok (.istore_n 3, 1) := by decide +kernel
theorem dX2_owes_28 : decode cX2_owes 28 = .ok (.iload_n 3, 1) := by decide +kernel
theorem dX2_owes_29 : decode cX2_owes 29 = .ok (.sipush 2000, 3) := by decide +kernel
theorem dX2_owes_32 : decode cX2_owes 32 = .ok (.if_icmp .lt 49, 3) := by decide +kernel
theorem dX2_owes_35 : decode cX2_owes 35 = .ok (.iload_n 1, 1) := by decide +kernel
theorem dX2_owes_36 : decode cX2_owes 36 = .ok (.iconst 2, 1) := by decide +kernel
theorem dX2_owes_37 : decode cX2_owes 37 = .ok (.if_icmp .lt 44, 3) := by decide +kernel
theorem dX2_owes_40 : decode cX2_owes 40 = .ok (.iload_n 1, 1) := by decide +kernel
theorem dX2_owes_41 : decode cX2_owes 41 = .ok (.aload_n 0, 1) := by decide +kernel
theorem dX2_owes_42 : decode cX2_owes 42 = .ok (.getfield 18, 3) := by decide +kernel
theorem dX2_owes_45 : decode cX2_owes 45 = .ok (.arraylength, 1) := by decide +kernel
theorem dX2_owes_46 : decode cX2_owes 46 = .ok (.if_icmp .gt 35, 3) := by decide +kernel
theorem dX2_owes_49 : decode cX2_owes 49 = .ok (.iinc 1 (-1), 3) := by decide +kernel
theorem dX2_owes_52 : decode cX2_owes 52 = .ok (.aload_n 0, 1) := by decide +kernel
theorem dX2_owes_53 : decode cX2_owes 53 = .ok (.getfield 18, 3) := by decide +kernel
theorem dX2_owes_56 : decode cX2_owes 56 = .ok (.iload_n 1, 1) := by decide +kernel
theorem dX2_owes_57 : decode cX2_owes 57 = .ok (.iconst 1, 1) := by decide +kernel
theorem dX2_owes_58 : decode cX2_owes 58 = .ok (.isub, 1) := by decide +kernel
theorem dX2_owes_59 : decode cX2_owes 59 = .ok (.iload_n 3, 1) := by decide +kernel
theorem dX2_owes_60 : decode cX2_owes 60 = .ok (.aload_n 0, 1) := by decide +kernel
theorem dX2_owes_61 : decode cX2_owes 61 = .ok (.getfield 18, 3) := by decide +kernel
theorem dX2_owes_64 : decode cX2_owes 64 = .ok (.iload_n 1, 1) := by decide +kernel
theorem dX2_owes_65 : decode cX2_owes 65 = .ok (.iconst 1, 1) := by decide +kernel
theorem dX2_owes_66 : decode cX2_owes 66 = .ok (.isub, 1) := by decide +kernel
theorem dX2_owes_67 : decode cX2_owes 67 = .ok (.iaload, 1) := by decide +kernel
theorem dX2_owes_68 : decode cX2_owes 68 = .ok (.aload_n 0, 1) := by decide +kernel
theorem dX2_owes_69 : decode cX2_owes 69 = .ok (.getfield 18, 3) := by decide +kernel
theorem dX2_owes_72 : decode cX2_owes 72 = .ok (.iload_n 1, 1) := by decide +kernel
theorem dX2_owes_73 : decode cX2_owes 73 = .ok (.iaload, 1) := by decide +kernel
theorem dX2_owes_74 : decode cX2_owes 74 = .ok (.invokestatic 35, 3) := by decide +kernel
theorem dX2_owes_77 : decode cX2_owes 77 = .ok (.iastore, 1) := by decide +kernel
theorem dX2_owes_78 : decode cX2_owes 78 = .ok (.goto 51, 3) := by decide +kernel
theorem dX2_owes_81 : decode cX2_owes 81 = .ok (.iload_n 3, 1) := by decide +kernel
theorem dX2_owes_82 : decode cX2_owes 82 = .ok (.sipush 2000, 3) := by decide +kernel
theorem dX2_owes_85 : decode cX2_owes 85 = .ok (.if_icmp .ge 44, 3) := by decide +kernel
theorem dX2_owes_88 : decode cX2_owes 88 = .ok (.iload_n 1, 1) := by decide +kernel
theorem dX2_owes_89 : decode cX2_owes 89 = .ok (.aload_n 0, 1) := by decide +kernel
theorem dX2_owes_90 : decode cX2_owes 90 = .ok (.getfield 18, 3) := by decide +kernel
theorem dX2_owes_93 : decode cX2_owes 93 = .ok (.arraylength, 1) := by decide +kernel
theorem dX2_owes_94 : decode cX2_owes 94 = .ok (.if_icmp .ge 35, 3) := by decide +kernel
theorem dX2_owes_97 : decode cX2_owes 97 = .ok (.aload_n 0, 1) := by decide +kernel
theorem dX2_owes_98 : decode cX2_owes 98 = .ok (.getfield 18, 3) := by decide +kernel
theorem dX2_owes_101 : decode cX2_owes 101 = .ok (.iload_n 1, 1) := by decide +kernel
theorem dX2_owes_102 : decode cX2_owes 102 = .ok (.iload_n 3, 1) := by decide +kernel
theorem dX2_owes_103 : decode cX2_owes 103 = .ok (.sipush 1000, 3) := by decide +kernel
theorem dX2_owes_106 : decode cX2_owes 106 = .ok (.if_icmp .ge 7, 3) := by decide +kernel
theorem dX2_owes_109 : decode cX2_owes 109 = .ok (.iload_n 3, 1) := by decide +kernel
theorem dX2_owes_110 : decode cX2_owes 110 = .ok (.goto 15, 3) := by decide +kernel
theorem dX2_owes_113 : decode cX2_owes 113 = .ok (.aload_n 0, 1) := by decide +kernel
theorem dX2_owes_114 : decode cX2_owes 114 = .ok (.getfield 15, 3) := by decide +kernel
theorem dX2_owes_117 : decode cX2_owes 117 = .ok (.iload_n 3, 1) := by decide +kernel
theorem dX2_owes_118 : decode cX2_owes 118 = .ok (.sipush 1000, 3) := by decide +kernel
theorem dX2_owes_121 : decode cX2_owes 121 = .ok (.isub, 1) := by decide +kernel
theorem dX2_owes_122 : decode cX2_owes 122 = .ok (.invokestatic 39, 3) := by decide +kernel
theorem dX2_owes_125 : decode cX2_owes 125 = .ok (.iastore, 1) := by decide +kernel
theorem dX2_owes_126 : decode cX2_owes 126 = .ok (.iinc 1 1, 3) := by decide +kernel
theorem dX2_owes_129 : decode cX2_owes 129 = .ok (.iinc 2 1, 3) := by decide +kernel
theorem dX2_owes_132 : decode cX2_owes 132 = .ok (.goto (-128), 3) := by decide +kernel
theorem dX2_owes_135 : decode cX2_owes 135 = .ok (.iconst 0, 1) := by decide +kernel
theorem dX2_owes_136 : decode cX2_owes 136 = .ok (.sipush 200, 3) := by decide +kernel
theorem dX2_owes_139 : decode cX2_owes 139 = .ok (.aload_n 0, 1) := by decide +kernel
theorem dX2_owes_140 : decode cX2_owes 140 = .ok (.getfield 18, 3) := by decide +kernel
theorem dX2_owes_143 : decode cX2_owes 143 = .ok (.iconst 0, 1) := by decide +kernel
theorem dX2_owes_144 : decode cX2_owes 144 = .ok (.iaload, 1) := by decide +kernel
theorem dX2_owes_145 : decode cX2_owes 145 = .ok (.invokestatic 43, 3) := by decide +kernel
theorem dX2_owes_148 : decode cX2_owes 148 = .ok (.invokestatic 49, 3) := by decide +kernel
theorem dX2_owes_151 : decode cX2_owes 151 = .ok (.ireturn, 1) := by decide +kernel
theorem dX2_result_0 : decode cX2_result 0 = .ok (.iload_n 0, 1) := by decide +kernel
theorem dX2_result_1 : decode cX2_result 1 = .ok (.tableswitch 86 2000 2005 #[39, 43, 47, 51, 63, 75], 39) := by decide +kernel
theorem dX2_result_40 : decode cX2_result 40 = .ok (.iload_n 1, 1) := by decide +kernel
theorem dX2_result_41 : decode cX2_result 41 = .ok (.iload_n 2, 1) := by decide +kernel
theorem dX2_result_42 : decode cX2_result 42 = .ok (.iadd, 1) := by decide +kernel
theorem dX2_result_43 : decode cX2_result 43 = .ok (.ireturn, 1) := by decide +kernel
theorem dX2_result_44 : decode cX2_result 44 = .ok (.iload_n 1, 1) := by decide +kernel
theorem dX2_result_45 : decode cX2_result 45 = .ok (.iload_n 2, 1) := by decide +kernel
theorem dX2_result_46 : decode cX2_result 46 = .ok (.isub, 1) := by decide +kernel
theorem dX2_result_47 : decode cX2_result 47 = .ok (.ireturn, 1) := by decide +kernel
theorem dX2_result_48 : decode cX2_result 48 = .ok (.iload_n 1, 1) := by decide +kernel
theorem dX2_result_49 : decode cX2_result 49 = .ok (.iload_n 2, 1) := by decide +kernel
theorem dX2_result_50 : decode cX2_result 50 = .ok (.imul, 1) := by decide +kernel
theorem dX2_result_51 : decode cX2_result 51 = .ok (.ireturn, 1) := by decide +kernel
theorem dX2_result_52 : decode cX2_result 52 = .ok (.iload_n 2, 1) := by decide +kernel
theorem dX2_result_53 : decode cX2_result 53 = .ok (.ifCond .ne 7, 3) := by decide +kernel
theorem dX2_result_56 : decode cX2_result 56 = .ok (.iconst 0, 1) := by decide +kernel
theorem dX2_result_57 : decode cX2_result 57 = .ok (.goto 6, 3) := by decide +kernel
theorem dX2_result_60 : decode cX2_result 60 = .ok (.iload_n 1, 1) := by decide +kernel
theorem dX2_result_61 : decode cX2_result 61 = .ok (.iload_n 2, 1) := by decide +kernel
theorem dX2_result_62 : decode cX2_result 62 = .ok (.idiv, 1) := by decide +kernel
theorem dX2_result_63 : decode cX2_result 63 = .ok (.ireturn, 1) := by decide +kernel
theorem dX2_result_64 : decode cX2_result 64 = .ok (.iload_n 2, 1) := by decide +kernel
theorem dX2_result_65 : decode cX2_result 65 = .ok (.ifCond .ne 7, 3) := by decide +kernel
theorem dX2_result_68 : decode cX2_result 68 = .ok (.iconst 0, 1) := by decide +kernel
theorem dX2_result_69 : decode cX2_result 69 = .ok (.goto 6, 3) := by decide +kernel
theorem dX2_result_72 : decode cX2_result 72 = .ok (.iload_n 1, 1) := by decide +kernel
theorem dX2_result_73 : decode cX2_result 73 = .ok (.iload_n 2, 1) := by decide +kernel
theorem dX2_result_74 : decode cX2_result 74 = .ok (.irem, 1) := by decide +kernel
theorem dX2_result_75 : decode cX2_result 75 = .ok (.ireturn, 1) := by decide +kernel
theorem dX2_result_76 : decode cX2_result 76 = .ok (.iload_n 1, 1) := by decide +kernel
theorem dX2_result_77 : decode cX2_result 77 = .ok (.iload_n 2, 1) := by decide +kernel
theorem dX2_result_78 : decode cX2_result 78 = .ok (.if_icmp .gt 7, 3) := by decide +kernel
theorem dX2_result_81 : decode cX2_result 81 = .ok (.iload_n 1, 1) := by decide +kernel
theorem dX2_result_82 : decode cX2_result 82 = .ok (.goto 4, 3) := by decide +kernel
theorem dX2_result_85 : decode cX2_result 85 = .ok (.iload_n 2, 1) := by decide +kernel
theorem dX2_result_86 : decode cX2_result 86 = .ok (.ireturn, 1) := by decide +kernel
theorem dX2_result_87 : decode cX2_result 87 = .ok (.iload_n 1, 1) := by decide +kernel
theorem dX2_result_88 : decode cX2_result 88 = .ok (.iload_n 2, 1) := by decide +kernel
theorem dX2_result_89 : decode cX2_result 89 = .ok (.if_icmp .lt 7, 3) := by decide +kernel
theorem dX2_result_92 : decode cX2_result 92 = .ok (.iload_n 1, 1) := by decide +kernel
theorem dX2_result_93 : decode cX2_result 93 = .ok (.goto 4, 3) := by decide +kernel
theorem dX2_result_96 : decode cX2_result 96 = .ok (.iload_n 2, 1) := by decide +kernel
theorem dX2_result_97 : decode cX2_result 97 = .ok (.ireturn, 1) := by decide +kernel
theorem dX2_read_0 : decode cX2_read 0 = .ok (.aload_n 0, 1) := by decide +kernel
theorem dX2_read_1 : decode cX2_read 1 = .ok (.iconst 0, 1) := by decide +kernel
theorem dX2_read_2 : decode cX2_read 2 = .ok (.putfield 31, 3) := by decide +kernel
theorem dX2_read_5 : decode cX2_read 5 = .ok (.aload_n 0, 1) := by decide +kernel
theorem dX2_read_6 : decode cX2_read 6 = .ok (.aload_n 1, 1) := by decide +kernel
theorem dX2_read_7 : decode cX2_read 7 = .ok (.iconst 0, 1) := by decide +kernel
theorem dX2_read_8 : decode cX2_read 8 = .ok (.invokevirtual 52, 3) := by decide +kernel
theorem dX2_read_11 : decode cX2_read 11 = .ok (.ifCond .eq 14, 3) := by decide +kernel
theorem dX2_read_14 : decode cX2_read 14 = .ok (.aload_n 1, 1) := by decide +kernel
theorem dX2_read_15 : decode cX2_read 15 = .ok (.invokevirtual 56, 3) := by decide +kernel
theorem dX2_read_18 : decode cX2_read 18 = .ok (.ifCond .eq 7, 3) := by decide +kernel
theorem dX2_read_21 : decode cX2_read 21 = .ok (.iconst 1, 1) := by decide +kernel
theorem dX2_read_22 : decode cX2_read 22 = .ok (.goto 4, 3) := by decide +kernel
theorem dX2_read_25 : decode cX2_read 25 = .ok (.iconst 0, 1) := by decide +kernel
theorem dX2_read_26 : decode cX2_read 26 = .ok (.ireturn, 1) := by decide +kernel
theorem dX2_put_0 : decode cX2_put 0 = .ok (.aload_n 0, 1) := by decide +kernel
theorem dX2_put_1 : decode cX2_put 1 = .ok (.getfield 9, 3) := by decide +kernel
theorem dX2_put_4 : decode cX2_put 4 = .ok (.aload_n 0, 1) := by decide +kernel
theorem dX2_put_5 : decode cX2_put 5 = .ok (.getfield 31, 3) := by decide +kernel
theorem dX2_put_8 : decode cX2_put 8 = .ok (.iload_n 1, 1) := by decide +kernel
theorem dX2_put_9 : decode cX2_put 9 = .ok (.invokestatic 62, 3) := by decide +kernel
theorem dX2_put_12 : decode cX2_put 12 = .ok (.aload_n 0, 1) := by decide +kernel
theorem dX2_put_13 : decode cX2_put 13 = .ok (.dup, 1) := by decide +kernel
theorem dX2_put_14 : decode cX2_put 14 = .ok (.getfield 31, 3) := by decide +kernel
theorem dX2_put_17 : decode cX2_put 17 = .ok (.iconst 1, 1) := by decide +kernel
theorem dX2_put_18 : decode cX2_put 18 = .ok (.iadd, 1) := by decide +kernel
theorem dX2_put_19 : decode cX2_put 19 = .ok (.putfield 31, 3) := by decide +kernel
theorem dX2_put_22 : decode cX2_put 22 = .ok (.iconst 1, 1) := by decide +kernel
theorem dX2_put_23 : decode cX2_put 23 = .ok (.ireturn, 1) := by decide +kernel
theorem dX2_readSum_0 : decode cX2_readSum 0 = .ok (.aload_n 0, 1) := by decide +kernel
theorem dX2_readSum_1 : decode cX2_readSum 1 = .ok (.aload_n 1, 1) := by decide +kernel
theorem dX2_readSum_2 : decode cX2_readSum 2 = .ok (.iload_n 2, 1) := by decide +kernel
theorem dX2_readSum_3 : decode cX2_readSum 3 = .ok (.invokevirtual 66, 3) := by decide +kernel
theorem dX2_readSum_6 : decode cX2_readSum 6 = .ok (.ifCond .ne 5, 3) := by decide +kernel
theorem dX2_readSum_9 : decode cX2_readSum 9 = .ok (.iconst 0, 1) := by decide +kernel
theorem dX2_readSum_10 : decode cX2_readSum 10 = .ok (.ireturn, 1) := by decide +kernel
theorem dX2_readSum_11 : decode cX2_readSum 11 = .ok (.iconst 0, 1) := by decide +kernel
theorem dX2_readSum_12 : decode cX2_readSum 12 = .ok (.istore_n 3, 1) := by decide +kernel
theorem dX2_readSum_13 : decode cX2_readSum 13 = .ok (.iload_n 3, 1) := by decide +kernel
theorem dX2_readSum_14 : decode cX2_readSum 14 = .ok (.sipush 150, 3) := by decide +kernel
theorem dX2_readSum_17 : decode cX2_readSum 17 = .ok (.if_icmp .ge 72, 3) := by decide +kernel
theorem dX2_readSum_20 : decode cX2_readSum 20 = .ok (.aload_n 1, 1) := by decide +kernel
theorem dX2_readSum_21 : decode cX2_readSum 21 = .ok (.invokevirtual 69, 3) := by decide +kernel
theorem dX2_readSum_24 : decode cX2_readSum 24 = .ok (.istore 4, 2) := by decide +kernel
theorem dX2_readSum_26 : decode cX2_readSum 26 = .ok (.iload 4, 2) := by decide +kernel
theorem dX2_readSum_28 : decode cX2_readSum 28 = .ok (.bipush 43, 2) := by decide +kernel
theorem dX2_readSum_30 : decode cX2_readSum 30 = .ok (.if_icmp .eq 12, 3) := by decide +kernel
theorem dX2_readSum_33 : decode cX2_readSum 33 = .ok (.iload 4, 2) := by decide +kernel
theorem dX2_readSum_35 : decode cX2_readSum 35 = .ok (.bipush 45, 2) := by decide +kernel
theorem dX2_readSum_37 : decode cX2_readSum 37 = .ok (.if_icmp .eq 5, 3) := by decide +kernel
theorem dX2_readSum_40 : decode cX2_readSum 40 = .ok (.iconst 1, 1) := by decide +kernel
theorem dX2_readSum_41 : decode cX2_readSum 41 = .ok (.ireturn, 1) := by decide +kernel
theorem dX2_readSum_42 : decode cX2_readSum 42 = .ok (.aload_n 1, 1) := by decide +kernel
theorem dX2_readSum_43 : decode cX2_readSum 43 = .ok (.iload 4, 2) := by decide +kernel
theorem dX2_readSum_45 : decode cX2_readSum 45 = .ok (.invokevirtual 73, 3) := by decide +kernel
theorem dX2_readSum_48 : decode cX2_readSum 48 = .ok (.ifCond .eq 12, 3) := by decide +kernel
theorem dX2_readSum_51 : decode cX2_readSum 51 = .ok (.aload_n 0, 1) := by decide +kernel
theorem dX2_readSum_52 : decode cX2_readSum 52 = .ok (.aload_n 1, 1) := by decide +kernel
theorem dX2_readSum_53 : decode cX2_readSum 53 = .ok (.iload_n 2, 1) := by decide +kernel
theorem dX2_readSum_54 : decode cX2_readSum 54 = .ok (.invokevirtual 66, 3) := by decide +kernel
theorem dX2_readSum_57 : decode cX2_readSum 57 = .ok (.ifCond .ne 5, 3) := by decide +kernel
theorem dX2_readSum_60 : decode cX2_readSum 60 = .ok (.iconst 0, 1) := by decide +kernel
theorem dX2_readSum_61 : decode cX2_readSum 61 = .ok (.ireturn, 1) := by decide +kernel
theorem dX2_readSum_62 : decode cX2_readSum 62 = .ok (.aload_n 0, 1) := by decide +kernel
theorem dX2_readSum_63 : decode cX2_readSum 63 = .ok (.iload 4, 2) := by decide +kernel
theorem dX2_readSum_65 : decode cX2_readSum 65 = .ok (.bipush 43, 2) := by decide +kernel
theorem dX2_readSum_67 : decode cX2_readSum 67 = .ok (.if_icmp .ne 9, 3) := by decide +kernel
theorem dX2_readSum_70 : decode cX2_readSum 70 = .ok (.sipush 2000, 3) := by decide +kernel
theorem dX2_readSum_73 : decode cX2_readSum 73 = .ok (.goto 6, 3) := by decide +kernel
theorem dX2_readSum_76 : decode cX2_readSum 76 = .ok (.sipush 2001, 3) := by decide +kernel
theorem dX2_readSum_79 : decode cX2_readSum 79 = .ok (.invokevirtual 77, 3) := by decide +kernel
theorem dX2_readSum_82 : decode cX2_readSum 82 = .ok (.pop, 1) := by decide +kernel
theorem dX2_readSum_83 : decode cX2_readSum 83 = .ok (.iinc 3 1, 3) := by decide +kernel
theorem dX2_readSum_86 : decode cX2_readSum 86 = .ok (.goto (-73), 3) := by decide +kernel
theorem dX2_readSum_89 : decode cX2_readSum 89 = .ok (.iconst 1, 1) := by decide +kernel
theorem dX2_readSum_90 : decode cX2_readSum 90 = .ok (.ireturn, 1) := by decide +kernel
theorem dX2_readProduct_0 : decode cX2_readProduct 0 = .ok (.aload_n 0, 1) := by decide +kernel
theorem dX2_readProduct_1 : decode cX2_readProduct 1 = .ok (.aload_n 1, 1) := by decide +kernel
theorem dX2_readProduct_2 : decode cX2_readProduct 2 = .ok (.iload_n 2, 1) := by decide +kernel
theorem dX2_readProduct_3 : decode cX2_readProduct 3 = .ok (.invokevirtual 80, 3) := by decide +kernel
theorem dX2_readProduct_6 : decode cX2_readProduct 6 = .ok (.ifCond .ne 5, 3) := by decide +kernel
theorem dX2_readProduct_9 : decode cX2_readProduct 9 = .ok (.iconst 0, 1) := by decide +kernel
theorem dX2_readProduct_10 : decode cX2_readProduct 10 = .ok (.ireturn, 1) := by decide +kernel
theorem dX2_readProduct_11 : decode cX2_readProduct 11 = .ok (.iconst 0, 1) := by decide +kernel
theorem dX2_readProduct_12 : decode cX2_readProduct 12 = .ok (.istore_n 3, 1) := by decide +kernel
theorem dX2_readProduct_13 : decode cX2_readProduct 13 = .ok (.iload_n 3, 1) := by decide +kernel
theorem dX2_readProduct_14 : decode cX2_readProduct 14 = .ok (.sipush 150, 3) := by decide +kernel
theorem dX2_readProduct_17 : decode cX2_readProduct 17 = .ok (.if_icmp .ge 92, 3) := by decide +kernel
theorem dX2_readProduct_20 : decode cX2_readProduct 20 = .ok (.aload_n 1, 1) := by decide +kernel
theorem dX2_readProduct_21 : decode cX2_readProduct 21 = .ok (.invokevirtual 69, 3) := by decide +kernel
theorem dX2_readProduct_24 : decode cX2_readProduct 24 = .ok (.istore 4, 2) := by decide +kernel
theorem dX2_readProduct_26 : decode cX2_readProduct 26 = .ok (.iload 4, 2) := by decide +kernel
theorem dX2_readProduct_28 : decode cX2_readProduct 28 = .ok (.bipush 42, 2) := by decide +kernel
theorem dX2_readProduct_30 : decode cX2_readProduct 30 = .ok (.if_icmp .eq 19, 3) := by decide +kernel
theorem dX2_readProduct_33 : decode cX2_readProduct 33 = .ok (.iload 4, 2) := by decide +kernel
theorem dX2_readProduct_35 : decode cX2_readProduct 35 = .ok (.bipush 47, 2) := by decide +kernel
theorem dX2_readProduct_37 : decode cX2_readProduct 37 = .ok (.if_icmp .eq 12, 3) := by decide +kernel
theorem dX2_readProduct_40 : decode cX2_readProduct 40 = .ok (.iload 4, 2) := by decide +kernel
theorem dX2_readProduct_42 : decode cX2_readProduct 42 = .ok (.bipush 37, 2) := by decide +kernel
theorem dX2_readProduct_44 : decode cX2_readProduct 44 = .ok (.if_icmp .eq 5, 3) := by decide +kernel
theorem dX2_readProduct_47 : decode cX2_readProduct 47 = .ok (.iconst 1, 1) := by decide +kernel
theorem dX2_readProduct_48 : decode cX2_readProduct 48 = .ok (.ireturn, 1) := by decide +kernel
theorem dX2_readProduct_49 : decode cX2_readProduct 49 = .ok (.aload_n 1, 1) := by decide +kernel
theorem dX2_readProduct_50 : decode cX2_readProduct 50 = .ok (.iload 4, 2) := by decide +kernel
theorem dX2_readProduct_52 : decode cX2_readProduct 52 = .ok (.invokevirtual 73, 3) := by decide +kernel
theorem dX2_readProduct_55 : decode cX2_readProduct 55 = .ok (.ifCond .eq 12, 3) := by decide +kernel
theorem dX2_readProduct_58 : decode cX2_readProduct 58 = .ok (.aload_n 0, 1) := by decide +kernel
theorem dX2_readProduct_59 : decode cX2_readProduct 59 = .ok (.aload_n 1, 1) := by decide +kernel
theorem dX2_readProduct_60 : decode cX2_readProduct 60 = .ok (.iload_n 2, 1) := by decide +kernel
theorem dX2_readProduct_61 : decode cX2_readProduct 61 = .ok (.invokevirtual 80, 3) := by decide +kernel
theorem dX2_readProduct_64 : decode cX2_readProduct 64 = .ok (.ifCond .ne 5, 3) := by decide +kernel
theorem dX2_readProduct_67 : decode cX2_readProduct 67 = .ok (.iconst 0, 1) := by decide +kernel
theorem dX2_readProduct_68 : decode cX2_readProduct 68 = .ok (.ireturn, 1) := by decide +kernel
theorem dX2_readProduct_69 : decode cX2_readProduct 69 = .ok (.aload_n 0, 1) := by decide +kernel
theorem dX2_readProduct_70 : decode cX2_readProduct 70 = .ok (.iload 4, 2) := by decide +kernel
theorem dX2_readProduct_72 : decode cX2_readProduct 72 = .ok (.bipush 42, 2) := by decide +kernel
theorem dX2_readProduct_74 : decode cX2_readProduct 74 = .ok (.if_icmp .ne 9, 3) := by decide +kernel
theorem dX2_readProduct_77 : decode cX2_readProduct 77 = .ok (.sipush 2002, 3) := by decide +kernel
theorem dX2_readProduct_80 : decode cX2_readProduct 80 = .ok (.goto 19, 3) := by decide +kernel
theorem dX2_readProduct_83 : decode cX2_readProduct 83 = .ok (.iload 4, 2) := by decide +kernel
theorem dX2_readProduct_85 : decode cX2_readProduct 85 = .ok (.bipush 47, 2) := by decide +kernel
theorem dX2_readProduct_87 : decode cX2_readProduct 87 = .ok (.if_icmp .ne 9, 3) := by decide +kernel
theorem dX2_readProduct_90 : decode cX2_readProduct 90 = .ok (.sipush 2003, 3) := by decide +kernel
theorem dX2_readProduct_93 : decode cX2_readProduct 93 = .ok (.goto 6, 3) := by decide +kernel
theorem dX2_readProduct_96 : decode cX2_readProduct 96 = .ok (.sipush 2004, 3) := by decide +kernel
theorem dX2_readProduct_99 : decode cX2_readProduct 99 = .ok (.invokevirtual 77, 3) := by decide +kernel
theorem dX2_readProduct_102 : decode cX2_readProduct 102 = .ok (.pop, 1) := by decide +kernel
theorem dX2_readProduct_103 : decode cX2_readProduct 103 = .ok (.iinc 3 1, 3) := by decide +kernel
theorem dX2_readProduct_106 : decode cX2_readProduct 106 = .ok (.goto (-93), 3) := by decide +kernel
theorem dX2_readProduct_109 : decode cX2_readProduct 109 = .ok (.iconst 1, 1) := by decide +kernel
theorem dX2_readProduct_110 : decode cX2_readProduct 110 = .ok (.ireturn, 1) := by decide +kernel
theorem dX2_readUnit_0 : decode cX2_readUnit 0 = .ok (.aload_n 1, 1) := by decide +kernel
theorem dX2_readUnit_1 : decode cX2_readUnit 1 = .ok (.invokevirtual 69, 3) := by decide +kernel
theorem dX2_readUnit_4 : decode cX2_readUnit 4 = .ok (.istore_n 3, 1) := by decide +kernel
theorem dX2_readUnit_5 : decode cX2_readUnit 5 = .ok (.iload_n 3, 1) := by decide +kernel
theorem dX2_readUnit_6 : decode cX2_readUnit 6 = .ok (.invokestatic 83, 3) := by decide +kernel
theorem dX2_readUnit_9 : decode cX2_readUnit 9 = .ok (.ifCond .eq 34, 3) := by decide +kernel
theorem dX2_readUnit_12 : decode cX2_readUnit 12 = .ok (.aload_n 1, 1) := by decide +kernel
theorem dX2_readUnit_13 : decode cX2_readUnit 13 = .ok (.iconst 0, 1) := by decide +kernel
theorem dX2_readUnit_14 : decode cX2_readUnit 14 = .ok (.sipush 999, 3) := by decide +kernel
theorem dX2_readUnit_17 : decode cX2_readUnit 17 = .ok (.invokevirtual 86, 3) := by decide +kernel
theorem dX2_readUnit_20 : decode cX2_readUnit 20 = .ok (.istore 4, 2) := by decide +kernel
theorem dX2_readUnit_22 : decode cX2_readUnit 22 = .ok (.iload 4, 2) := by decide +kernel
theorem dX2_readUnit_24 : decode cX2_readUnit 24 = .ok (.iconst (-1), 1) := by decide +kernel
theorem dX2_readUnit_25 : decode cX2_readUnit 25 = .ok (.if_icmp .eq 16, 3) := by decide +kernel
theorem dX2_readUnit_28 : decode cX2_readUnit 28 = .ok (.aload_n 0, 1) := by decide +kernel
theorem dX2_readUnit_29 : decode cX2_readUnit 29 = .ok (.iload 4, 2) := by decide +kernel
theorem dX2_readUnit_31 : decode cX2_readUnit 31 = .ok (.invokevirtual 77, 3) := by decide +kernel
theorem dX2_readUnit_34 : decode cX2_readUnit 34 = .ok (.ifCond .eq 7, 3) := by decide +kernel
theorem dX2_readUnit_37 : decode cX2_readUnit 37 = .ok (.iconst 1, 1) := by decide +kernel
theorem dX2_readUnit_38 : decode cX2_readUnit 38 = .ok (.goto 4, 3) := by decide +kernel
theorem dX2_readUnit_41 : decode cX2_readUnit 41 = .ok (.iconst 0, 1) := by decide +kernel
theorem dX2_readUnit_42 : decode cX2_readUnit 42 = .ok (.ireturn, 1) := by decide +kernel
theorem dX2_readUnit_43 : decode cX2_readUnit 43 = .ok (.iload_n 3, 1) := by decide +kernel
theorem dX2_readUnit_44 : decode cX2_readUnit 44 = .ok (.bipush 40, 2) := by decide +kernel
theorem dX2_readUnit_46 : decode cX2_readUnit 46 = .ok (.if_icmp .ne 10, 3) := by decide +kernel
theorem dX2_readUnit_49 : decode cX2_readUnit 49 = .ok (.aload_n 0, 1) := by decide +kernel
theorem dX2_readUnit_50 : decode cX2_readUnit 50 = .ok (.aload_n 1, 1) := by decide +kernel
theorem dX2_readUnit_51 : decode cX2_readUnit 51 = .ok (.iload_n 2, 1) := by decide +kernel
theorem dX2_readUnit_52 : decode cX2_readUnit 52 = .ok (.invokevirtual 89, 3) := by decide +kernel
theorem dX2_readUnit_55 : decode cX2_readUnit 55 = .ok (.ireturn, 1) := by decide +kernel
theorem dX2_readUnit_56 : decode cX2_readUnit 56 = .ok (.aload_n 1, 1) := by decide +kernel
theorem dX2_readUnit_57 : decode cX2_readUnit 57 = .ok (.invokevirtual 92, 3) := by decide +kernel
theorem dX2_readUnit_60 : decode cX2_readUnit 60 = .ok (.ifCond .ne 5, 3) := by decide +kernel
theorem dX2_readUnit_63 : decode cX2_readUnit 63 = .ok (.iconst 0, 1) := by decide +kernel
theorem dX2_readUnit_64 : decode cX2_readUnit 64 = .ok (.ireturn, 1) := by decide +kernel
theorem dX2_readUnit_65 : decode cX2_readUnit 65 = .ok (.aload_n 1, 1) := by decide +kernel
theorem dX2_readUnit_66 : decode cX2_readUnit 66 = .ok (.ldc 95, 2) := by decide +kernel
theorem dX2_readUnit_68 : decode cX2_readUnit 68 = .ok (.invokevirtual 97, 3) := by decide +kernel
theorem dX2_readUnit_71 : decode cX2_readUnit 71 = .ok (.ifCond .eq 28, 3) := by decide +kernel
theorem dX2_readUnit_74 : decode cX2_readUnit 74 = .ok (.aload_n 0, 1) := by decide +kernel
theorem dX2_readUnit_75 : decode cX2_readUnit 75 = .ok (.aload_n 1, 1) := by decide +kernel
theorem dX2_readUnit_76 : decode cX2_readUnit 76 = .ok (.iload_n 2, 1) := by decide +kernel
theorem dX2_readUnit_77 : decode cX2_readUnit 77 = .ok (.invokevirtual 101, 3) := by decide +kernel
theorem dX2_readUnit_80 : decode cX2_readUnit 80 = .ok (.ifCond .eq 17, 3) := by decide +kernel
theorem dX2_readUnit_83 : decode cX2_readUnit 83 = .ok (.aload_n 0, 1) := by decide +kernel
theorem dX2_readUnit_84 : decode cX2_readUnit 84 = .ok (.sipush 2005, 3) := by decide +kernel
theorem dX2_readUnit_87 : decode cX2_readUnit 87 = .ok (.invokevirtual 77, 3) := by decide +kernel
theorem dX2_readUnit_90 : decode cX2_readUnit 90 = .ok (.ifCond .eq 7, 3) := by decide +kernel
theorem dX2_readUnit_93 : decode cX2_readUnit 93 = .ok (.iconst 1, 1) := by decide +kernel
theorem dX2_readUnit_94 : decode cX2_readUnit 94 = .ok (.goto 4, 3) := by decide +kernel
theorem dX2_readUnit_97 : decode cX2_readUnit 97 = .ok (.iconst 0, 1) := by decide +kernel
theorem dX2_readUnit_98 : decode cX2_readUnit 98 = .ok (.ireturn, 1) := by decide +kernel
theorem dX2_readUnit_99 : decode cX2_readUnit 99 = .ok (.aload_n 1, 1) := by decide +kernel
theorem dX2_readUnit_100 : decode cX2_readUnit 100 = .ok (.ldc 104, 2) := by decide +kernel
theorem dX2_readUnit_102 : decode cX2_readUnit 102 = .ok (.invokevirtual 97, 3) := by decide +kernel
theorem dX2_readUnit_105 : decode cX2_readUnit 105 = .ok (.ifCond .eq 28, 3) := by decide +kernel
theorem dX2_readUnit_108 : decode cX2_readUnit 108 = .ok (.aload_n 0, 1) := by decide +kernel
theorem dX2_readUnit_109 : decode cX2_readUnit 109 = .ok (.aload_n 1, 1) := by decide +kernel
theorem dX2_readUnit_110 : decode cX2_readUnit 110 = .ok (.iload_n 2, 1) := by decide +kernel
theorem dX2_readUnit_111 : decode cX2_readUnit 111 = .ok (.invokevirtual 101, 3) := by decide +kernel
theorem dX2_readUnit_114 : decode cX2_readUnit 114 = .ok (.ifCond .eq 17, 3) := by decide +kernel
theorem dX2_readUnit_117 : decode cX2_readUnit 117 = .ok (.aload_n 0, 1) := by decide +kernel
theorem dX2_readUnit_118 : decode cX2_readUnit 118 = .ok (.sipush 2006, 3) := by decide +kernel
theorem dX2_readUnit_121 : decode cX2_readUnit 121 = .ok (.invokevirtual 77, 3) := by decide +kernel
theorem dX2_readUnit_124 : decode cX2_readUnit 124 = .ok (.ifCond .eq 7, 3) := by decide +kernel
theorem dX2_readUnit_127 : decode cX2_readUnit 127 = .ok (.iconst 1, 1) := by decide +kernel
theorem dX2_readUnit_128 : decode cX2_readUnit 128 = .ok (.goto 4, 3) := by decide +kernel
theorem dX2_readUnit_131 : decode cX2_readUnit 131 = .ok (.iconst 0, 1) := by decide +kernel
theorem dX2_readUnit_132 : decode cX2_readUnit 132 = .ok (.ireturn, 1) := by decide +kernel
theorem dX2_readUnit_133 : decode cX2_readUnit 133 = .ok (.aload_n 1, 1) := by decide +kernel
theorem dX2_readUnit_134 : decode cX2_readUnit 134 = .ok (.invokestatic 106, 3) := by decide +kernel
theorem dX2_readUnit_137 : decode cX2_readUnit 137 = .ok (.istore 4, 2) := by decide +kernel
theorem dX2_readUnit_139 : decode cX2_readUnit 139 = .ok (.iload 4, 2) := by decide +kernel
theorem dX2_readUnit_141 : decode cX2_readUnit 141 = .ok (.iconst (-1), 1) := by decide +kernel
theorem dX2_readUnit_142 : decode cX2_readUnit 142 = .ok (.if_icmp .ne 11, 3) := by decide +kernel
theorem dX2_readUnit_145 : decode cX2_readUnit 145 = .ok (.aload_n 1, 1) := by decide +kernel
theorem dX2_readUnit_146 : decode cX2_readUnit 146 = .ok (.iconst 1, 1) := by decide +kernel
theorem dX2_readUnit_147 : decode cX2_readUnit 147 = .ok (.invokevirtual 110, 3) := by decide +kernel
theorem dX2_readUnit_150 : decode cX2_readUnit 150 = .ok (.goto 9, 3) := by decide +kernel
theorem dX2_readUnit_153 : decode cX2_readUnit 153 = .ok (.aload_n 0, 1) := by decide +kernel
theorem dX2_readUnit_154 : decode cX2_readUnit 154 = .ok (.iload 4, 2) := by decide +kernel
theorem dX2_readUnit_156 : decode cX2_readUnit 156 = .ok (.invokevirtual 77, 3) := by decide +kernel
theorem dX2_readUnit_159 : decode cX2_readUnit 159 = .ok (.ireturn, 1) := by decide +kernel
theorem dX2_readBracket_0 : decode cX2_readBracket 0 = .ok (.iload_n 2, 1) := by decide +kernel
theorem dX2_readBracket_1 : decode cX2_readBracket 1 = .ok (.bipush 6, 2) := by decide +kernel
theorem dX2_readBracket_3 : decode cX2_readBracket 3 = .ok (.if_icmp .lt 9, 3) := by decide +kernel
theorem dX2_readBracket_6 : decode cX2_readBracket 6 = .ok (.aload_n 1, 1) := by decide +kernel
theorem dX2_readBracket_7 : decode cX2_readBracket 7 = .ok (.iconst 3, 1) := by decide +kernel
theorem dX2_readBracket_8 : decode cX2_readBracket 8 = .ok (.invokevirtual 113, 3) := by decide +kernel
theorem dX2_readBracket_11 : decode cX2_readBracket 11 = .ok (.ireturn, 1) := by decide +kernel
theorem dX2_readBracket_12 : decode cX2_readBracket 12 = .ok (.aload_n 1, 1) := by decide +kernel
theorem dX2_readBracket_13 : decode cX2_readBracket 13 = .ok (.bipush 40, 2) := by decide +kernel
theorem dX2_readBracket_15 : decode cX2_readBracket 15 = .ok (.invokevirtual 73, 3) := by decide +kernel
theorem dX2_readBracket_18 : decode cX2_readBracket 18 = .ok (.ifCond .eq 27, 3) := by decide +kernel
theorem dX2_readBracket_21 : decode cX2_readBracket 21 = .ok (.aload_n 0, 1) := by decide +kernel
theorem dX2_readBracket_22 : decode cX2_readBracket 22 = .ok (.aload_n 1, 1) := by decide +kernel
theorem dX2_readBracket_23 : decode cX2_readBracket 23 = .ok (.iload_n 2, 1) := by decide +kernel
theorem dX2_readBracket_24 : decode cX2_readBracket 24 = .ok (.iconst 1, 1) := by decide +kernel
theorem dX2_readBracket_25 : decode cX2_readBracket 25 = .ok (.iadd, 1) := by decide +kernel
theorem dX2_readBracket_26 : decode cX2_readBracket 26 = .ok (.invokevirtual 52, 3) := by decide +kernel
theorem dX2_readBracket_29 : decode cX2_readBracket 29 = .ok (.ifCond .eq 16, 3) := by decide +kernel
theorem dX2_readBracket_32 : decode cX2_readBracket 32 = .ok (.aload_n 1, 1) := by decide +kernel
theorem dX2_readBracket_33 : decode cX2_readBracket 33 = .ok (.bipush 41, 2) := by decide +kernel
theorem dX2_readBracket_35 : decode cX2_readBracket 35 = .ok (.invokevirtual 73, 3) := by decide +kernel
theorem dX2_readBracket_38 : decode cX2_readBracket 38 = .ok (.ifCond .eq 7, 3) := by decide +kernel
theorem dX2_readBracket_41 : decode cX2_readBracket 41 = .ok (.iconst 1, 1) := by decide +kernel
theorem dX2_readBracket_42 : decode cX2_readBracket 42 = .ok (.goto 4, 3) := by decide +kernel
theorem dX2_readBracket_45 : decode cX2_readBracket 45 = .ok (.iconst 0, 1) := by decide +kernel
theorem dX2_readBracket_46 : decode cX2_readBracket 46 = .ok (.ireturn, 1) := by decide +kernel
theorem dX2_readPair_0 : decode cX2_readPair 0 = .ok (.iload_n 2, 1) := by decide +kernel
theorem dX2_readPair_1 : decode cX2_readPair 1 = .ok (.bipush 6, 2) := by decide +kernel
theorem dX2_readPair_3 : decode cX2_readPair 3 = .ok (.if_icmp .lt 9, 3) := by decide +kernel
theorem dX2_readPair_6 : decode cX2_readPair 6 = .ok (.aload_n 1, 1) := by decide +kernel
theorem dX2_readPair_7 : decode cX2_readPair 7 = .ok (.iconst 3, 1) := by decide +kernel
theorem dX2_readPair_8 : decode cX2_readPair 8 = .ok (.invokevirtual 110, 3) := by decide +kernel
theorem dX2_readPair_11 : decode cX2_readPair 11 = .ok (.ireturn, 1) := by decide +kernel
theorem dX2_readPair_12 : decode cX2_readPair 12 = .ok (.aload_n 1, 1) := by decide +kernel
theorem dX2_readPair_13 : decode cX2_readPair 13 = .ok (.bipush 91, 2) := by decide +kernel
theorem dX2_readPair_15 : decode cX2_readPair 15 = .ok (.invokevirtual 73, 3) := by decide +kernel
theorem dX2_readPair_18 : decode cX2_readPair 18 = .ok (.ifCond .eq 47, 3) := by decide +kernel
theorem dX2_readPair_21 : decode cX2_readPair 21 = .ok (.aload_n 0, 1) := by decide +kernel
theorem dX2_readPair_22 : decode cX2_readPair 22 = .ok (.aload_n 1, 1) := by decide +kernel
theorem dX2_readPair_23 : decode cX2_readPair 23 = .ok (.iload_n 2, 1) := by decide +kernel
theorem dX2_readPair_24 : decode cX2_readPair 24 = .ok (.iconst 1, 1) := by decide +kernel
theorem dX2_readPair_25 : decode cX2_readPair 25 = .ok (.iadd, 1) := by decide +kernel
theorem dX2_readPair_26 : decode cX2_readPair 26 = .ok (.invokevirtual 52, 3) := by decide +kernel
theorem dX2_readPair_29 : decode cX2_readPair 29 = .ok (.ifCond .eq 36, 3) := by decide +kernel
theorem dX2_readPair_32 : decode cX2_readPair 32 = .ok (.aload_n 1, 1) := by decide +kernel
theorem dX2_readPair_33 : decode cX2_readPair 33 = .ok (.bipush 44, 2) := by decide +kernel
theorem dX2_readPair_35 : decode cX2_readPair 35 = .ok (.invokevirtual 73, 3) := by decide +kernel
theorem dX2_readPair_38 : decode cX2_readPair 38 = .ok (.ifCond .eq 27, 3) := by decide +kernel
theorem dX2_readPair_41 : decode cX2_readPair 41 = .ok (.aload_n 0, 1) := by decide +kernel
theorem dX2_readPair_42 : decode cX2_readPair 42 = .ok (.aload_n 1, 1) := by decide +kernel
theorem dX2_readPair_43 : decode cX2_readPair 43 = .ok (.iload_n 2, 1) := by decide +kernel
theorem dX2_readPair_44 : decode cX2_readPair 44 = .ok (.iconst 1, 1) := by decide +kernel
theorem dX2_readPair_45 : decode cX2_readPair 45 = .ok (.iadd, 1) := by decide +kernel
theorem dX2_readPair_46 : decode cX2_readPair 46 = .ok (.invokevirtual 52, 3) := by decide +kernel
theorem dX2_readPair_49 : decode cX2_readPair 49 = .ok (.ifCond .eq 16, 3) := by decide +kernel
theorem dX2_readPair_52 : decode cX2_readPair 52 = .ok (.aload_n 1, 1) := by decide +kernel
theorem dX2_readPair_53 : decode cX2_readPair 53 = .ok (.bipush 93, 2) := by decide +kernel
theorem dX2_readPair_55 : decode cX2_readPair 55 = .ok (.invokevirtual 73, 3) := by decide +kernel
theorem dX2_readPair_58 : decode cX2_readPair 58 = .ok (.ifCond .eq 7, 3) := by decide +kernel
theorem dX2_readPair_61 : decode cX2_readPair 61 = .ok (.iconst 1, 1) := by decide +kernel
theorem dX2_readPair_62 : decode cX2_readPair 62 = .ok (.goto 4, 3) := by decide +kernel
theorem dX2_readPair_65 : decode cX2_readPair 65 = .ok (.iconst 0, 1) := by decide +kernel
theorem dX2_readPair_66 : decode cX2_readPair 66 = .ok (.ireturn, 1) := by decide +kernel
theorem dX2_nameOf_0 : decode cX2_nameOf 0 = .ok (.aload_n 0, 1) := by decide +kernel
theorem dX2_nameOf_1 : decode cX2_nameOf 1 = .ok (.ldc 116, 2) := by decide +kernel
theorem dX2_nameOf_3 : decode cX2_nameOf 3 = .ok (.invokevirtual 97, 3) := by decide +kernel
theorem dX2_nameOf_6 : decode cX2_nameOf 6 = .ok (.ifCond .eq 7, 3) := by decide +kernel
theorem dX2_nameOf_9 : decode cX2_nameOf 9 = .ok (.sipush 1000, 3) := by decide +kernel
theorem dX2_nameOf_12 : decode cX2_nameOf 12 = .ok (.ireturn, 1) := by decide +kernel
theorem dX2_nameOf_13 : decode cX2_nameOf 13 = .ok (.aload_n 0, 1) := by decide +kernel
theorem dX2_nameOf_14 : decode cX2_nameOf 14 = .ok (.ldc 118, 2) := by decide +kernel
theorem dX2_nameOf_16 : decode cX2_nameOf 16 = .ok (.invokevirtual 97, 3) := by decide +kernel
theorem dX2_nameOf_19 : decode cX2_nameOf 19 = .ok (.ifCond .eq 7, 3) := by decide +kernel
theorem dX2_nameOf_22 : decode cX2_nameOf 22 = .ok (.sipush 1001, 3) := by decide +kernel
theorem dX2_nameOf_25 : decode cX2_nameOf 25 = .ok (.ireturn, 1) := by decide +kernel
theorem dX2_nameOf_26 : decode cX2_nameOf 26 = .ok (.aload_n 0, 1) := by decide +kernel
theorem dX2_nameOf_27 : decode cX2_nameOf 27 = .ok (.ldc 120, 2) := by decide +kernel
theorem dX2_nameOf_29 : decode cX2_nameOf 29 = .ok (.invokevirtual 97, 3) := by decide +kernel
theorem dX2_nameOf_32 : decode cX2_nameOf 32 = .ok (.ifCond .eq 7, 3) := by decide +kernel
theorem dX2_nameOf_35 : decode cX2_nameOf 35 = .ok (.sipush 1002, 3) := by decide +kernel
theorem dX2_nameOf_38 : decode cX2_nameOf 38 = .ok (.ireturn, 1) := by decide +kernel
theorem dX2_nameOf_39 : decode cX2_nameOf 39 = .ok (.aload_n 0, 1) := by decide +kernel
theorem dX2_nameOf_40 : decode cX2_nameOf 40 = .ok (.ldc 122, 2) := by decide +kernel
theorem dX2_nameOf_42 : decode cX2_nameOf 42 = .ok (.invokevirtual 97, 3) := by decide +kernel
theorem dX2_nameOf_45 : decode cX2_nameOf 45 = .ok (.ifCond .eq 7, 3) := by decide +kernel
theorem dX2_nameOf_48 : decode cX2_nameOf 48 = .ok (.sipush 1003, 3) := by decide +kernel
theorem dX2_nameOf_51 : decode cX2_nameOf 51 = .ok (.ireturn, 1) := by decide +kernel
theorem dX2_nameOf_52 : decode cX2_nameOf 52 = .ok (.aload_n 0, 1) := by decide +kernel
theorem dX2_nameOf_53 : decode cX2_nameOf 53 = .ok (.ldc 124, 2) := by decide +kernel
theorem dX2_nameOf_55 : decode cX2_nameOf 55 = .ok (.invokevirtual 97, 3) := by decide +kernel
theorem dX2_nameOf_58 : decode cX2_nameOf 58 = .ok (.ifCond .eq 7, 3) := by decide +kernel
theorem dX2_nameOf_61 : decode cX2_nameOf 61 = .ok (.sipush 1004, 3) := by decide +kernel
theorem dX2_nameOf_64 : decode cX2_nameOf 64 = .ok (.ireturn, 1) := by decide +kernel
theorem dX2_nameOf_65 : decode cX2_nameOf 65 = .ok (.aload_n 0, 1) := by decide +kernel
theorem dX2_nameOf_66 : decode cX2_nameOf 66 = .ok (.ldc 126, 2) := by decide +kernel
theorem dX2_nameOf_68 : decode cX2_nameOf 68 = .ok (.invokevirtual 97, 3) := by decide +kernel
theorem dX2_nameOf_71 : decode cX2_nameOf 71 = .ok (.ifCond .eq 7, 3) := by decide +kernel
theorem dX2_nameOf_74 : decode cX2_nameOf 74 = .ok (.sipush 1005, 3) := by decide +kernel
theorem dX2_nameOf_77 : decode cX2_nameOf 77 = .ok (.ireturn, 1) := by decide +kernel
theorem dX2_nameOf_78 : decode cX2_nameOf 78 = .ok (.aload_n 0, 1) := by decide +kernel
theorem dX2_nameOf_79 : decode cX2_nameOf 79 = .ok (.ldc 128, 2) := by decide +kernel
theorem dX2_nameOf_81 : decode cX2_nameOf 81 = .ok (.invokevirtual 97, 3) := by decide +kernel
theorem dX2_nameOf_84 : decode cX2_nameOf 84 = .ok (.ifCond .eq 7, 3) := by decide +kernel
theorem dX2_nameOf_87 : decode cX2_nameOf 87 = .ok (.sipush 1006, 3) := by decide +kernel
theorem dX2_nameOf_90 : decode cX2_nameOf 90 = .ok (.ireturn, 1) := by decide +kernel
theorem dX2_nameOf_91 : decode cX2_nameOf 91 = .ok (.aload_n 0, 1) := by decide +kernel
theorem dX2_nameOf_92 : decode cX2_nameOf 92 = .ok (.ldc 130, 2) := by decide +kernel
theorem dX2_nameOf_94 : decode cX2_nameOf 94 = .ok (.invokevirtual 97, 3) := by decide +kernel
theorem dX2_nameOf_97 : decode cX2_nameOf 97 = .ok (.ifCond .eq 9, 3) := by decide +kernel
theorem dX2_nameOf_100 : decode cX2_nameOf 100 = .ok (.sipush 1007, 3) := by decide +kernel
theorem dX2_nameOf_103 : decode cX2_nameOf 103 = .ok (.goto 4, 3) := by decide +kernel
theorem dX2_nameOf_106 : decode cX2_nameOf 106 = .ok (.iconst (-1), 1) := by decide +kernel
theorem dX2_nameOf_107 : decode cX2_nameOf 107 = .ok (.ireturn, 1) := by decide +kernel
