theorem dX11_both_67 : decode cX11_both 67 = .ok (.goto 4, 3) := by decide +kernel
theorem dX11_both_70 : decode cX11_both 70 = .ok (.iconst 0, 1) := by decide +kernel
theorem dX11_both_71 : decode cX11_both 71 = .ok (.iload_n 0, 1) := by decide +kernel
theorem dX11_both_72 : decode cX11_both 72 = .ok (.bipush 6, 2) := by decide +kernel
theorem dX11_both_74 : decode cX11_both 74 = .ok (.if_icmp .ne 7, 3) := by decide +kernel
theorem dX11_both_77 : decode cX11_both 77 = .ok (.iconst 1, 1) := by decide +kernel
theorem dX11_both_78 : decode cX11_both 78 = .ok (.goto 4, 3) := by decide +kernel
theorem dX11_both_81 : decode cX11_both 81 = .ok (.iconst 0, 1) := by decide +kernel
theorem dX11_both_82 : decode cX11_both 82 = .ok (.if_icmp .ne 7, 3) := by decide +kernel
theorem dX11_both_85 : decode cX11_both 85 = .ok (.iload_n 1, 1) := by decide +kernel
theorem dX11_both_86 : decode cX11_both 86 = .ok (.goto 4, 3) := by decide +kernel
theorem dX11_both_89 : decode cX11_both 89 = .ok (.iload_n 2, 1) := by decide +kernel
theorem dX11_both_90 : decode cX11_both 90 = .ok (.ireturn, 1) := by decide +kernel
theorem dX11_owesNow_0 : decode cX11_owesNow 0 = .ok (.aload_n 0, 1) := by decide +kernel
theorem dX11_owesNow_1 : decode cX11_owesNow 1 = .ok (.getfield 164, 3) := by decide +kernel
theorem dX11_owesNow_4 : decode cX11_owesNow 4 = .ok (.ifCond .ne 31, 3) := by decide +kernel
theorem dX11_owesNow_7 : decode cX11_owesNow 7 = .ok (.aload_n 0, 1) := by decide +kernel
theorem dX11_owesNow_8 : decode cX11_owesNow 8 = .ok (.getfield 56, 3) := by decide +kernel
theorem dX11_owesNow_11 : decode cX11_owesNow 11 = .ok (.iconst 0, 1) := by decide +kernel
theorem dX11_owesNow_12 : decode cX11_owesNow 12 = .ok (.iaload, 1) := by decide +kernel
theorem dX11_owesNow_13 : decode cX11_owesNow 13 = .ok (.aload_n 0, 1) := by decide +kernel
theorem dX11_owesNow_14 : decode cX11_owesNow 14 = .ok (.getfield 56, 3) := by decide +kernel
theorem dX11_owesNow_17 : decode cX11_owesNow 17 = .ok (.iconst 0, 1) := by decide +kernel
theorem dX11_owesNow_18 : decode cX11_owesNow 18 = .ok (.iaload, 1) := by decide +kernel
theorem dX11_owesNow_19 : decode cX11_owesNow 19 = .ok (.aload_n 0, 1) := by decide +kernel
theorem dX11_owesNow_20 : decode cX11_owesNow 20 = .ok (.getfield 56, 3) := by decide +kernel
theorem dX11_owesNow_23 : decode cX11_owesNow 23 = .ok (.iconst 1, 1) := by decide +kernel
theorem dX11_owesNow_24 : decode cX11_owesNow 24 = .ok (.iaload, 1) := by decide +kernel
theorem dX11_owesNow_25 : decode cX11_owesNow 25 = .ok (.imul, 1) := by decide +kernel
theorem dX11_owesNow_26 : decode cX11_owesNow 26 = .ok (.bipush 10, 2) := by decide +kernel
theorem dX11_owesNow_28 : decode cX11_owesNow 28 = .ok (.idiv, 1) := by decide +kernel
theorem dX11_owesNow_29 : decode cX11_owesNow 29 = .ok (.iadd, 1) := by decide +kernel
theorem dX11_owesNow_30 : decode cX11_owesNow 30 = .ok (.iconst 1, 1) := by decide +kernel
theorem dX11_owesNow_31 : decode cX11_owesNow 31 = .ok (.iadd, 1) := by decide +kernel
theorem dX11_owesNow_32 : decode cX11_owesNow 32 = .ok (.goto 7, 3) := by decide +kernel
theorem dX11_owesNow_35 : decode cX11_owesNow 35 = .ok (.aload_n 0, 1) := by decide +kernel
theorem dX11_owesNow_36 : decode cX11_owesNow 36 = .ok (.invokevirtual 268, 3) := by decide +kernel
theorem dX11_owesNow_39 : decode cX11_owesNow 39 = .ok (.istore_n 1, 1) := by decide +kernel
theorem dX11_owesNow_40 : decode cX11_owesNow 40 = .ok (.iload_n 1, 1) := by decide +kernel
theorem dX11_owesNow_41 : decode cX11_owesNow 41 = .ok (.ifCond .ge 7, 3) := by decide +kernel
theorem dX11_owesNow_44 : decode cX11_owesNow 44 = .ok (.iconst 0, 1) := by decide +kernel
theorem dX11_owesNow_45 : decode cX11_owesNow 45 = .ok (.goto 17, 3) := by decide +kernel
theorem dX11_owesNow_48 : decode cX11_owesNow 48 = .ok (.iload_n 1, 1) := by decide +kernel
theorem dX11_owesNow_49 : decode cX11_owesNow 49 = .ok (.sipush 200, 3) := by decide +kernel
theorem dX11_owesNow_52 : decode cX11_owesNow 52 = .ok (.if_icmp .le 9, 3) := by decide +kernel
theorem dX11_owesNow_55 : decode cX11_owesNow 55 = .ok (.sipush 200, 3) := by decide +kernel
theorem dX11_owesNow_58 : decode cX11_owesNow 58 = .ok (.goto 4, 3) := by decide +kernel
theorem dX11_owesNow_61 : decode cX11_owesNow 61 = .ok (.iload_n 1, 1) := by decide +kernel
theorem dX11_owesNow_62 : decode cX11_owesNow 62 = .ok (.ireturn, 1) := by decide +kernel
theorem dX11_tellsStep_0 : decode cX11_tellsStep 0 = .ok (.aload_n 0, 1) := by decide +kernel
theorem dX11_tellsStep_1 : decode cX11_tellsStep 1 = .ok (.invokevirtual 134, 3) := by decide +kernel
theorem dX11_tellsStep_4 : decode cX11_tellsStep 4 = .ok (.ifCond .ne 4, 3) := by decide +kernel
theorem dX11_tellsStep_7 : decode cX11_tellsStep 7 = .ok (.return_, 1) := by decide +kernel
theorem dX11_tellsStep_8 : decode cX11_tellsStep 8 = .ok (.aload_n 0, 1) := by decide +kernel
theorem dX11_tellsStep_9 : decode cX11_tellsStep 9 = .ok (.getfield 59, 3) := by decide +kernel
theorem dX11_tellsStep_12 : decode cX11_tellsStep 12 = .ok (.aload_n 0, 1) := by decide +kernel
theorem dX11_tellsStep_13 : decode cX11_tellsStep 13 = .ok (.getfield 271, 3) := by decide +kernel
theorem dX11_tellsStep_16 : decode cX11_tellsStep 16 = .ok (.iload_n 1, 1) := by decide +kernel
theorem dX11_tellsStep_17 : decode cX11_tellsStep 17 = .ok (.iastore, 1) := by decide +kernel
theorem dX11_tellsStep_18 : decode cX11_tellsStep 18 = .ok (.aload_n 0, 1) := by decide +kernel
theorem dX11_tellsStep_19 : decode cX11_tellsStep 19 = .ok (.getfield 59, 3) := by decide +kernel
theorem dX11_tellsStep_22 : decode cX11_tellsStep 22 = .ok (.aload_n 0, 1) := by decide +kernel
theorem dX11_tellsStep_23 : decode cX11_tellsStep 23 = .ok (.getfield 271, 3) := by decide +kernel
theorem dX11_tellsStep_26 : decode cX11_tellsStep 26 = .ok (.iconst 1, 1) := by decide +kernel
theorem dX11_tellsStep_27 : decode cX11_tellsStep 27 = .ok (.iadd, 1) := by decide +kernel
theorem dX11_tellsStep_28 : decode cX11_tellsStep 28 = .ok (.iload_n 2, 1) := by decide +kernel
theorem dX11_tellsStep_29 : decode cX11_tellsStep 29 = .ok (.iastore, 1) := by decide +kernel
theorem dX11_tellsStep_30 : decode cX11_tellsStep 30 = .ok (.aload_n 0, 1) := by decide +kernel
theorem dX11_tellsStep_31 : decode cX11_tellsStep 31 = .ok (.getfield 59, 3) := by decide +kernel
theorem dX11_tellsStep_34 : decode cX11_tellsStep 34 = .ok (.aload_n 0, 1) := by decide +kernel
theorem dX11_tellsStep_35 : decode cX11_tellsStep 35 = .ok (.getfield 271, 3) := by decide +kernel
theorem dX11_tellsStep_38 : decode cX11_tellsStep 38 = .ok (.iconst 2, 1) := by decide +kernel
theorem dX11_tellsStep_39 : decode cX11_tellsStep 39 = .ok (.iadd, 1) := by decide +kernel
theorem dX11_tellsStep_40 : decode cX11_tellsStep 40 = .ok (.iload_n 3, 1) := by decide +kernel
theorem dX11_tellsStep_41 : decode cX11_tellsStep 41 = .ok (.iastore, 1) := by decide +kernel
theorem dX11_tellsStep_42 : decode cX11_tellsStep 42 = .ok (.aload_n 0, 1) := by decide +kernel
theorem dX11_tellsStep_43 : decode cX11_tellsStep 43 = .ok (.getfield 59, 3) := by decide +kernel
theorem dX11_tellsStep_46 : decode cX11_tellsStep 46 = .ok (.aload_n 0, 1) := by decide +kernel
theorem dX11_tellsStep_47 : decode cX11_tellsStep 47 = .ok (.getfield 271, 3) := by decide +kernel
theorem dX11_tellsStep_50 : decode cX11_tellsStep 50 = .ok (.iconst 3, 1) := by decide +kernel
theorem dX11_tellsStep_51 : decode cX11_tellsStep 51 = .ok (.iadd, 1) := by decide +kernel
theorem dX11_tellsStep_52 : decode cX11_tellsStep 52 = .ok (.iload 4, 2) := by decide +kernel
theorem dX11_tellsStep_54 : decode cX11_tellsStep 54 = .ok (.iastore, 1) := by decide +kernel
theorem dX11_tellsStep_55 : decode cX11_tellsStep 55 = .ok (.aload_n 0, 1) := by decide +kernel
theorem dX11_tellsStep_56 : decode cX11_tellsStep 56 = .ok (.getfield 59, 3) := by decide +kernel
theorem dX11_tellsStep_59 : decode cX11_tellsStep 59 = .ok (.aload_n 0, 1) := by decide +kernel
theorem dX11_tellsStep_60 : decode cX11_tellsStep 60 = .ok (.getfield 271, 3) := by decide +kernel
theorem dX11_tellsStep_63 : decode cX11_tellsStep 63 = .ok (.iconst 4, 1) := by decide +kernel
theorem dX11_tellsStep_64 : decode cX11_tellsStep 64 = .ok (.iadd, 1) := by decide +kernel
theorem dX11_tellsStep_65 : decode cX11_tellsStep 65 = .ok (.iload 5, 2) := by decide +kernel
theorem dX11_tellsStep_67 : decode cX11_tellsStep 67 = .ok (.iastore, 1) := by decide +kernel
theorem dX11_tellsStep_68 : decode cX11_tellsStep 68 = .ok (.aload_n 0, 1) := by decide +kernel
theorem dX11_tellsStep_69 : decode cX11_tellsStep 69 = .ok (.dup, 1) := by decide +kernel
theorem dX11_tellsStep_70 : decode cX11_tellsStep 70 = .ok (.getfield 271, 3) := by decide +kernel
theorem dX11_tellsStep_73 : decode cX11_tellsStep 73 = .ok (.iconst 5, 1) := by decide +kernel
theorem dX11_tellsStep_74 : decode cX11_tellsStep 74 = .ok (.iadd, 1) := by decide +kernel
theorem dX11_tellsStep_75 : decode cX11_tellsStep 75 = .ok (.putfield 271, 3) := by decide +kernel
theorem dX11_tellsStep_78 : decode cX11_tellsStep 78 = .ok (.return_, 1) := by decide +kernel
theorem dX11_readStep_0 : decode cX11_readStep 0 = .ok (.aload_n 0, 1) := by decide +kernel
theorem dX11_readStep_1 : decode cX11_readStep 1 = .ok (.invokevirtual 201, 3) := by decide +kernel
theorem dX11_readStep_4 : decode cX11_readStep 4 = .ok (.istore_n 1, 1) := by decide +kernel
theorem dX11_readStep_5 : decode cX11_readStep 5 = .ok (.iload_n 1, 1) := by decide +kernel
theorem dX11_readStep_6 : decode cX11_readStep 6 = .ok (.ldc 252, 2) := by decide +kernel
theorem dX11_readStep_8 : decode cX11_readStep 8 = .ok (.invokestatic 180, 3) := by decide +kernel
theorem dX11_readStep_11 : decode cX11_readStep 11 = .ok (.if_icmp .ne 19, 3) := by decide +kernel
theorem dX11_readStep_14 : decode cX11_readStep 14 = .ok (.aload_n 0, 1) := by decide +kernel
theorem dX11_readStep_15 : decode cX11_readStep 15 = .ok (.invokevirtual 207, 3) := by decide +kernel
theorem dX11_readStep_18 : decode cX11_readStep 18 = .ok (.aload_n 0, 1) := by decide +kernel
theorem dX11_readStep_19 : decode cX11_readStep 19 = .ok (.iconst 5, 1) := by decide +kernel
theorem dX11_readStep_20 : decode cX11_readStep 20 = .ok (.iconst 0, 1) := by decide +kernel
theorem dX11_readStep_21 : decode cX11_readStep 21 = .ok (.iconst 0, 1) := by decide +kernel
theorem dX11_readStep_22 : decode cX11_readStep 22 = .ok (.iconst 0, 1) := by decide +kernel
theorem dX11_readStep_23 : decode cX11_readStep 23 = .ok (.iconst 0, 1) := by decide +kernel
theorem dX11_readStep_24 : decode cX11_readStep 24 = .ok (.invokevirtual 274, 3) := by decide +kernel
theorem dX11_readStep_27 : decode cX11_readStep 27 = .ok (.goto 319, 3) := by decide +kernel
theorem dX11_readStep_30 : decode cX11_readStep 30 = .ok (.iload_n 1, 1) := by decide +kernel
theorem dX11_readStep_31 : decode cX11_readStep 31 = .ok (.ldc_w 278, 3) := by decide +kernel
theorem dX11_readStep_34 : decode cX11_readStep 34 = .ok (.invokestatic 180, 3) := by decide +kernel
theorem dX11_readStep_37 : decode cX11_readStep 37 = .ok (.if_icmp .ne 59, 3) := by decide +kernel
theorem dX11_readStep_40 : decode cX11_readStep 40 = .ok (.aload_n 0, 1) := by decide +kernel
theorem dX11_readStep_41 : decode cX11_readStep 41 = .ok (.invokevirtual 207, 3) := by decide +kernel
theorem dX11_readStep_44 : decode cX11_readStep 44 = .ok (.aload_n 0, 1) := by decide +kernel
theorem dX11_readStep_45 : decode cX11_readStep 45 = .ok (.iconst 0, 1) := by decide +kernel
theorem dX11_readStep_46 : decode cX11_readStep 46 = .ok (.aload_n 0, 1) := by decide +kernel
theorem dX11_readStep_47 : decode cX11_readStep 47 = .ok (.getfield 157, 3) := by decide +kernel
theorem dX11_readStep_50 : decode cX11_readStep 50 = .ok (.iconst 1, 1) := by decide +kernel
theorem dX11_readStep_51 : decode cX11_readStep 51 = .ok (.isub, 1) := by decide +kernel
theorem dX11_readStep_52 : decode cX11_readStep 52 = .ok (.invokevirtual 186, 3) := by decide +kernel
theorem dX11_readStep_55 : decode cX11_readStep 55 = .ok (.istore_n 2, 1) := by decide +kernel
theorem dX11_readStep_56 : decode cX11_readStep 56 = .ok (.aload_n 0, 1) := by decide +kernel
theorem dX11_readStep_57 : decode cX11_readStep 57 = .ok (.iconst 0, 1) := by decide +kernel
theorem dX11_readStep_58 : decode cX11_readStep 58 = .ok (.aload_n 0, 1) := by decide +kernel
theorem dX11_readStep_59 : decode cX11_readStep 59 = .ok (.getfield 154, 3) := by decide +kernel
theorem dX11_readStep_62 : decode cX11_readStep 62 = .ok (.iconst 1, 1) := by decide +kernel
theorem dX11_readStep_63 : decode cX11_readStep 63 = .ok (.isub, 1) := by decide +kernel
theorem dX11_readStep_64 : decode cX11_readStep 64 = .ok (.invokevirtual 186, 3) := by decide +kernel
theorem dX11_readStep_67 : decode cX11_readStep 67 = .ok (.istore_n 3, 1) := by decide +kernel
theorem dX11_readStep_68 : decode cX11_readStep 68 = .ok (.aload_n 0, 1) := by decide +kernel
theorem dX11_readStep_69 : decode cX11_readStep 69 = .ok (.iconst 1, 1) := by decide +kernel
theorem dX11_readStep_70 : decode cX11_readStep 70 = .ok (.bipush 60, 2) := by decide +kernel
theorem dX11_readStep_72 : decode cX11_readStep 72 = .ok (.invokevirtual 186, 3) := by decide +kernel
theorem dX11_readStep_75 : decode cX11_readStep 75 = .ok (.istore 4, 2) := by decide +kernel
theorem dX11_readStep_77 : decode cX11_readStep 77 = .ok (.aload_n 0, 1) := by decide +kernel
theorem dX11_readStep_78 : decode cX11_readStep 78 = .ok (.iconst 0, 1) := by decide +kernel
theorem dX11_readStep_79 : decode cX11_readStep 79 = .ok (.iload_n 2, 1) := by decide +kernel
theorem dX11_readStep_80 : decode cX11_readStep 80 = .ok (.iload_n 3, 1) := by decide +kernel
theorem dX11_readStep_81 : decode cX11_readStep 81 = .ok (.iload 4, 2) := by decide +kernel
theorem dX11_readStep_83 : decode cX11_readStep 83 = .ok (.aload_n 0, 1) := by decide +kernel
theorem dX11_readStep_84 : decode cX11_readStep 84 = .ok (.iconst 1, 1) := by decide +kernel
theorem dX11_readStep_85 : decode cX11_readStep 85 = .ok (.bipush 40, 2) := by decide +kernel
theorem dX11_readStep_87 : decode cX11_readStep 87 = .ok (.invokevirtual 186, 3) := by decide +kernel
theorem dX11_readStep_90 : decode cX11_readStep 90 = .ok (.invokevirtual 274, 3) := by decide +kernel
theorem dX11_readStep_93 : decode cX11_readStep 93 = .ok (.goto 253, 3) := by decide +kernel
theorem dX11_readStep_96 : decode cX11_readStep 96 = .ok (.iload_n 1, 1) := by decide +kernel
theorem dX11_readStep_97 : decode cX11_readStep 97 = .ok (.ldc_w 280, 3) := by decide +kernel
theorem dX11_readStep_100 : decode cX11_readStep 100 = .ok (.invokestatic 180, 3) := by decide +kernel
theorem dX11_readStep_103 : decode cX11_readStep 103 = .ok (.if_icmp .ne 25, 3) := by decide +kernel
theorem dX11_readStep_106 : decode cX11_readStep 106 = .ok (.aload_n 0, 1) := by decide +kernel
theorem dX11_readStep_107 : decode cX11_readStep 107 = .ok (.invokevirtual 207, 3) := by decide +kernel
theorem dX11_readStep_110 : decode cX11_readStep 110 = .ok (.aload_n 0, 1) := by decide +kernel
theorem dX11_readStep_111 : decode cX11_readStep 111 = .ok (.iconst 1, 1) := by decide +kernel
theorem dX11_readStep_112 : decode cX11_readStep 112 = .ok (.aload_n 0, 1) := by decide +kernel
theorem dX11_readStep_113 : decode cX11_readStep 113 = .ok (.iconst 0, 1) := by decide +kernel
theorem dX11_readStep_114 : decode cX11_readStep 114 = .ok (.bipush 9, 2) := by decide +kernel
theorem dX11_readStep_116 : decode cX11_readStep 116 = .ok (.invokevirtual 186, 3) := by decide +kernel
theorem dX11_readStep_119 : decode cX11_readStep 119 = .ok (.iconst 0, 1) := by decide +kernel
theorem dX11_readStep_120 : decode cX11_readStep 120 = .ok (.iconst 0, 1) := by decide +kernel
theorem dX11_readStep_121 : decode cX11_readStep 121 = .ok (.iconst 0, 1) := by decide +kernel
theorem dX11_readStep_122 : decode cX11_readStep 122 = .ok (.invokevirtual 274, 3) := by decide +kernel
theorem dX11_readStep_125 : decode cX11_readStep 125 = .ok (.goto 221, 3) := by decide +kernel
theorem dX11_readStep_128 : decode cX11_readStep 128 = .ok (.iload_n 1, 1) := by decide +kernel
theorem dX11_readStep_129 : decode cX11_readStep 129 = .ok (.ldc_w 282, 3) := by decide +kernel
theorem dX11_readStep_132 : decode cX11_readStep 132 = .ok (.invokestatic 180, 3) := by decide +kernel
theorem dX11_readStep_135 : decode cX11_readStep 135 = .ok (.if_icmp .ne 37, 3) := by decide +kernel
theorem dX11_readStep_138 : decode cX11_readStep 138 = .ok (.aload_n 0, 1) := by decide +kernel
theorem dX11_readStep_139 : decode cX11_readStep 139 = .ok (.invokevirtual 207, 3) := by decide +kernel
theorem dX11_readStep_142 : decode cX11_readStep 142 = .ok (.aload_n 0, 1) := by decide +kernel
theorem dX11_readStep_143 : decode cX11_readStep 143 = .ok (.iconst 0, 1) := by decide +kernel
theorem dX11_readStep_144 : decode cX11_readStep 144 = .ok (.aload_n 0, 1) := by decide +kernel
theorem dX11_readStep_145 : decode cX11_readStep 145 = .ok (.getfield 157, 3) := by decide +kernel
theorem dX11_readStep_148 : decode cX11_readStep 148 = .ok (.iconst 1, 1) := by decide +kernel
theorem dX11_readStep_149 : decode cX11_readStep 149 = .ok (.isub, 1) := by decide +kernel
theorem dX11_readStep_150 : decode cX11_readStep 150 = .ok (.invokevirtual 186, 3) := by decide +kernel
theorem dX11_readStep_153 : decode cX11_readStep 153 = .ok (.istore_n 2, 1) := by decide +kernel
theorem dX11_readStep_154 : decode cX11_readStep 154 = .ok (.aload_n 0, 1) := by decide +kernel
theorem dX11_readStep_155 : decode cX11_readStep 155 = .ok (.iconst 2, 1) := by decide +kernel
theorem dX11_readStep_156 : decode cX11_readStep 156 = .ok (.iload_n 2, 1) := by decide +kernel
theorem dX11_readStep_157 : decode cX11_readStep 157 = .ok (.aload_n 0, 1) := by decide +kernel
theorem dX11_readStep_158 : decode cX11_readStep 158 = .ok (.iconst 1, 1) := by decide +kernel
theorem dX11_readStep_159 : decode cX11_readStep 159 = .ok (.bipush 60, 2) := by decide +kernel
theorem dX11_readStep_161 : decode cX11_readStep 161 = .ok (.invokevirtual 186, 3) := by decide +kernel
theorem dX11_readStep_164 : decode cX11_readStep 164 = .ok (.iconst 0, 1) := by decide +kernel
theorem dX11_readStep_165 : decode cX11_readStep 165 = .ok (.iconst 0, 1) := by decide +kernel
theorem dX11_readStep_166 : decode cX11_readStep 166 = .ok (.invokevirtual 274, 3) := by decide +kernel
theorem dX11_readStep_169 : decode cX11_readStep 169 = .ok (.goto 177, 3) := by decide +kernel
theorem dX11_readStep_172 : decode cX11_readStep 172 = .ok (.iload_n 1, 1) := by decide +kernel
theorem dX11_readStep_173 : decode cX11_readStep 173 = .ok (.ldc_w 284, 3) := by decide +kernel
theorem dX11_readStep_176 : decode cX11_readStep 176 = .ok (.invokestatic 180, 3) := by decide +kernel
theorem dX11_readStep_179 : decode cX11_readStep 179 = .ok (.if_icmp .eq 13, 3) := by decide +kernel
theorem dX11_readStep_182 : decode cX11_readStep 182 = .ok (.iload_n 1, 1) := by decide +kernel
theorem dX11_readStep_183 : decode cX11_readStep 183 = .ok (.ldc_w 286, 3) := by decide +kernel
theorem dX11_readStep_186 : decode cX11_readStep 186 = .ok (.invokestatic 180, 3) := by decide +kernel
theorem dX11_readStep_189 : decode cX11_readStep 189 = .ok (.if_icmp .ne 43, 3) := by decide +kernel
theorem dX11_readStep_192 : decode cX11_readStep 192 = .ok (.aload_n 0, 1) := by decide +kernel
theorem dX11_readStep_193 : decode cX11_readStep 193 = .ok (.invokevirtual 207, 3) := by decide +kernel
theorem dX11_readStep_196 : decode cX11_readStep 196 = .ok (.aload_n 0, 1) := by decide +kernel
theorem dX11_readStep_197 : decode cX11_readStep 197 = .ok (.iload_n 1, 1) := by decide +kernel
theorem dX11_readStep_198 : decode cX11_readStep 198 = .ok (.ldc_w 284, 3) := by decide +kernel
theorem dX11_readStep_201 : decode cX11_readStep 201 = .ok (.invokestatic 180, 3) := by decide +kernel
theorem dX11_readStep_204 : decode cX11_readStep 204 = .ok (.if_icmp .ne 7, 3) := by decide +kernel
theorem dX11_readStep_207 : decode cX11_readStep 207 = .ok (.iconst 3, 1) := by decide +kernel
theorem dX11_readStep_208 : decode cX11_readStep 208 = .ok (.goto 4, 3) := by decide +kernel
theorem dX11_readStep_211 : decode cX11_readStep 211 = .ok (.iconst 4, 1) := by decide +kernel
theorem dX11_readStep_212 : decode cX11_readStep 212 = .ok (.aload_n 0, 1) := by decide +kernel
theorem dX11_readStep_213 : decode cX11_readStep 213 = .ok (.iconst 0, 1) := by decide +kernel
theorem dX11_readStep_214 : decode cX11_readStep 214 = .ok (.aload_n 0, 1) := by decide +kernel
theorem dX11_readStep_215 : decode cX11_readStep 215 = .ok (.getfield 154, 3) := by decide +kernel
theorem dX11_readStep_218 : decode cX11_readStep 218 = .ok (.iconst 1, 1) := by decide +kernel
theorem dX11_readStep_219 : decode cX11_readStep 219 = .ok (.isub, 1) := by decide +kernel
theorem dX11_readStep_220 : decode cX11_readStep 220 = .ok (.invokevirtual 186, 3) := by decide +kernel
theorem dX11_readStep_223 : decode cX11_readStep 223 = .ok (.iconst 0, 1) := by decide +kernel
theorem dX11_readStep_224 : decode cX11_readStep 224 = .ok (.iconst 0, 1) := by decide +kernel
theorem dX11_readStep_225 : decode cX11_readStep 225 = .ok (.iconst 0, 1) := by decide +kernel
theorem dX11_readStep_226 : decode cX11_readStep 226 = .ok (.invokevirtual 274, 3) := by decide +kernel
theorem dX11_readStep_229 : decode cX11_readStep 229 = .ok (.goto 117, 3) := by decide +kernel
theorem dX11_readStep_232 : decode cX11_readStep 232 = .ok (.iload_n 1, 1) := by decide +kernel
theorem dX11_readStep_233 : decode cX11_readStep 233 = .ok (.ldc_w 288, 3) := by decide +kernel
theorem dX11_readStep_236 : decode cX11_readStep 236 = .ok (.invokestatic 180, 3) := by decide +kernel
theorem dX11_readStep_239 : decode cX11_readStep 239 = .ok (.if_icmp .ne 98, 3) := by decide +kernel
theorem dX11_readStep_242 : decode cX11_readStep 242 = .ok (.aload_n 0, 1) := by decide +kernel
theorem dX11_readStep_243 : decode cX11_readStep 243 = .ok (.iconst 5, 1) := by decide +kernel
theorem dX11_readStep_244 : decode cX11_readStep 244 = .ok (.invokevirtual 232, 3) := by decide +kernel
theorem dX11_readStep_247 : decode cX11_readStep 247 = .ok (.aload_n 0, 1) := by decide +kernel
theorem dX11_readStep_248 : decode cX11_readStep 248 = .ok (.iconst 0, 1) := by decide +kernel
theorem dX11_readStep_249 : decode cX11_readStep 249 = .ok (.bipush 30, 2) := by decide +kernel
theorem dX11_readStep_251 : decode cX11_readStep 251 = .ok (.invokevirtual 186, 3) := by decide +kernel
theorem dX11_readStep_254 : decode cX11_readStep 254 = .ok (.istore_n 2, 1) := by decide +kernel
theorem dX11_readStep_255 : decode cX11_readStep 255 = .ok (.aload_n 0, 1) := by decide +kernel
theorem dX11_readStep_256 : decode cX11_readStep 256 = .ok (.bipush 91, 2) := by decide +kernel
theorem dX11_readStep_258 : decode cX11_readStep 258 = .ok (.invokevirtual 213, 3) := by decide +kernel
theorem dX11_readStep_261 : decode cX11_readStep 261 = .ok (.aload_n 0, 1) := by decide +kernel
theorem dX11_readStep_262 : decode cX11_readStep 262 = .ok (.getfield 271, 3) := by decide +kernel
theorem dX11_readStep_265 : decode cX11_readStep 265 = .ok (.istore_n 3, 1) := by decide +kernel
theorem dX11_readStep_266 : decode cX11_readStep 266 = .ok (.aload_n 0, 1) := by decide +kernel
theorem dX11_readStep_267 : decode cX11_readStep 267 = .ok (.bipush 6, 2) := by decide +kernel
theorem dX11_readStep_269 : decode cX11_readStep 269 = .ok (.iload_n 2, 1) := by decide +kernel
theorem dX11_readStep_270 : decode cX11_readStep 270 = .ok (.iconst 0, 1) := by decide +kernel
theorem dX11_readStep_271 : decode cX11_readStep 271 = .ok (.iconst 0, 1) := by decide +kernel
theorem dX11_readStep_272 : decode cX11_readStep 272 = .ok (.iconst 0, 1) := by decide +kernel
theorem dX11_readStep_273 : decode cX11_readStep 273 = .ok (.invokevirtual 274, 3) := by decide +kernel
theorem dX11_readStep_276 : decode cX11_readStep 276 = .ok (.aload_n 0, 1) := by decide +kernel
theorem dX11_readStep_277 : decode cX11_readStep 277 = .ok (.invokevirtual 134, 3) := by decide +kernel
theorem dX11_readStep_280 : decode cX11_readStep 280 = .ok (.ifCond .eq 19, 3) := by decide +kernel
theorem dX11_readStep_283 : decode cX11_readStep 283 = .ok (.aload_n 0, 1) := by decide +kernel
theorem dX11_readStep_284 : decode cX11_readStep 284 = .ok (.invokevirtual 117, 3) := by decide +kernel
theorem dX11_readStep_287 : decode cX11_readStep 287 = .ok (.bipush 93, 2) := by decide +kernel
theorem dX11_readStep_289 : decode cX11_readStep 289 = .ok (.if_icmp .eq 10, 3) := by decide +kernel
theorem dX11_readStep_292 : decode cX11_readStep 292 = .ok (.aload_n 0, 1) := by decide +kernel
theorem dX11_readStep_293 : decode cX11_readStep 293 = .ok (.invokevirtual 290, 3) := by decide +kernel
theorem dX11_readStep_296 : decode cX11_readStep 296 = .ok (.goto (-20), 3) := by decide +kernel
theorem dX11_readStep_299 : decode cX11_readStep 299 = .ok (.aload_n 0, 1) := by decide +kernel
theorem dX11_readStep_300 : decode cX11_readStep 300 = .ok (.bipush 93, 2) := by decide +kernel
theorem dX11_readStep_302 : decode cX11_readStep 302 = .ok (.invokevirtual 213, 3) := by decide +kernel
theorem dX11_readStep_305 : decode cX11_readStep 305 = .ok (.aload_n 0, 1) := by decide +kernel
theorem dX11_readStep_306 : decode cX11_readStep 306 = .ok (.dup, 1) := by decide +kernel
theorem dX11_readStep_307 : decode cX11_readStep 307 = .ok (.getfield 145, 3) := by decide +kernel
theorem dX11_readStep_310 : decode cX11_readStep 310 = .ok (.iconst 1, 1) := by decide +kernel
theorem dX11_readStep_311 : decode cX11_readStep 311 = .ok (.isub, 1) := by decide +kernel
theorem dX11_readStep_312 : decode cX11_readStep 312 = .ok (.putfield 145, 3) := by decide +kernel
theorem dX11_readStep_315 : decode cX11_readStep 315 = .ok (.aload_n 0, 1) := by decide +kernel
theorem dX11_readStep_316 : decode cX11_readStep 316 = .ok (.invokevirtual 134, 3) := by decide +kernel
theorem dX11_readStep_319 : decode cX11_readStep 319 = .ok (.ifCond .eq 15, 3) := by decide +kernel
theorem dX11_readStep_322 : decode cX11_readStep 322 = .ok (.aload_n 0, 1) := by decide +kernel
theorem dX11_readStep_323 : decode cX11_readStep 323 = .ok (.getfield 59, 3) := by decide +kernel
theorem dX11_readStep_326 : decode cX11_readStep 326 = .ok (.iload_n 3, 1) := by decide +kernel
theorem dX11_readStep_327 : decode cX11_readStep 327 = .ok (.iconst 2, 1) := by decide +kernel
theorem dX11_readStep_328 : decode cX11_readStep 328 = .ok (.iadd, 1) := by decide +kernel
theorem dX11_readStep_329 : decode cX11_readStep 329 = .ok (.aload_n 0, 1) := by decide +kernel
theorem dX11_readStep_330 : decode cX11_readStep 330 = .ok (.getfield 271, 3) := by decide +kernel
theorem dX11_readStep_333 : decode cX11_readStep 333 = .ok (.iastore, 1) := by decide +kernel
theorem dX11_readStep_334 : decode cX11_readStep 334 = .ok (.goto 12, 3) := by decide +kernel
theorem dX11_readStep_337 : decode cX11_readStep 337 = .ok (.aload_n 0, 1) := by decide +kernel
theorem dX11_readStep_338 : decode cX11_readStep 338 = .ok (.iconst 1, 1) := by decide +kernel
theorem dX11_readStep_339 : decode cX11_readStep 339 = .ok (.aload_n 0, 1) := by decide +kernel
theorem dX11_readStep_340 : decode cX11_readStep 340 = .ok (.getfield 111, 3) := by decide +kernel
theorem dX11_readStep_343 : decode cX11_readStep 343 = .ok (.invokevirtual 141, 3) := by decide +kernel
theorem dX11_readStep_346 : decode cX11_readStep 346 = .ok (.aload_n 0, 1) := by decide +kernel
theorem dX11_readStep_347 : decode cX11_readStep 347 = .ok (.bipush 59, 2) := by decide +kernel
theorem dX11_readStep_349 : decode cX11_readStep 349 = .ok (.invokevirtual 213, 3) := by decide +kernel
theorem dX11_readStep_352 : decode cX11_readStep 352 = .ok (.return_, 1) := by decide +kernel
theorem dX11_work_0 : decode cX11_work 0 = .ok (.aload_n 0, 1) := by decide +kernel
theorem dX11_work_1 : decode cX11_work 1 = .ok (.iconst 0, 1) := by decide +kernel
theorem dX11_work_2 : decode cX11_work 2 = .ok (.putfield 3, 3) := by decide +kernel
theorem dX11_work_5 : decode cX11_work 5 = .ok (.aload_n 0, 1) := by decide +kernel
theorem dX11_work_6 : decode cX11_work 6 = .ok (.iload_n 1, 1) := by decide +kernel
theorem dX11_work_7 : decode cX11_work 7 = .ok (.ifCond .lt 22, 3) := by decide +kernel
theorem dX11_work_10 : decode cX11_work 10 = .ok (.iload_n 1, 1) := by decide +kernel
theorem dX11_work_11 : decode cX11_work 11 = .ok (.aload_n 0, 1) := by decide +kernel
theorem dX11_work_12 : decode cX11_work 12 = .ok (.getfield 102, 3) := by decide +kernel
theorem dX11_work_15 : decode cX11_work 15 = .ok (.if_icmp .gt 14, 3) := by decide +kernel
theorem dX11_work_18 : decode cX11_work 18 = .ok (.iload_n 1, 1) := by decide +kernel
theorem dX11_work_19 : decode cX11_work 19 = .ok (.sipush 150, 3) := by decide +kernel
theorem dX11_work_22 : decode cX11_work 22 = .ok (.if_icmp .gt 7, 3) := by decide +kernel
theorem dX11_work_25 : decode cX11_work 25 = .ok (.iconst 1, 1) := by decide +kernel
theorem dX11_work_26 : decode cX11_work 26 = .ok (.goto 4, 3) := by decide +kernel
theorem dX11_work_29 : decode cX11_work 29 = .ok (.iconst 0, 1) := by decide +kernel
theorem dX11_work_30 : decode cX11_work 30 = .ok (.iconst 1, 1) := by decide +kernel
theorem dX11_work_31 : decode cX11_work 31 = .ok (.iconst 1, 1) := by decide +kernel
theorem dX11_work_32 : decode cX11_work 32 = .ok (.invokevirtual 190, 3) := by decide +kernel
theorem dX11_work_35 : decode cX11_work 35 = .ok (.ifCond .ne 5, 3) := by decide +kernel
theorem dX11_work_38 : decode cX11_work 38 = .ok (.iconst 0, 1) := by decide +kernel
theorem dX11_work_39 : decode cX11_work 39 = .ok (.ireturn, 1) := by decide +kernel
theorem dX11_work_40 : decode cX11_work 40 = .ok (.aload_n 0, 1) := by decide +kernel
theorem dX11_work_41 : decode cX11_work 41 = .ok (.iload_n 1, 1) := by decide +kernel
theorem dX11_work_42 : decode cX11_work 42 = .ok (.invokevirtual 194, 3) := by decide +kernel
theorem dX11_work_45 : decode cX11_work 45 = .ok (.aload_n 0, 1) := by decide +kernel
theorem dX11_work_46 : decode cX11_work 46 = .ok (.getfield 170, 3) := by decide +kernel
theorem dX11_work_49 : decode cX11_work 49 = .ok (.bipush 16, 2) := by decide +kernel
theorem dX11_work_51 : decode cX11_work 51 = .ok (.if_icmp .ne 12, 3) := by decide +kernel
theorem dX11_work_54 : decode cX11_work 54 = .ok (.aload_n 0, 1) := by decide +kernel
theorem dX11_work_55 : decode cX11_work 55 = .ok (.iconst 0, 1) := by decide +kernel
theorem dX11_work_56 : decode cX11_work 56 = .ok (.invokevirtual 216, 3) := by decide +kernel
theorem dX11_work_59 : decode cX11_work 59 = .ok (.pop, 1) := by decide +kernel
theorem dX11_work_60 : decode cX11_work 60 = .ok (.bipush (-20), 2) := by decide +kernel
theorem dX11_work_62 : decode cX11_work 62 = .ok (.ireturn, 1) := by decide +kernel
theorem dX11_work_63 : decode cX11_work 63 = .ok (.aload_n 0, 1) := by decide +kernel
theorem dX11_work_64 : decode cX11_work 64 = .ok (.iconst 0, 1) := by decide +kernel
theorem dX11_work_65 : decode cX11_work 65 = .ok (.putfield 271, 3) := by decide +kernel
theorem dX11_work_68 : decode cX11_work 68 = .ok (.aload_n 0, 1) := by decide +kernel
theorem dX11_work_69 : decode cX11_work 69 = .ok (.invokevirtual 134, 3) := by decide +kernel
theorem dX11_work_72 : decode cX11_work 72 = .ok (.ifCond .eq 17, 3) := by decide +kernel
theorem dX11_work_75 : decode cX11_work 75 = .ok (.aload_n 0, 1) := by decide +kernel
theorem dX11_work_76 : decode cX11_work 76 = .ok (.invokevirtual 198, 3) := by decide +kernel
theorem dX11_work_79 : decode cX11_work 79 = .ok (.ifCond .eq 10, 3) := by decide +kernel
theorem dX11_work_82 : decode cX11_work 82 = .ok (.aload_n 0, 1) := by decide +kernel
theorem dX11_work_83 : decode cX11_work 83 = .ok (.invokevirtual 290, 3) := by decide +kernel
theorem dX11_work_86 : decode cX11_work 86 = .ok (.goto (-18), 3) := by decide +kernel
theorem dX11_work_89 : decode cX11_work 89 = .ok (.aload_n 0, 1) := by decide +kernel
theorem dX11_work_90 : decode cX11_work 90 = .ok (.iconst 0, 1) := by decide +kernel
theorem dX11_work_91 : decode cX11_work 91 = .ok (.invokevirtual 216, 3) := by decide +kernel
theorem dX11_work_94 : decode cX11_work 94 = .ok (.istore_n 2, 1) := by decide +kernel
theorem dX11_work_95 : decode cX11_work 95 = .ok (.aload_n 0, 1) := by decide +kernel
theorem dX11_work_96 : decode cX11_work 96 = .ok (.getfield 105, 3) := by decide +kernel
theorem dX11_work_99 : decode cX11_work 99 = .ok (.iconst (-1), 1) := by decide +kernel
theorem dX11_work_100 : decode cX11_work 100 = .ok (.if_icmp .eq 5, 3) := by decide +kernel
theorem dX11_work_103 : decode cX11_work 103 = .ok (.iload_n 2, 1) := by decide +kernel
theorem dX11_work_104 : decode cX11_work 104 = .ok (.ireturn, 1) := by decide +kernel
theorem dX11_work_105 : decode cX11_work 105 = .ok (.aload_n 0, 1) := by decide +kernel
theorem dX11_work_106 : decode cX11_work 106 = .ok (.aload_n 0, 1) := by decide +kernel
theorem dX11_work_107 : decode cX11_work 107 = .ok (.getfield 59, 3) := by decide +kernel
theorem dX11_work_110 : decode cX11_work 110 = .ok (.aload_n 0, 1) := by decide +kernel
theorem dX11_work_111 : decode cX11_work 111 = .ok (.getfield 62, 3) := by decide +kernel
theorem dX11_work_114 : decode cX11_work 114 = .ok (.aload_n 0, 1) := by decide +kernel
theorem dX11_work_115 : decode cX11_work 115 = .ok (.getfield 271, 3) := by decide +kernel
theorem dX11_work_118 : decode cX11_work 118 = .ok (.invokevirtual 160, 3) := by decide +kernel
theorem dX11_work_121 : decode cX11_work 121 = .ok (.iconst 0, 1) := by decide +kernel
theorem dX11_work_122 : decode cX11_work 122 = .ok (.istore_n 3, 1) := by decide +kernel
theorem dX11_work_123 : decode cX11_work 123 = .ok (.iload_n 3, 1) := by decide +kernel
theorem dX11_work_124 : decode cX11_work 124 = .ok (.bipush 91, 2) := by decide +kernel
theorem dX11_work_126 : decode cX11_work 126 = .ok (.if_icmp .ge 29, 3) := by decide +kernel
theorem dX11_work_129 : decode cX11_work 129 = .ok (.aload_n 0, 1) := by decide +kernel
theorem dX11_work_130 : decode cX11_work 130 = .ok (.getfield 71, 3) := by decide +kernel
theorem dX11_work_133 : decode cX11_work 133 = .ok (.bipush 91, 2) := by decide +kernel
theorem dX11_work_135 : decode cX11_work 135 = .ok (.aload_n 0, 1) := by decide +kernel
theorem dX11_work_136 : decode cX11_work 136 = .ok (.getfield 170, 3) := by decide +kernel
theorem dX11_work_139 : decode cX11_work 139 = .ok (.imul, 1) := by decide +kernel
theorem dX11_work_140 : decode cX11_work 140 = .ok (.iload_n 3, 1) := by decide +kernel
theorem dX11_work_141 : decode cX11_work 141 = .ok (.iadd, 1) := by decide +kernel
theorem dX11_work_142 : decode cX11_work 142 = .ok (.aload_n 0, 1) := by decide +kernel
theorem dX11_work_143 : decode cX11_work 143 = .ok (.getfield 65, 3) := by decide +kernel
theorem dX11_work_146 : decode cX11_work 146 = .ok (.iload_n 3, 1) := by decide +kernel
theorem dX11_work_147 : decode cX11_work 147 = .ok (.iaload, 1) := by decide +kernel
theorem dX11_work_148 : decode cX11_work 148 = .ok (.iastore, 1) := by decide +kernel
theorem dX11_work_149 : decode cX11_work 149 = .ok (.iinc 3 1, 3) := by decide +kernel
theorem dX11_work_152 : decode cX11_work 152 = .ok (.goto (-29), 3) := by decide +kernel
theorem dX11_work_155 : decode cX11_work 155 = .ok (.aload_n 0, 1) := by decide +kernel
theorem dX11_work_156 : decode cX11_work 156 = .ok (.dup, 1) := by decide +kernel
theorem dX11_work_157 : decode cX11_work 157 = .ok (.getfield 170, 3) := by decide +kernel
theorem dX11_work_160 : decode cX11_work 160 = .ok (.iconst 1, 1) := by decide +kernel
theorem dX11_work_161 : decode cX11_work 161 = .ok (.iadd, 1) := by decide +kernel
theorem dX11_work_162 : decode cX11_work 162 = .ok (.putfield 170, 3) := by decide +kernel
theorem dX11_work_165 : decode cX11_work 165 = .ok (.aload_n 0, 1) := by decide +kernel
theorem dX11_work_166 : decode cX11_work 166 = .ok (.invokevirtual 293, 3) := by decide +kernel
theorem dX11_work_169 : decode cX11_work 169 = .ok (.aload_n 0, 1) := by decide +kernel
theorem dX11_work_170 : decode cX11_work 170 = .ok (.iconst 0, 1) := by decide +kernel
theorem dX11_work_171 : decode cX11_work 171 = .ok (.putfield 296, 3) := by decide +kernel
theorem dX11_work_174 : decode cX11_work 174 = .ok (.aload_n 0, 1) := by decide +kernel
theorem dX11_work_175 : decode cX11_work 175 = .ok (.iconst 0, 1) := by decide +kernel
theorem dX11_work_176 : decode cX11_work 176 = .ok (.putfield 299, 3) := by decide +kernel
theorem dX11_work_179 : decode cX11_work 179 = .ok (.aload_n 0, 1) := by decide +kernel
theorem dX11_work_180 : decode cX11_work 180 = .ok (.iconst 0, 1) := by decide +kernel
theorem dX11_work_181 : decode cX11_work 181 = .ok (.putfield 302, 3) := by decide +kernel
theorem dX11_work_184 : decode cX11_work 184 = .ok (.aload_n 0, 1) := by decide +kernel
theorem dX11_work_185 : decode cX11_work 185 = .ok (.iconst 0, 1) := by decide +kernel
theorem dX11_work_186 : decode cX11_work 186 = .ok (.aload_n 0, 1) := by decide +kernel
theorem dX11_work_187 : decode cX11_work 187 = .ok (.getfield 271, 3) := by decide +kernel
theorem dX11_work_190 : decode cX11_work 190 = .ok (.invokevirtual 305, 3) := by decide +kernel
theorem dX11_work_193 : decode cX11_work 193 = .ok (.aload_n 0, 1) := by decide +kernel
theorem dX11_work_194 : decode cX11_work 194 = .ok (.aload_n 0, 1) := by decide +kernel
theorem dX11_work_195 : decode cX11_work 195 = .ok (.getfield 68, 3) := by decide +kernel
theorem dX11_work_198 : decode cX11_work 198 = .ok (.aload_n 0, 1) := by decide +kernel
theorem dX11_work_199 : decode cX11_work 199 = .ok (.getfield 65, 3) := by decide +kernel
theorem dX11_work_202 : decode cX11_work 202 = .ok (.bipush 91, 2) := by decide +kernel
theorem dX11_work_204 : decode cX11_work 204 = .ok (.invokevirtual 160, 3) := by decide +kernel
theorem dX11_work_207 : decode cX11_work 207 = .ok (.aload_n 0, 1) := by decide +kernel
theorem dX11_work_208 : decode cX11_work 208 = .ok (.aload_n 0, 1) := by decide +kernel
theorem dX11_work_209 : decode cX11_work 209 = .ok (.getfield 302, 3) := by decide +kernel
theorem dX11_work_212 : decode cX11_work 212 = .ok (.putfield 176, 3) := by decide +kernel
theorem dX11_work_215 : decode cX11_work 215 = .ok (.aload_n 0, 1) := by decide +kernel
theorem dX11_work_216 : decode cX11_work 216 = .ok (.getfield 299, 3) := by decide +kernel
theorem dX11_work_219 : decode cX11_work 219 = .ok (.ireturn, 1) := by decide +kernel
theorem dX11_goesSteps_0 : decode cX11_goesSteps 0 = .ok (.iload_n 1, 1) := by decide +kernel
theorem dX11_goesSteps_1 : decode cX11_goesSteps 1 = .ok (.istore_n 3, 1) := by decide +kernel
theorem dX11_goesSteps_2 : decode cX11_goesSteps 2 = .ok (.iload_n 3, 1) := by decide +kernel
theorem dX11_goesSteps_3 : decode cX11_goesSteps 3 = .ok (.iload_n 2, 1) := by decide +kernel
theorem dX11_goesSteps_4 : decode cX11_goesSteps 4 = .ok (.if_icmp .ge 128, 3) := by decide +kernel
theorem dX11_goesSteps_7 : decode cX11_goesSteps 7 = .ok (.aload_n 0, 1) := by decide +kernel
theorem dX11_goesSteps_8 : decode cX11_goesSteps 8 = .ok (.getfield 296, 3) := by decide +kernel
theorem dX11_goesSteps_11 : decode cX11_goesSteps 11 = .ok (.sipush 200, 3) := by decide +kernel
theorem dX11_goesSteps_14 : decode cX11_goesSteps 14 = .ok (.if_icmp .ge 118, 3) := by decide +kernel
theorem dX11_goesSteps_17 : decode cX11_goesSteps 17 = .ok (.aload_n 0, 1) := by decide +kernel
theorem dX11_goesSteps_18 : decode cX11_goesSteps 18 = .ok (.dup, 1) := by decide +kernel
theorem dX11_goesSteps_19 : decode cX11_goesSteps 19 = .ok (.getfield 296, 3) := by decide +kernel
theorem dX11_goesSteps_22 : decode cX11_goesSteps 22 = .ok (.iconst 1, 1) := by decide +kernel
theorem dX11_goesSteps_23 : decode cX11_goesSteps 23 = .ok (.iadd, 1) := by decide +kernel
theorem dX11_goesSteps_24 : decode cX11_goesSteps 24 = .ok (.putfield 296, 3) := by decide +kernel
theorem dX11_goesSteps_27 : decode cX11_goesSteps 27 = .ok (.aload_n 0, 1) := by decide +kernel
theorem dX11_goesSteps_28 : decode cX11_goesSteps 28 = .ok (.getfield 62, 3) := by decide +kernel
theorem dX11_goesSteps_31 : decode cX11_goesSteps 31 = .ok (.iload_n 3, 1) := by decide +kernel
theorem dX11_goesSteps_32 : decode cX11_goesSteps 32 = .ok (.iaload, 1) := by decide +kernel
theorem dX11_goesSteps_33 : decode cX11_goesSteps 33 = .ok (.bipush 6, 2) := by decide +kernel
theorem dX11_goesSteps_35 : decode cX11_goesSteps 35 = .ok (.if_icmp .ne 60, 3) := by decide +kernel
theorem dX11_goesSteps_38 : decode cX11_goesSteps 38 = .ok (.aload_n 0, 1) := by decide +kernel
theorem dX11_goesSteps_39 : decode cX11_goesSteps 39 = .ok (.getfield 62, 3) := by decide +kernel
theorem dX11_goesSteps_42 : decode cX11_goesSteps 42 = .ok (.iload_n 3, 1) := by decide +kernel
theorem dX11_goesSteps_43 : decode cX11_goesSteps 43 = .ok (.iconst 2, 1) := by decide +kernel
theorem dX11_goesSteps_44 : decode cX11_goesSteps 44 = .ok (.iadd, 1) := by decide +kernel
theorem dX11_goesSteps_45 : decode cX11_goesSteps 45 = .ok (.iaload, 1) := by decide +kernel
theorem dX11_goesSteps_46 : decode cX11_goesSteps 46 = .ok (.istore 4, 2) := by decide +kernel
theorem dX11_goesSteps_48 : decode cX11_goesSteps 48 = .ok (.iconst 0, 1) := by decide +kernel
theorem dX11_goesSteps_49 : decode cX11_goesSteps 49 = .ok (.istore 5, 2) := by decide +kernel
theorem dX11_goesSteps_51 : decode cX11_goesSteps 51 = .ok (.iload 5, 2) := by decide +kernel
theorem dX11_goesSteps_53 : decode cX11_goesSteps 53 = .ok (.aload_n 0, 1) := by decide +kernel
theorem dX11_goesSteps_54 : decode cX11_goesSteps 54 = .ok (.getfield 62, 3) := by decide +kernel
theorem dX11_goesSteps_57 : decode cX11_goesSteps 57 = .ok (.iload_n 3, 1) := by decide +kernel
theorem dX11_goesSteps_58 : decode cX11_goesSteps 58 = .ok (.iconst 1, 1) := by decide +kernel
theorem dX11_goesSteps_59 : decode cX11_goesSteps 59 = .ok (.iadd, 1) := by decide +kernel
theorem dX11_goesSteps_60 : decode cX11_goesSteps 60 = .ok (.iaload, 1) := by decide +kernel
theorem dX11_goesSteps_61 : decode cX11_goesSteps 61 = .ok (.if_icmp .ge 28, 3) := by decide +kernel
theorem dX11_goesSteps_64 : decode cX11_goesSteps 64 = .ok (.aload_n 0, 1) := by decide +kernel
theorem dX11_goesSteps_65 : decode cX11_goesSteps 65 = .ok (.getfield 296, 3) := by decide +kernel
theorem dX11_goesSteps_68 : decode cX11_goesSteps 68 = .ok (.sipush 200, 3) := by decide +kernel
theorem dX11_goesSteps_71 : decode cX11_goesSteps 71 = .ok (.if_icmp .ge 18, 3) := by decide +kernel
theorem dX11_goesSteps_74 : decode cX11_goesSteps 74 = .ok (.aload_n 0, 1) := by decide +kernel
theorem dX11_goesSteps_75 : decode cX11_goesSteps 75 = .ok (.iload_n 3, 1) := by decide +kernel
theorem dX11_goesSteps_76 : decode cX11_goesSteps 76 = .ok (.iconst 5, 1) := by decide +kernel
theorem dX11_goesSteps_77 : decode cX11_goesSteps 77 = .ok (.iadd, 1) := by decide +kernel
theorem dX11_goesSteps_78 : decode cX11_goesSteps 78 = .ok (.iload 4, 2) := by decide +kernel
theorem dX11_goesSteps_80 : decode cX11_goesSteps 80 = .ok (.invokevirtual 305, 3) := by decide +kernel
theorem dX11_goesSteps_83 : decode cX11_goesSteps 83 = .ok (.iinc 5 1, 3) := by decide +kernel
theorem dX11_goesSteps_86 : decode cX11_goesSteps 86 = .ok (.goto (-35), 3) := by decide +kernel
theorem dX11_goesSteps_89 : decode cX11_goesSteps 89 = .ok (.iload 4, 2) := by decide +kernel
theorem dX11_goesSteps_91 : decode cX11_goesSteps 91 = .ok (.istore_n 3, 1) := by decide +kernel
theorem dX11_goesSteps_92 : decode cX11_goesSteps 92 = .ok (.goto (-90), 3) := by decide +kernel
theorem dX11_goesSteps_95 : decode cX11_goesSteps 95 = .ok (.aload_n 0, 1) := by decide +kernel
theorem dX11_goesSteps_96 : decode cX11_goesSteps 96 = .ok (.iload_n 3, 1) := by decide +kernel
theorem dX11_goesSteps_97 : decode cX11_goesSteps 97 = .ok (.invokevirtual 308, 3) := by decide +kernel
theorem dX11_goesSteps_100 : decode cX11_goesSteps 100 = .ok (.ifCond .eq 16, 3) := by decide +kernel
theorem dX11_goesSteps_103 : decode cX11_goesSteps 103 = .ok (.aload_n 0, 1) := by decide +kernel
theorem dX11_goesSteps_104 : decode cX11_goesSteps 104 = .ok (.dup, 1) := by decide +kernel
theorem dX11_goesSteps_105 : decode cX11_goesSteps 105 = .ok (.getfield 299, 3) := by decide +kernel
theorem dX11_goesSteps_108 : decode cX11_goesSteps 108 = .ok (.iconst 1, 1) := by decide +kernel
theorem dX11_goesSteps_109 : decode cX11_goesSteps 109 = .ok (.iadd, 1) := by decide +kernel
theorem dX11_goesSteps_110 : decode cX11_goesSteps 110 = .ok (.putfield 299, 3) := by decide +kernel
theorem dX11_goesSteps_113 : decode cX11_goesSteps 113 = .ok (.goto 13, 3) := by decide +kernel
theorem dX11_goesSteps_116 : decode cX11_goesSteps 116 = .ok (.aload_n 0, 1) := by decide +kernel
theorem dX11_goesSteps_117 : decode cX11_goesSteps 117 = .ok (.dup, 1) := by decide +kernel
theorem dX11_goesSteps_118 : decode cX11_goesSteps 118 = .ok (.getfield 302, 3) := by decide +kernel
theorem dX11_goesSteps_121 : decode cX11_goesSteps 121 = .ok (.iconst 1, 1) := by decide +kernel
theorem dX11_goesSteps_122 : decode cX11_goesSteps 122 = .ok (.iadd, 1) := by decide +kernel
theorem dX11_goesSteps_123 : decode cX11_goesSteps 123 = .ok (.putfield 302, 3) := by decide +kernel
theorem dX11_goesSteps_126 : decode cX11_goesSteps 126 = .ok (.iinc 3 5, 3) := by decide +kernel
theorem dX11_goesSteps_129 : decode cX11_goesSteps 129 = .ok (.goto (-127), 3) := by decide +kernel
theorem dX11_goesSteps_132 : decode cX11_goesSteps 132 = .ok (.return_, 1) := by decide +kernel
theorem dX11_take_0 : decode cX11_take 0 = .ok (.aload_n 0, 1) := by decide +kernel
theorem dX11_take_1 : decode cX11_take 1 = .ok (.aload_n 0, 1) := by decide +kernel
theorem dX11_take_2 : decode cX11_take 2 = .ok (.getfield 65, 3) := by decide +kernel
theorem dX11_take_5 : decode cX11_take 5 = .ok (.aload_n 0, 1) := by decide +kernel
theorem dX11_take_6 : decode cX11_take 6 = .ok (.getfield 68, 3) := by decide +kernel
theorem dX11_take_9 : decode cX11_take 9 = .ok (.bipush 91, 2) := by decide +kernel
theorem dX11_take_11 : decode cX11_take 11 = .ok (.invokevirtual 160, 3) := by decide +kernel
theorem dX11_take_14 : decode cX11_take 14 = .ok (.return_, 1) := by decide +kernel
theorem dX11_loanOf_0 : decode cX11_loanOf 0 = .ok (.aload_n 0, 1) := by decide +kernel
theorem dX11_loanOf_1 : decode cX11_loanOf 1 = .ok (.getfield 68, 3) := by decide +kernel
theorem dX11_loanOf_4 : decode cX11_loanOf 4 = .ok (.bipush 28, 2) := by decide +kernel
theorem dX11_loanOf_6 : decode cX11_loanOf 6 = .ok (.bipush 6, 2) := by decide +kernel
theorem dX11_loanOf_8 : decode cX11_loanOf 8 = .ok (.iload_n 1, 1) := by decide +kernel
theorem dX11_loanOf_9 : decode cX11_loanOf 9 = .ok (.imul, 1) := by decide +kernel
theorem dX11_loanOf_10 : decode cX11_loanOf 10 = .ok (.iadd, 1) := by decide +kernel
theorem dX11_loanOf_11 : decode cX11_loanOf 11 = .ok (.iload_n 2, 1) := by decide +kernel
theorem dX11_loanOf_12 : decode cX11_loanOf 12 = .ok (.iadd, 1) := by decide +kernel
theorem dX11_loanOf_13 : decode cX11_loanOf 13 = .ok (.iaload, 1) := by decide +kernel
theorem dX11_loanOf_14 : decode cX11_loanOf 14 = .ok (.ireturn, 1) := by decide +kernel
theorem dX11_owesOf_0 : decode cX11_owesOf 0 = .ok (.aload_n 0, 1) := by decide +kernel
theorem dX11_owesOf_1 : decode cX11_owesOf 1 = .ok (.getfield 56, 3) := by decide +kernel
theorem dX11_owesOf_4 : decode cX11_owesOf 4 = .ok (.iconst 0, 1) := by decide +kernel
theorem dX11_owesOf_5 : decode cX11_owesOf 5 = .ok (.iload_n 1, 1) := by decide +kernel
theorem dX11_owesOf_6 : decode cX11_owesOf 6 = .ok (.iastore, 1) := by decide +kernel
theorem dX11_owesOf_7 : decode cX11_owesOf 7 = .ok (.aload_n 0, 1) := by decide +kernel
theorem dX11_owesOf_8 : decode cX11_owesOf 8 = .ok (.getfield 56, 3) := by decide +kernel
theorem dX11_owesOf_11 : decode cX11_owesOf 11 = .ok (.iconst 1, 1) := by decide +kernel
theorem dX11_owesOf_12 : decode cX11_owesOf 12 = .ok (.iload_n 2, 1) := by decide +kernel
theorem dX11_owesOf_13 : decode cX11_owesOf 13 = .ok (.iastore, 1) := by decide +kernel
theorem dX11_owesOf_14 : decode cX11_owesOf 14 = .ok (.aload_n 0, 1) := by decide +kernel
theorem dX11_owesOf_15 : decode cX11_owesOf 15 = .ok (.getfield 56, 3) := by decide +kernel
theorem dX11_owesOf_18 : decode cX11_owesOf 18 = .ok (.iconst 2, 1) := by decide +kernel
theorem dX11_owesOf_19 : decode cX11_owesOf 19 = .ok (.iload_n 3, 1) := by decide +kernel
theorem dX11_owesOf_20 : decode cX11_owesOf 20 = .ok (.iastore, 1) := by decide +kernel
theorem dX11_owesOf_21 : decode cX11_owesOf 21 = .ok (.aload_n 0, 1) := by decide +kernel
theorem dX11_owesOf_22 : decode cX11_owesOf 22 = .ok (.getfield 56, 3) := by decide +kernel
theorem dX11_owesOf_25 : decode cX11_owesOf 25 = .ok (.iconst 3, 1) := by decide +kernel
theorem dX11_owesOf_26 : decode cX11_owesOf 26 = .ok (.iload 4, 2) := by decide +kernel
theorem dX11_owesOf_28 : decode cX11_owesOf 28 = .ok (.iastore, 1) := by decide +kernel
theorem dX11_owesOf_29 : decode cX11_owesOf 29 = .ok (.aload_n 0, 1) := by decide +kernel
theorem dX11_owesOf_30 : decode cX11_owesOf 30 = .ok (.getfield 56, 3) := by decide +kernel
theorem dX11_owesOf_33 : decode cX11_owesOf 33 = .ok (.iconst 4, 1) := by decide +kernel
theorem dX11_owesOf_34 : decode cX11_owesOf 34 = .ok (.iload 5, 2) := by decide +kernel
theorem dX11_owesOf_36 : decode cX11_owesOf 36 = .ok (.iastore, 1) := by decide +kernel
theorem dX11_owesOf_37 : decode cX11_owesOf 37 = .ok (.aload_n 0, 1) := by decide +kernel
theorem dX11_owesOf_38 : decode cX11_owesOf 38 = .ok (.getfield 56, 3) := by decide +kernel
theorem dX11_owesOf_41 : decode cX11_owesOf 41 = .ok (.iconst 5, 1) := by decide +kernel
theorem dX11_owesOf_42 : decode cX11_owesOf 42 = .ok (.iload 6, 2) := by decide +kernel
theorem dX11_owesOf_44 : decode cX11_owesOf 44 = .ok (.iastore, 1) := by decide +kernel
theorem dX11_owesOf_45 : decode cX11_owesOf 45 = .ok (.aload_n 0, 1) := by decide +kernel
theorem dX11_owesOf_46 : decode cX11_owesOf 46 = .ok (.getfield 56, 3) := by decide +kernel
theorem dX11_owesOf_49 : decode cX11_owesOf 49 = .ok (.bipush 6, 2) := by decide +kernel
theorem dX11_owesOf_51 : decode cX11_owesOf 51 = .ok (.iload 7, 2) := by decide +kernel
theorem dX11_owesOf_53 : decode cX11_owesOf 53 = .ok (.iastore, 1) := by decide +kernel
theorem dX11_owesOf_54 : decode cX11_owesOf 54 = .ok (.aload_n 0, 1) := by decide +kernel
theorem dX11_owesOf_55 : decode cX11_owesOf 55 = .ok (.getfield 56, 3) := by decide +kernel
theorem dX11_owesOf_58 : decode cX11_owesOf 58 = .ok (.bipush 7, 2) := by decide +kernel
theorem dX11_owesOf_60 : decode cX11_owesOf 60 = .ok (.iload 8, 2) := by decide +kernel
theorem dX11_owesOf_62 : decode cX11_owesOf 62 = .ok (.iastore, 1) := by decide +kernel
theorem dX11_owesOf_63 : decode cX11_owesOf 63 = .ok (.aload_n 0, 1) := by decide +kernel
theorem dX11_owesOf_64 : decode cX11_owesOf 64 = .ok (.invokevirtual 311, 3) := by decide +kernel
theorem dX11_owesOf_67 : decode cX11_owesOf 67 = .ok (.ireturn, 1) := by decide +kernel
theorem dX11_owes_0 : decode cX11_owes 0 = .ok (.aload_n 0, 1) := by decide +kernel
theorem dX11_owes_1 : decode cX11_owes 1 = .ok (.iload_n 1, 1) := by decide +kernel
theorem dX11_owes_2 : decode cX11_owes 2 = .ok (.iconst 0, 1) := by decide +kernel
theorem dX11_owes_3 : decode cX11_owes 3 = .ok (.invokevirtual 314, 3) := by decide +kernel
theorem dX11_owes_6 : decode cX11_owes 6 = .ok (.istore_n 2, 1) := by decide +kernel
theorem dX11_owes_7 : decode cX11_owes 7 = .ok (.aload_n 0, 1) := by decide +kernel
theorem dX11_owes_8 : decode cX11_owes 8 = .ok (.iload_n 1, 1) := by decide +kernel
theorem dX11_owes_9 : decode cX11_owes 9 = .ok (.iconst 1, 1) := by decide +kernel
theorem dX11_owes_10 : decode cX11_owes 10 = .ok (.invokevirtual 314, 3) := by decide +kernel
theorem dX11_owes_13 : decode cX11_owes 13 = .ok (.istore_n 3, 1) := by decide +kernel
theorem dX11_owes_14 : decode cX11_owes 14 = .ok (.aload_n 0, 1) := by decide +kernel
theorem dX11_owes_15 : decode cX11_owes 15 = .ok (.aload_n 0, 1) := by decide +kernel
theorem dX11_owes_16 : decode cX11_owes 16 = .ok (.iload_n 1, 1) := by decide +kernel
theorem dX11_owes_17 : decode cX11_owes 17 = .ok (.iconst 2, 1) := by decide +kernel
theorem dX11_owes_18 : decode cX11_owes 18 = .ok (.invokevirtual 314, 3) := by decide +kernel
theorem dX11_owes_21 : decode cX11_owes 21 = .ok (.aload_n 0, 1) := by decide +kernel
theorem dX11_owes_22 : decode cX11_owes 22 = .ok (.getfield 68, 3) := by decide +kernel
theorem dX11_owes_25 : decode cX11_owes 25 = .ok (.bipush 90, 2) := by decide +kernel
theorem dX11_owes_27 : decode cX11_owes 27 = .ok (.iaload, 1) := by decide +kernel
theorem dX11_owes_28 : decode cX11_owes 28 = .ok (.aload_n 0, 1) := by decide +kernel
theorem dX11_owes_29 : decode cX11_owes 29 = .ok (.iload_n 1, 1) := by decide +kernel
theorem dX11_owes_30 : decode cX11_owes 30 = .ok (.iconst 3, 1) := by decide +kernel
theorem dX11_owes_31 : decode cX11_owes 31 = .ok (.invokevirtual 314, 3) := by decide +kernel
theorem dX11_owes_34 : decode cX11_owes 34 = .ok (.isub, 1) := by decide +kernel
theorem dX11_owes_35 : decode cX11_owes 35 = .ok (.aload_n 0, 1) := by decide +kernel
theorem dX11_owes_36 : decode cX11_owes 36 = .ok (.getfield 32, 3) := by decide +kernel
theorem dX11_owes_39 : decode cX11_owes 39 = .ok (.iconst 2, 1) := by decide +kernel
theorem dX11_owes_40 : decode cX11_owes 40 = .ok (.iload_n 3, 1) := by decide +kernel
theorem dX11_owes_41 : decode cX11_owes 41 = .ok (.imul, 1) := by decide +kernel
theorem dX11_owes_42 : decode cX11_owes 42 = .ok (.iaload, 1) := by decide +kernel
theorem dX11_owes_43 : decode cX11_owes 43 = .ok (.aload_n 0, 1) := by decide +kernel
theorem dX11_owes_44 : decode cX11_owes 44 = .ok (.getfield 38, 3) := by decide +kernel
theorem dX11_owes_47 : decode cX11_owes 47 = .ok (.iload_n 2, 1) := by decide +kernel
theorem dX11_owes_48 : decode cX11_owes 48 = .ok (.iaload, 1) := by decide +kernel
theorem dX11_owes_49 : decode cX11_owes 49 = .ok (.iload_n 3, 1) := by decide +kernel
theorem dX11_owes_50 : decode cX11_owes 50 = .ok (.ishr, 1) := by decide +kernel
theorem dX11_owes_51 : decode cX11_owes 51 = .ok (.iconst 1, 1) := by decide +kernel
theorem dX11_owes_52 : decode cX11_owes 52 = .ok (.iand, 1) := by decide +kernel
theorem dX11_owes_53 : decode cX11_owes 53 = .ok (.aload_n 0, 1) := by decide +kernel
theorem dX11_owes_54 : decode cX11_owes 54 = .ok (.getfield 68, 3) := by decide +kernel
theorem dX11_owes_57 : decode cX11_owes 57 = .ok (.bipush 16, 2) := by decide +kernel
theorem dX11_owes_59 : decode cX11_owes 59 = .ok (.iload_n 2, 1) := by decide +kernel
theorem dX11_owes_60 : decode cX11_owes 60 = .ok (.iadd, 1) := by decide +kernel
theorem dX11_owes_61 : decode cX11_owes 61 = .ok (.iaload, 1) := by decide +kernel
theorem dX11_owes_62 : decode cX11_owes 62 = .ok (.aload_n 0, 1) := by decide +kernel
theorem dX11_owes_63 : decode cX11_owes 63 = .ok (.getfield 68, 3) := by decide +kernel
theorem dX11_owes_66 : decode cX11_owes 66 = .ok (.iconst 0, 1) := by decide +kernel
theorem dX11_owes_67 : decode cX11_owes 67 = .ok (.iload_n 3, 1) := by decide +kernel
theorem dX11_owes_68 : decode cX11_owes 68 = .ok (.iadd, 1) := by decide +kernel
theorem dX11_owes_69 : decode cX11_owes 69 = .ok (.iaload, 1) := by decide +kernel
theorem dX11_owes_70 : decode cX11_owes 70 = .ok (.aload_n 0, 1) := by decide +kernel
theorem dX11_owes_71 : decode cX11_owes 71 = .ok (.getfield 68, 3) := by decide +kernel
theorem dX11_owes_74 : decode cX11_owes 74 = .ok (.bipush 90, 2) := by decide +kernel
theorem dX11_owes_76 : decode cX11_owes 76 = .ok (.iaload, 1) := by decide +kernel
theorem dX11_owes_77 : decode cX11_owes 77 = .ok (.iload_n 2, 1) := by decide +kernel
theorem dX11_owes_78 : decode cX11_owes 78 = .ok (.invokevirtual 317, 3) := by decide +kernel
theorem dX11_owes_81 : decode cX11_owes 81 = .ok (.ireturn, 1) := by decide +kernel
theorem dX11_wouldLend_0 : decode cX11_wouldLend 0 = .ok (.aload_n 0, 1) := by decide +kernel
theorem dX11_wouldLend_1 : decode cX11_wouldLend 1 = .ok (.getfield 68, 3) := by decide +kernel
theorem dX11_wouldLend_4 : decode cX11_wouldLend 4 = .ok (.bipush 8, 2) := by decide +kernel
theorem dX11_wouldLend_6 : decode cX11_wouldLend 6 = .ok (.iload_n 2, 1) := by decide +kernel
theorem dX11_wouldLend_7 : decode cX11_wouldLend 7 = .ok (.iadd, 1) := by decide +kernel
theorem dX11_wouldLend_8 : decode cX11_wouldLend 8 = .ok (.iaload, 1) := by decide +kernel
theorem dX11_wouldLend_9 : decode cX11_wouldLend 9 = .ok (.ifCond .ne 45, 3) := by decide +kernel
theorem dX11_wouldLend_12 : decode cX11_wouldLend 12 = .ok (.aload_n 0, 1) := by decide +kernel
theorem dX11_wouldLend_13 : decode cX11_wouldLend 13 = .ok (.getfield 68, 3) := by decide +kernel
theorem dX11_wouldLend_16 : decode cX11_wouldLend 16 = .ok (.iconst 0, 1) := by decide +kernel
theorem dX11_wouldLend_17 : decode cX11_wouldLend 17 = .ok (.iload_n 2, 1) := by decide +kernel
theorem dX11_wouldLend_18 : decode cX11_wouldLend 18 = .ok (.iadd, 1) := by decide +kernel
theorem dX11_wouldLend_19 : decode cX11_wouldLend 19 = .ok (.iaload, 1) := by decide +kernel
theorem dX11_wouldLend_20 : decode cX11_wouldLend 20 = .ok (.iload_n 3, 1) := by decide +kernel
theorem dX11_wouldLend_21 : decode cX11_wouldLend 21 = .ok (.if_icmp .lt 33, 3) := by decide +kernel
theorem dX11_wouldLend_24 : decode cX11_wouldLend 24 = .ok (.aload_n 0, 1) := by decide +kernel
theorem dX11_wouldLend_25 : decode cX11_wouldLend 25 = .ok (.getfield 68, 3) := by decide +kernel
theorem dX11_wouldLend_28 : decode cX11_wouldLend 28 = .ok (.bipush 16, 2) := by decide +kernel
theorem dX11_wouldLend_30 : decode cX11_wouldLend 30 = .ok (.iload_n 1, 1) := by decide +kernel
theorem dX11_wouldLend_31 : decode cX11_wouldLend 31 = .ok (.iadd, 1) := by decide +kernel
theorem dX11_wouldLend_32 : decode cX11_wouldLend 32 = .ok (.iaload, 1) := by decide +kernel
theorem dX11_wouldLend_33 : decode cX11_wouldLend 33 = .ok (.ifCond .gt 17, 3) := by decide +kernel
theorem dX11_wouldLend_36 : decode cX11_wouldLend 36 = .ok (.aload_n 0, 1) := by decide +kernel
theorem dX11_wouldLend_37 : decode cX11_wouldLend 37 = .ok (.getfield 38, 3) := by decide +kernel
theorem dX11_wouldLend_40 : decode cX11_wouldLend 40 = .ok (.iload_n 1, 1) := by decide +kernel
theorem dX11_wouldLend_41 : decode cX11_wouldLend 41 = .ok (.iaload, 1) := by decide +kernel
theorem dX11_wouldLend_42 : decode cX11_wouldLend 42 = .ok (.iload_n 2, 1) := by decide +kernel
theorem dX11_wouldLend_43 : decode cX11_wouldLend 43 = .ok (.ishr, 1) := by decide +kernel
theorem dX11_wouldLend_44 : decode cX11_wouldLend 44 = .ok (.iconst 1, 1) := by decide +kernel
theorem dX11_wouldLend_45 : decode cX11_wouldLend 45 = .ok (.iand, 1) := by decide +kernel
theorem dX11_wouldLend_46 : decode cX11_wouldLend 46 = .ok (.iconst 1, 1) := by decide +kernel
theorem dX11_wouldLend_47 : decode cX11_wouldLend 47 = .ok (.if_icmp .ne 7, 3) := by decide +kernel
theorem dX11_wouldLend_50 : decode cX11_wouldLend 50 = .ok (.iconst 1, 1) := by decide +kernel
theorem dX11_wouldLend_51 : decode cX11_wouldLend 51 = .ok (.goto 4, 3) := by decide +kernel
theorem dX11_wouldLend_54 : decode cX11_wouldLend 54 = .ok (.iconst 0, 1) := by decide +kernel
theorem dX11_wouldLend_55 : decode cX11_wouldLend 55 = .ok (.ireturn, 1) := by decide +kernel
theorem dX11_canLend_0 : decode cX11_canLend 0 = .ok (.aload_n 0, 1) := by decide +kernel
theorem dX11_canLend_1 : decode cX11_canLend 1 = .ok (.iload_n 1, 1) := by decide +kernel
theorem dX11_canLend_2 : decode cX11_canLend 2 = .ok (.iload_n 2, 1) := by decide +kernel
theorem dX11_canLend_3 : decode cX11_canLend 3 = .ok (.iload_n 3, 1) := by decide +kernel
theorem dX11_canLend_4 : decode cX11_canLend 4 = .ok (.invokevirtual 321, 3) := by decide +kernel
theorem dX11_canLend_7 : decode cX11_canLend 7 = .ok (.ifCond .eq 19, 3) := by decide +kernel
theorem dX11_canLend_10 : decode cX11_canLend 10 = .ok (.aload_n 0, 1) := by decide +kernel
theorem dX11_canLend_11 : decode cX11_canLend 11 = .ok (.getfield 68, 3) := by decide +kernel
theorem dX11_canLend_14 : decode cX11_canLend 14 = .ok (.bipush 88, 2) := by decide +kernel
theorem dX11_canLend_16 : decode cX11_canLend 16 = .ok (.iaload, 1) := by decide +kernel
theorem dX11_canLend_17 : decode cX11_canLend 17 = .ok (.bipush 10, 2) := by decide +kernel
theorem dX11_canLend_19 : decode cX11_canLend 19 = .ok (.if_icmp .ge 7, 3) := by decide +kernel
theorem dX11_canLend_22 : decode cX11_canLend 22 = .ok (.iconst 1, 1) := by decide +kernel
theorem dX11_canLend_23 : decode cX11_canLend 23 = .ok (.goto 4, 3) := by decide +kernel
theorem dX11_canLend_26 : decode cX11_canLend 26 = .ok (.iconst 0, 1) := by decide +kernel
theorem dX11_canLend_27 : decode cX11_canLend 27 = .ok (.ireturn, 1) := by decide +kernel
theorem dX11_lendsTo_0 : decode cX11_lendsTo 0 = .ok (.aload_n 0, 1) := by decide +kernel
theorem dX11_lendsTo_1 : decode cX11_lendsTo 1 = .ok (.iload_n 1, 1) := by decide +kernel
theorem dX11_lendsTo_2 : decode cX11_lendsTo 2 = .ok (.iload_n 2, 1) := by decide +kernel
theorem dX11_lendsTo_3 : decode cX11_lendsTo 3 = .ok (.iload_n 3, 1) := by decide +kernel
theorem dX11_lendsTo_4 : decode cX11_lendsTo 4 = .ok (.invokevirtual 325, 3) := by decide +kernel
theorem dX11_lendsTo_7 : decode cX11_lendsTo 7 = .ok (.ifCond .ne 5, 3) := by decide +kernel
theorem dX11_lendsTo_10 : decode cX11_lendsTo 10 = .ok (.iconst 0, 1) := by decide +kernel
theorem dX11_lendsTo_11 : decode cX11_lendsTo 11 = .ok (.ireturn, 1) := by decide +kernel
theorem dX11_lendsTo_12 : decode cX11_lendsTo 12 = .ok (.bipush 28, 2) := by decide +kernel
theorem dX11_lendsTo_14 : decode cX11_lendsTo 14 = .ok (.bipush 6, 2) := by decide +kernel
theorem dX11_lendsTo_16 : decode cX11_lendsTo 16 = .ok (.aload_n 0, 1) := by decide +kernel
theorem dX11_lendsTo_17 : decode cX11_lendsTo 17 = .ok (.getfield 68, 3) := by decide +kernel
theorem dX11_lendsTo_20 : decode cX11_lendsTo 20 = .ok (.bipush 88, 2) := by decide +kernel
theorem dX11_lendsTo_22 : decode cX11_lendsTo 22 = .ok (.iaload, 1) := by decide +kernel
theorem dX11_lendsTo_23 : decode cX11_lendsTo 23 = .ok (.imul, 1) := by decide +kernel
theorem dX11_lendsTo_24 : decode cX11_lendsTo 24 = .ok (.iadd, 1) := by decide +kernel
theorem dX11_lendsTo_25 : decode cX11_lendsTo 25 = .ok (.istore 5, 2) := by decide +kernel
theorem dX11_lendsTo_27 : decode cX11_lendsTo 27 = .ok (.aload_n 0, 1) := by decide +kernel
theorem dX11_lendsTo_28 : decode cX11_lendsTo 28 = .ok (.getfield 68, 3) := by decide +kernel
theorem dX11_lendsTo_31 : decode cX11_lendsTo 31 = .ok (.iconst 0, 1) := by decide +kernel
theorem dX11_lendsTo_32 : decode cX11_lendsTo 32 = .ok (.iload_n 2, 1) := by decide +kernel
theorem dX11_lendsTo_33 : decode cX11_lendsTo 33 = .ok (.iadd, 1) := by decide +kernel
theorem dX11_lendsTo_34 : decode cX11_lendsTo 34 = .ok (.dup2, 1) := by decide +kernel
theorem dX11_lendsTo_35 : decode cX11_lendsTo 35 = .ok (.iaload, 1) := by decide +kernel
theorem dX11_lendsTo_36 : decode cX11_lendsTo 36 = .ok (.iload_n 3, 1) := by decide +kernel
theorem dX11_lendsTo_37 : decode cX11_lendsTo 37 = .ok (.isub, 1) := by decide +kernel
theorem dX11_lendsTo_38 : decode cX11_lendsTo 38 = .ok (.iastore, 1) := by decide +kernel
theorem dX11_lendsTo_39 : decode cX11_lendsTo 39 = .ok (.aload_n 0, 1) := by decide +kernel
theorem dX11_lendsTo_40 : decode cX11_lendsTo 40 = .ok (.getfield 68, 3) := by decide +kernel
theorem dX11_lendsTo_43 : decode cX11_lendsTo 43 = .ok (.iload 5, 2) := by decide +kernel
theorem dX11_lendsTo_45 : decode cX11_lendsTo 45 = .ok (.iconst 0, 1) := by decide +kernel
theorem dX11_lendsTo_46 : decode cX11_lendsTo 46 = .ok (.iadd, 1) := by decide +kernel
theorem dX11_lendsTo_47 : decode cX11_lendsTo 47 = .ok (.iload_n 1, 1) := by decide +kernel
theorem dX11_lendsTo_48 : decode cX11_lendsTo 48 = .ok (.iastore, 1) := by decide +kernel
theorem dX11_lendsTo_49 : decode cX11_lendsTo 49 = .ok (.aload_n 0, 1) := by decide +kernel
theorem dX11_lendsTo_50 : decode cX11_lendsTo 50 = .ok (.getfield 68, 3) := by decide +kernel
theorem dX11_lendsTo_53 : decode cX11_lendsTo 53 = .ok (.iload 5, 2) := by decide +kernel
theorem dX11_lendsTo_55 : decode cX11_lendsTo 55 = .ok (.iconst 1, 1) := by decide +kernel
theorem dX11_lendsTo_56 : decode cX11_lendsTo 56 = .ok (.iadd, 1) := by decide +kernel
theorem dX11_lendsTo_57 : decode cX11_lendsTo 57 = .ok (.iload_n 2, 1) := by decide +kernel
theorem dX11_lendsTo_58 : decode cX11_lendsTo 58 = .ok (.iastore, 1) := by decide +kernel
theorem dX11_lendsTo_59 : decode cX11_lendsTo 59 = .ok (.aload_n 0, 1) := by decide +kernel
theorem dX11_lendsTo_60 : decode cX11_lendsTo 60 = .ok (.getfield 68, 3) := by decide +kernel
theorem dX11_lendsTo_63 : decode cX11_lendsTo 63 = .ok (.iload 5, 2) := by decide +kernel
theorem dX11_lendsTo_65 : decode cX11_lendsTo 65 = .ok (.iconst 2, 1) := by decide +kernel
