theorem dX9_init_0 : decode cX9_init 0 = .ok (.aload_n 0, 1) := by decide +kernel
theorem dX9_init_1 : decode cX9_init 1 = .ok (.invokespecial 3, 3) := by decide +kernel
theorem dX9_init_4 : decode cX9_init 4 = .ok (.aload_n 0, 1) := by decide +kernel
theorem dX9_init_5 : decode cX9_init 5 = .ok (.sipush 180, 3) := by decide +kernel
theorem dX9_init_8 : decode cX9_init 8 = .ok (.newarray .int, 2) := by decide +kernel
theorem dX9_init_10 : decode cX9_init 10 = .ok (.putfield 11, 3) := by decide +kernel
theorem dX9_init_13 : decode cX9_init 13 = .ok (.return_, 1) := by decide +kernel
theorem dX9_read_0 : decode cX9_read 0 = .ok (.aload_n 0, 1) := by decide +kernel
theorem dX9_read_1 : decode cX9_read 1 = .ok (.iconst 0, 1) := by decide +kernel
theorem dX9_read_2 : decode cX9_read 2 = .ok (.putfield 15, 3) := by decide +kernel
theorem dX9_read_5 : decode cX9_read 5 = .ok (.aload_n 0, 1) := by decide +kernel
theorem dX9_read_6 : decode cX9_read 6 = .ok (.iconst 0, 1) := by decide +kernel
theorem dX9_read_7 : decode cX9_read 7 = .ok (.putfield 19, 3) := by decide +kernel
theorem dX9_read_10 : decode cX9_read 10 = .ok (.aload_n 0, 1) := by decide +kernel
theorem dX9_read_11 : decode cX9_read 11 = .ok (.iconst 0, 1) := by decide +kernel
theorem dX9_read_12 : decode cX9_read 12 = .ok (.putfield 22, 3) := by decide +kernel
theorem dX9_read_15 : decode cX9_read 15 = .ok (.aload_n 0, 1) := by decide +kernel
theorem dX9_read_16 : decode cX9_read 16 = .ok (.iconst 0, 1) := by decide +kernel
theorem dX9_read_17 : decode cX9_read 17 = .ok (.putfield 25, 3) := by decide +kernel
theorem dX9_read_20 : decode cX9_read 20 = .ok (.aload_n 0, 1) := by decide +kernel
theorem dX9_read_21 : decode cX9_read 21 = .ok (.aload_n 2, 1) := by decide +kernel
theorem dX9_read_22 : decode cX9_read 22 = .ok (.getfield 28, 3) := by decide +kernel
theorem dX9_read_25 : decode cX9_read 25 = .ok (.putfield 33, 3) := by decide +kernel
theorem dX9_read_28 : decode cX9_read 28 = .ok (.aload_n 0, 1) := by decide +kernel
theorem dX9_read_29 : decode cX9_read 29 = .ok (.aload_n 2, 1) := by decide +kernel
theorem dX9_read_30 : decode cX9_read 30 = .ok (.getfield 34, 3) := by decide +kernel
theorem dX9_read_33 : decode cX9_read 33 = .ok (.putfield 37, 3) := by decide +kernel
theorem dX9_read_36 : decode cX9_read 36 = .ok (.aload_n 0, 1) := by decide +kernel
theorem dX9_read_37 : decode cX9_read 37 = .ok (.aload_n 1, 1) := by decide +kernel
theorem dX9_read_38 : decode cX9_read 38 = .ok (.iconst 0, 1) := by decide +kernel
theorem dX9_read_39 : decode cX9_read 39 = .ok (.invokevirtual 38, 3) := by decide +kernel
theorem dX9_read_42 : decode cX9_read 42 = .ok (.ireturn, 1) := by decide +kernel
theorem dX9_readSteps_0 : decode cX9_readSteps 0 = .ok (.iconst 0, 1) := by decide +kernel
theorem dX9_readSteps_1 : decode cX9_readSteps 1 = .ok (.istore_n 3, 1) := by decide +kernel
theorem dX9_readSteps_2 : decode cX9_readSteps 2 = .ok (.iload_n 3, 1) := by decide +kernel
theorem dX9_readSteps_3 : decode cX9_readSteps 3 = .ok (.sipush 150, 3) := by decide +kernel
theorem dX9_readSteps_6 : decode cX9_readSteps 6 = .ok (.if_icmp .ge 64, 3) := by decide +kernel
theorem dX9_readSteps_9 : decode cX9_readSteps 9 = .ok (.aload_n 1, 1) := by decide +kernel
theorem dX9_readSteps_10 : decode cX9_readSteps 10 = .ok (.invokevirtual 42, 3) := by decide +kernel
theorem dX9_readSteps_13 : decode cX9_readSteps 13 = .ok (.istore 4, 2) := by decide +kernel
theorem dX9_readSteps_15 : decode cX9_readSteps 15 = .ok (.iload_n 2, 1) := by decide +kernel
theorem dX9_readSteps_16 : decode cX9_readSteps 16 = .ok (.ifCond .ne 12, 3) := by decide +kernel
theorem dX9_readSteps_19 : decode cX9_readSteps 19 = .ok (.iload 4, 2) := by decide +kernel
theorem dX9_readSteps_21 : decode cX9_readSteps 21 = .ok (.iconst (-1), 1) := by decide +kernel
theorem dX9_readSteps_22 : decode cX9_readSteps 22 = .ok (.if_icmp .ne 15, 3) := by decide +kernel
theorem dX9_readSteps_25 : decode cX9_readSteps 25 = .ok (.goto 10, 3) := by decide +kernel
theorem dX9_readSteps_28 : decode cX9_readSteps 28 = .ok (.iload 4, 2) := by decide +kernel
theorem dX9_readSteps_30 : decode cX9_readSteps 30 = .ok (.bipush 93, 2) := by decide +kernel
theorem dX9_readSteps_32 : decode cX9_readSteps 32 = .ok (.if_icmp .ne 5, 3) := by decide +kernel
theorem dX9_readSteps_35 : decode cX9_readSteps 35 = .ok (.iconst 1, 1) := by decide +kernel
theorem dX9_readSteps_36 : decode cX9_readSteps 36 = .ok (.ireturn, 1) := by decide +kernel
theorem dX9_readSteps_37 : decode cX9_readSteps 37 = .ok (.aload_n 1, 1) := by decide +kernel
theorem dX9_readSteps_38 : decode cX9_readSteps 38 = .ok (.invokevirtual 48, 3) := by decide +kernel
theorem dX9_readSteps_41 : decode cX9_readSteps 41 = .ok (.ifCond .eq 21, 3) := by decide +kernel
theorem dX9_readSteps_44 : decode cX9_readSteps 44 = .ok (.aload_n 0, 1) := by decide +kernel
theorem dX9_readSteps_45 : decode cX9_readSteps 45 = .ok (.aload_n 1, 1) := by decide +kernel
theorem dX9_readSteps_46 : decode cX9_readSteps 46 = .ok (.iload_n 2, 1) := by decide +kernel
theorem dX9_readSteps_47 : decode cX9_readSteps 47 = .ok (.invokevirtual 52, 3) := by decide +kernel
theorem dX9_readSteps_50 : decode cX9_readSteps 50 = .ok (.ifCond .eq 12, 3) := by decide +kernel
theorem dX9_readSteps_53 : decode cX9_readSteps 53 = .ok (.aload_n 1, 1) := by decide +kernel
theorem dX9_readSteps_54 : decode cX9_readSteps 54 = .ok (.bipush 59, 2) := by decide +kernel
theorem dX9_readSteps_56 : decode cX9_readSteps 56 = .ok (.invokevirtual 55, 3) := by decide +kernel
theorem dX9_readSteps_59 : decode cX9_readSteps 59 = .ok (.ifCond .ne 5, 3) := by decide +kernel
theorem dX9_readSteps_62 : decode cX9_readSteps 62 = .ok (.iconst 0, 1) := by decide +kernel
theorem dX9_readSteps_63 : decode cX9_readSteps 63 = .ok (.ireturn, 1) := by decide +kernel
theorem dX9_readSteps_64 : decode cX9_readSteps 64 = .ok (.iinc 3 1, 3) := by decide +kernel
theorem dX9_readSteps_67 : decode cX9_readSteps 67 = .ok (.goto (-65), 3) := by decide +kernel
theorem dX9_readSteps_70 : decode cX9_readSteps 70 = .ok (.iconst 1, 1) := by decide +kernel
theorem dX9_readSteps_71 : decode cX9_readSteps 71 = .ok (.ireturn, 1) := by decide +kernel
theorem dX9_readStep_0 : decode cX9_readStep 0 = .ok (.aload_n 0, 1) := by decide +kernel
theorem dX9_readStep_1 : decode cX9_readStep 1 = .ok (.getfield 15, 3) := by decide +kernel
theorem dX9_readStep_4 : decode cX9_readStep 4 = .ok (.istore_n 3, 1) := by decide +kernel
theorem dX9_readStep_5 : decode cX9_readStep 5 = .ok (.aload_n 0, 1) := by decide +kernel
theorem dX9_readStep_6 : decode cX9_readStep 6 = .ok (.dup, 1) := by decide +kernel
theorem dX9_readStep_7 : decode cX9_readStep 7 = .ok (.getfield 15, 3) := by decide +kernel
theorem dX9_readStep_10 : decode cX9_readStep 10 = .ok (.iconst 1, 1) := by decide +kernel
theorem dX9_readStep_11 : decode cX9_readStep 11 = .ok (.iadd, 1) := by decide +kernel
theorem dX9_readStep_12 : decode cX9_readStep 12 = .ok (.putfield 15, 3) := by decide +kernel
theorem dX9_readStep_15 : decode cX9_readStep 15 = .ok (.aload_n 1, 1) := by decide +kernel
theorem dX9_readStep_16 : decode cX9_readStep 16 = .ok (.ldc 59, 2) := by decide +kernel
theorem dX9_readStep_18 : decode cX9_readStep 18 = .ok (.invokevirtual 61, 3) := by decide +kernel
theorem dX9_readStep_21 : decode cX9_readStep 21 = .ok (.ifCond .eq 78, 3) := by decide +kernel
theorem dX9_readStep_24 : decode cX9_readStep 24 = .ok (.aload_n 0, 1) := by decide +kernel
theorem dX9_readStep_25 : decode cX9_readStep 25 = .ok (.iload_n 3, 1) := by decide +kernel
theorem dX9_readStep_26 : decode cX9_readStep 26 = .ok (.iconst 0, 1) := by decide +kernel
theorem dX9_readStep_27 : decode cX9_readStep 27 = .ok (.invokevirtual 65, 3) := by decide +kernel
theorem dX9_readStep_30 : decode cX9_readStep 30 = .ok (.ifCond .eq 67, 3) := by decide +kernel
theorem dX9_readStep_33 : decode cX9_readStep 33 = .ok (.aload_n 0, 1) := by decide +kernel
theorem dX9_readStep_34 : decode cX9_readStep 34 = .ok (.aload_n 1, 1) := by decide +kernel
theorem dX9_readStep_35 : decode cX9_readStep 35 = .ok (.iload_n 3, 1) := by decide +kernel
theorem dX9_readStep_36 : decode cX9_readStep 36 = .ok (.iconst 1, 1) := by decide +kernel
theorem dX9_readStep_37 : decode cX9_readStep 37 = .ok (.iconst 0, 1) := by decide +kernel
theorem dX9_readStep_38 : decode cX9_readStep 38 = .ok (.aload_n 0, 1) := by decide +kernel
theorem dX9_readStep_39 : decode cX9_readStep 39 = .ok (.getfield 37, 3) := by decide +kernel
theorem dX9_readStep_42 : decode cX9_readStep 42 = .ok (.iconst 1, 1) := by decide +kernel
theorem dX9_readStep_43 : decode cX9_readStep 43 = .ok (.isub, 1) := by decide +kernel
theorem dX9_readStep_44 : decode cX9_readStep 44 = .ok (.invokevirtual 69, 3) := by decide +kernel
theorem dX9_readStep_47 : decode cX9_readStep 47 = .ok (.ifCond .eq 50, 3) := by decide +kernel
theorem dX9_readStep_50 : decode cX9_readStep 50 = .ok (.aload_n 0, 1) := by decide +kernel
theorem dX9_readStep_51 : decode cX9_readStep 51 = .ok (.aload_n 1, 1) := by decide +kernel
theorem dX9_readStep_52 : decode cX9_readStep 52 = .ok (.iload_n 3, 1) := by decide +kernel
theorem dX9_readStep_53 : decode cX9_readStep 53 = .ok (.iconst 2, 1) := by decide +kernel
theorem dX9_readStep_54 : decode cX9_readStep 54 = .ok (.iconst 0, 1) := by decide +kernel
theorem dX9_readStep_55 : decode cX9_readStep 55 = .ok (.aload_n 0, 1) := by decide +kernel
theorem dX9_readStep_56 : decode cX9_readStep 56 = .ok (.getfield 33, 3) := by decide +kernel
theorem dX9_readStep_59 : decode cX9_readStep 59 = .ok (.iconst 1, 1) := by decide +kernel
theorem dX9_readStep_60 : decode cX9_readStep 60 = .ok (.isub, 1) := by decide +kernel
theorem dX9_readStep_61 : decode cX9_readStep 61 = .ok (.invokevirtual 69, 3) := by decide +kernel
theorem dX9_readStep_64 : decode cX9_readStep 64 = .ok (.ifCond .eq 33, 3) := by decide +kernel
theorem dX9_readStep_67 : decode cX9_readStep 67 = .ok (.aload_n 0, 1) := by decide +kernel
theorem dX9_readStep_68 : decode cX9_readStep 68 = .ok (.aload_n 1, 1) := by decide +kernel
theorem dX9_readStep_69 : decode cX9_readStep 69 = .ok (.iload_n 3, 1) := by decide +kernel
theorem dX9_readStep_70 : decode cX9_readStep 70 = .ok (.iconst 3, 1) := by decide +kernel
theorem dX9_readStep_71 : decode cX9_readStep 71 = .ok (.iconst 1, 1) := by decide +kernel
theorem dX9_readStep_72 : decode cX9_readStep 72 = .ok (.bipush 60, 2) := by decide +kernel
theorem dX9_readStep_74 : decode cX9_readStep 74 = .ok (.invokevirtual 69, 3) := by decide +kernel
theorem dX9_readStep_77 : decode cX9_readStep 77 = .ok (.ifCond .eq 20, 3) := by decide +kernel
theorem dX9_readStep_80 : decode cX9_readStep 80 = .ok (.aload_n 0, 1) := by decide +kernel
theorem dX9_readStep_81 : decode cX9_readStep 81 = .ok (.aload_n 1, 1) := by decide +kernel
theorem dX9_readStep_82 : decode cX9_readStep 82 = .ok (.iload_n 3, 1) := by decide +kernel
theorem dX9_readStep_83 : decode cX9_readStep 83 = .ok (.iconst 4, 1) := by decide +kernel
theorem dX9_readStep_84 : decode cX9_readStep 84 = .ok (.iconst 1, 1) := by decide +kernel
theorem dX9_readStep_85 : decode cX9_readStep 85 = .ok (.bipush 40, 2) := by decide +kernel
theorem dX9_readStep_87 : decode cX9_readStep 87 = .ok (.invokevirtual 69, 3) := by decide +kernel
theorem dX9_readStep_90 : decode cX9_readStep 90 = .ok (.ifCond .eq 7, 3) := by decide +kernel
theorem dX9_readStep_93 : decode cX9_readStep 93 = .ok (.iconst 1, 1) := by decide +kernel
theorem dX9_readStep_94 : decode cX9_readStep 94 = .ok (.goto 4, 3) := by decide +kernel
theorem dX9_readStep_97 : decode cX9_readStep 97 = .ok (.iconst 0, 1) := by decide +kernel
theorem dX9_readStep_98 : decode cX9_readStep 98 = .ok (.ireturn, 1) := by decide +kernel
theorem dX9_readStep_99 : decode cX9_readStep 99 = .ok (.aload_n 1, 1) := by decide +kernel
theorem dX9_readStep_100 : decode cX9_readStep 100 = .ok (.ldc 73, 2) := by decide +kernel
theorem dX9_readStep_102 : decode cX9_readStep 102 = .ok (.invokevirtual 61, 3) := by decide +kernel
theorem dX9_readStep_105 : decode cX9_readStep 105 = .ok (.ifCond .eq 31, 3) := by decide +kernel
theorem dX9_readStep_108 : decode cX9_readStep 108 = .ok (.aload_n 0, 1) := by decide +kernel
theorem dX9_readStep_109 : decode cX9_readStep 109 = .ok (.iload_n 3, 1) := by decide +kernel
theorem dX9_readStep_110 : decode cX9_readStep 110 = .ok (.iconst 1, 1) := by decide +kernel
theorem dX9_readStep_111 : decode cX9_readStep 111 = .ok (.invokevirtual 65, 3) := by decide +kernel
theorem dX9_readStep_114 : decode cX9_readStep 114 = .ok (.ifCond .eq 20, 3) := by decide +kernel
theorem dX9_readStep_117 : decode cX9_readStep 117 = .ok (.aload_n 0, 1) := by decide +kernel
theorem dX9_readStep_118 : decode cX9_readStep 118 = .ok (.aload_n 1, 1) := by decide +kernel
theorem dX9_readStep_119 : decode cX9_readStep 119 = .ok (.iload_n 3, 1) := by decide +kernel
theorem dX9_readStep_120 : decode cX9_readStep 120 = .ok (.iconst 1, 1) := by decide +kernel
theorem dX9_readStep_121 : decode cX9_readStep 121 = .ok (.iconst 0, 1) := by decide +kernel
theorem dX9_readStep_122 : decode cX9_readStep 122 = .ok (.bipush 9, 2) := by decide +kernel
theorem dX9_readStep_124 : decode cX9_readStep 124 = .ok (.invokevirtual 69, 3) := by decide +kernel
theorem dX9_readStep_127 : decode cX9_readStep 127 = .ok (.ifCond .eq 7, 3) := by decide +kernel
theorem dX9_readStep_130 : decode cX9_readStep 130 = .ok (.iconst 1, 1) := by decide +kernel
theorem dX9_readStep_131 : decode cX9_readStep 131 = .ok (.goto 4, 3) := by decide +kernel
theorem dX9_readStep_134 : decode cX9_readStep 134 = .ok (.iconst 0, 1) := by decide +kernel
theorem dX9_readStep_135 : decode cX9_readStep 135 = .ok (.ireturn, 1) := by decide +kernel
theorem dX9_readStep_136 : decode cX9_readStep 136 = .ok (.aload_n 1, 1) := by decide +kernel
theorem dX9_readStep_137 : decode cX9_readStep 137 = .ok (.ldc 75, 2) := by decide +kernel
theorem dX9_readStep_139 : decode cX9_readStep 139 = .ok (.invokevirtual 61, 3) := by decide +kernel
theorem dX9_readStep_142 : decode cX9_readStep 142 = .ok (.ifCond .eq 48, 3) := by decide +kernel
theorem dX9_readStep_145 : decode cX9_readStep 145 = .ok (.aload_n 0, 1) := by decide +kernel
theorem dX9_readStep_146 : decode cX9_readStep 146 = .ok (.iload_n 3, 1) := by decide +kernel
theorem dX9_readStep_147 : decode cX9_readStep 147 = .ok (.iconst 2, 1) := by decide +kernel
theorem dX9_readStep_148 : decode cX9_readStep 148 = .ok (.invokevirtual 65, 3) := by decide +kernel
theorem dX9_readStep_151 : decode cX9_readStep 151 = .ok (.ifCond .eq 37, 3) := by decide +kernel
theorem dX9_readStep_154 : decode cX9_readStep 154 = .ok (.aload_n 0, 1) := by decide +kernel
theorem dX9_readStep_155 : decode cX9_readStep 155 = .ok (.aload_n 1, 1) := by decide +kernel
theorem dX9_readStep_156 : decode cX9_readStep 156 = .ok (.iload_n 3, 1) := by decide +kernel
theorem dX9_readStep_157 : decode cX9_readStep 157 = .ok (.iconst 1, 1) := by decide +kernel
theorem dX9_readStep_158 : decode cX9_readStep 158 = .ok (.iconst 0, 1) := by decide +kernel
theorem dX9_readStep_159 : decode cX9_readStep 159 = .ok (.aload_n 0, 1) := by decide +kernel
theorem dX9_readStep_160 : decode cX9_readStep 160 = .ok (.getfield 37, 3) := by decide +kernel
theorem dX9_readStep_163 : decode cX9_readStep 163 = .ok (.iconst 1, 1) := by decide +kernel
theorem dX9_readStep_164 : decode cX9_readStep 164 = .ok (.isub, 1) := by decide +kernel
theorem dX9_readStep_165 : decode cX9_readStep 165 = .ok (.invokevirtual 69, 3) := by decide +kernel
theorem dX9_readStep_168 : decode cX9_readStep 168 = .ok (.ifCond .eq 20, 3) := by decide +kernel
theorem dX9_readStep_171 : decode cX9_readStep 171 = .ok (.aload_n 0, 1) := by decide +kernel
theorem dX9_readStep_172 : decode cX9_readStep 172 = .ok (.aload_n 1, 1) := by decide +kernel
theorem dX9_readStep_173 : decode cX9_readStep 173 = .ok (.iload_n 3, 1) := by decide +kernel
theorem dX9_readStep_174 : decode cX9_readStep 174 = .ok (.iconst 2, 1) := by decide +kernel
theorem dX9_readStep_175 : decode cX9_readStep 175 = .ok (.iconst 1, 1) := by decide +kernel
theorem dX9_readStep_176 : decode cX9_readStep 176 = .ok (.bipush 60, 2) := by decide +kernel
theorem dX9_readStep_178 : decode cX9_readStep 178 = .ok (.invokevirtual 69, 3) := by decide +kernel
theorem dX9_readStep_181 : decode cX9_readStep 181 = .ok (.ifCond .eq 7, 3) := by decide +kernel
theorem dX9_readStep_184 : decode cX9_readStep 184 = .ok (.iconst 1, 1) := by decide +kernel
theorem dX9_readStep_185 : decode cX9_readStep 185 = .ok (.goto 4, 3) := by decide +kernel
theorem dX9_readStep_188 : decode cX9_readStep 188 = .ok (.iconst 0, 1) := by decide +kernel
theorem dX9_readStep_189 : decode cX9_readStep 189 = .ok (.ireturn, 1) := by decide +kernel
theorem dX9_readStep_190 : decode cX9_readStep 190 = .ok (.aload_n 1, 1) := by decide +kernel
theorem dX9_readStep_191 : decode cX9_readStep 191 = .ok (.ldc 77, 2) := by decide +kernel
theorem dX9_readStep_193 : decode cX9_readStep 193 = .ok (.invokevirtual 61, 3) := by decide +kernel
theorem dX9_readStep_196 : decode cX9_readStep 196 = .ok (.ifCond .eq 35, 3) := by decide +kernel
theorem dX9_readStep_199 : decode cX9_readStep 199 = .ok (.aload_n 0, 1) := by decide +kernel
theorem dX9_readStep_200 : decode cX9_readStep 200 = .ok (.iload_n 3, 1) := by decide +kernel
theorem dX9_readStep_201 : decode cX9_readStep 201 = .ok (.iconst 3, 1) := by decide +kernel
theorem dX9_readStep_202 : decode cX9_readStep 202 = .ok (.invokevirtual 65, 3) := by decide +kernel
theorem dX9_readStep_205 : decode cX9_readStep 205 = .ok (.ifCond .eq 24, 3) := by decide +kernel
theorem dX9_readStep_208 : decode cX9_readStep 208 = .ok (.aload_n 0, 1) := by decide +kernel
theorem dX9_readStep_209 : decode cX9_readStep 209 = .ok (.aload_n 1, 1) := by decide +kernel
theorem dX9_readStep_210 : decode cX9_readStep 210 = .ok (.iload_n 3, 1) := by decide +kernel
theorem dX9_readStep_211 : decode cX9_readStep 211 = .ok (.iconst 1, 1) := by decide +kernel
theorem dX9_readStep_212 : decode cX9_readStep 212 = .ok (.iconst 0, 1) := by decide +kernel
theorem dX9_readStep_213 : decode cX9_readStep 213 = .ok (.aload_n 0, 1) := by decide +kernel
theorem dX9_readStep_214 : decode cX9_readStep 214 = .ok (.getfield 33, 3) := by decide +kernel
theorem dX9_readStep_217 : decode cX9_readStep 217 = .ok (.iconst 1, 1) := by decide +kernel
theorem dX9_readStep_218 : decode cX9_readStep 218 = .ok (.isub, 1) := by decide +kernel
theorem dX9_readStep_219 : decode cX9_readStep 219 = .ok (.invokevirtual 69, 3) := by decide +kernel
theorem dX9_readStep_222 : decode cX9_readStep 222 = .ok (.ifCond .eq 7, 3) := by decide +kernel
theorem dX9_readStep_225 : decode cX9_readStep 225 = .ok (.iconst 1, 1) := by decide +kernel
theorem dX9_readStep_226 : decode cX9_readStep 226 = .ok (.goto 4, 3) := by decide +kernel
theorem dX9_readStep_229 : decode cX9_readStep 229 = .ok (.iconst 0, 1) := by decide +kernel
theorem dX9_readStep_230 : decode cX9_readStep 230 = .ok (.ireturn, 1) := by decide +kernel
theorem dX9_readStep_231 : decode cX9_readStep 231 = .ok (.aload_n 1, 1) := by decide +kernel
theorem dX9_readStep_232 : decode cX9_readStep 232 = .ok (.ldc 79, 2) := by decide +kernel
theorem dX9_readStep_234 : decode cX9_readStep 234 = .ok (.invokevirtual 61, 3) := by decide +kernel
theorem dX9_readStep_237 : decode cX9_readStep 237 = .ok (.ifCond .eq 35, 3) := by decide +kernel
theorem dX9_readStep_240 : decode cX9_readStep 240 = .ok (.aload_n 0, 1) := by decide +kernel
theorem dX9_readStep_241 : decode cX9_readStep 241 = .ok (.iload_n 3, 1) := by decide +kernel
theorem dX9_readStep_242 : decode cX9_readStep 242 = .ok (.iconst 4, 1) := by decide +kernel
theorem dX9_readStep_243 : decode cX9_readStep 243 = .ok (.invokevirtual 65, 3) := by decide +kernel
theorem dX9_readStep_246 : decode cX9_readStep 246 = .ok (.ifCond .eq 24, 3) := by decide +kernel
theorem dX9_readStep_249 : decode cX9_readStep 249 = .ok (.aload_n 0, 1) := by decide +kernel
theorem dX9_readStep_250 : decode cX9_readStep 250 = .ok (.aload_n 1, 1) := by decide +kernel
theorem dX9_readStep_251 : decode cX9_readStep 251 = .ok (.iload_n 3, 1) := by decide +kernel
theorem dX9_readStep_252 : decode cX9_readStep 252 = .ok (.iconst 1, 1) := by decide +kernel
theorem dX9_readStep_253 : decode cX9_readStep 253 = .ok (.iconst 0, 1) := by decide +kernel
theorem dX9_readStep_254 : decode cX9_readStep 254 = .ok (.aload_n 0, 1) := by decide +kernel
theorem dX9_readStep_255 : decode cX9_readStep 255 = .ok (.getfield 33, 3) := by decide +kernel
theorem dX9_readStep_258 : decode cX9_readStep 258 = .ok (.iconst 1, 1) := by decide +kernel
theorem dX9_readStep_259 : decode cX9_readStep 259 = .ok (.isub, 1) := by decide +kernel
theorem dX9_readStep_260 : decode cX9_readStep 260 = .ok (.invokevirtual 69, 3) := by decide +kernel
theorem dX9_readStep_263 : decode cX9_readStep 263 = .ok (.ifCond .eq 7, 3) := by decide +kernel
theorem dX9_readStep_266 : decode cX9_readStep 266 = .ok (.iconst 1, 1) := by decide +kernel
theorem dX9_readStep_267 : decode cX9_readStep 267 = .ok (.goto 4, 3) := by decide +kernel
theorem dX9_readStep_270 : decode cX9_readStep 270 = .ok (.iconst 0, 1) := by decide +kernel
theorem dX9_readStep_271 : decode cX9_readStep 271 = .ok (.ireturn, 1) := by decide +kernel
theorem dX9_readStep_272 : decode cX9_readStep 272 = .ok (.aload_n 1, 1) := by decide +kernel
theorem dX9_readStep_273 : decode cX9_readStep 273 = .ok (.ldc 81, 2) := by decide +kernel
theorem dX9_readStep_275 : decode cX9_readStep 275 = .ok (.invokevirtual 61, 3) := by decide +kernel
theorem dX9_readStep_278 : decode cX9_readStep 278 = .ok (.ifCond .eq 10, 3) := by decide +kernel
theorem dX9_readStep_281 : decode cX9_readStep 281 = .ok (.aload_n 0, 1) := by decide +kernel
theorem dX9_readStep_282 : decode cX9_readStep 282 = .ok (.iload_n 3, 1) := by decide +kernel
theorem dX9_readStep_283 : decode cX9_readStep 283 = .ok (.iconst 5, 1) := by decide +kernel
theorem dX9_readStep_284 : decode cX9_readStep 284 = .ok (.invokevirtual 65, 3) := by decide +kernel
theorem dX9_readStep_287 : decode cX9_readStep 287 = .ok (.ireturn, 1) := by decide +kernel
theorem dX9_readStep_288 : decode cX9_readStep 288 = .ok (.aload_n 1, 1) := by decide +kernel
theorem dX9_readStep_289 : decode cX9_readStep 289 = .ok (.ldc 83, 2) := by decide +kernel
theorem dX9_readStep_291 : decode cX9_readStep 291 = .ok (.invokevirtual 61, 3) := by decide +kernel
theorem dX9_readStep_294 : decode cX9_readStep 294 = .ok (.ifCond .eq 29, 3) := by decide +kernel
theorem dX9_readStep_297 : decode cX9_readStep 297 = .ok (.aload_n 0, 1) := by decide +kernel
theorem dX9_readStep_298 : decode cX9_readStep 298 = .ok (.iload_n 3, 1) := by decide +kernel
theorem dX9_readStep_299 : decode cX9_readStep 299 = .ok (.bipush 6, 2) := by decide +kernel
theorem dX9_readStep_301 : decode cX9_readStep 301 = .ok (.invokevirtual 65, 3) := by decide +kernel
theorem dX9_readStep_304 : decode cX9_readStep 304 = .ok (.ifCond .eq 17, 3) := by decide +kernel
theorem dX9_readStep_307 : decode cX9_readStep 307 = .ok (.aload_n 0, 1) := by decide +kernel
theorem dX9_readStep_308 : decode cX9_readStep 308 = .ok (.aload_n 1, 1) := by decide +kernel
theorem dX9_readStep_309 : decode cX9_readStep 309 = .ok (.iload_n 3, 1) := by decide +kernel
theorem dX9_readStep_310 : decode cX9_readStep 310 = .ok (.iload_n 2, 1) := by decide +kernel
theorem dX9_readStep_311 : decode cX9_readStep 311 = .ok (.invokevirtual 85, 3) := by decide +kernel
theorem dX9_readStep_314 : decode cX9_readStep 314 = .ok (.ifCond .eq 7, 3) := by decide +kernel
theorem dX9_readStep_317 : decode cX9_readStep 317 = .ok (.iconst 1, 1) := by decide +kernel
theorem dX9_readStep_318 : decode cX9_readStep 318 = .ok (.goto 4, 3) := by decide +kernel
theorem dX9_readStep_321 : decode cX9_readStep 321 = .ok (.iconst 0, 1) := by decide +kernel
theorem dX9_readStep_322 : decode cX9_readStep 322 = .ok (.ireturn, 1) := by decide +kernel
theorem dX9_readStep_323 : decode cX9_readStep 323 = .ok (.aload_n 1, 1) := by decide +kernel
theorem dX9_readStep_324 : decode cX9_readStep 324 = .ok (.iconst 1, 1) := by decide +kernel
theorem dX9_readStep_325 : decode cX9_readStep 325 = .ok (.invokevirtual 89, 3) := by decide +kernel
theorem dX9_readStep_328 : decode cX9_readStep 328 = .ok (.ireturn, 1) := by decide +kernel
theorem dX9_begin_0 : decode cX9_begin 0 = .ok (.aload_n 0, 1) := by decide +kernel
theorem dX9_begin_1 : decode cX9_begin 1 = .ok (.getfield 11, 3) := by decide +kernel
theorem dX9_begin_4 : decode cX9_begin 4 = .ok (.iload_n 1, 1) := by decide +kernel
theorem dX9_begin_5 : decode cX9_begin 5 = .ok (.bipush 6, 2) := by decide +kernel
theorem dX9_begin_7 : decode cX9_begin 7 = .ok (.imul, 1) := by decide +kernel
theorem dX9_begin_8 : decode cX9_begin 8 = .ok (.iload_n 2, 1) := by decide +kernel
theorem dX9_begin_9 : decode cX9_begin 9 = .ok (.invokestatic 92, 3) := by decide +kernel
theorem dX9_begin_12 : decode cX9_begin 12 = .ok (.iconst 1, 1) := by decide +kernel
theorem dX9_begin_13 : decode cX9_begin 13 = .ok (.ireturn, 1) := by decide +kernel
theorem dX9_readNumber_0 : decode cX9_readNumber 0 = .ok (.aload_n 1, 1) := by decide +kernel
theorem dX9_readNumber_1 : decode cX9_readNumber 1 = .ok (.iload 4, 2) := by decide +kernel
theorem dX9_readNumber_3 : decode cX9_readNumber 3 = .ok (.iload 5, 2) := by decide +kernel
theorem dX9_readNumber_5 : decode cX9_readNumber 5 = .ok (.invokevirtual 96, 3) := by decide +kernel
theorem dX9_readNumber_8 : decode cX9_readNumber 8 = .ok (.istore 6, 2) := by decide +kernel
theorem dX9_readNumber_10 : decode cX9_readNumber 10 = .ok (.aload_n 0, 1) := by decide +kernel
theorem dX9_readNumber_11 : decode cX9_readNumber 11 = .ok (.getfield 11, 3) := by decide +kernel
theorem dX9_readNumber_14 : decode cX9_readNumber 14 = .ok (.iload_n 2, 1) := by decide +kernel
theorem dX9_readNumber_15 : decode cX9_readNumber 15 = .ok (.bipush 6, 2) := by decide +kernel
theorem dX9_readNumber_17 : decode cX9_readNumber 17 = .ok (.imul, 1) := by decide +kernel
theorem dX9_readNumber_18 : decode cX9_readNumber 18 = .ok (.iload_n 3, 1) := by decide +kernel
theorem dX9_readNumber_19 : decode cX9_readNumber 19 = .ok (.iadd, 1) := by decide +kernel
theorem dX9_readNumber_20 : decode cX9_readNumber 20 = .ok (.iload 6, 2) := by decide +kernel
theorem dX9_readNumber_22 : decode cX9_readNumber 22 = .ok (.invokestatic 92, 3) := by decide +kernel
theorem dX9_readNumber_25 : decode cX9_readNumber 25 = .ok (.iload 6, 2) := by decide +kernel
theorem dX9_readNumber_27 : decode cX9_readNumber 27 = .ok (.iconst (-1), 1) := by decide +kernel
theorem dX9_readNumber_28 : decode cX9_readNumber 28 = .ok (.if_icmp .eq 7, 3) := by decide +kernel
theorem dX9_readNumber_31 : decode cX9_readNumber 31 = .ok (.iconst 1, 1) := by decide +kernel
theorem dX9_readNumber_32 : decode cX9_readNumber 32 = .ok (.goto 4, 3) := by decide +kernel
theorem dX9_readNumber_35 : decode cX9_readNumber 35 = .ok (.iconst 0, 1) := by decide +kernel
theorem dX9_readNumber_36 : decode cX9_readNumber 36 = .ok (.ireturn, 1) := by decide +kernel
theorem dX9_readAgain_0 : decode cX9_readAgain 0 = .ok (.iload_n 3, 1) := by decide +kernel
theorem dX9_readAgain_1 : decode cX9_readAgain 1 = .ok (.bipush 6, 2) := by decide +kernel
theorem dX9_readAgain_3 : decode cX9_readAgain 3 = .ok (.if_icmp .lt 9, 3) := by decide +kernel
theorem dX9_readAgain_6 : decode cX9_readAgain 6 = .ok (.aload_n 1, 1) := by decide +kernel
theorem dX9_readAgain_7 : decode cX9_readAgain 7 = .ok (.iconst 3, 1) := by decide +kernel
theorem dX9_readAgain_8 : decode cX9_readAgain 8 = .ok (.invokevirtual 89, 3) := by decide +kernel
theorem dX9_readAgain_11 : decode cX9_readAgain 11 = .ok (.ireturn, 1) := by decide +kernel
theorem dX9_readAgain_12 : decode cX9_readAgain 12 = .ok (.aload_n 0, 1) := by decide +kernel
theorem dX9_readAgain_13 : decode cX9_readAgain 13 = .ok (.aload_n 1, 1) := by decide +kernel
theorem dX9_readAgain_14 : decode cX9_readAgain 14 = .ok (.iload_n 2, 1) := by decide +kernel
theorem dX9_readAgain_15 : decode cX9_readAgain 15 = .ok (.iconst 1, 1) := by decide +kernel
theorem dX9_readAgain_16 : decode cX9_readAgain 16 = .ok (.iconst 0, 1) := by decide +kernel
theorem dX9_readAgain_17 : decode cX9_readAgain 17 = .ok (.bipush 30, 2) := by decide +kernel
theorem dX9_readAgain_19 : decode cX9_readAgain 19 = .ok (.invokevirtual 69, 3) := by decide +kernel
theorem dX9_readAgain_22 : decode cX9_readAgain 22 = .ok (.ifCond .eq 23, 3) := by decide +kernel
theorem dX9_readAgain_25 : decode cX9_readAgain 25 = .ok (.aload_n 1, 1) := by decide +kernel
theorem dX9_readAgain_26 : decode cX9_readAgain 26 = .ok (.bipush 91, 2) := by decide +kernel
theorem dX9_readAgain_28 : decode cX9_readAgain 28 = .ok (.invokevirtual 55, 3) := by decide +kernel
theorem dX9_readAgain_31 : decode cX9_readAgain 31 = .ok (.ifCond .eq 14, 3) := by decide +kernel
theorem dX9_readAgain_34 : decode cX9_readAgain 34 = .ok (.aload_n 0, 1) := by decide +kernel
theorem dX9_readAgain_35 : decode cX9_readAgain 35 = .ok (.aload_n 1, 1) := by decide +kernel
theorem dX9_readAgain_36 : decode cX9_readAgain 36 = .ok (.iload_n 3, 1) := by decide +kernel
theorem dX9_readAgain_37 : decode cX9_readAgain 37 = .ok (.iconst 1, 1) := by decide +kernel
theorem dX9_readAgain_38 : decode cX9_readAgain 38 = .ok (.iadd, 1) := by decide +kernel
theorem dX9_readAgain_39 : decode cX9_readAgain 39 = .ok (.invokevirtual 38, 3) := by decide +kernel
theorem dX9_readAgain_42 : decode cX9_readAgain 42 = .ok (.ifCond .ne 5, 3) := by decide +kernel
theorem dX9_readAgain_45 : decode cX9_readAgain 45 = .ok (.iconst 0, 1) := by decide +kernel
theorem dX9_readAgain_46 : decode cX9_readAgain 46 = .ok (.ireturn, 1) := by decide +kernel
theorem dX9_readAgain_47 : decode cX9_readAgain 47 = .ok (.aload_n 0, 1) := by decide +kernel
theorem dX9_readAgain_48 : decode cX9_readAgain 48 = .ok (.getfield 11, 3) := by decide +kernel
theorem dX9_readAgain_51 : decode cX9_readAgain 51 = .ok (.iload_n 2, 1) := by decide +kernel
theorem dX9_readAgain_52 : decode cX9_readAgain 52 = .ok (.bipush 6, 2) := by decide +kernel
theorem dX9_readAgain_54 : decode cX9_readAgain 54 = .ok (.imul, 1) := by decide +kernel
theorem dX9_readAgain_55 : decode cX9_readAgain 55 = .ok (.iconst 5, 1) := by decide +kernel
theorem dX9_readAgain_56 : decode cX9_readAgain 56 = .ok (.iadd, 1) := by decide +kernel
theorem dX9_readAgain_57 : decode cX9_readAgain 57 = .ok (.aload_n 0, 1) := by decide +kernel
theorem dX9_readAgain_58 : decode cX9_readAgain 58 = .ok (.getfield 15, 3) := by decide +kernel
theorem dX9_readAgain_61 : decode cX9_readAgain 61 = .ok (.invokestatic 92, 3) := by decide +kernel
theorem dX9_readAgain_64 : decode cX9_readAgain 64 = .ok (.aload_n 1, 1) := by decide +kernel
theorem dX9_readAgain_65 : decode cX9_readAgain 65 = .ok (.bipush 93, 2) := by decide +kernel
theorem dX9_readAgain_67 : decode cX9_readAgain 67 = .ok (.invokevirtual 55, 3) := by decide +kernel
theorem dX9_readAgain_70 : decode cX9_readAgain 70 = .ok (.ireturn, 1) := by decide +kernel
theorem dX9_field_0 : decode cX9_field 0 = .ok (.aload_n 0, 1) := by decide +kernel
theorem dX9_field_1 : decode cX9_field 1 = .ok (.getfield 11, 3) := by decide +kernel
theorem dX9_field_4 : decode cX9_field 4 = .ok (.iload_n 1, 1) := by decide +kernel
theorem dX9_field_5 : decode cX9_field 5 = .ok (.bipush 6, 2) := by decide +kernel
theorem dX9_field_7 : decode cX9_field 7 = .ok (.imul, 1) := by decide +kernel
theorem dX9_field_8 : decode cX9_field 8 = .ok (.iload_n 2, 1) := by decide +kernel
theorem dX9_field_9 : decode cX9_field 9 = .ok (.iadd, 1) := by decide +kernel
theorem dX9_field_10 : decode cX9_field 10 = .ok (.invokestatic 100, 3) := by decide +kernel
theorem dX9_field_13 : decode cX9_field 13 = .ok (.ireturn, 1) := by decide +kernel
theorem dX9_carryOut_0 : decode cX9_carryOut 0 = .ok (.iload_n 3, 1) := by decide +kernel
theorem dX9_carryOut_1 : decode cX9_carryOut 1 = .ok (.istore 6, 2) := by decide +kernel
theorem dX9_carryOut_3 : decode cX9_carryOut 3 = .ok (.iload 6, 2) := by decide +kernel
theorem dX9_carryOut_5 : decode cX9_carryOut 5 = .ok (.iload 4, 2) := by decide +kernel
theorem dX9_carryOut_7 : decode cX9_carryOut 7 = .ok (.if_icmp .ge 160, 3) := by decide +kernel
theorem dX9_carryOut_10 : decode cX9_carryOut 10 = .ok (.iload 6, 2) := by decide +kernel
theorem dX9_carryOut_12 : decode cX9_carryOut 12 = .ok (.bipush 30, 2) := by decide +kernel
theorem dX9_carryOut_14 : decode cX9_carryOut 14 = .ok (.if_icmp .ge 153, 3) := by decide +kernel
theorem dX9_carryOut_17 : decode cX9_carryOut 17 = .ok (.aload_n 0, 1) := by decide +kernel
theorem dX9_carryOut_18 : decode cX9_carryOut 18 = .ok (.getfield 19, 3) := by decide +kernel
theorem dX9_carryOut_21 : decode cX9_carryOut 21 = .ok (.sipush 200, 3) := by decide +kernel
theorem dX9_carryOut_24 : decode cX9_carryOut 24 = .ok (.if_icmp .ge 143, 3) := by decide +kernel
theorem dX9_carryOut_27 : decode cX9_carryOut 27 = .ok (.iload 5, 2) := by decide +kernel
theorem dX9_carryOut_29 : decode cX9_carryOut 29 = .ok (.bipush 6, 2) := by decide +kernel
theorem dX9_carryOut_31 : decode cX9_carryOut 31 = .ok (.if_icmp .gt 136, 3) := by decide +kernel
theorem dX9_carryOut_34 : decode cX9_carryOut 34 = .ok (.aload_n 0, 1) := by decide +kernel
theorem dX9_carryOut_35 : decode cX9_carryOut 35 = .ok (.dup, 1) := by decide +kernel
theorem dX9_carryOut_36 : decode cX9_carryOut 36 = .ok (.getfield 19, 3) := by decide +kernel
theorem dX9_carryOut_39 : decode cX9_carryOut 39 = .ok (.iconst 1, 1) := by decide +kernel
theorem dX9_carryOut_40 : decode cX9_carryOut 40 = .ok (.iadd, 1) := by decide +kernel
theorem dX9_carryOut_41 : decode cX9_carryOut 41 = .ok (.putfield 19, 3) := by decide +kernel
theorem dX9_carryOut_44 : decode cX9_carryOut 44 = .ok (.iload 6, 2) := by decide +kernel
theorem dX9_carryOut_46 : decode cX9_carryOut 46 = .ok (.iconst 1, 1) := by decide +kernel
theorem dX9_carryOut_47 : decode cX9_carryOut 47 = .ok (.iadd, 1) := by decide +kernel
theorem dX9_carryOut_48 : decode cX9_carryOut 48 = .ok (.istore 7, 2) := by decide +kernel
theorem dX9_carryOut_50 : decode cX9_carryOut 50 = .ok (.aload_n 0, 1) := by decide +kernel
theorem dX9_carryOut_51 : decode cX9_carryOut 51 = .ok (.iload 6, 2) := by decide +kernel
theorem dX9_carryOut_53 : decode cX9_carryOut 53 = .ok (.iconst 0, 1) := by decide +kernel
theorem dX9_carryOut_54 : decode cX9_carryOut 54 = .ok (.invokevirtual 104, 3) := by decide +kernel
theorem dX9_carryOut_57 : decode cX9_carryOut 57 = .ok (.bipush 6, 2) := by decide +kernel
theorem dX9_carryOut_59 : decode cX9_carryOut 59 = .ok (.if_icmp .ne 67, 3) := by decide +kernel
theorem dX9_carryOut_62 : decode cX9_carryOut 62 = .ok (.iload 7, 2) := by decide +kernel
theorem dX9_carryOut_64 : decode cX9_carryOut 64 = .ok (.aload_n 0, 1) := by decide +kernel
theorem dX9_carryOut_65 : decode cX9_carryOut 65 = .ok (.iload 6, 2) := by decide +kernel
theorem dX9_carryOut_67 : decode cX9_carryOut 67 = .ok (.iconst 5, 1) := by decide +kernel
theorem dX9_carryOut_68 : decode cX9_carryOut 68 = .ok (.invokevirtual 104, 3) := by decide +kernel
theorem dX9_carryOut_71 : decode cX9_carryOut 71 = .ok (.invokestatic 107, 3) := by decide +kernel
theorem dX9_carryOut_74 : decode cX9_carryOut 74 = .ok (.istore 7, 2) := by decide +kernel
theorem dX9_carryOut_76 : decode cX9_carryOut 76 = .ok (.iconst 0, 1) := by decide +kernel
theorem dX9_carryOut_77 : decode cX9_carryOut 77 = .ok (.istore 8, 2) := by decide +kernel
theorem dX9_carryOut_79 : decode cX9_carryOut 79 = .ok (.iload 8, 2) := by decide +kernel
theorem dX9_carryOut_81 : decode cX9_carryOut 81 = .ok (.aload_n 0, 1) := by decide +kernel
theorem dX9_carryOut_82 : decode cX9_carryOut 82 = .ok (.iload 6, 2) := by decide +kernel
theorem dX9_carryOut_84 : decode cX9_carryOut 84 = .ok (.iconst 1, 1) := by decide +kernel
theorem dX9_carryOut_85 : decode cX9_carryOut 85 = .ok (.invokevirtual 104, 3) := by decide +kernel
theorem dX9_carryOut_88 : decode cX9_carryOut 88 = .ok (.if_icmp .ge 35, 3) := by decide +kernel
theorem dX9_carryOut_91 : decode cX9_carryOut 91 = .ok (.aload_n 0, 1) := by decide +kernel
theorem dX9_carryOut_92 : decode cX9_carryOut 92 = .ok (.getfield 19, 3) := by decide +kernel
theorem dX9_carryOut_95 : decode cX9_carryOut 95 = .ok (.sipush 200, 3) := by decide +kernel
theorem dX9_carryOut_98 : decode cX9_carryOut 98 = .ok (.if_icmp .ge 25, 3) := by decide +kernel
theorem dX9_carryOut_101 : decode cX9_carryOut 101 = .ok (.aload_n 0, 1) := by decide +kernel
theorem dX9_carryOut_102 : decode cX9_carryOut 102 = .ok (.aload_n 1, 1) := by decide +kernel
theorem dX9_carryOut_103 : decode cX9_carryOut 103 = .ok (.aload_n 2, 1) := by decide +kernel
theorem dX9_carryOut_104 : decode cX9_carryOut 104 = .ok (.iload 6, 2) := by decide +kernel
theorem dX9_carryOut_106 : decode cX9_carryOut 106 = .ok (.iconst 1, 1) := by decide +kernel
theorem dX9_carryOut_107 : decode cX9_carryOut 107 = .ok (.iadd, 1) := by decide +kernel
theorem dX9_carryOut_108 : decode cX9_carryOut 108 = .ok (.iload 7, 2) := by decide +kernel
theorem dX9_carryOut_110 : decode cX9_carryOut 110 = .ok (.iload 5, 2) := by decide +kernel
theorem dX9_carryOut_112 : decode cX9_carryOut 112 = .ok (.iconst 1, 1) := by decide +kernel
theorem dX9_carryOut_113 : decode cX9_carryOut 113 = .ok (.iadd, 1) := by decide +kernel
theorem dX9_carryOut_114 : decode cX9_carryOut 114 = .ok (.invokevirtual 112, 3) := by decide +kernel
theorem dX9_carryOut_117 : decode cX9_carryOut 117 = .ok (.iinc 8 1, 3) := by decide +kernel
theorem dX9_carryOut_120 : decode cX9_carryOut 120 = .ok (.goto (-41), 3) := by decide +kernel
theorem dX9_carryOut_123 : decode cX9_carryOut 123 = .ok (.goto 37, 3) := by decide +kernel
theorem dX9_carryOut_126 : decode cX9_carryOut 126 = .ok (.aload_n 0, 1) := by decide +kernel
theorem dX9_carryOut_127 : decode cX9_carryOut 127 = .ok (.aload_n 1, 1) := by decide +kernel
theorem dX9_carryOut_128 : decode cX9_carryOut 128 = .ok (.aload_n 2, 1) := by decide +kernel
theorem dX9_carryOut_129 : decode cX9_carryOut 129 = .ok (.iload 6, 2) := by decide +kernel
theorem dX9_carryOut_131 : decode cX9_carryOut 131 = .ok (.invokevirtual 116, 3) := by decide +kernel
theorem dX9_carryOut_134 : decode cX9_carryOut 134 = .ok (.ifCond .eq 16, 3) := by decide +kernel
theorem dX9_carryOut_137 : decode cX9_carryOut 137 = .ok (.aload_n 0, 1) := by decide +kernel
theorem dX9_carryOut_138 : decode cX9_carryOut 138 = .ok (.dup, 1) := by decide +kernel
theorem dX9_carryOut_139 : decode cX9_carryOut 139 = .ok (.getfield 22, 3) := by decide +kernel
theorem dX9_carryOut_142 : decode cX9_carryOut 142 = .ok (.iconst 1, 1) := by decide +kernel
theorem dX9_carryOut_143 : decode cX9_carryOut 143 = .ok (.iadd, 1) := by decide +kernel
theorem dX9_carryOut_144 : decode cX9_carryOut 144 = .ok (.putfield 22, 3) := by decide +kernel
theorem dX9_carryOut_147 : decode cX9_carryOut 147 = .ok (.goto 13, 3) := by decide +kernel
theorem dX9_carryOut_150 : decode cX9_carryOut 150 = .ok (.aload_n 0, 1) := by decide +kernel
theorem dX9_carryOut_151 : decode cX9_carryOut 151 = .ok (.dup, 1) := by decide +kernel
theorem dX9_carryOut_152 : decode cX9_carryOut 152 = .ok (.getfield 25, 3) := by decide +kernel
theorem dX9_carryOut_155 : decode cX9_carryOut 155 = .ok (.iconst 1, 1) := by decide +kernel
theorem dX9_carryOut_156 : decode cX9_carryOut 156 = .ok (.iadd, 1) := by decide +kernel
theorem dX9_carryOut_157 : decode cX9_carryOut 157 = .ok (.putfield 25, 3) := by decide +kernel
theorem dX9_carryOut_160 : decode cX9_carryOut 160 = .ok (.iload 7, 2) := by decide +kernel
theorem dX9_carryOut_162 : decode cX9_carryOut 162 = .ok (.istore 6, 2) := by decide +kernel
theorem dX9_carryOut_164 : decode cX9_carryOut 164 = .ok (.goto (-161), 3) := by decide +kernel
theorem dX9_carryOut_167 : decode cX9_carryOut 167 = .ok (.return_, 1) := by decide +kernel
theorem dX9_isDone_0 : decode cX9_isDone 0 = .ok (.aload_n 0, 1) := by decide +kernel
theorem dX9_isDone_1 : decode cX9_isDone 1 = .ok (.iload_n 3, 1) := by decide +kernel
theorem dX9_isDone_2 : decode cX9_isDone 2 = .ok (.iconst 1, 1) := by decide +kernel
theorem dX9_isDone_3 : decode cX9_isDone 3 = .ok (.invokevirtual 104, 3) := by decide +kernel
theorem dX9_isDone_6 : decode cX9_isDone 6 = .ok (.istore 4, 2) := by decide +kernel
theorem dX9_isDone_8 : decode cX9_isDone 8 = .ok (.aload_n 0, 1) := by decide +kernel
theorem dX9_isDone_9 : decode cX9_isDone 9 = .ok (.iload_n 3, 1) := by decide +kernel
theorem dX9_isDone_10 : decode cX9_isDone 10 = .ok (.iconst 0, 1) := by decide +kernel
theorem dX9_isDone_11 : decode cX9_isDone 11 = .ok (.invokevirtual 104, 3) := by decide +kernel
theorem dX9_isDone_14 : decode cX9_isDone 14 = .ok (.tableswitch 98 0 4 #[34, 60, 68, 82, 90], 34) := by decide +kernel
theorem dX9_isDone_48 : decode cX9_isDone 48 = .ok (.aload_n 1, 1) := by decide +kernel
theorem dX9_isDone_49 : decode cX9_isDone 49 = .ok (.aload_n 2, 1) := by decide +kernel
theorem dX9_isDone_50 : decode cX9_isDone 50 = .ok (.iload 4, 2) := by decide +kernel
theorem dX9_isDone_52 : decode cX9_isDone 52 = .ok (.aload_n 0, 1) := by decide +kernel
theorem dX9_isDone_53 : decode cX9_isDone 53 = .ok (.iload_n 3, 1) := by decide +kernel
theorem dX9_isDone_54 : decode cX9_isDone 54 = .ok (.iconst 2, 1) := by decide +kernel
theorem dX9_isDone_55 : decode cX9_isDone 55 = .ok (.invokevirtual 104, 3) := by decide +kernel
theorem dX9_isDone_58 : decode cX9_isDone 58 = .ok (.aload_n 0, 1) := by decide +kernel
theorem dX9_isDone_59 : decode cX9_isDone 59 = .ok (.iload_n 3, 1) := by decide +kernel
theorem dX9_isDone_60 : decode cX9_isDone 60 = .ok (.iconst 3, 1) := by decide +kernel
theorem dX9_isDone_61 : decode cX9_isDone 61 = .ok (.invokevirtual 104, 3) := by decide +kernel
theorem dX9_isDone_64 : decode cX9_isDone 64 = .ok (.aload_n 0, 1) := by decide +kernel
theorem dX9_isDone_65 : decode cX9_isDone 65 = .ok (.iload_n 3, 1) := by decide +kernel
theorem dX9_isDone_66 : decode cX9_isDone 66 = .ok (.iconst 4, 1) := by decide +kernel
theorem dX9_isDone_67 : decode cX9_isDone 67 = .ok (.invokevirtual 104, 3) := by decide +kernel
theorem dX9_isDone_70 : decode cX9_isDone 70 = .ok (.invokevirtual 120, 3) := by decide +kernel
theorem dX9_isDone_73 : decode cX9_isDone 73 = .ok (.ireturn, 1) := by decide +kernel
theorem dX9_isDone_74 : decode cX9_isDone 74 = .ok (.aload_n 1, 1) := by decide +kernel
theorem dX9_isDone_75 : decode cX9_isDone 75 = .ok (.aload_n 2, 1) := by decide +kernel
theorem dX9_isDone_76 : decode cX9_isDone 76 = .ok (.iload 4, 2) := by decide +kernel
theorem dX9_isDone_78 : decode cX9_isDone 78 = .ok (.invokevirtual 125, 3) := by decide +kernel
theorem dX9_isDone_81 : decode cX9_isDone 81 = .ok (.ireturn, 1) := by decide +kernel
theorem dX9_isDone_82 : decode cX9_isDone 82 = .ok (.aload_n 1, 1) := by decide +kernel
theorem dX9_isDone_83 : decode cX9_isDone 83 = .ok (.aload_n 2, 1) := by decide +kernel
theorem dX9_isDone_84 : decode cX9_isDone 84 = .ok (.iload 4, 2) := by decide +kernel
theorem dX9_isDone_86 : decode cX9_isDone 86 = .ok (.aload_n 0, 1) := by decide +kernel
theorem dX9_isDone_87 : decode cX9_isDone 87 = .ok (.iload_n 3, 1) := by decide +kernel
theorem dX9_isDone_88 : decode cX9_isDone 88 = .ok (.iconst 2, 1) := by decide +kernel
theorem dX9_isDone_89 : decode cX9_isDone 89 = .ok (.invokevirtual 104, 3) := by decide +kernel
theorem dX9_isDone_92 : decode cX9_isDone 92 = .ok (.invokevirtual 128, 3) := by decide +kernel
theorem dX9_isDone_95 : decode cX9_isDone 95 = .ok (.ireturn, 1) := by decide +kernel
theorem dX9_isDone_96 : decode cX9_isDone 96 = .ok (.aload_n 1, 1) := by decide +kernel
theorem dX9_isDone_97 : decode cX9_isDone 97 = .ok (.aload_n 2, 1) := by decide +kernel
theorem dX9_isDone_98 : decode cX9_isDone 98 = .ok (.iload 4, 2) := by decide +kernel
theorem dX9_isDone_100 : decode cX9_isDone 100 = .ok (.invokevirtual 131, 3) := by decide +kernel
theorem dX9_isDone_103 : decode cX9_isDone 103 = .ok (.ireturn, 1) := by decide +kernel
theorem dX9_isDone_104 : decode cX9_isDone 104 = .ok (.aload_n 1, 1) := by decide +kernel
theorem dX9_isDone_105 : decode cX9_isDone 105 = .ok (.aload_n 2, 1) := by decide +kernel
theorem dX9_isDone_106 : decode cX9_isDone 106 = .ok (.iload 4, 2) := by decide +kernel
theorem dX9_isDone_108 : decode cX9_isDone 108 = .ok (.invokevirtual 133, 3) := by decide +kernel
theorem dX9_isDone_111 : decode cX9_isDone 111 = .ok (.ireturn, 1) := by decide +kernel
theorem dX9_isDone_112 : decode cX9_isDone 112 = .ok (.aload_n 1, 1) := by decide +kernel
theorem dX9_isDone_113 : decode cX9_isDone 113 = .ok (.aload_n 2, 1) := by decide +kernel
theorem dX9_isDone_114 : decode cX9_isDone 114 = .ok (.invokevirtual 135, 3) := by decide +kernel
theorem dX9_isDone_117 : decode cX9_isDone 117 = .ok (.ireturn, 1) := by decide +kernel
