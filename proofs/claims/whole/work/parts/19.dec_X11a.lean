theorem dX11_thrown_0 : decode cX11_thrown 0 = .ok (.aload_n 0, 1) := by decide +kernel
theorem dX11_thrown_1 : decode cX11_thrown 1 = .ok (.getfield 3, 3) := by decide +kernel
theorem dX11_thrown_4 : decode cX11_thrown 4 = .ok (.ireturn, 1) := by decide +kernel
theorem dX11_may_0 : decode cX11_may 0 = .ok (.iload_n 1, 1) := by decide +kernel
theorem dX11_may_1 : decode cX11_may 1 = .ok (.ifCond .ne 25, 3) := by decide +kernel
theorem dX11_may_4 : decode cX11_may 4 = .ok (.aload_n 0, 1) := by decide +kernel
theorem dX11_may_5 : decode cX11_may 5 = .ok (.getfield 3, 3) := by decide +kernel
theorem dX11_may_8 : decode cX11_may 8 = .ok (.ifCond .ne 18, 3) := by decide +kernel
theorem dX11_may_11 : decode cX11_may 11 = .ok (.aload_n 0, 1) := by decide +kernel
theorem dX11_may_12 : decode cX11_may 12 = .ok (.iload_n 2, 1) := by decide +kernel
theorem dX11_may_13 : decode cX11_may 13 = .ok (.putfield 3, 3) := by decide +kernel
theorem dX11_may_16 : decode cX11_may 16 = .ok (.aload_n 0, 1) := by decide +kernel
theorem dX11_may_17 : decode cX11_may 17 = .ok (.getfield 7, 3) := by decide +kernel
theorem dX11_may_20 : decode cX11_may 20 = .ok (.iload_n 3, 1) := by decide +kernel
theorem dX11_may_21 : decode cX11_may 21 = .ok (.dup2, 1) := by decide +kernel
theorem dX11_may_22 : decode cX11_may 22 = .ok (.iaload, 1) := by decide +kernel
theorem dX11_may_23 : decode cX11_may 23 = .ok (.iconst 1, 1) := by decide +kernel
theorem dX11_may_24 : decode cX11_may 24 = .ok (.iadd, 1) := by decide +kernel
theorem dX11_may_25 : decode cX11_may 25 = .ok (.iastore, 1) := by decide +kernel
theorem dX11_may_26 : decode cX11_may 26 = .ok (.aload_n 0, 1) := by decide +kernel
theorem dX11_may_27 : decode cX11_may 27 = .ok (.getfield 3, 3) := by decide +kernel
theorem dX11_may_30 : decode cX11_may 30 = .ok (.ifCond .ne 7, 3) := by decide +kernel
theorem dX11_may_33 : decode cX11_may 33 = .ok (.iconst 1, 1) := by decide +kernel
theorem dX11_may_34 : decode cX11_may 34 = .ok (.goto 4, 3) := by decide +kernel
theorem dX11_may_37 : decode cX11_may 37 = .ok (.iconst 0, 1) := by decide +kernel
theorem dX11_may_38 : decode cX11_may 38 = .ok (.ireturn, 1) := by decide +kernel
theorem dX11_within_0 : decode cX11_within 0 = .ok (.iload_n 0, 1) := by decide +kernel
theorem dX11_within_1 : decode cX11_within 1 = .ok (.iload_n 1, 1) := by decide +kernel
theorem dX11_within_2 : decode cX11_within 2 = .ok (.if_icmp .lt 12, 3) := by decide +kernel
theorem dX11_within_5 : decode cX11_within 5 = .ok (.iload_n 0, 1) := by decide +kernel
theorem dX11_within_6 : decode cX11_within 6 = .ok (.iload_n 2, 1) := by decide +kernel
theorem dX11_within_7 : decode cX11_within 7 = .ok (.if_icmp .gt 7, 3) := by decide +kernel
theorem dX11_within_10 : decode cX11_within 10 = .ok (.iconst 1, 1) := by decide +kernel
theorem dX11_within_11 : decode cX11_within 11 = .ok (.goto 4, 3) := by decide +kernel
theorem dX11_within_14 : decode cX11_within 14 = .ok (.iconst 0, 1) := by decide +kernel
theorem dX11_within_15 : decode cX11_within 15 = .ok (.ireturn, 1) := by decide +kernel
theorem dX11_init_0 : decode cX11_init 0 = .ok (.aload_n 0, 1) := by decide +kernel
theorem dX11_init_1 : decode cX11_init 1 = .ok (.invokespecial 11, 3) := by decide +kernel
theorem dX11_init_4 : decode cX11_init 4 = .ok (.aload_n 0, 1) := by decide +kernel
theorem dX11_init_5 : decode cX11_init 5 = .ok (.iconst 2, 1) := by decide +kernel
theorem dX11_init_6 : decode cX11_init 6 = .ok (.newarray .int, 2) := by decide +kernel
theorem dX11_init_8 : decode cX11_init 8 = .ok (.putfield 7, 3) := by decide +kernel
theorem dX11_init_11 : decode cX11_init 11 = .ok (.aload_n 0, 1) := by decide +kernel
theorem dX11_init_12 : decode cX11_init 12 = .ok (.iconst (-1), 1) := by decide +kernel
theorem dX11_init_13 : decode cX11_init 13 = .ok (.putfield 17, 3) := by decide +kernel
theorem dX11_init_16 : decode cX11_init 16 = .ok (.aload_n 0, 1) := by decide +kernel
theorem dX11_init_17 : decode cX11_init 17 = .ok (.sipush 600, 3) := by decide +kernel
theorem dX11_init_20 : decode cX11_init 20 = .ok (.newarray .int, 2) := by decide +kernel
theorem dX11_init_22 : decode cX11_init 22 = .ok (.putfield 20, 3) := by decide +kernel
theorem dX11_init_25 : decode cX11_init 25 = .ok (.aload_n 0, 1) := by decide +kernel
theorem dX11_init_26 : decode cX11_init 26 = .ok (.bipush 16, 2) := by decide +kernel
theorem dX11_init_28 : decode cX11_init 28 = .ok (.newarray .int, 2) := by decide +kernel
theorem dX11_init_30 : decode cX11_init 30 = .ok (.putfield 23, 3) := by decide +kernel
theorem dX11_init_33 : decode cX11_init 33 = .ok (.aload_n 0, 1) := by decide +kernel
theorem dX11_init_34 : decode cX11_init 34 = .ok (.bipush 12, 2) := by decide +kernel
theorem dX11_init_36 : decode cX11_init 36 = .ok (.newarray .int, 2) := by decide +kernel
theorem dX11_init_38 : decode cX11_init 38 = .ok (.putfield 26, 3) := by decide +kernel
theorem dX11_init_41 : decode cX11_init 41 = .ok (.aload_n 0, 1) := by decide +kernel
theorem dX11_init_42 : decode cX11_init 42 = .ok (.bipush 6, 2) := by decide +kernel
theorem dX11_init_44 : decode cX11_init 44 = .ok (.newarray .int, 2) := by decide +kernel
theorem dX11_init_46 : decode cX11_init 46 = .ok (.putfield 29, 3) := by decide +kernel
theorem dX11_init_49 : decode cX11_init 49 = .ok (.aload_n 0, 1) := by decide +kernel
theorem dX11_init_50 : decode cX11_init 50 = .ok (.bipush 16, 2) := by decide +kernel
theorem dX11_init_52 : decode cX11_init 52 = .ok (.newarray .int, 2) := by decide +kernel
theorem dX11_init_54 : decode cX11_init 54 = .ok (.putfield 32, 3) := by decide +kernel
theorem dX11_init_57 : decode cX11_init 57 = .ok (.aload_n 0, 1) := by decide +kernel
theorem dX11_init_58 : decode cX11_init 58 = .ok (.bipush 12, 2) := by decide +kernel
theorem dX11_init_60 : decode cX11_init 60 = .ok (.newarray .int, 2) := by decide +kernel
theorem dX11_init_62 : decode cX11_init 62 = .ok (.putfield 35, 3) := by decide +kernel
theorem dX11_init_65 : decode cX11_init 65 = .ok (.aload_n 0, 1) := by decide +kernel
theorem dX11_init_66 : decode cX11_init 66 = .ok (.bipush 6, 2) := by decide +kernel
theorem dX11_init_68 : decode cX11_init 68 = .ok (.newarray .int, 2) := by decide +kernel
theorem dX11_init_70 : decode cX11_init 70 = .ok (.putfield 38, 3) := by decide +kernel
theorem dX11_init_73 : decode cX11_init 73 = .ok (.aload_n 0, 1) := by decide +kernel
theorem dX11_init_74 : decode cX11_init 74 = .ok (.sipush 150, 3) := by decide +kernel
theorem dX11_init_77 : decode cX11_init 77 = .ok (.newarray .int, 2) := by decide +kernel
theorem dX11_init_79 : decode cX11_init 79 = .ok (.putfield 41, 3) := by decide +kernel
theorem dX11_init_82 : decode cX11_init 82 = .ok (.aload_n 0, 1) := by decide +kernel
theorem dX11_init_83 : decode cX11_init 83 = .ok (.sipush 150, 3) := by decide +kernel
theorem dX11_init_86 : decode cX11_init 86 = .ok (.newarray .int, 2) := by decide +kernel
theorem dX11_init_88 : decode cX11_init 88 = .ok (.putfield 44, 3) := by decide +kernel
theorem dX11_init_91 : decode cX11_init 91 = .ok (.aload_n 0, 1) := by decide +kernel
theorem dX11_init_92 : decode cX11_init 92 = .ok (.sipush 150, 3) := by decide +kernel
theorem dX11_init_95 : decode cX11_init 95 = .ok (.newarray .int, 2) := by decide +kernel
theorem dX11_init_97 : decode cX11_init 97 = .ok (.putfield 47, 3) := by decide +kernel
theorem dX11_init_100 : decode cX11_init 100 = .ok (.aload_n 0, 1) := by decide +kernel
theorem dX11_init_101 : decode cX11_init 101 = .ok (.sipush 150, 3) := by decide +kernel
theorem dX11_init_104 : decode cX11_init 104 = .ok (.newarray .int, 2) := by decide +kernel
theorem dX11_init_106 : decode cX11_init 106 = .ok (.putfield 50, 3) := by decide +kernel
theorem dX11_init_109 : decode cX11_init 109 = .ok (.aload_n 0, 1) := by decide +kernel
theorem dX11_init_110 : decode cX11_init 110 = .ok (.sipush 150, 3) := by decide +kernel
theorem dX11_init_113 : decode cX11_init 113 = .ok (.newarray .int, 2) := by decide +kernel
theorem dX11_init_115 : decode cX11_init 115 = .ok (.putfield 53, 3) := by decide +kernel
theorem dX11_init_118 : decode cX11_init 118 = .ok (.aload_n 0, 1) := by decide +kernel
theorem dX11_init_119 : decode cX11_init 119 = .ok (.bipush 8, 2) := by decide +kernel
theorem dX11_init_121 : decode cX11_init 121 = .ok (.newarray .int, 2) := by decide +kernel
theorem dX11_init_123 : decode cX11_init 123 = .ok (.putfield 56, 3) := by decide +kernel
theorem dX11_init_126 : decode cX11_init 126 = .ok (.aload_n 0, 1) := by decide +kernel
theorem dX11_init_127 : decode cX11_init 127 = .ok (.sipush 250, 3) := by decide +kernel
theorem dX11_init_130 : decode cX11_init 130 = .ok (.newarray .int, 2) := by decide +kernel
theorem dX11_init_132 : decode cX11_init 132 = .ok (.putfield 59, 3) := by decide +kernel
theorem dX11_init_135 : decode cX11_init 135 = .ok (.aload_n 0, 1) := by decide +kernel
theorem dX11_init_136 : decode cX11_init 136 = .ok (.sipush 250, 3) := by decide +kernel
theorem dX11_init_139 : decode cX11_init 139 = .ok (.newarray .int, 2) := by decide +kernel
theorem dX11_init_141 : decode cX11_init 141 = .ok (.putfield 62, 3) := by decide +kernel
theorem dX11_init_144 : decode cX11_init 144 = .ok (.aload_n 0, 1) := by decide +kernel
theorem dX11_init_145 : decode cX11_init 145 = .ok (.bipush 91, 2) := by decide +kernel
theorem dX11_init_147 : decode cX11_init 147 = .ok (.newarray .int, 2) := by decide +kernel
theorem dX11_init_149 : decode cX11_init 149 = .ok (.putfield 65, 3) := by decide +kernel
theorem dX11_init_152 : decode cX11_init 152 = .ok (.aload_n 0, 1) := by decide +kernel
theorem dX11_init_153 : decode cX11_init 153 = .ok (.bipush 91, 2) := by decide +kernel
theorem dX11_init_155 : decode cX11_init 155 = .ok (.newarray .int, 2) := by decide +kernel
theorem dX11_init_157 : decode cX11_init 157 = .ok (.putfield 68, 3) := by decide +kernel
theorem dX11_init_160 : decode cX11_init 160 = .ok (.aload_n 0, 1) := by decide +kernel
theorem dX11_init_161 : decode cX11_init 161 = .ok (.sipush 1456, 3) := by decide +kernel
theorem dX11_init_164 : decode cX11_init 164 = .ok (.newarray .int, 2) := by decide +kernel
theorem dX11_init_166 : decode cX11_init 166 = .ok (.putfield 71, 3) := by decide +kernel
theorem dX11_init_169 : decode cX11_init 169 = .ok (.aload_n 0, 1) := by decide +kernel
theorem dX11_init_170 : decode cX11_init 170 = .ok (.bipush 18, 2) := by decide +kernel
theorem dX11_init_172 : decode cX11_init 172 = .ok (.newarray .int, 2) := by decide +kernel
theorem dX11_init_174 : decode cX11_init 174 = .ok (.putfield 74, 3) := by decide +kernel
theorem dX11_init_177 : decode cX11_init 177 = .ok (.aload_n 0, 1) := by decide +kernel
theorem dX11_init_178 : decode cX11_init 178 = .ok (.bipush 18, 2) := by decide +kernel
theorem dX11_init_180 : decode cX11_init 180 = .ok (.newarray .int, 2) := by decide +kernel
theorem dX11_init_182 : decode cX11_init 182 = .ok (.putfield 77, 3) := by decide +kernel
theorem dX11_init_185 : decode cX11_init 185 = .ok (.aload_n 0, 1) := by decide +kernel
theorem dX11_init_186 : decode cX11_init 186 = .ok (.bipush 8, 2) := by decide +kernel
theorem dX11_init_188 : decode cX11_init 188 = .ok (.newarray .int, 2) := by decide +kernel
theorem dX11_init_190 : decode cX11_init 190 = .ok (.putfield 80, 3) := by decide +kernel
theorem dX11_init_193 : decode cX11_init 193 = .ok (.aload_n 0, 1) := by decide +kernel
theorem dX11_init_194 : decode cX11_init 194 = .ok (.bipush 6, 2) := by decide +kernel
theorem dX11_init_196 : decode cX11_init 196 = .ok (.newarray .int, 2) := by decide +kernel
theorem dX11_init_198 : decode cX11_init 198 = .ok (.putfield 83, 3) := by decide +kernel
theorem dX11_init_201 : decode cX11_init 201 = .ok (.aload_n 0, 1) := by decide +kernel
theorem dX11_init_202 : decode cX11_init 202 = .ok (.bipush 6, 2) := by decide +kernel
theorem dX11_init_204 : decode cX11_init 204 = .ok (.newarray .int, 2) := by decide +kernel
theorem dX11_init_206 : decode cX11_init 206 = .ok (.putfield 86, 3) := by decide +kernel
theorem dX11_init_209 : decode cX11_init 209 = .ok (.aload_n 0, 1) := by decide +kernel
theorem dX11_init_210 : decode cX11_init 210 = .ok (.bipush 14, 2) := by decide +kernel
theorem dX11_init_212 : decode cX11_init 212 = .ok (.newarray .long, 2) := by decide +kernel
theorem dX11_init_214 : decode cX11_init 214 = .ok (.putfield 89, 3) := by decide +kernel
theorem dX11_init_217 : decode cX11_init 217 = .ok (.aload_n 0, 1) := by decide +kernel
theorem dX11_init_218 : decode cX11_init 218 = .ok (.sipush 4644, 3) := by decide +kernel
theorem dX11_init_221 : decode cX11_init 221 = .ok (.newarray .int, 2) := by decide +kernel
theorem dX11_init_223 : decode cX11_init 223 = .ok (.putfield 93, 3) := by decide +kernel
theorem dX11_init_226 : decode cX11_init 226 = .ok (.aload_n 0, 1) := by decide +kernel
theorem dX11_init_227 : decode cX11_init 227 = .ok (.invokevirtual 96, 3) := by decide +kernel
theorem dX11_init_230 : decode cX11_init 230 = .ok (.aload_n 0, 1) := by decide +kernel
theorem dX11_init_231 : decode cX11_init 231 = .ok (.invokevirtual 99, 3) := by decide +kernel
theorem dX11_init_234 : decode cX11_init 234 = .ok (.return_, 1) := by decide +kernel
theorem dX11_feed_0 : decode cX11_feed 0 = .ok (.aload_n 0, 1) := by decide +kernel
theorem dX11_feed_1 : decode cX11_feed 1 = .ok (.iconst 0, 1) := by decide +kernel
theorem dX11_feed_2 : decode cX11_feed 2 = .ok (.putfield 3, 3) := by decide +kernel
theorem dX11_feed_5 : decode cX11_feed 5 = .ok (.aload_n 0, 1) := by decide +kernel
theorem dX11_feed_6 : decode cX11_feed 6 = .ok (.getfield 102, 3) := by decide +kernel
theorem dX11_feed_9 : decode cX11_feed 9 = .ok (.bipush 20, 2) := by decide +kernel
theorem dX11_feed_11 : decode cX11_feed 11 = .ok (.iadd, 1) := by decide +kernel
theorem dX11_feed_12 : decode cX11_feed 12 = .ok (.sipush 600, 3) := by decide +kernel
theorem dX11_feed_15 : decode cX11_feed 15 = .ok (.if_icmp .le 5, 3) := by decide +kernel
theorem dX11_feed_18 : decode cX11_feed 18 = .ok (.iconst (-1), 1) := by decide +kernel
theorem dX11_feed_19 : decode cX11_feed 19 = .ok (.ireturn, 1) := by decide +kernel
theorem dX11_feed_20 : decode cX11_feed 20 = .ok (.iconst 0, 1) := by decide +kernel
theorem dX11_feed_21 : decode cX11_feed 21 = .ok (.istore 6, 2) := by decide +kernel
theorem dX11_feed_23 : decode cX11_feed 23 = .ok (.iload 6, 2) := by decide +kernel
theorem dX11_feed_25 : decode cX11_feed 25 = .ok (.bipush 20, 2) := by decide +kernel
theorem dX11_feed_27 : decode cX11_feed 27 = .ok (.if_icmp .ge 93, 3) := by decide +kernel
theorem dX11_feed_30 : decode cX11_feed 30 = .ok (.iload 6, 2) := by decide +kernel
theorem dX11_feed_32 : decode cX11_feed 32 = .ok (.iconst 4, 1) := by decide +kernel
theorem dX11_feed_33 : decode cX11_feed 33 = .ok (.if_icmp .ge 7, 3) := by decide +kernel
theorem dX11_feed_36 : decode cX11_feed 36 = .ok (.iload_n 1, 1) := by decide +kernel
theorem dX11_feed_37 : decode cX11_feed 37 = .ok (.goto 39, 3) := by decide +kernel
theorem dX11_feed_40 : decode cX11_feed 40 = .ok (.iload 6, 2) := by decide +kernel
theorem dX11_feed_42 : decode cX11_feed 42 = .ok (.bipush 8, 2) := by decide +kernel
theorem dX11_feed_44 : decode cX11_feed 44 = .ok (.if_icmp .ge 7, 3) := by decide +kernel
theorem dX11_feed_47 : decode cX11_feed 47 = .ok (.iload_n 2, 1) := by decide +kernel
theorem dX11_feed_48 : decode cX11_feed 48 = .ok (.goto 28, 3) := by decide +kernel
theorem dX11_feed_51 : decode cX11_feed 51 = .ok (.iload 6, 2) := by decide +kernel
theorem dX11_feed_53 : decode cX11_feed 53 = .ok (.bipush 12, 2) := by decide +kernel
theorem dX11_feed_55 : decode cX11_feed 55 = .ok (.if_icmp .ge 7, 3) := by decide +kernel
theorem dX11_feed_58 : decode cX11_feed 58 = .ok (.iload_n 3, 1) := by decide +kernel
theorem dX11_feed_59 : decode cX11_feed 59 = .ok (.goto 17, 3) := by decide +kernel
theorem dX11_feed_62 : decode cX11_feed 62 = .ok (.iload 6, 2) := by decide +kernel
theorem dX11_feed_64 : decode cX11_feed 64 = .ok (.bipush 16, 2) := by decide +kernel
theorem dX11_feed_66 : decode cX11_feed 66 = .ok (.if_icmp .ge 8, 3) := by decide +kernel
theorem dX11_feed_69 : decode cX11_feed 69 = .ok (.iload 4, 2) := by decide +kernel
theorem dX11_feed_71 : decode cX11_feed 71 = .ok (.goto 5, 3) := by decide +kernel
theorem dX11_feed_74 : decode cX11_feed 74 = .ok (.iload 5, 2) := by decide +kernel
theorem dX11_feed_76 : decode cX11_feed 76 = .ok (.istore 7, 2) := by decide +kernel
theorem dX11_feed_78 : decode cX11_feed 78 = .ok (.aload_n 0, 1) := by decide +kernel
theorem dX11_feed_79 : decode cX11_feed 79 = .ok (.getfield 20, 3) := by decide +kernel
theorem dX11_feed_82 : decode cX11_feed 82 = .ok (.aload_n 0, 1) := by decide +kernel
theorem dX11_feed_83 : decode cX11_feed 83 = .ok (.getfield 102, 3) := by decide +kernel
theorem dX11_feed_86 : decode cX11_feed 86 = .ok (.iload 7, 2) := by decide +kernel
theorem dX11_feed_88 : decode cX11_feed 88 = .ok (.bipush 24, 2) := by decide +kernel
theorem dX11_feed_90 : decode cX11_feed 90 = .ok (.bipush 8, 2) := by decide +kernel
theorem dX11_feed_92 : decode cX11_feed 92 = .ok (.iload 6, 2) := by decide +kernel
theorem dX11_feed_94 : decode cX11_feed 94 = .ok (.iconst 4, 1) := by decide +kernel
theorem dX11_feed_95 : decode cX11_feed 95 = .ok (.irem, 1) := by decide +kernel
theorem dX11_feed_96 : decode cX11_feed 96 = .ok (.imul, 1) := by decide +kernel
theorem dX11_feed_97 : decode cX11_feed 97 = .ok (.isub, 1) := by decide +kernel
theorem dX11_feed_98 : decode cX11_feed 98 = .ok (.ishr, 1) := by decide +kernel
theorem dX11_feed_99 : decode cX11_feed 99 = .ok (.sipush 255, 3) := by decide +kernel
theorem dX11_feed_102 : decode cX11_feed 102 = .ok (.iand, 1) := by decide +kernel
theorem dX11_feed_103 : decode cX11_feed 103 = .ok (.iastore, 1) := by decide +kernel
theorem dX11_feed_104 : decode cX11_feed 104 = .ok (.aload_n 0, 1) := by decide +kernel
theorem dX11_feed_105 : decode cX11_feed 105 = .ok (.dup, 1) := by decide +kernel
theorem dX11_feed_106 : decode cX11_feed 106 = .ok (.getfield 102, 3) := by decide +kernel
theorem dX11_feed_109 : decode cX11_feed 109 = .ok (.iconst 1, 1) := by decide +kernel
theorem dX11_feed_110 : decode cX11_feed 110 = .ok (.iadd, 1) := by decide +kernel
theorem dX11_feed_111 : decode cX11_feed 111 = .ok (.putfield 102, 3) := by decide +kernel
theorem dX11_feed_114 : decode cX11_feed 114 = .ok (.iinc 6 1, 3) := by decide +kernel
theorem dX11_feed_117 : decode cX11_feed 117 = .ok (.goto (-94), 3) := by decide +kernel
theorem dX11_feed_120 : decode cX11_feed 120 = .ok (.aload_n 0, 1) := by decide +kernel
theorem dX11_feed_121 : decode cX11_feed 121 = .ok (.getfield 102, 3) := by decide +kernel
theorem dX11_feed_124 : decode cX11_feed 124 = .ok (.ireturn, 1) := by decide +kernel
theorem dX11_fine_0 : decode cX11_fine 0 = .ok (.aload_n 0, 1) := by decide +kernel
theorem dX11_fine_1 : decode cX11_fine 1 = .ok (.getfield 105, 3) := by decide +kernel
theorem dX11_fine_4 : decode cX11_fine 4 = .ok (.iconst (-1), 1) := by decide +kernel
theorem dX11_fine_5 : decode cX11_fine 5 = .ok (.if_icmp .ne 7, 3) := by decide +kernel
theorem dX11_fine_8 : decode cX11_fine 8 = .ok (.iconst 1, 1) := by decide +kernel
theorem dX11_fine_9 : decode cX11_fine 9 = .ok (.goto 4, 3) := by decide +kernel
theorem dX11_fine_12 : decode cX11_fine 12 = .ok (.iconst 0, 1) := by decide +kernel
theorem dX11_fine_13 : decode cX11_fine 13 = .ok (.ireturn, 1) := by decide +kernel
theorem dX11_wrong_0 : decode cX11_wrong 0 = .ok (.aload_n 0, 1) := by decide +kernel
theorem dX11_wrong_1 : decode cX11_wrong 1 = .ok (.getfield 105, 3) := by decide +kernel
theorem dX11_wrong_4 : decode cX11_wrong 4 = .ok (.iconst (-1), 1) := by decide +kernel
theorem dX11_wrong_5 : decode cX11_wrong 5 = .ok (.if_icmp .eq 4, 3) := by decide +kernel
theorem dX11_wrong_8 : decode cX11_wrong 8 = .ok (.return_, 1) := by decide +kernel
theorem dX11_wrong_9 : decode cX11_wrong 9 = .ok (.aload_n 0, 1) := by decide +kernel
theorem dX11_wrong_10 : decode cX11_wrong 10 = .ok (.iload_n 2, 1) := by decide +kernel
theorem dX11_wrong_11 : decode cX11_wrong 11 = .ok (.putfield 105, 3) := by decide +kernel
theorem dX11_wrong_14 : decode cX11_wrong 14 = .ok (.aload_n 0, 1) := by decide +kernel
theorem dX11_wrong_15 : decode cX11_wrong 15 = .ok (.iload_n 1, 1) := by decide +kernel
theorem dX11_wrong_16 : decode cX11_wrong 16 = .ok (.putfield 108, 3) := by decide +kernel
theorem dX11_wrong_19 : decode cX11_wrong 19 = .ok (.return_, 1) := by decide +kernel
theorem dX11_here_0 : decode cX11_here 0 = .ok (.aload_n 0, 1) := by decide +kernel
theorem dX11_here_1 : decode cX11_here 1 = .ok (.getfield 111, 3) := by decide +kernel
theorem dX11_here_4 : decode cX11_here 4 = .ok (.aload_n 0, 1) := by decide +kernel
theorem dX11_here_5 : decode cX11_here 5 = .ok (.getfield 114, 3) := by decide +kernel
theorem dX11_here_8 : decode cX11_here 8 = .ok (.if_icmp .ge 30, 3) := by decide +kernel
theorem dX11_here_11 : decode cX11_here 11 = .ok (.aload_n 0, 1) := by decide +kernel
theorem dX11_here_12 : decode cX11_here 12 = .ok (.getfield 20, 3) := by decide +kernel
theorem dX11_here_15 : decode cX11_here 15 = .ok (.aload_n 0, 1) := by decide +kernel
theorem dX11_here_16 : decode cX11_here 16 = .ok (.getfield 111, 3) := by decide +kernel
theorem dX11_here_19 : decode cX11_here 19 = .ok (.iaload, 1) := by decide +kernel
theorem dX11_here_20 : decode cX11_here 20 = .ok (.bipush 32, 2) := by decide +kernel
theorem dX11_here_22 : decode cX11_here 22 = .ok (.if_icmp .ne 16, 3) := by decide +kernel
theorem dX11_here_25 : decode cX11_here 25 = .ok (.aload_n 0, 1) := by decide +kernel
theorem dX11_here_26 : decode cX11_here 26 = .ok (.dup, 1) := by decide +kernel
theorem dX11_here_27 : decode cX11_here 27 = .ok (.getfield 111, 3) := by decide +kernel
theorem dX11_here_30 : decode cX11_here 30 = .ok (.iconst 1, 1) := by decide +kernel
theorem dX11_here_31 : decode cX11_here 31 = .ok (.iadd, 1) := by decide +kernel
theorem dX11_here_32 : decode cX11_here 32 = .ok (.putfield 111, 3) := by decide +kernel
theorem dX11_here_35 : decode cX11_here 35 = .ok (.goto (-35), 3) := by decide +kernel
theorem dX11_here_38 : decode cX11_here 38 = .ok (.aload_n 0, 1) := by decide +kernel
theorem dX11_here_39 : decode cX11_here 39 = .ok (.getfield 111, 3) := by decide +kernel
theorem dX11_here_42 : decode cX11_here 42 = .ok (.aload_n 0, 1) := by decide +kernel
theorem dX11_here_43 : decode cX11_here 43 = .ok (.getfield 114, 3) := by decide +kernel
theorem dX11_here_46 : decode cX11_here 46 = .ok (.if_icmp .ge 15, 3) := by decide +kernel
theorem dX11_here_49 : decode cX11_here 49 = .ok (.aload_n 0, 1) := by decide +kernel
theorem dX11_here_50 : decode cX11_here 50 = .ok (.getfield 20, 3) := by decide +kernel
theorem dX11_here_53 : decode cX11_here 53 = .ok (.aload_n 0, 1) := by decide +kernel
theorem dX11_here_54 : decode cX11_here 54 = .ok (.getfield 111, 3) := by decide +kernel
theorem dX11_here_57 : decode cX11_here 57 = .ok (.iaload, 1) := by decide +kernel
theorem dX11_here_58 : decode cX11_here 58 = .ok (.goto 4, 3) := by decide +kernel
theorem dX11_here_61 : decode cX11_here 61 = .ok (.iconst 0, 1) := by decide +kernel
theorem dX11_here_62 : decode cX11_here 62 = .ok (.ireturn, 1) := by decide +kernel
theorem dX11_isSmall_0 : decode cX11_isSmall 0 = .ok (.iload_n 0, 1) := by decide +kernel
theorem dX11_isSmall_1 : decode cX11_isSmall 1 = .ok (.bipush 97, 2) := by decide +kernel
theorem dX11_isSmall_3 : decode cX11_isSmall 3 = .ok (.if_icmp .lt 13, 3) := by decide +kernel
theorem dX11_isSmall_6 : decode cX11_isSmall 6 = .ok (.iload_n 0, 1) := by decide +kernel
theorem dX11_isSmall_7 : decode cX11_isSmall 7 = .ok (.bipush 122, 2) := by decide +kernel
theorem dX11_isSmall_9 : decode cX11_isSmall 9 = .ok (.if_icmp .gt 7, 3) := by decide +kernel
theorem dX11_isSmall_12 : decode cX11_isSmall 12 = .ok (.iconst 1, 1) := by decide +kernel
theorem dX11_isSmall_13 : decode cX11_isSmall 13 = .ok (.goto 4, 3) := by decide +kernel
theorem dX11_isSmall_16 : decode cX11_isSmall 16 = .ok (.iconst 0, 1) := by decide +kernel
theorem dX11_isSmall_17 : decode cX11_isSmall 17 = .ok (.ireturn, 1) := by decide +kernel
theorem dX11_isDigit_0 : decode cX11_isDigit 0 = .ok (.iload_n 0, 1) := by decide +kernel
theorem dX11_isDigit_1 : decode cX11_isDigit 1 = .ok (.bipush 48, 2) := by decide +kernel
theorem dX11_isDigit_3 : decode cX11_isDigit 3 = .ok (.if_icmp .lt 13, 3) := by decide +kernel
theorem dX11_isDigit_6 : decode cX11_isDigit 6 = .ok (.iload_n 0, 1) := by decide +kernel
theorem dX11_isDigit_7 : decode cX11_isDigit 7 = .ok (.bipush 57, 2) := by decide +kernel
theorem dX11_isDigit_9 : decode cX11_isDigit 9 = .ok (.if_icmp .gt 7, 3) := by decide +kernel
theorem dX11_isDigit_12 : decode cX11_isDigit 12 = .ok (.iconst 1, 1) := by decide +kernel
theorem dX11_isDigit_13 : decode cX11_isDigit 13 = .ok (.goto 4, 3) := by decide +kernel
theorem dX11_isDigit_16 : decode cX11_isDigit 16 = .ok (.iconst 0, 1) := by decide +kernel
theorem dX11_isDigit_17 : decode cX11_isDigit 17 = .ok (.ireturn, 1) := by decide +kernel
theorem dX11_word_0 : decode cX11_word 0 = .ok (.aload_n 0, 1) := by decide +kernel
theorem dX11_word_1 : decode cX11_word 1 = .ok (.invokevirtual 117, 3) := by decide +kernel
theorem dX11_word_4 : decode cX11_word 4 = .ok (.pop, 1) := by decide +kernel
theorem dX11_word_5 : decode cX11_word 5 = .ok (.iconst 0, 1) := by decide +kernel
theorem dX11_word_6 : decode cX11_word 6 = .ok (.istore_n 1, 1) := by decide +kernel
theorem dX11_word_7 : decode cX11_word 7 = .ok (.iconst 0, 1) := by decide +kernel
theorem dX11_word_8 : decode cX11_word 8 = .ok (.istore_n 2, 1) := by decide +kernel
theorem dX11_word_9 : decode cX11_word 9 = .ok (.aload_n 0, 1) := by decide +kernel
theorem dX11_word_10 : decode cX11_word 10 = .ok (.getfield 111, 3) := by decide +kernel
theorem dX11_word_13 : decode cX11_word 13 = .ok (.istore_n 3, 1) := by decide +kernel
theorem dX11_word_14 : decode cX11_word 14 = .ok (.iload_n 3, 1) := by decide +kernel
theorem dX11_word_15 : decode cX11_word 15 = .ok (.aload_n 0, 1) := by decide +kernel
theorem dX11_word_16 : decode cX11_word 16 = .ok (.getfield 114, 3) := by decide +kernel
theorem dX11_word_19 : decode cX11_word 19 = .ok (.if_icmp .ge 48, 3) := by decide +kernel
theorem dX11_word_22 : decode cX11_word 22 = .ok (.aload_n 0, 1) := by decide +kernel
theorem dX11_word_23 : decode cX11_word 23 = .ok (.getfield 20, 3) := by decide +kernel
theorem dX11_word_26 : decode cX11_word 26 = .ok (.iload_n 3, 1) := by decide +kernel
theorem dX11_word_27 : decode cX11_word 27 = .ok (.iaload, 1) := by decide +kernel
theorem dX11_word_28 : decode cX11_word 28 = .ok (.invokestatic 121, 3) := by decide +kernel
theorem dX11_word_31 : decode cX11_word 31 = .ok (.ifCond .eq 36, 3) := by decide +kernel
theorem dX11_word_34 : decode cX11_word 34 = .ok (.iload_n 2, 1) := by decide +kernel
theorem dX11_word_35 : decode cX11_word 35 = .ok (.bipush 6, 2) := by decide +kernel
theorem dX11_word_37 : decode cX11_word 37 = .ok (.if_icmp .ge 19, 3) := by decide +kernel
theorem dX11_word_40 : decode cX11_word 40 = .ok (.iload_n 1, 1) := by decide +kernel
theorem dX11_word_41 : decode cX11_word 41 = .ok (.iconst 5, 1) := by decide +kernel
theorem dX11_word_42 : decode cX11_word 42 = .ok (.ishl, 1) := by decide +kernel
theorem dX11_word_43 : decode cX11_word 43 = .ok (.aload_n 0, 1) := by decide +kernel
theorem dX11_word_44 : decode cX11_word 44 = .ok (.getfield 20, 3) := by decide +kernel
theorem dX11_word_47 : decode cX11_word 47 = .ok (.iload_n 3, 1) := by decide +kernel
theorem dX11_word_48 : decode cX11_word 48 = .ok (.iaload, 1) := by decide +kernel
theorem dX11_word_49 : decode cX11_word 49 = .ok (.bipush 96, 2) := by decide +kernel
theorem dX11_word_51 : decode cX11_word 51 = .ok (.isub, 1) := by decide +kernel
theorem dX11_word_52 : decode cX11_word 52 = .ok (.ior, 1) := by decide +kernel
theorem dX11_word_53 : decode cX11_word 53 = .ok (.goto 4, 3) := by decide +kernel
theorem dX11_word_56 : decode cX11_word 56 = .ok (.iconst 0, 1) := by decide +kernel
theorem dX11_word_57 : decode cX11_word 57 = .ok (.istore_n 1, 1) := by decide +kernel
theorem dX11_word_58 : decode cX11_word 58 = .ok (.iinc 2 1, 3) := by decide +kernel
theorem dX11_word_61 : decode cX11_word 61 = .ok (.iinc 3 1, 3) := by decide +kernel
theorem dX11_word_64 : decode cX11_word 64 = .ok (.goto (-50), 3) := by decide +kernel
theorem dX11_word_67 : decode cX11_word 67 = .ok (.iload_n 2, 1) := by decide +kernel
theorem dX11_word_68 : decode cX11_word 68 = .ok (.bipush 6, 2) := by decide +kernel
theorem dX11_word_70 : decode cX11_word 70 = .ok (.if_icmp .le 7, 3) := by decide +kernel
theorem dX11_word_73 : decode cX11_word 73 = .ok (.iconst 0, 1) := by decide +kernel
theorem dX11_word_74 : decode cX11_word 74 = .ok (.goto 4, 3) := by decide +kernel
theorem dX11_word_77 : decode cX11_word 77 = .ok (.iload_n 1, 1) := by decide +kernel
theorem dX11_word_78 : decode cX11_word 78 = .ok (.ireturn, 1) := by decide +kernel
theorem dX11_of_0 : decode cX11_of 0 = .ok (.iconst 0, 1) := by decide +kernel
theorem dX11_of_1 : decode cX11_of 1 = .ok (.istore_n 1, 1) := by decide +kernel
theorem dX11_of_2 : decode cX11_of 2 = .ok (.iconst 0, 1) := by decide +kernel
theorem dX11_of_3 : decode cX11_of 3 = .ok (.istore_n 2, 1) := by decide +kernel
theorem dX11_of_4 : decode cX11_of 4 = .ok (.iload_n 2, 1) := by decide +kernel
theorem dX11_of_5 : decode cX11_of 5 = .ok (.aload_n 0, 1) := by decide +kernel
theorem dX11_of_6 : decode cX11_of 6 = .ok (.invokevirtual 125, 3) := by decide +kernel
theorem dX11_of_9 : decode cX11_of 9 = .ok (.if_icmp .ge 22, 3) := by decide +kernel
theorem dX11_of_12 : decode cX11_of 12 = .ok (.iload_n 1, 1) := by decide +kernel
theorem dX11_of_13 : decode cX11_of 13 = .ok (.iconst 5, 1) := by decide +kernel
theorem dX11_of_14 : decode cX11_of 14 = .ok (.ishl, 1) := by decide +kernel
theorem dX11_of_15 : decode cX11_of 15 = .ok (.aload_n 0, 1) := by decide +kernel
theorem dX11_of_16 : decode cX11_of 16 = .ok (.iload_n 2, 1) := by decide +kernel
theorem dX11_of_17 : decode cX11_of 17 = .ok (.invokevirtual 130, 3) := by decide +kernel
theorem dX11_of_20 : decode cX11_of 20 = .ok (.bipush 96, 2) := by decide +kernel
theorem dX11_of_22 : decode cX11_of 22 = .ok (.isub, 1) := by decide +kernel
theorem dX11_of_23 : decode cX11_of 23 = .ok (.ior, 1) := by decide +kernel
theorem dX11_of_24 : decode cX11_of 24 = .ok (.istore_n 1, 1) := by decide +kernel
theorem dX11_of_25 : decode cX11_of 25 = .ok (.iinc 2 1, 3) := by decide +kernel
theorem dX11_of_28 : decode cX11_of 28 = .ok (.goto (-24), 3) := by decide +kernel
theorem dX11_of_31 : decode cX11_of 31 = .ok (.iload_n 1, 1) := by decide +kernel
theorem dX11_of_32 : decode cX11_of 32 = .ok (.ireturn, 1) := by decide +kernel
theorem dX11_pass_0 : decode cX11_pass 0 = .ok (.aload_n 0, 1) := by decide +kernel
theorem dX11_pass_1 : decode cX11_pass 1 = .ok (.getfield 111, 3) := by decide +kernel
theorem dX11_pass_4 : decode cX11_pass 4 = .ok (.aload_n 0, 1) := by decide +kernel
theorem dX11_pass_5 : decode cX11_pass 5 = .ok (.getfield 114, 3) := by decide +kernel
theorem dX11_pass_8 : decode cX11_pass 8 = .ok (.if_icmp .ge 31, 3) := by decide +kernel
theorem dX11_pass_11 : decode cX11_pass 11 = .ok (.aload_n 0, 1) := by decide +kernel
theorem dX11_pass_12 : decode cX11_pass 12 = .ok (.getfield 20, 3) := by decide +kernel
theorem dX11_pass_15 : decode cX11_pass 15 = .ok (.aload_n 0, 1) := by decide +kernel
theorem dX11_pass_16 : decode cX11_pass 16 = .ok (.getfield 111, 3) := by decide +kernel
theorem dX11_pass_19 : decode cX11_pass 19 = .ok (.iaload, 1) := by decide +kernel
theorem dX11_pass_20 : decode cX11_pass 20 = .ok (.invokestatic 121, 3) := by decide +kernel
theorem dX11_pass_23 : decode cX11_pass 23 = .ok (.ifCond .eq 16, 3) := by decide +kernel
theorem dX11_pass_26 : decode cX11_pass 26 = .ok (.aload_n 0, 1) := by decide +kernel
theorem dX11_pass_27 : decode cX11_pass 27 = .ok (.dup, 1) := by decide +kernel
theorem dX11_pass_28 : decode cX11_pass 28 = .ok (.getfield 111, 3) := by decide +kernel
theorem dX11_pass_31 : decode cX11_pass 31 = .ok (.iconst 1, 1) := by decide +kernel
theorem dX11_pass_32 : decode cX11_pass 32 = .ok (.iadd, 1) := by decide +kernel
theorem dX11_pass_33 : decode cX11_pass 33 = .ok (.putfield 111, 3) := by decide +kernel
theorem dX11_pass_36 : decode cX11_pass 36 = .ok (.goto (-36), 3) := by decide +kernel
theorem dX11_pass_39 : decode cX11_pass 39 = .ok (.return_, 1) := by decide +kernel
theorem dX11_readNumber_0 : decode cX11_readNumber 0 = .ok (.aload_n 0, 1) := by decide +kernel
theorem dX11_readNumber_1 : decode cX11_readNumber 1 = .ok (.invokevirtual 134, 3) := by decide +kernel
theorem dX11_readNumber_4 : decode cX11_readNumber 4 = .ok (.ifCond .ne 5, 3) := by decide +kernel
theorem dX11_readNumber_7 : decode cX11_readNumber 7 = .ok (.iconst 0, 1) := by decide +kernel
theorem dX11_readNumber_8 : decode cX11_readNumber 8 = .ok (.ireturn, 1) := by decide +kernel
theorem dX11_readNumber_9 : decode cX11_readNumber 9 = .ok (.aload_n 0, 1) := by decide +kernel
theorem dX11_readNumber_10 : decode cX11_readNumber 10 = .ok (.invokevirtual 117, 3) := by decide +kernel
theorem dX11_readNumber_13 : decode cX11_readNumber 13 = .ok (.istore_n 3, 1) := by decide +kernel
theorem dX11_readNumber_14 : decode cX11_readNumber 14 = .ok (.aload_n 0, 1) := by decide +kernel
theorem dX11_readNumber_15 : decode cX11_readNumber 15 = .ok (.getfield 111, 3) := by decide +kernel
theorem dX11_readNumber_18 : decode cX11_readNumber 18 = .ok (.istore 4, 2) := by decide +kernel
theorem dX11_readNumber_20 : decode cX11_readNumber 20 = .ok (.iconst 0, 1) := by decide +kernel
theorem dX11_readNumber_21 : decode cX11_readNumber 21 = .ok (.istore 5, 2) := by decide +kernel
theorem dX11_readNumber_23 : decode cX11_readNumber 23 = .ok (.iload_n 3, 1) := by decide +kernel
theorem dX11_readNumber_24 : decode cX11_readNumber 24 = .ok (.invokestatic 138, 3) := by decide +kernel
theorem dX11_readNumber_27 : decode cX11_readNumber 27 = .ok (.ifCond .ne 14, 3) := by decide +kernel
theorem dX11_readNumber_30 : decode cX11_readNumber 30 = .ok (.aload_n 0, 1) := by decide +kernel
theorem dX11_readNumber_31 : decode cX11_readNumber 31 = .ok (.iconst 1, 1) := by decide +kernel
theorem dX11_readNumber_32 : decode cX11_readNumber 32 = .ok (.aload_n 0, 1) := by decide +kernel
theorem dX11_readNumber_33 : decode cX11_readNumber 33 = .ok (.getfield 111, 3) := by decide +kernel
theorem dX11_readNumber_36 : decode cX11_readNumber 36 = .ok (.invokevirtual 141, 3) := by decide +kernel
theorem dX11_readNumber_39 : decode cX11_readNumber 39 = .ok (.iconst 0, 1) := by decide +kernel
theorem dX11_readNumber_40 : decode cX11_readNumber 40 = .ok (.ireturn, 1) := by decide +kernel
theorem dX11_readNumber_41 : decode cX11_readNumber 41 = .ok (.aload_n 0, 1) := by decide +kernel
theorem dX11_readNumber_42 : decode cX11_readNumber 42 = .ok (.getfield 111, 3) := by decide +kernel
theorem dX11_readNumber_45 : decode cX11_readNumber 45 = .ok (.aload_n 0, 1) := by decide +kernel
theorem dX11_readNumber_46 : decode cX11_readNumber 46 = .ok (.getfield 114, 3) := by decide +kernel
theorem dX11_readNumber_49 : decode cX11_readNumber 49 = .ok (.if_icmp .ge 65, 3) := by decide +kernel
theorem dX11_readNumber_52 : decode cX11_readNumber 52 = .ok (.aload_n 0, 1) := by decide +kernel
theorem dX11_readNumber_53 : decode cX11_readNumber 53 = .ok (.getfield 20, 3) := by decide +kernel
theorem dX11_readNumber_56 : decode cX11_readNumber 56 = .ok (.aload_n 0, 1) := by decide +kernel
theorem dX11_readNumber_57 : decode cX11_readNumber 57 = .ok (.getfield 111, 3) := by decide +kernel
theorem dX11_readNumber_60 : decode cX11_readNumber 60 = .ok (.iaload, 1) := by decide +kernel
theorem dX11_readNumber_61 : decode cX11_readNumber 61 = .ok (.invokestatic 138, 3) := by decide +kernel
theorem dX11_readNumber_64 : decode cX11_readNumber 64 = .ok (.ifCond .eq 50, 3) := by decide +kernel
theorem dX11_readNumber_67 : decode cX11_readNumber 67 = .ok (.iload 5, 2) := by decide +kernel
theorem dX11_readNumber_69 : decode cX11_readNumber 69 = .ok (.sipush 9999, 3) := by decide +kernel
theorem dX11_readNumber_72 : decode cX11_readNumber 72 = .ok (.if_icmp .le 9, 3) := by decide +kernel
theorem dX11_readNumber_75 : decode cX11_readNumber 75 = .ok (.sipush 10000, 3) := by decide +kernel
theorem dX11_readNumber_78 : decode cX11_readNumber 78 = .ok (.goto 21, 3) := by decide +kernel
theorem dX11_readNumber_81 : decode cX11_readNumber 81 = .ok (.bipush 10, 2) := by decide +kernel
theorem dX11_readNumber_83 : decode cX11_readNumber 83 = .ok (.iload 5, 2) := by decide +kernel
theorem dX11_readNumber_85 : decode cX11_readNumber 85 = .ok (.imul, 1) := by decide +kernel
theorem dX11_readNumber_86 : decode cX11_readNumber 86 = .ok (.aload_n 0, 1) := by decide +kernel
theorem dX11_readNumber_87 : decode cX11_readNumber 87 = .ok (.getfield 20, 3) := by decide +kernel
theorem dX11_readNumber_90 : decode cX11_readNumber 90 = .ok (.aload_n 0, 1) := by decide +kernel
theorem dX11_readNumber_91 : decode cX11_readNumber 91 = .ok (.getfield 111, 3) := by decide +kernel
theorem dX11_readNumber_94 : decode cX11_readNumber 94 = .ok (.iaload, 1) := by decide +kernel
theorem dX11_readNumber_95 : decode cX11_readNumber 95 = .ok (.iadd, 1) := by decide +kernel
theorem dX11_readNumber_96 : decode cX11_readNumber 96 = .ok (.bipush 48, 2) := by decide +kernel
theorem dX11_readNumber_98 : decode cX11_readNumber 98 = .ok (.isub, 1) := by decide +kernel
theorem dX11_readNumber_99 : decode cX11_readNumber 99 = .ok (.istore 5, 2) := by decide +kernel
theorem dX11_readNumber_101 : decode cX11_readNumber 101 = .ok (.aload_n 0, 1) := by decide +kernel
theorem dX11_readNumber_102 : decode cX11_readNumber 102 = .ok (.dup, 1) := by decide +kernel
theorem dX11_readNumber_103 : decode cX11_readNumber 103 = .ok (.getfield 111, 3) := by decide +kernel
theorem dX11_readNumber_106 : decode cX11_readNumber 106 = .ok (.iconst 1, 1) := by decide +kernel
theorem dX11_readNumber_107 : decode cX11_readNumber 107 = .ok (.iadd, 1) := by decide +kernel
theorem dX11_readNumber_108 : decode cX11_readNumber 108 = .ok (.putfield 111, 3) := by decide +kernel
theorem dX11_readNumber_111 : decode cX11_readNumber 111 = .ok (.goto (-70), 3) := by decide +kernel
theorem dX11_readNumber_114 : decode cX11_readNumber 114 = .ok (.iload 5, 2) := by decide +kernel
theorem dX11_readNumber_116 : decode cX11_readNumber 116 = .ok (.iload_n 1, 1) := by decide +kernel
theorem dX11_readNumber_117 : decode cX11_readNumber 117 = .ok (.if_icmp .lt 9, 3) := by decide +kernel
theorem dX11_readNumber_120 : decode cX11_readNumber 120 = .ok (.iload 5, 2) := by decide +kernel
theorem dX11_readNumber_122 : decode cX11_readNumber 122 = .ok (.iload_n 2, 1) := by decide +kernel
theorem dX11_readNumber_123 : decode cX11_readNumber 123 = .ok (.if_icmp .le 12, 3) := by decide +kernel
theorem dX11_readNumber_126 : decode cX11_readNumber 126 = .ok (.aload_n 0, 1) := by decide +kernel
theorem dX11_readNumber_127 : decode cX11_readNumber 127 = .ok (.iconst 2, 1) := by decide +kernel
theorem dX11_readNumber_128 : decode cX11_readNumber 128 = .ok (.iload 4, 2) := by decide +kernel
theorem dX11_readNumber_130 : decode cX11_readNumber 130 = .ok (.invokevirtual 141, 3) := by decide +kernel
theorem dX11_readNumber_133 : decode cX11_readNumber 133 = .ok (.iconst 0, 1) := by decide +kernel
theorem dX11_readNumber_134 : decode cX11_readNumber 134 = .ok (.ireturn, 1) := by decide +kernel
theorem dX11_readNumber_135 : decode cX11_readNumber 135 = .ok (.iload 5, 2) := by decide +kernel
theorem dX11_readNumber_137 : decode cX11_readNumber 137 = .ok (.ireturn, 1) := by decide +kernel
theorem dX11_sign_0 : decode cX11_sign 0 = .ok (.aload_n 0, 1) := by decide +kernel
theorem dX11_sign_1 : decode cX11_sign 1 = .ok (.invokevirtual 134, 3) := by decide +kernel
theorem dX11_sign_4 : decode cX11_sign 4 = .ok (.ifCond .eq 20, 3) := by decide +kernel
theorem dX11_sign_7 : decode cX11_sign 7 = .ok (.aload_n 0, 1) := by decide +kernel
theorem dX11_sign_8 : decode cX11_sign 8 = .ok (.invokevirtual 117, 3) := by decide +kernel
theorem dX11_sign_11 : decode cX11_sign 11 = .ok (.iload_n 1, 1) := by decide +kernel
theorem dX11_sign_12 : decode cX11_sign 12 = .ok (.if_icmp .eq 12, 3) := by decide +kernel
theorem dX11_sign_15 : decode cX11_sign 15 = .ok (.aload_n 0, 1) := by decide +kernel
theorem dX11_sign_16 : decode cX11_sign 16 = .ok (.iconst 1, 1) := by decide +kernel
theorem dX11_sign_17 : decode cX11_sign 17 = .ok (.aload_n 0, 1) := by decide +kernel
theorem dX11_sign_18 : decode cX11_sign 18 = .ok (.getfield 111, 3) := by decide +kernel
theorem dX11_sign_21 : decode cX11_sign 21 = .ok (.invokevirtual 141, 3) := by decide +kernel
theorem dX11_sign_24 : decode cX11_sign 24 = .ok (.aload_n 0, 1) := by decide +kernel
theorem dX11_sign_25 : decode cX11_sign 25 = .ok (.invokevirtual 134, 3) := by decide +kernel
theorem dX11_sign_28 : decode cX11_sign 28 = .ok (.ifCond .eq 13, 3) := by decide +kernel
theorem dX11_sign_31 : decode cX11_sign 31 = .ok (.aload_n 0, 1) := by decide +kernel
theorem dX11_sign_32 : decode cX11_sign 32 = .ok (.dup, 1) := by decide +kernel
theorem dX11_sign_33 : decode cX11_sign 33 = .ok (.getfield 111, 3) := by decide +kernel
theorem dX11_sign_36 : decode cX11_sign 36 = .ok (.iconst 1, 1) := by decide +kernel
theorem dX11_sign_37 : decode cX11_sign 37 = .ok (.iadd, 1) := by decide +kernel
theorem dX11_sign_38 : decode cX11_sign 38 = .ok (.putfield 111, 3) := by decide +kernel
theorem dX11_sign_41 : decode cX11_sign 41 = .ok (.return_, 1) := by decide +kernel
theorem dX11_isMore_0 : decode cX11_isMore 0 = .ok (.aload_n 0, 1) := by decide +kernel
theorem dX11_isMore_1 : decode cX11_isMore 1 = .ok (.invokevirtual 117, 3) := by decide +kernel
theorem dX11_isMore_4 : decode cX11_isMore 4 = .ok (.pop, 1) := by decide +kernel
theorem dX11_isMore_5 : decode cX11_isMore 5 = .ok (.aload_n 0, 1) := by decide +kernel
theorem dX11_isMore_6 : decode cX11_isMore 6 = .ok (.getfield 111, 3) := by decide +kernel
theorem dX11_isMore_9 : decode cX11_isMore 9 = .ok (.aload_n 0, 1) := by decide +kernel
theorem dX11_isMore_10 : decode cX11_isMore 10 = .ok (.getfield 114, 3) := by decide +kernel
theorem dX11_isMore_13 : decode cX11_isMore 13 = .ok (.if_icmp .ge 7, 3) := by decide +kernel
theorem dX11_isMore_16 : decode cX11_isMore 16 = .ok (.iconst 1, 1) := by decide +kernel
theorem dX11_isMore_17 : decode cX11_isMore 17 = .ok (.goto 4, 3) := by decide +kernel
theorem dX11_isMore_20 : decode cX11_isMore 20 = .ok (.iconst 0, 1) := by decide +kernel
theorem dX11_isMore_21 : decode cX11_isMore 21 = .ok (.ireturn, 1) := by decide +kernel
theorem dX11_begins_0 : decode cX11_begins 0 = .ok (.aload_n 0, 1) := by decide +kernel
theorem dX11_begins_1 : decode cX11_begins 1 = .ok (.iconst 0, 1) := by decide +kernel
theorem dX11_begins_2 : decode cX11_begins 2 = .ok (.putfield 102, 3) := by decide +kernel
theorem dX11_begins_5 : decode cX11_begins 5 = .ok (.aload_n 0, 1) := by decide +kernel
theorem dX11_begins_6 : decode cX11_begins 6 = .ok (.iconst (-1), 1) := by decide +kernel
theorem dX11_begins_7 : decode cX11_begins 7 = .ok (.putfield 17, 3) := by decide +kernel
theorem dX11_begins_10 : decode cX11_begins 10 = .ok (.aload_n 0, 1) := by decide +kernel
theorem dX11_begins_11 : decode cX11_begins 11 = .ok (.iload_n 1, 1) := by decide +kernel
theorem dX11_begins_12 : decode cX11_begins 12 = .ok (.putfield 114, 3) := by decide +kernel
theorem dX11_begins_15 : decode cX11_begins 15 = .ok (.aload_n 0, 1) := by decide +kernel
theorem dX11_begins_16 : decode cX11_begins 16 = .ok (.iconst 0, 1) := by decide +kernel
theorem dX11_begins_17 : decode cX11_begins 17 = .ok (.putfield 111, 3) := by decide +kernel
theorem dX11_begins_20 : decode cX11_begins 20 = .ok (.aload_n 0, 1) := by decide +kernel
theorem dX11_begins_21 : decode cX11_begins 21 = .ok (.iconst (-1), 1) := by decide +kernel
theorem dX11_begins_22 : decode cX11_begins 22 = .ok (.putfield 105, 3) := by decide +kernel
theorem dX11_begins_25 : decode cX11_begins 25 = .ok (.aload_n 0, 1) := by decide +kernel
theorem dX11_begins_26 : decode cX11_begins 26 = .ok (.iconst 0, 1) := by decide +kernel
theorem dX11_begins_27 : decode cX11_begins 27 = .ok (.putfield 145, 3) := by decide +kernel
theorem dX11_begins_30 : decode cX11_begins 30 = .ok (.return_, 1) := by decide +kernel
theorem dX11_result_0 : decode cX11_result 0 = .ok (.aload_n 0, 1) := by decide +kernel
theorem dX11_result_1 : decode cX11_result 1 = .ok (.aload_n 0, 1) := by decide +kernel
theorem dX11_result_2 : decode cX11_result 2 = .ok (.getfield 105, 3) := by decide +kernel
theorem dX11_result_5 : decode cX11_result 5 = .ok (.putfield 17, 3) := by decide +kernel
theorem dX11_result_8 : decode cX11_result 8 = .ok (.aload_n 0, 1) := by decide +kernel
theorem dX11_result_9 : decode cX11_result 9 = .ok (.invokevirtual 134, 3) := by decide +kernel
theorem dX11_result_12 : decode cX11_result 12 = .ok (.ifCond .eq 7, 3) := by decide +kernel
theorem dX11_result_15 : decode cX11_result 15 = .ok (.iload_n 1, 1) := by decide +kernel
theorem dX11_result_16 : decode cX11_result 16 = .ok (.goto 10, 3) := by decide +kernel
theorem dX11_result_19 : decode cX11_result 19 = .ok (.aload_n 0, 1) := by decide +kernel
theorem dX11_result_20 : decode cX11_result 20 = .ok (.getfield 108, 3) := by decide +kernel
theorem dX11_result_23 : decode cX11_result 23 = .ok (.bipush 10, 2) := by decide +kernel
theorem dX11_result_25 : decode cX11_result 25 = .ok (.isub, 1) := by decide +kernel
theorem dX11_result_26 : decode cX11_result 26 = .ok (.ireturn, 1) := by decide +kernel
theorem dX11_fault_0 : decode cX11_fault 0 = .ok (.aload_n 0, 1) := by decide +kernel
theorem dX11_fault_1 : decode cX11_fault 1 = .ok (.iconst 0, 1) := by decide +kernel
theorem dX11_fault_2 : decode cX11_fault 2 = .ok (.putfield 3, 3) := by decide +kernel
theorem dX11_fault_5 : decode cX11_fault 5 = .ok (.aload_n 0, 1) := by decide +kernel
theorem dX11_fault_6 : decode cX11_fault 6 = .ok (.getfield 17, 3) := by decide +kernel
theorem dX11_fault_9 : decode cX11_fault 9 = .ok (.ireturn, 1) := by decide +kernel
theorem dX11_copies_0 : decode cX11_copies 0 = .ok (.iconst 0, 1) := by decide +kernel
theorem dX11_copies_1 : decode cX11_copies 1 = .ok (.istore 4, 2) := by decide +kernel
theorem dX11_copies_3 : decode cX11_copies 3 = .ok (.iload 4, 2) := by decide +kernel
theorem dX11_copies_5 : decode cX11_copies 5 = .ok (.iload_n 3, 1) := by decide +kernel
theorem dX11_copies_6 : decode cX11_copies 6 = .ok (.if_icmp .ge 17, 3) := by decide +kernel
theorem dX11_copies_9 : decode cX11_copies 9 = .ok (.aload_n 2, 1) := by decide +kernel
theorem dX11_copies_10 : decode cX11_copies 10 = .ok (.iload 4, 2) := by decide +kernel
theorem dX11_copies_12 : decode cX11_copies 12 = .ok (.aload_n 1, 1) := by decide +kernel
theorem dX11_copies_13 : decode cX11_copies 13 = .ok (.iload 4, 2) := by decide +kernel
theorem dX11_copies_15 : decode cX11_copies 15 = .ok (.iaload, 1) := by decide +kernel
theorem dX11_copies_16 : decode cX11_copies 16 = .ok (.iastore, 1) := by decide +kernel
theorem dX11_copies_17 : decode cX11_copies 17 = .ok (.iinc 4 1, 3) := by decide +kernel
theorem dX11_copies_20 : decode cX11_copies 20 = .ok (.goto (-17), 3) := by decide +kernel
theorem dX11_copies_23 : decode cX11_copies 23 = .ok (.return_, 1) := by decide +kernel
theorem dX11_startsAnew_0 : decode cX11_startsAnew 0 = .ok (.aload_n 0, 1) := by decide +kernel
theorem dX11_startsAnew_1 : decode cX11_startsAnew 1 = .ok (.iconst 0, 1) := by decide +kernel
theorem dX11_startsAnew_2 : decode cX11_startsAnew 2 = .ok (.putfield 148, 3) := by decide +kernel
theorem dX11_startsAnew_5 : decode cX11_startsAnew 5 = .ok (.aload_n 0, 1) := by decide +kernel
theorem dX11_startsAnew_6 : decode cX11_startsAnew 6 = .ok (.iconst 0, 1) := by decide +kernel
theorem dX11_startsAnew_7 : decode cX11_startsAnew 7 = .ok (.putfield 151, 3) := by decide +kernel
theorem dX11_startsAnew_10 : decode cX11_startsAnew 10 = .ok (.iconst 0, 1) := by decide +kernel
theorem dX11_startsAnew_11 : decode cX11_startsAnew 11 = .ok (.istore_n 1, 1) := by decide +kernel
theorem dX11_startsAnew_12 : decode cX11_startsAnew 12 = .ok (.iload_n 1, 1) := by decide +kernel
theorem dX11_startsAnew_13 : decode cX11_startsAnew 13 = .ok (.bipush 6, 2) := by decide +kernel
theorem dX11_startsAnew_15 : decode cX11_startsAnew 15 = .ok (.if_icmp .ge 16, 3) := by decide +kernel
theorem dX11_startsAnew_18 : decode cX11_startsAnew 18 = .ok (.aload_n 0, 1) := by decide +kernel
theorem dX11_startsAnew_19 : decode cX11_startsAnew 19 = .ok (.getfield 29, 3) := by decide +kernel
theorem dX11_startsAnew_22 : decode cX11_startsAnew 22 = .ok (.iload_n 1, 1) := by decide +kernel
theorem dX11_startsAnew_23 : decode cX11_startsAnew 23 = .ok (.iconst 0, 1) := by decide +kernel
theorem dX11_startsAnew_24 : decode cX11_startsAnew 24 = .ok (.iastore, 1) := by decide +kernel
theorem dX11_startsAnew_25 : decode cX11_startsAnew 25 = .ok (.iinc 1 1, 3) := by decide +kernel
theorem dX11_startsAnew_28 : decode cX11_startsAnew 28 = .ok (.goto (-16), 3) := by decide +kernel
theorem dX11_startsAnew_31 : decode cX11_startsAnew 31 = .ok (.return_, 1) := by decide +kernel
theorem dX11_sets_0 : decode cX11_sets 0 = .ok (.aload_n 0, 1) := by decide +kernel
theorem dX11_sets_1 : decode cX11_sets 1 = .ok (.aload_n 0, 1) := by decide +kernel
theorem dX11_sets_2 : decode cX11_sets 2 = .ok (.getfield 148, 3) := by decide +kernel
theorem dX11_sets_5 : decode cX11_sets 5 = .ok (.putfield 154, 3) := by decide +kernel
theorem dX11_sets_8 : decode cX11_sets 8 = .ok (.aload_n 0, 1) := by decide +kernel
theorem dX11_sets_9 : decode cX11_sets 9 = .ok (.aload_n 0, 1) := by decide +kernel
theorem dX11_sets_10 : decode cX11_sets 10 = .ok (.getfield 151, 3) := by decide +kernel
theorem dX11_sets_13 : decode cX11_sets 13 = .ok (.putfield 157, 3) := by decide +kernel
theorem dX11_sets_16 : decode cX11_sets 16 = .ok (.aload_n 0, 1) := by decide +kernel
theorem dX11_sets_17 : decode cX11_sets 17 = .ok (.aload_n 0, 1) := by decide +kernel
theorem dX11_sets_18 : decode cX11_sets 18 = .ok (.getfield 23, 3) := by decide +kernel
theorem dX11_sets_21 : decode cX11_sets 21 = .ok (.aload_n 0, 1) := by decide +kernel
theorem dX11_sets_22 : decode cX11_sets 22 = .ok (.getfield 32, 3) := by decide +kernel
theorem dX11_sets_25 : decode cX11_sets 25 = .ok (.bipush 16, 2) := by decide +kernel
theorem dX11_sets_27 : decode cX11_sets 27 = .ok (.invokevirtual 160, 3) := by decide +kernel
theorem dX11_sets_30 : decode cX11_sets 30 = .ok (.aload_n 0, 1) := by decide +kernel
theorem dX11_sets_31 : decode cX11_sets 31 = .ok (.aload_n 0, 1) := by decide +kernel
theorem dX11_sets_32 : decode cX11_sets 32 = .ok (.getfield 26, 3) := by decide +kernel
theorem dX11_sets_35 : decode cX11_sets 35 = .ok (.aload_n 0, 1) := by decide +kernel
theorem dX11_sets_36 : decode cX11_sets 36 = .ok (.getfield 35, 3) := by decide +kernel
theorem dX11_sets_39 : decode cX11_sets 39 = .ok (.bipush 12, 2) := by decide +kernel
theorem dX11_sets_41 : decode cX11_sets 41 = .ok (.invokevirtual 160, 3) := by decide +kernel
theorem dX11_sets_44 : decode cX11_sets 44 = .ok (.aload_n 0, 1) := by decide +kernel
theorem dX11_sets_45 : decode cX11_sets 45 = .ok (.aload_n 0, 1) := by decide +kernel
theorem dX11_sets_46 : decode cX11_sets 46 = .ok (.getfield 29, 3) := by decide +kernel
theorem dX11_sets_49 : decode cX11_sets 49 = .ok (.aload_n 0, 1) := by decide +kernel
theorem dX11_sets_50 : decode cX11_sets 50 = .ok (.getfield 38, 3) := by decide +kernel
theorem dX11_sets_53 : decode cX11_sets 53 = .ok (.bipush 6, 2) := by decide +kernel
theorem dX11_sets_55 : decode cX11_sets 55 = .ok (.invokevirtual 160, 3) := by decide +kernel
theorem dX11_sets_58 : decode cX11_sets 58 = .ok (.aload_n 0, 1) := by decide +kernel
theorem dX11_sets_59 : decode cX11_sets 59 = .ok (.iconst 0, 1) := by decide +kernel
theorem dX11_sets_60 : decode cX11_sets 60 = .ok (.putfield 164, 3) := by decide +kernel
theorem dX11_sets_63 : decode cX11_sets 63 = .ok (.aload_n 0, 1) := by decide +kernel
theorem dX11_sets_64 : decode cX11_sets 64 = .ok (.iconst 0, 1) := by decide +kernel
theorem dX11_sets_65 : decode cX11_sets 65 = .ok (.putfield 167, 3) := by decide +kernel
theorem dX11_sets_68 : decode cX11_sets 68 = .ok (.aload_n 0, 1) := by decide +kernel
theorem dX11_sets_69 : decode cX11_sets 69 = .ok (.iconst 0, 1) := by decide +kernel
theorem dX11_sets_70 : decode cX11_sets 70 = .ok (.putfield 170, 3) := by decide +kernel
theorem dX11_sets_73 : decode cX11_sets 73 = .ok (.aload_n 0, 1) := by decide +kernel
theorem dX11_sets_74 : decode cX11_sets 74 = .ok (.iconst 0, 1) := by decide +kernel
theorem dX11_sets_75 : decode cX11_sets 75 = .ok (.putfield 173, 3) := by decide +kernel
theorem dX11_sets_78 : decode cX11_sets 78 = .ok (.aload_n 0, 1) := by decide +kernel
theorem dX11_sets_79 : decode cX11_sets 79 = .ok (.iconst 0, 1) := by decide +kernel
theorem dX11_sets_80 : decode cX11_sets 80 = .ok (.putfield 176, 3) := by decide +kernel
theorem dX11_sets_83 : decode cX11_sets 83 = .ok (.iconst 0, 1) := by decide +kernel
theorem dX11_sets_84 : decode cX11_sets 84 = .ok (.istore_n 1, 1) := by decide +kernel
theorem dX11_sets_85 : decode cX11_sets 85 = .ok (.iload_n 1, 1) := by decide +kernel
theorem dX11_sets_86 : decode cX11_sets 86 = .ok (.bipush 91, 2) := by decide +kernel
theorem dX11_sets_88 : decode cX11_sets 88 = .ok (.if_icmp .ge 16, 3) := by decide +kernel
theorem dX11_sets_91 : decode cX11_sets 91 = .ok (.aload_n 0, 1) := by decide +kernel
theorem dX11_sets_92 : decode cX11_sets 92 = .ok (.getfield 65, 3) := by decide +kernel
theorem dX11_sets_95 : decode cX11_sets 95 = .ok (.iload_n 1, 1) := by decide +kernel
theorem dX11_sets_96 : decode cX11_sets 96 = .ok (.iconst 0, 1) := by decide +kernel
theorem dX11_sets_97 : decode cX11_sets 97 = .ok (.iastore, 1) := by decide +kernel
theorem dX11_sets_98 : decode cX11_sets 98 = .ok (.iinc 1 1, 3) := by decide +kernel
theorem dX11_sets_101 : decode cX11_sets 101 = .ok (.goto (-16), 3) := by decide +kernel
theorem dX11_sets_104 : decode cX11_sets 104 = .ok (.iconst 0, 1) := by decide +kernel
theorem dX11_sets_105 : decode cX11_sets 105 = .ok (.istore_n 1, 1) := by decide +kernel
theorem dX11_sets_106 : decode cX11_sets 106 = .ok (.iload_n 1, 1) := by decide +kernel
theorem dX11_sets_107 : decode cX11_sets 107 = .ok (.aload_n 0, 1) := by decide +kernel
theorem dX11_sets_108 : decode cX11_sets 108 = .ok (.getfield 154, 3) := by decide +kernel
theorem dX11_sets_111 : decode cX11_sets 111 = .ok (.if_icmp .ge 27, 3) := by decide +kernel
theorem dX11_sets_114 : decode cX11_sets 114 = .ok (.aload_n 0, 1) := by decide +kernel
theorem dX11_sets_115 : decode cX11_sets 115 = .ok (.getfield 65, 3) := by decide +kernel
theorem dX11_sets_118 : decode cX11_sets 118 = .ok (.iconst 0, 1) := by decide +kernel
theorem dX11_sets_119 : decode cX11_sets 119 = .ok (.iload_n 1, 1) := by decide +kernel
theorem dX11_sets_120 : decode cX11_sets 120 = .ok (.iadd, 1) := by decide +kernel
theorem dX11_sets_121 : decode cX11_sets 121 = .ok (.aload_n 0, 1) := by decide +kernel
theorem dX11_sets_122 : decode cX11_sets 122 = .ok (.getfield 32, 3) := by decide +kernel
theorem dX11_sets_125 : decode cX11_sets 125 = .ok (.iconst 2, 1) := by decide +kernel
theorem dX11_sets_126 : decode cX11_sets 126 = .ok (.iload_n 1, 1) := by decide +kernel
theorem dX11_sets_127 : decode cX11_sets 127 = .ok (.imul, 1) := by decide +kernel
theorem dX11_sets_128 : decode cX11_sets 128 = .ok (.iconst 1, 1) := by decide +kernel
theorem dX11_sets_129 : decode cX11_sets 129 = .ok (.iadd, 1) := by decide +kernel
theorem dX11_sets_130 : decode cX11_sets 130 = .ok (.iaload, 1) := by decide +kernel
theorem dX11_sets_131 : decode cX11_sets 131 = .ok (.iastore, 1) := by decide +kernel
theorem dX11_sets_132 : decode cX11_sets 132 = .ok (.iinc 1 1, 3) := by decide +kernel
theorem dX11_sets_135 : decode cX11_sets 135 = .ok (.goto (-29), 3) := by decide +kernel
theorem dX11_sets_138 : decode cX11_sets 138 = .ok (.iconst 0, 1) := by decide +kernel
theorem dX11_sets_139 : decode cX11_sets 139 = .ok (.istore_n 1, 1) := by decide +kernel
theorem dX11_sets_140 : decode cX11_sets 140 = .ok (.iload_n 1, 1) := by decide +kernel
theorem dX11_sets_141 : decode cX11_sets 141 = .ok (.aload_n 0, 1) := by decide +kernel
theorem dX11_sets_142 : decode cX11_sets 142 = .ok (.getfield 157, 3) := by decide +kernel
theorem dX11_sets_145 : decode cX11_sets 145 = .ok (.if_icmp .ge 45, 3) := by decide +kernel
theorem dX11_sets_148 : decode cX11_sets 148 = .ok (.aload_n 0, 1) := by decide +kernel
theorem dX11_sets_149 : decode cX11_sets 149 = .ok (.getfield 65, 3) := by decide +kernel
theorem dX11_sets_152 : decode cX11_sets 152 = .ok (.bipush 16, 2) := by decide +kernel
theorem dX11_sets_154 : decode cX11_sets 154 = .ok (.iload_n 1, 1) := by decide +kernel
theorem dX11_sets_155 : decode cX11_sets 155 = .ok (.iadd, 1) := by decide +kernel
theorem dX11_sets_156 : decode cX11_sets 156 = .ok (.aload_n 0, 1) := by decide +kernel
theorem dX11_sets_157 : decode cX11_sets 157 = .ok (.getfield 35, 3) := by decide +kernel
theorem dX11_sets_160 : decode cX11_sets 160 = .ok (.iconst 2, 1) := by decide +kernel
theorem dX11_sets_161 : decode cX11_sets 161 = .ok (.iload_n 1, 1) := by decide +kernel
theorem dX11_sets_162 : decode cX11_sets 162 = .ok (.imul, 1) := by decide +kernel
theorem dX11_sets_163 : decode cX11_sets 163 = .ok (.iaload, 1) := by decide +kernel
theorem dX11_sets_164 : decode cX11_sets 164 = .ok (.iastore, 1) := by decide +kernel
theorem dX11_sets_165 : decode cX11_sets 165 = .ok (.aload_n 0, 1) := by decide +kernel
theorem dX11_sets_166 : decode cX11_sets 166 = .ok (.getfield 65, 3) := by decide +kernel
theorem dX11_sets_169 : decode cX11_sets 169 = .ok (.bipush 22, 2) := by decide +kernel
theorem dX11_sets_171 : decode cX11_sets 171 = .ok (.iload_n 1, 1) := by decide +kernel
theorem dX11_sets_172 : decode cX11_sets 172 = .ok (.iadd, 1) := by decide +kernel
theorem dX11_sets_173 : decode cX11_sets 173 = .ok (.aload_n 0, 1) := by decide +kernel
theorem dX11_sets_174 : decode cX11_sets 174 = .ok (.getfield 35, 3) := by decide +kernel
theorem dX11_sets_177 : decode cX11_sets 177 = .ok (.iconst 2, 1) := by decide +kernel
theorem dX11_sets_178 : decode cX11_sets 178 = .ok (.iload_n 1, 1) := by decide +kernel
theorem dX11_sets_179 : decode cX11_sets 179 = .ok (.imul, 1) := by decide +kernel
theorem dX11_sets_180 : decode cX11_sets 180 = .ok (.iconst 1, 1) := by decide +kernel
theorem dX11_sets_181 : decode cX11_sets 181 = .ok (.iadd, 1) := by decide +kernel
theorem dX11_sets_182 : decode cX11_sets 182 = .ok (.iaload, 1) := by decide +kernel
theorem dX11_sets_183 : decode cX11_sets 183 = .ok (.iastore, 1) := by decide +kernel
theorem dX11_sets_184 : decode cX11_sets 184 = .ok (.iinc 1 1, 3) := by decide +kernel
theorem dX11_sets_187 : decode cX11_sets 187 = .ok (.goto (-47), 3) := by decide +kernel
theorem dX11_sets_190 : decode cX11_sets 190 = .ok (.return_, 1) := by decide +kernel
theorem dX11_isRow_0 : decode cX11_isRow 0 = .ok (.iload_n 0, 1) := by decide +kernel
theorem dX11_isRow_1 : decode cX11_isRow 1 = .ok (.ldc 179, 2) := by decide +kernel
theorem dX11_isRow_3 : decode cX11_isRow 3 = .ok (.invokestatic 180, 3) := by decide +kernel
theorem dX11_isRow_6 : decode cX11_isRow 6 = .ok (.if_icmp .eq 21, 3) := by decide +kernel
theorem dX11_isRow_9 : decode cX11_isRow 9 = .ok (.iload_n 0, 1) := by decide +kernel
theorem dX11_isRow_10 : decode cX11_isRow 10 = .ok (.ldc 184, 2) := by decide +kernel
theorem dX11_isRow_12 : decode cX11_isRow 12 = .ok (.invokestatic 180, 3) := by decide +kernel
theorem dX11_isRow_15 : decode cX11_isRow 15 = .ok (.if_icmp .eq 12, 3) := by decide +kernel
theorem dX11_isRow_18 : decode cX11_isRow 18 = .ok (.iload_n 0, 1) := by decide +kernel
theorem dX11_isRow_19 : decode cX11_isRow 19 = .ok (.ldc 185, 2) := by decide +kernel
theorem dX11_isRow_21 : decode cX11_isRow 21 = .ok (.invokestatic 180, 3) := by decide +kernel
theorem dX11_isRow_24 : decode cX11_isRow 24 = .ok (.if_icmp .ne 7, 3) := by decide +kernel
theorem dX11_isRow_27 : decode cX11_isRow 27 = .ok (.iconst 1, 1) := by decide +kernel
theorem dX11_isRow_28 : decode cX11_isRow 28 = .ok (.goto 4, 3) := by decide +kernel
theorem dX11_isRow_31 : decode cX11_isRow 31 = .ok (.iconst 0, 1) := by decide +kernel
theorem dX11_isRow_32 : decode cX11_isRow 32 = .ok (.ireturn, 1) := by decide +kernel
theorem dX11_readRow_0 : decode cX11_readRow 0 = .ok (.iload_n 1, 1) := by decide +kernel
theorem dX11_readRow_1 : decode cX11_readRow 1 = .ok (.ldc 179, 2) := by decide +kernel
theorem dX11_readRow_3 : decode cX11_readRow 3 = .ok (.invokestatic 180, 3) := by decide +kernel
theorem dX11_readRow_6 : decode cX11_readRow 6 = .ok (.if_icmp .ne 53, 3) := by decide +kernel
theorem dX11_readRow_9 : decode cX11_readRow 9 = .ok (.aload_n 0, 1) := by decide +kernel
theorem dX11_readRow_10 : decode cX11_readRow 10 = .ok (.getfield 23, 3) := by decide +kernel
theorem dX11_readRow_13 : decode cX11_readRow 13 = .ok (.iconst 2, 1) := by decide +kernel
theorem dX11_readRow_14 : decode cX11_readRow 14 = .ok (.aload_n 0, 1) := by decide +kernel
theorem dX11_readRow_15 : decode cX11_readRow 15 = .ok (.getfield 148, 3) := by decide +kernel
theorem dX11_readRow_18 : decode cX11_readRow 18 = .ok (.imul, 1) := by decide +kernel
theorem dX11_readRow_19 : decode cX11_readRow 19 = .ok (.aload_n 0, 1) := by decide +kernel
theorem dX11_readRow_20 : decode cX11_readRow 20 = .ok (.iconst 0, 1) := by decide +kernel
theorem dX11_readRow_21 : decode cX11_readRow 21 = .ok (.iconst 5, 1) := by decide +kernel
theorem dX11_readRow_22 : decode cX11_readRow 22 = .ok (.invokevirtual 186, 3) := by decide +kernel
theorem dX11_readRow_25 : decode cX11_readRow 25 = .ok (.iastore, 1) := by decide +kernel
theorem dX11_readRow_26 : decode cX11_readRow 26 = .ok (.aload_n 0, 1) := by decide +kernel
theorem dX11_readRow_27 : decode cX11_readRow 27 = .ok (.getfield 23, 3) := by decide +kernel
