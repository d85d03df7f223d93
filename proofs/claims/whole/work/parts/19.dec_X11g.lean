theorem dX11_saint_50 : decode cX11_saint 50 = .ok (.iconst 0, 1) := by decide +kernel
theorem dX11_saint_51 : decode cX11_saint 51 = .ok (.istore 4, 2) := by decide +kernel
theorem dX11_saint_53 : decode cX11_saint 53 = .ok (.iconst (-1), 1) := by decide +kernel
theorem dX11_saint_54 : decode cX11_saint 54 = .ok (.istore 5, 2) := by decide +kernel
theorem dX11_saint_56 : decode cX11_saint 56 = .ok (.iconst 0, 1) := by decide +kernel
theorem dX11_saint_57 : decode cX11_saint 57 = .ok (.istore 6, 2) := by decide +kernel
theorem dX11_saint_59 : decode cX11_saint 59 = .ok (.iload 6, 2) := by decide +kernel
theorem dX11_saint_61 : decode cX11_saint 61 = .ok (.iconst 4, 1) := by decide +kernel
theorem dX11_saint_62 : decode cX11_saint 62 = .ok (.if_icmp .ge 94, 3) := by decide +kernel
theorem dX11_saint_65 : decode cX11_saint 65 = .ok (.iload 6, 2) := by decide +kernel
theorem dX11_saint_67 : decode cX11_saint 67 = .ok (.iconst 2, 1) := by decide +kernel
theorem dX11_saint_68 : decode cX11_saint 68 = .ok (.idiv, 1) := by decide +kernel
theorem dX11_saint_69 : decode cX11_saint 69 = .ok (.istore 7, 2) := by decide +kernel
theorem dX11_saint_71 : decode cX11_saint 71 = .ok (.iload 6, 2) := by decide +kernel
theorem dX11_saint_73 : decode cX11_saint 73 = .ok (.iconst 2, 1) := by decide +kernel
theorem dX11_saint_74 : decode cX11_saint 74 = .ok (.irem, 1) := by decide +kernel
theorem dX11_saint_75 : decode cX11_saint 75 = .ok (.istore 8, 2) := by decide +kernel
theorem dX11_saint_77 : decode cX11_saint 77 = .ok (.iconst 1, 1) := by decide +kernel
theorem dX11_saint_78 : decode cX11_saint 78 = .ok (.iload 7, 2) := by decide +kernel
theorem dX11_saint_80 : decode cX11_saint 80 = .ok (.isub, 1) := by decide +kernel
theorem dX11_saint_81 : decode cX11_saint 81 = .ok (.iload 8, 2) := by decide +kernel
theorem dX11_saint_83 : decode cX11_saint 83 = .ok (.iload_n 1, 1) := by decide +kernel
theorem dX11_saint_84 : decode cX11_saint 84 = .ok (.iload_n 2, 1) := by decide +kernel
theorem dX11_saint_85 : decode cX11_saint 85 = .ok (.invokestatic 403, 3) := by decide +kernel
theorem dX11_saint_88 : decode cX11_saint 88 = .ok (.iload 7, 2) := by decide +kernel
theorem dX11_saint_90 : decode cX11_saint 90 = .ok (.iload 8, 2) := by decide +kernel
theorem dX11_saint_92 : decode cX11_saint 92 = .ok (.iload_n 1, 1) := by decide +kernel
theorem dX11_saint_93 : decode cX11_saint 93 = .ok (.iload_n 2, 1) := by decide +kernel
theorem dX11_saint_94 : decode cX11_saint 94 = .ok (.invokestatic 403, 3) := by decide +kernel
theorem dX11_saint_97 : decode cX11_saint 97 = .ok (.if_icmp .gt 53, 3) := by decide +kernel
theorem dX11_saint_100 : decode cX11_saint 100 = .ok (.iconst 1, 1) := by decide +kernel
theorem dX11_saint_101 : decode cX11_saint 101 = .ok (.iload 8, 2) := by decide +kernel
theorem dX11_saint_103 : decode cX11_saint 103 = .ok (.isub, 1) := by decide +kernel
theorem dX11_saint_104 : decode cX11_saint 104 = .ok (.iload 7, 2) := by decide +kernel
theorem dX11_saint_106 : decode cX11_saint 106 = .ok (.iload_n 1, 1) := by decide +kernel
theorem dX11_saint_107 : decode cX11_saint 107 = .ok (.iload_n 2, 1) := by decide +kernel
theorem dX11_saint_108 : decode cX11_saint 108 = .ok (.invokestatic 403, 3) := by decide +kernel
theorem dX11_saint_111 : decode cX11_saint 111 = .ok (.iload 8, 2) := by decide +kernel
theorem dX11_saint_113 : decode cX11_saint 113 = .ok (.iload 7, 2) := by decide +kernel
theorem dX11_saint_115 : decode cX11_saint 115 = .ok (.iload_n 1, 1) := by decide +kernel
theorem dX11_saint_116 : decode cX11_saint 116 = .ok (.iload_n 2, 1) := by decide +kernel
theorem dX11_saint_117 : decode cX11_saint 117 = .ok (.invokestatic 403, 3) := by decide +kernel
theorem dX11_saint_120 : decode cX11_saint 120 = .ok (.if_icmp .le 6, 3) := by decide +kernel
theorem dX11_saint_123 : decode cX11_saint 123 = .ok (.goto 27, 3) := by decide +kernel
theorem dX11_saint_126 : decode cX11_saint 126 = .ok (.iinc 4 1, 3) := by decide +kernel
theorem dX11_saint_129 : decode cX11_saint 129 = .ok (.iload 5, 2) := by decide +kernel
theorem dX11_saint_131 : decode cX11_saint 131 = .ok (.iconst (-1), 1) := by decide +kernel
theorem dX11_saint_132 : decode cX11_saint 132 = .ok (.if_icmp .ne 14, 3) := by decide +kernel
theorem dX11_saint_135 : decode cX11_saint 135 = .ok (.bipush 10, 2) := by decide +kernel
theorem dX11_saint_137 : decode cX11_saint 137 = .ok (.iload 7, 2) := by decide +kernel
theorem dX11_saint_139 : decode cX11_saint 139 = .ok (.imul, 1) := by decide +kernel
theorem dX11_saint_140 : decode cX11_saint 140 = .ok (.iload 8, 2) := by decide +kernel
theorem dX11_saint_142 : decode cX11_saint 142 = .ok (.iadd, 1) := by decide +kernel
theorem dX11_saint_143 : decode cX11_saint 143 = .ok (.goto 5, 3) := by decide +kernel
theorem dX11_saint_146 : decode cX11_saint 146 = .ok (.iload 5, 2) := by decide +kernel
theorem dX11_saint_148 : decode cX11_saint 148 = .ok (.istore 5, 2) := by decide +kernel
theorem dX11_saint_150 : decode cX11_saint 150 = .ok (.iinc 6 1, 3) := by decide +kernel
theorem dX11_saint_153 : decode cX11_saint 153 = .ok (.goto (-94), 3) := by decide +kernel
theorem dX11_saint_156 : decode cX11_saint 156 = .ok (.iload_n 3, 1) := by decide +kernel
theorem dX11_saint_157 : decode cX11_saint 157 = .ok (.ifCond .ne 8, 3) := by decide +kernel
theorem dX11_saint_160 : decode cX11_saint 160 = .ok (.iload 4, 2) := by decide +kernel
theorem dX11_saint_162 : decode cX11_saint 162 = .ok (.goto 54, 3) := by decide +kernel
theorem dX11_saint_165 : decode cX11_saint 165 = .ok (.iload_n 3, 1) := by decide +kernel
theorem dX11_saint_166 : decode cX11_saint 166 = .ok (.iconst 1, 1) := by decide +kernel
theorem dX11_saint_167 : decode cX11_saint 167 = .ok (.if_icmp .ne 8, 3) := by decide +kernel
theorem dX11_saint_170 : decode cX11_saint 170 = .ok (.iload 5, 2) := by decide +kernel
theorem dX11_saint_172 : decode cX11_saint 172 = .ok (.goto 44, 3) := by decide +kernel
theorem dX11_saint_175 : decode cX11_saint 175 = .ok (.iload 5, 2) := by decide +kernel
theorem dX11_saint_177 : decode cX11_saint 177 = .ok (.iconst (-1), 1) := by decide +kernel
theorem dX11_saint_178 : decode cX11_saint 178 = .ok (.if_icmp .ne 7, 3) := by decide +kernel
theorem dX11_saint_181 : decode cX11_saint 181 = .ok (.iconst 0, 1) := by decide +kernel
theorem dX11_saint_182 : decode cX11_saint 182 = .ok (.goto 34, 3) := by decide +kernel
theorem dX11_saint_185 : decode cX11_saint 185 = .ok (.iload 5, 2) := by decide +kernel
theorem dX11_saint_187 : decode cX11_saint 187 = .ok (.bipush 10, 2) := by decide +kernel
theorem dX11_saint_189 : decode cX11_saint 189 = .ok (.idiv, 1) := by decide +kernel
theorem dX11_saint_190 : decode cX11_saint 190 = .ok (.iload 5, 2) := by decide +kernel
theorem dX11_saint_192 : decode cX11_saint 192 = .ok (.bipush 10, 2) := by decide +kernel
theorem dX11_saint_194 : decode cX11_saint 194 = .ok (.irem, 1) := by decide +kernel
theorem dX11_saint_195 : decode cX11_saint 195 = .ok (.iload_n 1, 1) := by decide +kernel
theorem dX11_saint_196 : decode cX11_saint 196 = .ok (.iload_n 2, 1) := by decide +kernel
theorem dX11_saint_197 : decode cX11_saint 197 = .ok (.invokestatic 403, 3) := by decide +kernel
theorem dX11_saint_200 : decode cX11_saint 200 = .ok (.iload 5, 2) := by decide +kernel
theorem dX11_saint_202 : decode cX11_saint 202 = .ok (.bipush 10, 2) := by decide +kernel
theorem dX11_saint_204 : decode cX11_saint 204 = .ok (.irem, 1) := by decide +kernel
theorem dX11_saint_205 : decode cX11_saint 205 = .ok (.iload 5, 2) := by decide +kernel
theorem dX11_saint_207 : decode cX11_saint 207 = .ok (.bipush 10, 2) := by decide +kernel
theorem dX11_saint_209 : decode cX11_saint 209 = .ok (.idiv, 1) := by decide +kernel
theorem dX11_saint_210 : decode cX11_saint 210 = .ok (.iload_n 1, 1) := by decide +kernel
theorem dX11_saint_211 : decode cX11_saint 211 = .ok (.iload_n 2, 1) := by decide +kernel
theorem dX11_saint_212 : decode cX11_saint 212 = .ok (.invokestatic 403, 3) := by decide +kernel
theorem dX11_saint_215 : decode cX11_saint 215 = .ok (.iadd, 1) := by decide +kernel
theorem dX11_saint_216 : decode cX11_saint 216 = .ok (.ireturn, 1) := by decide +kernel
theorem dX11_candlesBy_0 : decode cX11_candlesBy 0 = .ok (.iconst 0, 1) := by decide +kernel
theorem dX11_candlesBy_1 : decode cX11_candlesBy 1 = .ok (.istore_n 3, 1) := by decide +kernel
theorem dX11_candlesBy_2 : decode cX11_candlesBy 2 = .ok (.iconst 0, 1) := by decide +kernel
theorem dX11_candlesBy_3 : decode cX11_candlesBy 3 = .ok (.istore 4, 2) := by decide +kernel
theorem dX11_candlesBy_5 : decode cX11_candlesBy 5 = .ok (.iload 4, 2) := by decide +kernel
theorem dX11_candlesBy_7 : decode cX11_candlesBy 7 = .ok (.aload_n 0, 1) := by decide +kernel
theorem dX11_candlesBy_8 : decode cX11_candlesBy 8 = .ok (.getfield 157, 3) := by decide +kernel
theorem dX11_candlesBy_11 : decode cX11_candlesBy 11 = .ok (.if_icmp .ge 33, 3) := by decide +kernel
theorem dX11_candlesBy_14 : decode cX11_candlesBy 14 = .ok (.iload_n 3, 1) := by decide +kernel
theorem dX11_candlesBy_15 : decode cX11_candlesBy 15 = .ok (.iload_n 1, 1) := by decide +kernel
theorem dX11_candlesBy_16 : decode cX11_candlesBy 16 = .ok (.iload 4, 2) := by decide +kernel
theorem dX11_candlesBy_18 : decode cX11_candlesBy 18 = .ok (.ishr, 1) := by decide +kernel
theorem dX11_candlesBy_19 : decode cX11_candlesBy 19 = .ok (.iconst 1, 1) := by decide +kernel
theorem dX11_candlesBy_20 : decode cX11_candlesBy 20 = .ok (.iand, 1) := by decide +kernel
theorem dX11_candlesBy_21 : decode cX11_candlesBy 21 = .ok (.aload_n 0, 1) := by decide +kernel
theorem dX11_candlesBy_22 : decode cX11_candlesBy 22 = .ok (.getfield 65, 3) := by decide +kernel
theorem dX11_candlesBy_25 : decode cX11_candlesBy 25 = .ok (.bipush 22, 2) := by decide +kernel
theorem dX11_candlesBy_27 : decode cX11_candlesBy 27 = .ok (.iload 4, 2) := by decide +kernel
theorem dX11_candlesBy_29 : decode cX11_candlesBy 29 = .ok (.iadd, 1) := by decide +kernel
theorem dX11_candlesBy_30 : decode cX11_candlesBy 30 = .ok (.iaload, 1) := by decide +kernel
theorem dX11_candlesBy_31 : decode cX11_candlesBy 31 = .ok (.iload_n 2, 1) := by decide +kernel
theorem dX11_candlesBy_32 : decode cX11_candlesBy 32 = .ok (.invokestatic 331, 3) := by decide +kernel
theorem dX11_candlesBy_35 : decode cX11_candlesBy 35 = .ok (.imul, 1) := by decide +kernel
theorem dX11_candlesBy_36 : decode cX11_candlesBy 36 = .ok (.iadd, 1) := by decide +kernel
theorem dX11_candlesBy_37 : decode cX11_candlesBy 37 = .ok (.istore_n 3, 1) := by decide +kernel
theorem dX11_candlesBy_38 : decode cX11_candlesBy 38 = .ok (.iinc 4 1, 3) := by decide +kernel
theorem dX11_candlesBy_41 : decode cX11_candlesBy 41 = .ok (.goto (-36), 3) := by decide +kernel
theorem dX11_candlesBy_44 : decode cX11_candlesBy 44 = .ok (.iload_n 3, 1) := by decide +kernel
theorem dX11_candlesBy_45 : decode cX11_candlesBy 45 = .ok (.ireturn, 1) := by decide +kernel
theorem dX11_candles_0 : decode cX11_candles 0 = .ok (.aload_n 0, 1) := by decide +kernel
theorem dX11_candles_1 : decode cX11_candles 1 = .ok (.iconst 0, 1) := by decide +kernel
theorem dX11_candles_2 : decode cX11_candles 2 = .ok (.putfield 3, 3) := by decide +kernel
theorem dX11_candles_5 : decode cX11_candles 5 = .ok (.aload_n 0, 1) := by decide +kernel
theorem dX11_candles_6 : decode cX11_candles 6 = .ok (.iload_n 1, 1) := by decide +kernel
theorem dX11_candles_7 : decode cX11_candles 7 = .ok (.iconst 1, 1) := by decide +kernel
theorem dX11_candles_8 : decode cX11_candles 8 = .ok (.invokevirtual 369, 3) := by decide +kernel
theorem dX11_candles_11 : decode cX11_candles 11 = .ok (.ifCond .eq 42, 3) := by decide +kernel
theorem dX11_candles_14 : decode cX11_candles 14 = .ok (.aload_n 0, 1) := by decide +kernel
theorem dX11_candles_15 : decode cX11_candles 15 = .ok (.iload_n 2, 1) := by decide +kernel
theorem dX11_candles_16 : decode cX11_candles 16 = .ok (.ifCond .lt 28, 3) := by decide +kernel
theorem dX11_candles_19 : decode cX11_candles 19 = .ok (.iload_n 2, 1) := by decide +kernel
theorem dX11_candles_20 : decode cX11_candles 20 = .ok (.iconst 1, 1) := by decide +kernel
theorem dX11_candles_21 : decode cX11_candles 21 = .ok (.aload_n 0, 1) := by decide +kernel
theorem dX11_candles_22 : decode cX11_candles 22 = .ok (.getfield 157, 3) := by decide +kernel
theorem dX11_candles_25 : decode cX11_candles 25 = .ok (.ishl, 1) := by decide +kernel
theorem dX11_candles_26 : decode cX11_candles 26 = .ok (.if_icmp .ge 18, 3) := by decide +kernel
theorem dX11_candles_29 : decode cX11_candles 29 = .ok (.iload_n 3, 1) := by decide +kernel
theorem dX11_candles_30 : decode cX11_candles 30 = .ok (.iconst 0, 1) := by decide +kernel
theorem dX11_candles_31 : decode cX11_candles 31 = .ok (.sipush 999, 3) := by decide +kernel
theorem dX11_candles_34 : decode cX11_candles 34 = .ok (.invokestatic 348, 3) := by decide +kernel
theorem dX11_candles_37 : decode cX11_candles 37 = .ok (.ifCond .eq 7, 3) := by decide +kernel
theorem dX11_candles_40 : decode cX11_candles 40 = .ok (.iconst 1, 1) := by decide +kernel
theorem dX11_candles_41 : decode cX11_candles 41 = .ok (.goto 4, 3) := by decide +kernel
theorem dX11_candles_44 : decode cX11_candles 44 = .ok (.iconst 0, 1) := by decide +kernel
theorem dX11_candles_45 : decode cX11_candles 45 = .ok (.iconst 2, 1) := by decide +kernel
theorem dX11_candles_46 : decode cX11_candles 46 = .ok (.iconst 1, 1) := by decide +kernel
theorem dX11_candles_47 : decode cX11_candles 47 = .ok (.invokevirtual 190, 3) := by decide +kernel
theorem dX11_candles_50 : decode cX11_candles 50 = .ok (.ifCond .ne 5, 3) := by decide +kernel
theorem dX11_candles_53 : decode cX11_candles 53 = .ok (.iconst 0, 1) := by decide +kernel
theorem dX11_candles_54 : decode cX11_candles 54 = .ok (.ireturn, 1) := by decide +kernel
theorem dX11_candles_55 : decode cX11_candles 55 = .ok (.sipush 300, 3) := by decide +kernel
theorem dX11_candles_58 : decode cX11_candles 58 = .ok (.istore 4, 2) := by decide +kernel
theorem dX11_candles_60 : decode cX11_candles 60 = .ok (.aload_n 0, 1) := by decide +kernel
theorem dX11_candles_61 : decode cX11_candles 61 = .ok (.iload_n 2, 1) := by decide +kernel
theorem dX11_candles_62 : decode cX11_candles 62 = .ok (.iload 4, 2) := by decide +kernel
theorem dX11_candles_64 : decode cX11_candles 64 = .ok (.invokevirtual 406, 3) := by decide +kernel
theorem dX11_candles_67 : decode cX11_candles 67 = .ok (.iload_n 3, 1) := by decide +kernel
theorem dX11_candles_68 : decode cX11_candles 68 = .ok (.if_icmp .le 9, 3) := by decide +kernel
theorem dX11_candles_71 : decode cX11_candles 71 = .ok (.iinc 4 (-1), 3) := by decide +kernel
theorem dX11_candles_74 : decode cX11_candles 74 = .ok (.goto (-14), 3) := by decide +kernel
theorem dX11_candles_77 : decode cX11_candles 77 = .ok (.iload_n 2, 1) := by decide +kernel
theorem dX11_candles_78 : decode cX11_candles 78 = .ok (.iload_n 1, 1) := by decide +kernel
theorem dX11_candles_79 : decode cX11_candles 79 = .ok (.ishr, 1) := by decide +kernel
theorem dX11_candles_80 : decode cX11_candles 80 = .ok (.iconst 1, 1) := by decide +kernel
theorem dX11_candles_81 : decode cX11_candles 81 = .ok (.iand, 1) := by decide +kernel
theorem dX11_candles_82 : decode cX11_candles 82 = .ok (.ifCond .ne 7, 3) := by decide +kernel
theorem dX11_candles_85 : decode cX11_candles 85 = .ok (.iconst 0, 1) := by decide +kernel
theorem dX11_candles_86 : decode cX11_candles 86 = .ok (.goto 17, 3) := by decide +kernel
theorem dX11_candles_89 : decode cX11_candles 89 = .ok (.aload_n 0, 1) := by decide +kernel
theorem dX11_candles_90 : decode cX11_candles 90 = .ok (.getfield 65, 3) := by decide +kernel
theorem dX11_candles_93 : decode cX11_candles 93 = .ok (.bipush 22, 2) := by decide +kernel
theorem dX11_candles_95 : decode cX11_candles 95 = .ok (.iload_n 1, 1) := by decide +kernel
theorem dX11_candles_96 : decode cX11_candles 96 = .ok (.iadd, 1) := by decide +kernel
theorem dX11_candles_97 : decode cX11_candles 97 = .ok (.iaload, 1) := by decide +kernel
theorem dX11_candles_98 : decode cX11_candles 98 = .ok (.iload 4, 2) := by decide +kernel
theorem dX11_candles_100 : decode cX11_candles 100 = .ok (.invokestatic 331, 3) := by decide +kernel
theorem dX11_candles_103 : decode cX11_candles 103 = .ok (.ireturn, 1) := by decide +kernel
theorem dX11_richest_0 : decode cX11_richest 0 = .ok (.aload_n 0, 1) := by decide +kernel
theorem dX11_richest_1 : decode cX11_richest 1 = .ok (.iconst 0, 1) := by decide +kernel
theorem dX11_richest_2 : decode cX11_richest 2 = .ok (.putfield 3, 3) := by decide +kernel
theorem dX11_richest_5 : decode cX11_richest 5 = .ok (.aload_n 0, 1) := by decide +kernel
theorem dX11_richest_6 : decode cX11_richest 6 = .ok (.iload_n 1, 1) := by decide +kernel
theorem dX11_richest_7 : decode cX11_richest 7 = .ok (.iconst 0, 1) := by decide +kernel
theorem dX11_richest_8 : decode cX11_richest 8 = .ok (.iconst 1, 1) := by decide +kernel
theorem dX11_richest_9 : decode cX11_richest 9 = .ok (.invokestatic 348, 3) := by decide +kernel
theorem dX11_richest_12 : decode cX11_richest 12 = .ok (.iconst 1, 1) := by decide +kernel
theorem dX11_richest_13 : decode cX11_richest 13 = .ok (.iconst 1, 1) := by decide +kernel
theorem dX11_richest_14 : decode cX11_richest 14 = .ok (.invokevirtual 190, 3) := by decide +kernel
theorem dX11_richest_17 : decode cX11_richest 17 = .ok (.ifCond .ne 5, 3) := by decide +kernel
theorem dX11_richest_20 : decode cX11_richest 20 = .ok (.iconst 0, 1) := by decide +kernel
theorem dX11_richest_21 : decode cX11_richest 21 = .ok (.ireturn, 1) := by decide +kernel
theorem dX11_richest_22 : decode cX11_richest 22 = .ok (.iconst (-1), 1) := by decide +kernel
theorem dX11_richest_23 : decode cX11_richest 23 = .ok (.istore_n 2, 1) := by decide +kernel
theorem dX11_richest_24 : decode cX11_richest 24 = .ok (.iconst 0, 1) := by decide +kernel
theorem dX11_richest_25 : decode cX11_richest 25 = .ok (.istore_n 3, 1) := by decide +kernel
theorem dX11_richest_26 : decode cX11_richest 26 = .ok (.iload_n 3, 1) := by decide +kernel
theorem dX11_richest_27 : decode cX11_richest 27 = .ok (.aload_n 0, 1) := by decide +kernel
theorem dX11_richest_28 : decode cX11_richest 28 = .ok (.getfield 154, 3) := by decide +kernel
theorem dX11_richest_31 : decode cX11_richest 31 = .ok (.if_icmp .ge 35, 3) := by decide +kernel
theorem dX11_richest_34 : decode cX11_richest 34 = .ok (.iload_n 2, 1) := by decide +kernel
theorem dX11_richest_35 : decode cX11_richest 35 = .ok (.iconst (-1), 1) := by decide +kernel
theorem dX11_richest_36 : decode cX11_richest 36 = .ok (.if_icmp .eq 22, 3) := by decide +kernel
theorem dX11_richest_39 : decode cX11_richest 39 = .ok (.aload_n 0, 1) := by decide +kernel
theorem dX11_richest_40 : decode cX11_richest 40 = .ok (.getfield 65, 3) := by decide +kernel
theorem dX11_richest_43 : decode cX11_richest 43 = .ok (.iconst 0, 1) := by decide +kernel
theorem dX11_richest_44 : decode cX11_richest 44 = .ok (.iload_n 3, 1) := by decide +kernel
theorem dX11_richest_45 : decode cX11_richest 45 = .ok (.iadd, 1) := by decide +kernel
theorem dX11_richest_46 : decode cX11_richest 46 = .ok (.iaload, 1) := by decide +kernel
theorem dX11_richest_47 : decode cX11_richest 47 = .ok (.aload_n 0, 1) := by decide +kernel
theorem dX11_richest_48 : decode cX11_richest 48 = .ok (.getfield 65, 3) := by decide +kernel
theorem dX11_richest_51 : decode cX11_richest 51 = .ok (.iconst 0, 1) := by decide +kernel
theorem dX11_richest_52 : decode cX11_richest 52 = .ok (.iload_n 2, 1) := by decide +kernel
theorem dX11_richest_53 : decode cX11_richest 53 = .ok (.iadd, 1) := by decide +kernel
theorem dX11_richest_54 : decode cX11_richest 54 = .ok (.iaload, 1) := by decide +kernel
theorem dX11_richest_55 : decode cX11_richest 55 = .ok (.if_icmp .le 5, 3) := by decide +kernel
theorem dX11_richest_58 : decode cX11_richest 58 = .ok (.iload_n 3, 1) := by decide +kernel
theorem dX11_richest_59 : decode cX11_richest 59 = .ok (.istore_n 2, 1) := by decide +kernel
theorem dX11_richest_60 : decode cX11_richest 60 = .ok (.iinc 3 1, 3) := by decide +kernel
theorem dX11_richest_63 : decode cX11_richest 63 = .ok (.goto (-37), 3) := by decide +kernel
theorem dX11_richest_66 : decode cX11_richest 66 = .ok (.iload_n 1, 1) := by decide +kernel
theorem dX11_richest_67 : decode cX11_richest 67 = .ok (.ifCond .eq 8, 3) := by decide +kernel
theorem dX11_richest_70 : decode cX11_richest 70 = .ok (.iload_n 2, 1) := by decide +kernel
theorem dX11_richest_71 : decode cX11_richest 71 = .ok (.iconst (-1), 1) := by decide +kernel
theorem dX11_richest_72 : decode cX11_richest 72 = .ok (.if_icmp .ne 7, 3) := by decide +kernel
theorem dX11_richest_75 : decode cX11_richest 75 = .ok (.iload_n 2, 1) := by decide +kernel
theorem dX11_richest_76 : decode cX11_richest 76 = .ok (.goto 11, 3) := by decide +kernel
theorem dX11_richest_79 : decode cX11_richest 79 = .ok (.aload_n 0, 1) := by decide +kernel
theorem dX11_richest_80 : decode cX11_richest 80 = .ok (.getfield 65, 3) := by decide +kernel
theorem dX11_richest_83 : decode cX11_richest 83 = .ok (.iconst 0, 1) := by decide +kernel
theorem dX11_richest_84 : decode cX11_richest 84 = .ok (.iload_n 2, 1) := by decide +kernel
theorem dX11_richest_85 : decode cX11_richest 85 = .ok (.iadd, 1) := by decide +kernel
theorem dX11_richest_86 : decode cX11_richest 86 = .ok (.iaload, 1) := by decide +kernel
theorem dX11_richest_87 : decode cX11_richest 87 = .ok (.ireturn, 1) := by decide +kernel
theorem dX11_next_0 : decode cX11_next 0 = .ok (.aload_n 0, 1) := by decide +kernel
theorem dX11_next_1 : decode cX11_next 1 = .ok (.iconst 0, 1) := by decide +kernel
theorem dX11_next_2 : decode cX11_next 2 = .ok (.putfield 3, 3) := by decide +kernel
theorem dX11_next_5 : decode cX11_next 5 = .ok (.aload_n 0, 1) := by decide +kernel
theorem dX11_next_6 : decode cX11_next 6 = .ok (.iload_n 1, 1) := by decide +kernel
theorem dX11_next_7 : decode cX11_next 7 = .ok (.iconst 0, 1) := by decide +kernel
theorem dX11_next_8 : decode cX11_next 8 = .ok (.iconst 1, 1) := by decide +kernel
theorem dX11_next_9 : decode cX11_next 9 = .ok (.invokestatic 348, 3) := by decide +kernel
theorem dX11_next_12 : decode cX11_next 12 = .ok (.iconst 1, 1) := by decide +kernel
theorem dX11_next_13 : decode cX11_next 13 = .ok (.iconst 1, 1) := by decide +kernel
theorem dX11_next_14 : decode cX11_next 14 = .ok (.invokevirtual 190, 3) := by decide +kernel
theorem dX11_next_17 : decode cX11_next 17 = .ok (.ifCond .ne 5, 3) := by decide +kernel
theorem dX11_next_20 : decode cX11_next 20 = .ok (.iconst 0, 1) := by decide +kernel
theorem dX11_next_21 : decode cX11_next 21 = .ok (.ireturn, 1) := by decide +kernel
theorem dX11_next_22 : decode cX11_next 22 = .ok (.aload_n 0, 1) := by decide +kernel
theorem dX11_next_23 : decode cX11_next 23 = .ok (.invokevirtual 293, 3) := by decide +kernel
theorem dX11_next_26 : decode cX11_next 26 = .ok (.iconst (-1), 1) := by decide +kernel
theorem dX11_next_27 : decode cX11_next 27 = .ok (.istore_n 2, 1) := by decide +kernel
theorem dX11_next_28 : decode cX11_next 28 = .ok (.iconst 0, 1) := by decide +kernel
theorem dX11_next_29 : decode cX11_next 29 = .ok (.istore_n 3, 1) := by decide +kernel
theorem dX11_next_30 : decode cX11_next 30 = .ok (.iload_n 3, 1) := by decide +kernel
theorem dX11_next_31 : decode cX11_next 31 = .ok (.aload_n 0, 1) := by decide +kernel
theorem dX11_next_32 : decode cX11_next 32 = .ok (.getfield 68, 3) := by decide +kernel
theorem dX11_next_35 : decode cX11_next 35 = .ok (.bipush 88, 2) := by decide +kernel
theorem dX11_next_37 : decode cX11_next 37 = .ok (.iaload, 1) := by decide +kernel
theorem dX11_next_38 : decode cX11_next 38 = .ok (.if_icmp .ge 40, 3) := by decide +kernel
theorem dX11_next_41 : decode cX11_next 41 = .ok (.aload_n 0, 1) := by decide +kernel
theorem dX11_next_42 : decode cX11_next 42 = .ok (.iload_n 3, 1) := by decide +kernel
theorem dX11_next_43 : decode cX11_next 43 = .ok (.iconst 5, 1) := by decide +kernel
theorem dX11_next_44 : decode cX11_next 44 = .ok (.invokevirtual 314, 3) := by decide +kernel
theorem dX11_next_47 : decode cX11_next 47 = .ok (.ifCond .ne 25, 3) := by decide +kernel
theorem dX11_next_50 : decode cX11_next 50 = .ok (.iload_n 2, 1) := by decide +kernel
theorem dX11_next_51 : decode cX11_next 51 = .ok (.iconst (-1), 1) := by decide +kernel
theorem dX11_next_52 : decode cX11_next 52 = .ok (.if_icmp .eq 18, 3) := by decide +kernel
theorem dX11_next_55 : decode cX11_next 55 = .ok (.aload_n 0, 1) := by decide +kernel
theorem dX11_next_56 : decode cX11_next 56 = .ok (.iload_n 3, 1) := by decide +kernel
theorem dX11_next_57 : decode cX11_next 57 = .ok (.iconst 4, 1) := by decide +kernel
theorem dX11_next_58 : decode cX11_next 58 = .ok (.invokevirtual 314, 3) := by decide +kernel
theorem dX11_next_61 : decode cX11_next 61 = .ok (.aload_n 0, 1) := by decide +kernel
theorem dX11_next_62 : decode cX11_next 62 = .ok (.iload_n 2, 1) := by decide +kernel
theorem dX11_next_63 : decode cX11_next 63 = .ok (.iconst 4, 1) := by decide +kernel
theorem dX11_next_64 : decode cX11_next 64 = .ok (.invokevirtual 314, 3) := by decide +kernel
theorem dX11_next_67 : decode cX11_next 67 = .ok (.if_icmp .ge 5, 3) := by decide +kernel
theorem dX11_next_70 : decode cX11_next 70 = .ok (.iload_n 3, 1) := by decide +kernel
theorem dX11_next_71 : decode cX11_next 71 = .ok (.istore_n 2, 1) := by decide +kernel
theorem dX11_next_72 : decode cX11_next 72 = .ok (.iinc 3 1, 3) := by decide +kernel
theorem dX11_next_75 : decode cX11_next 75 = .ok (.goto (-45), 3) := by decide +kernel
theorem dX11_next_78 : decode cX11_next 78 = .ok (.iload_n 1, 1) := by decide +kernel
theorem dX11_next_79 : decode cX11_next 79 = .ok (.ifCond .eq 8, 3) := by decide +kernel
theorem dX11_next_82 : decode cX11_next 82 = .ok (.iload_n 2, 1) := by decide +kernel
theorem dX11_next_83 : decode cX11_next 83 = .ok (.iconst (-1), 1) := by decide +kernel
theorem dX11_next_84 : decode cX11_next 84 = .ok (.if_icmp .ne 7, 3) := by decide +kernel
theorem dX11_next_87 : decode cX11_next 87 = .ok (.iload_n 2, 1) := by decide +kernel
theorem dX11_next_88 : decode cX11_next 88 = .ok (.goto 17, 3) := by decide +kernel
theorem dX11_next_91 : decode cX11_next 91 = .ok (.aload_n 0, 1) := by decide +kernel
theorem dX11_next_92 : decode cX11_next 92 = .ok (.iload_n 2, 1) := by decide +kernel
theorem dX11_next_93 : decode cX11_next 93 = .ok (.iconst 4, 1) := by decide +kernel
theorem dX11_next_94 : decode cX11_next 94 = .ok (.invokevirtual 314, 3) := by decide +kernel
theorem dX11_next_97 : decode cX11_next 97 = .ok (.aload_n 0, 1) := by decide +kernel
theorem dX11_next_98 : decode cX11_next 98 = .ok (.getfield 68, 3) := by decide +kernel
theorem dX11_next_101 : decode cX11_next 101 = .ok (.bipush 90, 2) := by decide +kernel
theorem dX11_next_103 : decode cX11_next 103 = .ok (.iaload, 1) := by decide +kernel
theorem dX11_next_104 : decode cX11_next 104 = .ok (.isub, 1) := by decide +kernel
theorem dX11_next_105 : decode cX11_next 105 = .ok (.ireturn, 1) := by decide +kernel
theorem dX11_shut_0 : decode cX11_shut 0 = .ok (.aload_n 0, 1) := by decide +kernel
theorem dX11_shut_1 : decode cX11_shut 1 = .ok (.iconst 0, 1) := by decide +kernel
theorem dX11_shut_2 : decode cX11_shut 2 = .ok (.putfield 3, 3) := by decide +kernel
theorem dX11_shut_5 : decode cX11_shut 5 = .ok (.aload_n 0, 1) := by decide +kernel
theorem dX11_shut_6 : decode cX11_shut 6 = .ok (.invokevirtual 293, 3) := by decide +kernel
theorem dX11_shut_9 : decode cX11_shut 9 = .ok (.iconst 0, 1) := by decide +kernel
theorem dX11_shut_10 : decode cX11_shut 10 = .ok (.istore_n 1, 1) := by decide +kernel
theorem dX11_shut_11 : decode cX11_shut 11 = .ok (.iconst 0, 1) := by decide +kernel
theorem dX11_shut_12 : decode cX11_shut 12 = .ok (.istore_n 2, 1) := by decide +kernel
theorem dX11_shut_13 : decode cX11_shut 13 = .ok (.iload_n 2, 1) := by decide +kernel
theorem dX11_shut_14 : decode cX11_shut 14 = .ok (.aload_n 0, 1) := by decide +kernel
theorem dX11_shut_15 : decode cX11_shut 15 = .ok (.getfield 157, 3) := by decide +kernel
theorem dX11_shut_18 : decode cX11_shut 18 = .ok (.if_icmp .ge 64, 3) := by decide +kernel
theorem dX11_shut_21 : decode cX11_shut 21 = .ok (.iconst 1, 1) := by decide +kernel
theorem dX11_shut_22 : decode cX11_shut 22 = .ok (.istore_n 3, 1) := by decide +kernel
theorem dX11_shut_23 : decode cX11_shut 23 = .ok (.iconst 0, 1) := by decide +kernel
theorem dX11_shut_24 : decode cX11_shut 24 = .ok (.istore 4, 2) := by decide +kernel
theorem dX11_shut_26 : decode cX11_shut 26 = .ok (.iload 4, 2) := by decide +kernel
theorem dX11_shut_28 : decode cX11_shut 28 = .ok (.aload_n 0, 1) := by decide +kernel
theorem dX11_shut_29 : decode cX11_shut 29 = .ok (.getfield 154, 3) := by decide +kernel
theorem dX11_shut_32 : decode cX11_shut 32 = .ok (.if_icmp .ge 30, 3) := by decide +kernel
theorem dX11_shut_35 : decode cX11_shut 35 = .ok (.iload_n 3, 1) := by decide +kernel
theorem dX11_shut_36 : decode cX11_shut 36 = .ok (.ifCond .eq 18, 3) := by decide +kernel
theorem dX11_shut_39 : decode cX11_shut 39 = .ok (.aload_n 0, 1) := by decide +kernel
theorem dX11_shut_40 : decode cX11_shut 40 = .ok (.iload_n 2, 1) := by decide +kernel
theorem dX11_shut_41 : decode cX11_shut 41 = .ok (.iload 4, 2) := by decide +kernel
theorem dX11_shut_43 : decode cX11_shut 43 = .ok (.iconst 1, 1) := by decide +kernel
theorem dX11_shut_44 : decode cX11_shut 44 = .ok (.invokevirtual 325, 3) := by decide +kernel
theorem dX11_shut_47 : decode cX11_shut 47 = .ok (.ifCond .ne 7, 3) := by decide +kernel
theorem dX11_shut_50 : decode cX11_shut 50 = .ok (.iconst 1, 1) := by decide +kernel
theorem dX11_shut_51 : decode cX11_shut 51 = .ok (.goto 4, 3) := by decide +kernel
theorem dX11_shut_54 : decode cX11_shut 54 = .ok (.iconst 0, 1) := by decide +kernel
theorem dX11_shut_55 : decode cX11_shut 55 = .ok (.istore_n 3, 1) := by decide +kernel
theorem dX11_shut_56 : decode cX11_shut 56 = .ok (.iinc 4 1, 3) := by decide +kernel
theorem dX11_shut_59 : decode cX11_shut 59 = .ok (.goto (-33), 3) := by decide +kernel
theorem dX11_shut_62 : decode cX11_shut 62 = .ok (.iload_n 1, 1) := by decide +kernel
theorem dX11_shut_63 : decode cX11_shut 63 = .ok (.iload_n 3, 1) := by decide +kernel
theorem dX11_shut_64 : decode cX11_shut 64 = .ok (.ifCond .eq 9, 3) := by decide +kernel
theorem dX11_shut_67 : decode cX11_shut 67 = .ok (.iconst 1, 1) := by decide +kernel
theorem dX11_shut_68 : decode cX11_shut 68 = .ok (.iload_n 2, 1) := by decide +kernel
theorem dX11_shut_69 : decode cX11_shut 69 = .ok (.ishl, 1) := by decide +kernel
theorem dX11_shut_70 : decode cX11_shut 70 = .ok (.goto 4, 3) := by decide +kernel
theorem dX11_shut_73 : decode cX11_shut 73 = .ok (.iconst 0, 1) := by decide +kernel
theorem dX11_shut_74 : decode cX11_shut 74 = .ok (.ior, 1) := by decide +kernel
theorem dX11_shut_75 : decode cX11_shut 75 = .ok (.istore_n 1, 1) := by decide +kernel
theorem dX11_shut_76 : decode cX11_shut 76 = .ok (.iinc 2 1, 3) := by decide +kernel
theorem dX11_shut_79 : decode cX11_shut 79 = .ok (.goto (-66), 3) := by decide +kernel
theorem dX11_shut_82 : decode cX11_shut 82 = .ok (.iload_n 1, 1) := by decide +kernel
theorem dX11_shut_83 : decode cX11_shut 83 = .ok (.ireturn, 1) := by decide +kernel
theorem dX11_kind_0 : decode cX11_kind 0 = .ok (.aload_n 0, 1) := by decide +kernel
theorem dX11_kind_1 : decode cX11_kind 1 = .ok (.iconst 0, 1) := by decide +kernel
theorem dX11_kind_2 : decode cX11_kind 2 = .ok (.putfield 3, 3) := by decide +kernel
theorem dX11_kind_5 : decode cX11_kind 5 = .ok (.aload_n 0, 1) := by decide +kernel
theorem dX11_kind_6 : decode cX11_kind 6 = .ok (.iload_n 1, 1) := by decide +kernel
theorem dX11_kind_7 : decode cX11_kind 7 = .ok (.iconst 0, 1) := by decide +kernel
theorem dX11_kind_8 : decode cX11_kind 8 = .ok (.iconst 5, 1) := by decide +kernel
theorem dX11_kind_9 : decode cX11_kind 9 = .ok (.invokestatic 348, 3) := by decide +kernel
theorem dX11_kind_12 : decode cX11_kind 12 = .ok (.ifCond .eq 16, 3) := by decide +kernel
theorem dX11_kind_15 : decode cX11_kind 15 = .ok (.iload_n 2, 1) := by decide +kernel
theorem dX11_kind_16 : decode cX11_kind 16 = .ok (.iconst 0, 1) := by decide +kernel
theorem dX11_kind_17 : decode cX11_kind 17 = .ok (.iconst 1, 1) := by decide +kernel
theorem dX11_kind_18 : decode cX11_kind 18 = .ok (.invokestatic 348, 3) := by decide +kernel
theorem dX11_kind_21 : decode cX11_kind 21 = .ok (.ifCond .eq 7, 3) := by decide +kernel
theorem dX11_kind_24 : decode cX11_kind 24 = .ok (.iconst 1, 1) := by decide +kernel
theorem dX11_kind_25 : decode cX11_kind 25 = .ok (.goto 4, 3) := by decide +kernel
theorem dX11_kind_28 : decode cX11_kind 28 = .ok (.iconst 0, 1) := by decide +kernel
theorem dX11_kind_29 : decode cX11_kind 29 = .ok (.iconst 1, 1) := by decide +kernel
theorem dX11_kind_30 : decode cX11_kind 30 = .ok (.iconst 1, 1) := by decide +kernel
theorem dX11_kind_31 : decode cX11_kind 31 = .ok (.invokevirtual 190, 3) := by decide +kernel
theorem dX11_kind_34 : decode cX11_kind 34 = .ok (.ifCond .ne 5, 3) := by decide +kernel
theorem dX11_kind_37 : decode cX11_kind 37 = .ok (.iconst 0, 1) := by decide +kernel
theorem dX11_kind_38 : decode cX11_kind 38 = .ok (.ireturn, 1) := by decide +kernel
theorem dX11_kind_39 : decode cX11_kind 39 = .ok (.aload_n 0, 1) := by decide +kernel
theorem dX11_kind_40 : decode cX11_kind 40 = .ok (.invokevirtual 293, 3) := by decide +kernel
theorem dX11_kind_43 : decode cX11_kind 43 = .ok (.iconst 0, 1) := by decide +kernel
theorem dX11_kind_44 : decode cX11_kind 44 = .ok (.istore_n 3, 1) := by decide +kernel
theorem dX11_kind_45 : decode cX11_kind 45 = .ok (.iconst 0, 1) := by decide +kernel
theorem dX11_kind_46 : decode cX11_kind 46 = .ok (.istore 4, 2) := by decide +kernel
theorem dX11_kind_48 : decode cX11_kind 48 = .ok (.iload 4, 2) := by decide +kernel
theorem dX11_kind_50 : decode cX11_kind 50 = .ok (.aload_n 0, 1) := by decide +kernel
theorem dX11_kind_51 : decode cX11_kind 51 = .ok (.getfield 154, 3) := by decide +kernel
theorem dX11_kind_54 : decode cX11_kind 54 = .ok (.if_icmp .ge 42, 3) := by decide +kernel
theorem dX11_kind_57 : decode cX11_kind 57 = .ok (.iload_n 2, 1) := by decide +kernel
theorem dX11_kind_58 : decode cX11_kind 58 = .ok (.ifCond .ne 38, 3) := by decide +kernel
theorem dX11_kind_61 : decode cX11_kind 61 = .ok (.iload_n 3, 1) := by decide +kernel
theorem dX11_kind_62 : decode cX11_kind 62 = .ok (.aload_n 0, 1) := by decide +kernel
theorem dX11_kind_63 : decode cX11_kind 63 = .ok (.getfield 32, 3) := by decide +kernel
theorem dX11_kind_66 : decode cX11_kind 66 = .ok (.iconst 2, 1) := by decide +kernel
theorem dX11_kind_67 : decode cX11_kind 67 = .ok (.iload 4, 2) := by decide +kernel
theorem dX11_kind_69 : decode cX11_kind 69 = .ok (.imul, 1) := by decide +kernel
theorem dX11_kind_70 : decode cX11_kind 70 = .ok (.iaload, 1) := by decide +kernel
theorem dX11_kind_71 : decode cX11_kind 71 = .ok (.iload_n 1, 1) := by decide +kernel
theorem dX11_kind_72 : decode cX11_kind 72 = .ok (.if_icmp .ne 15, 3) := by decide +kernel
theorem dX11_kind_75 : decode cX11_kind 75 = .ok (.aload_n 0, 1) := by decide +kernel
theorem dX11_kind_76 : decode cX11_kind 76 = .ok (.getfield 68, 3) := by decide +kernel
theorem dX11_kind_79 : decode cX11_kind 79 = .ok (.iconst 0, 1) := by decide +kernel
theorem dX11_kind_80 : decode cX11_kind 80 = .ok (.iload 4, 2) := by decide +kernel
theorem dX11_kind_82 : decode cX11_kind 82 = .ok (.iadd, 1) := by decide +kernel
theorem dX11_kind_83 : decode cX11_kind 83 = .ok (.iaload, 1) := by decide +kernel
theorem dX11_kind_84 : decode cX11_kind 84 = .ok (.goto 4, 3) := by decide +kernel
theorem dX11_kind_87 : decode cX11_kind 87 = .ok (.iconst 0, 1) := by decide +kernel
theorem dX11_kind_88 : decode cX11_kind 88 = .ok (.iadd, 1) := by decide +kernel
theorem dX11_kind_89 : decode cX11_kind 89 = .ok (.istore_n 3, 1) := by decide +kernel
theorem dX11_kind_90 : decode cX11_kind 90 = .ok (.iinc 4 1, 3) := by decide +kernel
theorem dX11_kind_93 : decode cX11_kind 93 = .ok (.goto (-45), 3) := by decide +kernel
theorem dX11_kind_96 : decode cX11_kind 96 = .ok (.iconst 0, 1) := by decide +kernel
theorem dX11_kind_97 : decode cX11_kind 97 = .ok (.istore 4, 2) := by decide +kernel
theorem dX11_kind_99 : decode cX11_kind 99 = .ok (.iload 4, 2) := by decide +kernel
theorem dX11_kind_101 : decode cX11_kind 101 = .ok (.aload_n 0, 1) := by decide +kernel
theorem dX11_kind_102 : decode cX11_kind 102 = .ok (.getfield 68, 3) := by decide +kernel
theorem dX11_kind_105 : decode cX11_kind 105 = .ok (.bipush 88, 2) := by decide +kernel
theorem dX11_kind_107 : decode cX11_kind 107 = .ok (.iaload, 1) := by decide +kernel
theorem dX11_kind_108 : decode cX11_kind 108 = .ok (.if_icmp .ge 46, 3) := by decide +kernel
theorem dX11_kind_111 : decode cX11_kind 111 = .ok (.iload_n 2, 1) := by decide +kernel
theorem dX11_kind_112 : decode cX11_kind 112 = .ok (.iconst 1, 1) := by decide +kernel
theorem dX11_kind_113 : decode cX11_kind 113 = .ok (.if_icmp .ne 41, 3) := by decide +kernel
theorem dX11_kind_116 : decode cX11_kind 116 = .ok (.iload_n 3, 1) := by decide +kernel
theorem dX11_kind_117 : decode cX11_kind 117 = .ok (.aload_n 0, 1) := by decide +kernel
theorem dX11_kind_118 : decode cX11_kind 118 = .ok (.getfield 32, 3) := by decide +kernel
theorem dX11_kind_121 : decode cX11_kind 121 = .ok (.iconst 2, 1) := by decide +kernel
theorem dX11_kind_122 : decode cX11_kind 122 = .ok (.aload_n 0, 1) := by decide +kernel
theorem dX11_kind_123 : decode cX11_kind 123 = .ok (.iload 4, 2) := by decide +kernel
theorem dX11_kind_125 : decode cX11_kind 125 = .ok (.iconst 1, 1) := by decide +kernel
theorem dX11_kind_126 : decode cX11_kind 126 = .ok (.invokevirtual 314, 3) := by decide +kernel
theorem dX11_kind_129 : decode cX11_kind 129 = .ok (.imul, 1) := by decide +kernel
theorem dX11_kind_130 : decode cX11_kind 130 = .ok (.iaload, 1) := by decide +kernel
theorem dX11_kind_131 : decode cX11_kind 131 = .ok (.iload_n 1, 1) := by decide +kernel
theorem dX11_kind_132 : decode cX11_kind 132 = .ok (.if_icmp .ne 13, 3) := by decide +kernel
theorem dX11_kind_135 : decode cX11_kind 135 = .ok (.aload_n 0, 1) := by decide +kernel
theorem dX11_kind_136 : decode cX11_kind 136 = .ok (.iload 4, 2) := by decide +kernel
theorem dX11_kind_138 : decode cX11_kind 138 = .ok (.iconst 2, 1) := by decide +kernel
theorem dX11_kind_139 : decode cX11_kind 139 = .ok (.invokevirtual 314, 3) := by decide +kernel
theorem dX11_kind_142 : decode cX11_kind 142 = .ok (.goto 4, 3) := by decide +kernel
theorem dX11_kind_145 : decode cX11_kind 145 = .ok (.iconst 0, 1) := by decide +kernel
theorem dX11_kind_146 : decode cX11_kind 146 = .ok (.iadd, 1) := by decide +kernel
theorem dX11_kind_147 : decode cX11_kind 147 = .ok (.istore_n 3, 1) := by decide +kernel
theorem dX11_kind_148 : decode cX11_kind 148 = .ok (.iinc 4 1, 3) := by decide +kernel
theorem dX11_kind_151 : decode cX11_kind 151 = .ok (.goto (-52), 3) := by decide +kernel
theorem dX11_kind_154 : decode cX11_kind 154 = .ok (.iload_n 3, 1) := by decide +kernel
theorem dX11_kind_155 : decode cX11_kind 155 = .ok (.ireturn, 1) := by decide +kernel
theorem dX11_worthOf_0 : decode cX11_worthOf 0 = .ok (.aload_n 0, 1) := by decide +kernel
theorem dX11_worthOf_1 : decode cX11_worthOf 1 = .ok (.getfield 68, 3) := by decide +kernel
theorem dX11_worthOf_4 : decode cX11_worthOf 4 = .ok (.bipush 22, 2) := by decide +kernel
theorem dX11_worthOf_6 : decode cX11_worthOf 6 = .ok (.iload_n 1, 1) := by decide +kernel
theorem dX11_worthOf_7 : decode cX11_worthOf 7 = .ok (.iadd, 1) := by decide +kernel
theorem dX11_worthOf_8 : decode cX11_worthOf 8 = .ok (.iaload, 1) := by decide +kernel
theorem dX11_worthOf_9 : decode cX11_worthOf 9 = .ok (.aload_n 0, 1) := by decide +kernel
theorem dX11_worthOf_10 : decode cX11_worthOf 10 = .ok (.aload_n 0, 1) := by decide +kernel
theorem dX11_worthOf_11 : decode cX11_worthOf 11 = .ok (.iconst 0, 1) := by decide +kernel
theorem dX11_worthOf_12 : decode cX11_worthOf 12 = .ok (.iload_n 1, 1) := by decide +kernel
theorem dX11_worthOf_13 : decode cX11_worthOf 13 = .ok (.invokevirtual 363, 3) := by decide +kernel
theorem dX11_worthOf_16 : decode cX11_worthOf 16 = .ok (.invokevirtual 360, 3) := by decide +kernel
theorem dX11_worthOf_19 : decode cX11_worthOf 19 = .ok (.isub, 1) := by decide +kernel
theorem dX11_worthOf_20 : decode cX11_worthOf 20 = .ok (.ireturn, 1) := by decide +kernel
theorem dX11_worth_0 : decode cX11_worth 0 = .ok (.aload_n 0, 1) := by decide +kernel
theorem dX11_worth_1 : decode cX11_worth 1 = .ok (.iconst 0, 1) := by decide +kernel
theorem dX11_worth_2 : decode cX11_worth 2 = .ok (.putfield 3, 3) := by decide +kernel
theorem dX11_worth_5 : decode cX11_worth 5 = .ok (.aload_n 0, 1) := by decide +kernel
theorem dX11_worth_6 : decode cX11_worth 6 = .ok (.iload_n 1, 1) := by decide +kernel
theorem dX11_worth_7 : decode cX11_worth 7 = .ok (.iconst 1, 1) := by decide +kernel
theorem dX11_worth_8 : decode cX11_worth 8 = .ok (.invokevirtual 369, 3) := by decide +kernel
theorem dX11_worth_11 : decode cX11_worth 11 = .ok (.ifCond .ne 5, 3) := by decide +kernel
theorem dX11_worth_14 : decode cX11_worth 14 = .ok (.iconst 0, 1) := by decide +kernel
theorem dX11_worth_15 : decode cX11_worth 15 = .ok (.ireturn, 1) := by decide +kernel
theorem dX11_worth_16 : decode cX11_worth 16 = .ok (.aload_n 0, 1) := by decide +kernel
theorem dX11_worth_17 : decode cX11_worth 17 = .ok (.invokevirtual 293, 3) := by decide +kernel
theorem dX11_worth_20 : decode cX11_worth 20 = .ok (.aload_n 0, 1) := by decide +kernel
theorem dX11_worth_21 : decode cX11_worth 21 = .ok (.iload_n 1, 1) := by decide +kernel
theorem dX11_worth_22 : decode cX11_worth 22 = .ok (.invokevirtual 409, 3) := by decide +kernel
theorem dX11_worth_25 : decode cX11_worth 25 = .ok (.ireturn, 1) := by decide +kernel
theorem dX11_broke_0 : decode cX11_broke 0 = .ok (.aload_n 0, 1) := by decide +kernel
theorem dX11_broke_1 : decode cX11_broke 1 = .ok (.iconst 0, 1) := by decide +kernel
theorem dX11_broke_2 : decode cX11_broke 2 = .ok (.putfield 3, 3) := by decide +kernel
theorem dX11_broke_5 : decode cX11_broke 5 = .ok (.aload_n 0, 1) := by decide +kernel
theorem dX11_broke_6 : decode cX11_broke 6 = .ok (.iload_n 1, 1) := by decide +kernel
theorem dX11_broke_7 : decode cX11_broke 7 = .ok (.iconst 1, 1) := by decide +kernel
theorem dX11_broke_8 : decode cX11_broke 8 = .ok (.invokevirtual 369, 3) := by decide +kernel
theorem dX11_broke_11 : decode cX11_broke 11 = .ok (.ifCond .ne 5, 3) := by decide +kernel
theorem dX11_broke_14 : decode cX11_broke 14 = .ok (.iconst 0, 1) := by decide +kernel
theorem dX11_broke_15 : decode cX11_broke 15 = .ok (.ireturn, 1) := by decide +kernel
theorem dX11_broke_16 : decode cX11_broke 16 = .ok (.aload_n 0, 1) := by decide +kernel
theorem dX11_broke_17 : decode cX11_broke 17 = .ok (.invokevirtual 293, 3) := by decide +kernel
theorem dX11_broke_20 : decode cX11_broke 20 = .ok (.iconst 0, 1) := by decide +kernel
theorem dX11_broke_21 : decode cX11_broke 21 = .ok (.istore_n 2, 1) := by decide +kernel
theorem dX11_broke_22 : decode cX11_broke 22 = .ok (.iload_n 2, 1) := by decide +kernel
theorem dX11_broke_23 : decode cX11_broke 23 = .ok (.bipush 99, 2) := by decide +kernel
theorem dX11_broke_25 : decode cX11_broke 25 = .ok (.if_icmp .gt 23, 3) := by decide +kernel
theorem dX11_broke_28 : decode cX11_broke 28 = .ok (.aload_n 0, 1) := by decide +kernel
theorem dX11_broke_29 : decode cX11_broke 29 = .ok (.iload_n 1, 1) := by decide +kernel
theorem dX11_broke_30 : decode cX11_broke 30 = .ok (.invokevirtual 409, 3) := by decide +kernel
theorem dX11_broke_33 : decode cX11_broke 33 = .ok (.ifCond .ge 5, 3) := by decide +kernel
theorem dX11_broke_36 : decode cX11_broke 36 = .ok (.iload_n 2, 1) := by decide +kernel
theorem dX11_broke_37 : decode cX11_broke 37 = .ok (.ireturn, 1) := by decide +kernel
theorem dX11_broke_38 : decode cX11_broke 38 = .ok (.aload_n 0, 1) := by decide +kernel
theorem dX11_broke_39 : decode cX11_broke 39 = .ok (.invokevirtual 345, 3) := by decide +kernel
theorem dX11_broke_42 : decode cX11_broke 42 = .ok (.iinc 2 1, 3) := by decide +kernel
theorem dX11_broke_45 : decode cX11_broke 45 = .ok (.goto (-23), 3) := by decide +kernel
theorem dX11_broke_48 : decode cX11_broke 48 = .ok (.iconst (-1), 1) := by decide +kernel
theorem dX11_broke_49 : decode cX11_broke 49 = .ok (.ireturn, 1) := by decide +kernel
theorem dX11_late_0 : decode cX11_late 0 = .ok (.aload_n 0, 1) := by decide +kernel
theorem dX11_late_1 : decode cX11_late 1 = .ok (.iconst 0, 1) := by decide +kernel
theorem dX11_late_2 : decode cX11_late 2 = .ok (.putfield 3, 3) := by decide +kernel
theorem dX11_late_5 : decode cX11_late 5 = .ok (.aload_n 0, 1) := by decide +kernel
theorem dX11_late_6 : decode cX11_late 6 = .ok (.iload_n 1, 1) := by decide +kernel
theorem dX11_late_7 : decode cX11_late 7 = .ok (.iconst 1, 1) := by decide +kernel
theorem dX11_late_8 : decode cX11_late 8 = .ok (.invokevirtual 369, 3) := by decide +kernel
theorem dX11_late_11 : decode cX11_late 11 = .ok (.ifCond .eq 18, 3) := by decide +kernel
theorem dX11_late_14 : decode cX11_late 14 = .ok (.aload_n 0, 1) := by decide +kernel
theorem dX11_late_15 : decode cX11_late 15 = .ok (.iload_n 2, 1) := by decide +kernel
theorem dX11_late_16 : decode cX11_late 16 = .ok (.iconst 0, 1) := by decide +kernel
theorem dX11_late_17 : decode cX11_late 17 = .ok (.iconst 1, 1) := by decide +kernel
theorem dX11_late_18 : decode cX11_late 18 = .ok (.invokestatic 348, 3) := by decide +kernel
theorem dX11_late_21 : decode cX11_late 21 = .ok (.iconst 2, 1) := by decide +kernel
theorem dX11_late_22 : decode cX11_late 22 = .ok (.iconst 1, 1) := by decide +kernel
theorem dX11_late_23 : decode cX11_late 23 = .ok (.invokevirtual 190, 3) := by decide +kernel
theorem dX11_late_26 : decode cX11_late 26 = .ok (.ifCond .ne 5, 3) := by decide +kernel
theorem dX11_late_29 : decode cX11_late 29 = .ok (.iconst 0, 1) := by decide +kernel
theorem dX11_late_30 : decode cX11_late 30 = .ok (.ireturn, 1) := by decide +kernel
theorem dX11_late_31 : decode cX11_late 31 = .ok (.aload_n 0, 1) := by decide +kernel
theorem dX11_late_32 : decode cX11_late 32 = .ok (.invokevirtual 293, 3) := by decide +kernel
theorem dX11_late_35 : decode cX11_late 35 = .ok (.aload_n 0, 1) := by decide +kernel
theorem dX11_late_36 : decode cX11_late 36 = .ok (.iconst 0, 1) := by decide +kernel
theorem dX11_late_37 : decode cX11_late 37 = .ok (.iload_n 1, 1) := by decide +kernel
theorem dX11_late_38 : decode cX11_late 38 = .ok (.invokevirtual 363, 3) := by decide +kernel
theorem dX11_late_41 : decode cX11_late 41 = .ok (.aload_n 0, 1) := by decide +kernel
theorem dX11_late_42 : decode cX11_late 42 = .ok (.iconst 5, 1) := by decide +kernel
theorem dX11_late_43 : decode cX11_late 43 = .ok (.iconst 1, 1) := by decide +kernel
theorem dX11_late_44 : decode cX11_late 44 = .ok (.iload_n 2, 1) := by decide +kernel
theorem dX11_late_45 : decode cX11_late 45 = .ok (.isub, 1) := by decide +kernel
theorem dX11_late_46 : decode cX11_late 46 = .ok (.invokevirtual 363, 3) := by decide +kernel
theorem dX11_late_49 : decode cX11_late 49 = .ok (.iand, 1) := by decide +kernel
theorem dX11_late_50 : decode cX11_late 50 = .ok (.ireturn, 1) := by decide +kernel
theorem dX11_trust_0 : decode cX11_trust 0 = .ok (.aload_n 0, 1) := by decide +kernel
theorem dX11_trust_1 : decode cX11_trust 1 = .ok (.iconst 0, 1) := by decide +kernel
theorem dX11_trust_2 : decode cX11_trust 2 = .ok (.putfield 3, 3) := by decide +kernel
theorem dX11_trust_5 : decode cX11_trust 5 = .ok (.aload_n 0, 1) := by decide +kernel
theorem dX11_trust_6 : decode cX11_trust 6 = .ok (.iload_n 1, 1) := by decide +kernel
theorem dX11_trust_7 : decode cX11_trust 7 = .ok (.iconst 1, 1) := by decide +kernel
theorem dX11_trust_8 : decode cX11_trust 8 = .ok (.invokevirtual 366, 3) := by decide +kernel
theorem dX11_trust_11 : decode cX11_trust 11 = .ok (.ifCond .eq 19, 3) := by decide +kernel
theorem dX11_trust_14 : decode cX11_trust 14 = .ok (.aload_n 0, 1) := by decide +kernel
theorem dX11_trust_15 : decode cX11_trust 15 = .ok (.iload_n 2, 1) := by decide +kernel
theorem dX11_trust_16 : decode cX11_trust 16 = .ok (.iconst 1, 1) := by decide +kernel
theorem dX11_trust_17 : decode cX11_trust 17 = .ok (.bipush 60, 2) := by decide +kernel
theorem dX11_trust_19 : decode cX11_trust 19 = .ok (.invokestatic 348, 3) := by decide +kernel
theorem dX11_trust_22 : decode cX11_trust 22 = .ok (.iconst 2, 1) := by decide +kernel
theorem dX11_trust_23 : decode cX11_trust 23 = .ok (.iconst 1, 1) := by decide +kernel
theorem dX11_trust_24 : decode cX11_trust 24 = .ok (.invokevirtual 190, 3) := by decide +kernel
theorem dX11_trust_27 : decode cX11_trust 27 = .ok (.ifCond .ne 5, 3) := by decide +kernel
theorem dX11_trust_30 : decode cX11_trust 30 = .ok (.iconst 0, 1) := by decide +kernel
theorem dX11_trust_31 : decode cX11_trust 31 = .ok (.ireturn, 1) := by decide +kernel
theorem dX11_trust_32 : decode cX11_trust 32 = .ok (.aload_n 0, 1) := by decide +kernel
theorem dX11_trust_33 : decode cX11_trust 33 = .ok (.invokevirtual 293, 3) := by decide +kernel
theorem dX11_trust_36 : decode cX11_trust 36 = .ok (.iconst 0, 1) := by decide +kernel
theorem dX11_trust_37 : decode cX11_trust 37 = .ok (.istore_n 3, 1) := by decide +kernel
theorem dX11_trust_38 : decode cX11_trust 38 = .ok (.iconst 0, 1) := by decide +kernel
theorem dX11_trust_39 : decode cX11_trust 39 = .ok (.istore 4, 2) := by decide +kernel
theorem dX11_trust_41 : decode cX11_trust 41 = .ok (.iload 4, 2) := by decide +kernel
theorem dX11_trust_43 : decode cX11_trust 43 = .ok (.aload_n 0, 1) := by decide +kernel
theorem dX11_trust_44 : decode cX11_trust 44 = .ok (.getfield 157, 3) := by decide +kernel
theorem dX11_trust_47 : decode cX11_trust 47 = .ok (.if_icmp .ge 31, 3) := by decide +kernel
theorem dX11_trust_50 : decode cX11_trust 50 = .ok (.iload_n 3, 1) := by decide +kernel
theorem dX11_trust_51 : decode cX11_trust 51 = .ok (.aload_n 0, 1) := by decide +kernel
theorem dX11_trust_52 : decode cX11_trust 52 = .ok (.iload 4, 2) := by decide +kernel
theorem dX11_trust_54 : decode cX11_trust 54 = .ok (.iload_n 1, 1) := by decide +kernel
theorem dX11_trust_55 : decode cX11_trust 55 = .ok (.iload_n 2, 1) := by decide +kernel
theorem dX11_trust_56 : decode cX11_trust 56 = .ok (.invokevirtual 325, 3) := by decide +kernel
theorem dX11_trust_59 : decode cX11_trust 59 = .ok (.ifCond .eq 10, 3) := by decide +kernel
theorem dX11_trust_62 : decode cX11_trust 62 = .ok (.iconst 1, 1) := by decide +kernel
theorem dX11_trust_63 : decode cX11_trust 63 = .ok (.iload 4, 2) := by decide +kernel
theorem dX11_trust_65 : decode cX11_trust 65 = .ok (.ishl, 1) := by decide +kernel
theorem dX11_trust_66 : decode cX11_trust 66 = .ok (.goto 4, 3) := by decide +kernel
theorem dX11_trust_69 : decode cX11_trust 69 = .ok (.iconst 0, 1) := by decide +kernel
theorem dX11_trust_70 : decode cX11_trust 70 = .ok (.ior, 1) := by decide +kernel
theorem dX11_trust_71 : decode cX11_trust 71 = .ok (.istore_n 3, 1) := by decide +kernel
theorem dX11_trust_72 : decode cX11_trust 72 = .ok (.iinc 4 1, 3) := by decide +kernel
theorem dX11_trust_75 : decode cX11_trust 75 = .ok (.goto (-34), 3) := by decide +kernel
theorem dX11_trust_78 : decode cX11_trust 78 = .ok (.iload_n 3, 1) := by decide +kernel
theorem dX11_trust_79 : decode cX11_trust 79 = .ok (.ireturn, 1) := by decide +kernel
theorem dX11_deepest_0 : decode cX11_deepest 0 = .ok (.aload_n 0, 1) := by decide +kernel
theorem dX11_deepest_1 : decode cX11_deepest 1 = .ok (.iconst 0, 1) := by decide +kernel
theorem dX11_deepest_2 : decode cX11_deepest 2 = .ok (.putfield 3, 3) := by decide +kernel
theorem dX11_deepest_5 : decode cX11_deepest 5 = .ok (.aload_n 0, 1) := by decide +kernel
theorem dX11_deepest_6 : decode cX11_deepest 6 = .ok (.iload_n 1, 1) := by decide +kernel
theorem dX11_deepest_7 : decode cX11_deepest 7 = .ok (.iconst 0, 1) := by decide +kernel
theorem dX11_deepest_8 : decode cX11_deepest 8 = .ok (.iconst 1, 1) := by decide +kernel
theorem dX11_deepest_9 : decode cX11_deepest 9 = .ok (.invokestatic 348, 3) := by decide +kernel
theorem dX11_deepest_12 : decode cX11_deepest 12 = .ok (.iconst 1, 1) := by decide +kernel
theorem dX11_deepest_13 : decode cX11_deepest 13 = .ok (.iconst 1, 1) := by decide +kernel
theorem dX11_deepest_14 : decode cX11_deepest 14 = .ok (.invokevirtual 190, 3) := by decide +kernel
theorem dX11_deepest_17 : decode cX11_deepest 17 = .ok (.ifCond .ne 5, 3) := by decide +kernel
theorem dX11_deepest_20 : decode cX11_deepest 20 = .ok (.iconst 0, 1) := by decide +kernel
theorem dX11_deepest_21 : decode cX11_deepest 21 = .ok (.ireturn, 1) := by decide +kernel
theorem dX11_deepest_22 : decode cX11_deepest 22 = .ok (.aload_n 0, 1) := by decide +kernel
theorem dX11_deepest_23 : decode cX11_deepest 23 = .ok (.invokevirtual 293, 3) := by decide +kernel
theorem dX11_deepest_26 : decode cX11_deepest 26 = .ok (.iconst (-1), 1) := by decide +kernel
theorem dX11_deepest_27 : decode cX11_deepest 27 = .ok (.istore_n 2, 1) := by decide +kernel
theorem dX11_deepest_28 : decode cX11_deepest 28 = .ok (.iconst 0, 1) := by decide +kernel
theorem dX11_deepest_29 : decode cX11_deepest 29 = .ok (.istore_n 3, 1) := by decide +kernel
theorem dX11_deepest_30 : decode cX11_deepest 30 = .ok (.iload_n 3, 1) := by decide +kernel
theorem dX11_deepest_31 : decode cX11_deepest 31 = .ok (.aload_n 0, 1) := by decide +kernel
theorem dX11_deepest_32 : decode cX11_deepest 32 = .ok (.getfield 68, 3) := by decide +kernel
theorem dX11_deepest_35 : decode cX11_deepest 35 = .ok (.bipush 88, 2) := by decide +kernel
theorem dX11_deepest_37 : decode cX11_deepest 37 = .ok (.iaload, 1) := by decide +kernel
theorem dX11_deepest_38 : decode cX11_deepest 38 = .ok (.if_icmp .ge 29, 3) := by decide +kernel
theorem dX11_deepest_41 : decode cX11_deepest 41 = .ok (.iload_n 2, 1) := by decide +kernel
theorem dX11_deepest_42 : decode cX11_deepest 42 = .ok (.iconst (-1), 1) := by decide +kernel
theorem dX11_deepest_43 : decode cX11_deepest 43 = .ok (.if_icmp .eq 16, 3) := by decide +kernel
theorem dX11_deepest_46 : decode cX11_deepest 46 = .ok (.aload_n 0, 1) := by decide +kernel
theorem dX11_deepest_47 : decode cX11_deepest 47 = .ok (.iload_n 3, 1) := by decide +kernel
theorem dX11_deepest_48 : decode cX11_deepest 48 = .ok (.invokevirtual 328, 3) := by decide +kernel
theorem dX11_deepest_51 : decode cX11_deepest 51 = .ok (.aload_n 0, 1) := by decide +kernel
theorem dX11_deepest_52 : decode cX11_deepest 52 = .ok (.iload_n 2, 1) := by decide +kernel
theorem dX11_deepest_53 : decode cX11_deepest 53 = .ok (.invokevirtual 328, 3) := by decide +kernel
theorem dX11_deepest_56 : decode cX11_deepest 56 = .ok (.if_icmp .le 5, 3) := by decide +kernel
theorem dX11_deepest_59 : decode cX11_deepest 59 = .ok (.iload_n 3, 1) := by decide +kernel
theorem dX11_deepest_60 : decode cX11_deepest 60 = .ok (.istore_n 2, 1) := by decide +kernel
theorem dX11_deepest_61 : decode cX11_deepest 61 = .ok (.iinc 3 1, 3) := by decide +kernel
theorem dX11_deepest_64 : decode cX11_deepest 64 = .ok (.goto (-34), 3) := by decide +kernel
theorem dX11_deepest_67 : decode cX11_deepest 67 = .ok (.iload_n 1, 1) := by decide +kernel
theorem dX11_deepest_68 : decode cX11_deepest 68 = .ok (.ifCond .eq 8, 3) := by decide +kernel
theorem dX11_deepest_71 : decode cX11_deepest 71 = .ok (.iload_n 2, 1) := by decide +kernel
theorem dX11_deepest_72 : decode cX11_deepest 72 = .ok (.iconst (-1), 1) := by decide +kernel
theorem dX11_deepest_73 : decode cX11_deepest 73 = .ok (.if_icmp .ne 7, 3) := by decide +kernel
theorem dX11_deepest_76 : decode cX11_deepest 76 = .ok (.iload_n 2, 1) := by decide +kernel
theorem dX11_deepest_77 : decode cX11_deepest 77 = .ok (.goto 8, 3) := by decide +kernel
theorem dX11_deepest_80 : decode cX11_deepest 80 = .ok (.aload_n 0, 1) := by decide +kernel
theorem dX11_deepest_81 : decode cX11_deepest 81 = .ok (.iload_n 2, 1) := by decide +kernel
theorem dX11_deepest_82 : decode cX11_deepest 82 = .ok (.invokevirtual 328, 3) := by decide +kernel
theorem dX11_deepest_85 : decode cX11_deepest 85 = .ok (.ireturn, 1) := by decide +kernel
theorem dX11_poorest_0 : decode cX11_poorest 0 = .ok (.aload_n 0, 1) := by decide +kernel
theorem dX11_poorest_1 : decode cX11_poorest 1 = .ok (.iconst 0, 1) := by decide +kernel
theorem dX11_poorest_2 : decode cX11_poorest 2 = .ok (.putfield 3, 3) := by decide +kernel
theorem dX11_poorest_5 : decode cX11_poorest 5 = .ok (.aload_n 0, 1) := by decide +kernel
theorem dX11_poorest_6 : decode cX11_poorest 6 = .ok (.iload_n 1, 1) := by decide +kernel
theorem dX11_poorest_7 : decode cX11_poorest 7 = .ok (.iconst 0, 1) := by decide +kernel
theorem dX11_poorest_8 : decode cX11_poorest 8 = .ok (.iconst 1, 1) := by decide +kernel
theorem dX11_poorest_9 : decode cX11_poorest 9 = .ok (.invokestatic 348, 3) := by decide +kernel
theorem dX11_poorest_12 : decode cX11_poorest 12 = .ok (.iconst 1, 1) := by decide +kernel
theorem dX11_poorest_13 : decode cX11_poorest 13 = .ok (.iconst 1, 1) := by decide +kernel
theorem dX11_poorest_14 : decode cX11_poorest 14 = .ok (.invokevirtual 190, 3) := by decide +kernel
theorem dX11_poorest_17 : decode cX11_poorest 17 = .ok (.ifCond .ne 5, 3) := by decide +kernel
theorem dX11_poorest_20 : decode cX11_poorest 20 = .ok (.iconst 0, 1) := by decide +kernel
theorem dX11_poorest_21 : decode cX11_poorest 21 = .ok (.ireturn, 1) := by decide +kernel
theorem dX11_poorest_22 : decode cX11_poorest 22 = .ok (.iconst (-1), 1) := by decide +kernel
theorem dX11_poorest_23 : decode cX11_poorest 23 = .ok (.istore_n 2, 1) := by decide +kernel
theorem dX11_poorest_24 : decode cX11_poorest 24 = .ok (.iconst 0, 1) := by decide +kernel
theorem dX11_poorest_25 : decode cX11_poorest 25 = .ok (.istore_n 3, 1) := by decide +kernel
theorem dX11_poorest_26 : decode cX11_poorest 26 = .ok (.iload_n 3, 1) := by decide +kernel
theorem dX11_poorest_27 : decode cX11_poorest 27 = .ok (.aload_n 0, 1) := by decide +kernel
theorem dX11_poorest_28 : decode cX11_poorest 28 = .ok (.getfield 157, 3) := by decide +kernel
theorem dX11_poorest_31 : decode cX11_poorest 31 = .ok (.if_icmp .ge 37, 3) := by decide +kernel
theorem dX11_poorest_34 : decode cX11_poorest 34 = .ok (.iload_n 2, 1) := by decide +kernel
theorem dX11_poorest_35 : decode cX11_poorest 35 = .ok (.iconst (-1), 1) := by decide +kernel
theorem dX11_poorest_36 : decode cX11_poorest 36 = .ok (.if_icmp .eq 24, 3) := by decide +kernel
theorem dX11_poorest_39 : decode cX11_poorest 39 = .ok (.aload_n 0, 1) := by decide +kernel
theorem dX11_poorest_40 : decode cX11_poorest 40 = .ok (.getfield 65, 3) := by decide +kernel
theorem dX11_poorest_43 : decode cX11_poorest 43 = .ok (.bipush 22, 2) := by decide +kernel
theorem dX11_poorest_45 : decode cX11_poorest 45 = .ok (.iload_n 3, 1) := by decide +kernel
theorem dX11_poorest_46 : decode cX11_poorest 46 = .ok (.iadd, 1) := by decide +kernel
theorem dX11_poorest_47 : decode cX11_poorest 47 = .ok (.iaload, 1) := by decide +kernel
theorem dX11_poorest_48 : decode cX11_poorest 48 = .ok (.aload_n 0, 1) := by decide +kernel
theorem dX11_poorest_49 : decode cX11_poorest 49 = .ok (.getfield 65, 3) := by decide +kernel
theorem dX11_poorest_52 : decode cX11_poorest 52 = .ok (.bipush 22, 2) := by decide +kernel
theorem dX11_poorest_54 : decode cX11_poorest 54 = .ok (.iload_n 2, 1) := by decide +kernel
theorem dX11_poorest_55 : decode cX11_poorest 55 = .ok (.iadd, 1) := by decide +kernel
theorem dX11_poorest_56 : decode cX11_poorest 56 = .ok (.iaload, 1) := by decide +kernel
theorem dX11_poorest_57 : decode cX11_poorest 57 = .ok (.if_icmp .ge 5, 3) := by decide +kernel
theorem dX11_poorest_60 : decode cX11_poorest 60 = .ok (.iload_n 3, 1) := by decide +kernel
theorem dX11_poorest_61 : decode cX11_poorest 61 = .ok (.istore_n 2, 1) := by decide +kernel
theorem dX11_poorest_62 : decode cX11_poorest 62 = .ok (.iinc 3 1, 3) := by decide +kernel
theorem dX11_poorest_65 : decode cX11_poorest 65 = .ok (.goto (-39), 3) := by decide +kernel
theorem dX11_poorest_68 : decode cX11_poorest 68 = .ok (.iload_n 1, 1) := by decide +kernel
theorem dX11_poorest_69 : decode cX11_poorest 69 = .ok (.ifCond .eq 8, 3) := by decide +kernel
theorem dX11_poorest_72 : decode cX11_poorest 72 = .ok (.iload_n 2, 1) := by decide +kernel
theorem dX11_poorest_73 : decode cX11_poorest 73 = .ok (.iconst (-1), 1) := by decide +kernel
theorem dX11_poorest_74 : decode cX11_poorest 74 = .ok (.if_icmp .ne 7, 3) := by decide +kernel
theorem dX11_poorest_77 : decode cX11_poorest 77 = .ok (.iload_n 2, 1) := by decide +kernel
theorem dX11_poorest_78 : decode cX11_poorest 78 = .ok (.goto 12, 3) := by decide +kernel
theorem dX11_poorest_81 : decode cX11_poorest 81 = .ok (.aload_n 0, 1) := by decide +kernel
theorem dX11_poorest_82 : decode cX11_poorest 82 = .ok (.getfield 65, 3) := by decide +kernel
theorem dX11_poorest_85 : decode cX11_poorest 85 = .ok (.bipush 22, 2) := by decide +kernel
theorem dX11_poorest_87 : decode cX11_poorest 87 = .ok (.iload_n 2, 1) := by decide +kernel
theorem dX11_poorest_88 : decode cX11_poorest 88 = .ok (.iadd, 1) := by decide +kernel
theorem dX11_poorest_89 : decode cX11_poorest 89 = .ok (.iaload, 1) := by decide +kernel
theorem dX11_poorest_90 : decode cX11_poorest 90 = .ok (.ireturn, 1) := by decide +kernel
theorem dX11_draws_0 : decode cX11_draws 0 = .ok (.aload_n 0, 1) := by decide +kernel
theorem dX11_draws_1 : decode cX11_draws 1 = .ok (.aload_n 0, 1) := by decide +kernel
theorem dX11_draws_2 : decode cX11_draws 2 = .ok (.getfield 412, 3) := by decide +kernel
theorem dX11_draws_5 : decode cX11_draws 5 = .ok (.ldc_w 415, 3) := by decide +kernel
theorem dX11_draws_8 : decode cX11_draws 8 = .ok (.imul, 1) := by decide +kernel
theorem dX11_draws_9 : decode cX11_draws 9 = .ok (.sipush 12345, 3) := by decide +kernel
theorem dX11_draws_12 : decode cX11_draws 12 = .ok (.iadd, 1) := by decide +kernel
theorem dX11_draws_13 : decode cX11_draws 13 = .ok (.putfield 412, 3) := by decide +kernel
theorem dX11_draws_16 : decode cX11_draws 16 = .ok (.aload_n 0, 1) := by decide +kernel
theorem dX11_draws_17 : decode cX11_draws 17 = .ok (.getfield 412, 3) := by decide +kernel
theorem dX11_draws_20 : decode cX11_draws 20 = .ok (.bipush 16, 2) := by decide +kernel
theorem dX11_draws_22 : decode cX11_draws 22 = .ok (.ishr, 1) := by decide +kernel
theorem dX11_draws_23 : decode cX11_draws 23 = .ok (.sipush 32767, 3) := by decide +kernel
theorem dX11_draws_26 : decode cX11_draws 26 = .ok (.iand, 1) := by decide +kernel
theorem dX11_draws_27 : decode cX11_draws 27 = .ok (.iload_n 1, 1) := by decide +kernel
