theorem dX11_readRow_30 : decode cX11_readRow 30 = .ok (.iconst 2, 1) := by decide +kernel
theorem dX11_readRow_31 : decode cX11_readRow 31 = .ok (.aload_n 0, 1) := by decide +kernel
theorem dX11_readRow_32 : decode cX11_readRow 32 = .ok (.getfield 148, 3) := by decide +kernel
theorem dX11_readRow_35 : decode cX11_readRow 35 = .ok (.imul, 1) := by decide +kernel
theorem dX11_readRow_36 : decode cX11_readRow 36 = .ok (.iconst 1, 1) := by decide +kernel
theorem dX11_readRow_37 : decode cX11_readRow 37 = .ok (.iadd, 1) := by decide +kernel
theorem dX11_readRow_38 : decode cX11_readRow 38 = .ok (.aload_n 0, 1) := by decide +kernel
theorem dX11_readRow_39 : decode cX11_readRow 39 = .ok (.iconst 0, 1) := by decide +kernel
theorem dX11_readRow_40 : decode cX11_readRow 40 = .ok (.bipush 60, 2) := by decide +kernel
theorem dX11_readRow_42 : decode cX11_readRow 42 = .ok (.invokevirtual 186, 3) := by decide +kernel
theorem dX11_readRow_45 : decode cX11_readRow 45 = .ok (.iastore, 1) := by decide +kernel
theorem dX11_readRow_46 : decode cX11_readRow 46 = .ok (.aload_n 0, 1) := by decide +kernel
theorem dX11_readRow_47 : decode cX11_readRow 47 = .ok (.dup, 1) := by decide +kernel
theorem dX11_readRow_48 : decode cX11_readRow 48 = .ok (.getfield 148, 3) := by decide +kernel
theorem dX11_readRow_51 : decode cX11_readRow 51 = .ok (.iconst 1, 1) := by decide +kernel
theorem dX11_readRow_52 : decode cX11_readRow 52 = .ok (.iadd, 1) := by decide +kernel
theorem dX11_readRow_53 : decode cX11_readRow 53 = .ok (.putfield 148, 3) := by decide +kernel
theorem dX11_readRow_56 : decode cX11_readRow 56 = .ok (.goto 106, 3) := by decide +kernel
theorem dX11_readRow_59 : decode cX11_readRow 59 = .ok (.iload_n 1, 1) := by decide +kernel
theorem dX11_readRow_60 : decode cX11_readRow 60 = .ok (.ldc 184, 2) := by decide +kernel
theorem dX11_readRow_62 : decode cX11_readRow 62 = .ok (.invokestatic 180, 3) := by decide +kernel
theorem dX11_readRow_65 : decode cX11_readRow 65 = .ok (.if_icmp .ne 54, 3) := by decide +kernel
theorem dX11_readRow_68 : decode cX11_readRow 68 = .ok (.aload_n 0, 1) := by decide +kernel
theorem dX11_readRow_69 : decode cX11_readRow 69 = .ok (.getfield 26, 3) := by decide +kernel
theorem dX11_readRow_72 : decode cX11_readRow 72 = .ok (.iconst 2, 1) := by decide +kernel
theorem dX11_readRow_73 : decode cX11_readRow 73 = .ok (.aload_n 0, 1) := by decide +kernel
theorem dX11_readRow_74 : decode cX11_readRow 74 = .ok (.getfield 151, 3) := by decide +kernel
theorem dX11_readRow_77 : decode cX11_readRow 77 = .ok (.imul, 1) := by decide +kernel
theorem dX11_readRow_78 : decode cX11_readRow 78 = .ok (.aload_n 0, 1) := by decide +kernel
theorem dX11_readRow_79 : decode cX11_readRow 79 = .ok (.iconst 0, 1) := by decide +kernel
theorem dX11_readRow_80 : decode cX11_readRow 80 = .ok (.bipush 9, 2) := by decide +kernel
theorem dX11_readRow_82 : decode cX11_readRow 82 = .ok (.invokevirtual 186, 3) := by decide +kernel
theorem dX11_readRow_85 : decode cX11_readRow 85 = .ok (.iastore, 1) := by decide +kernel
theorem dX11_readRow_86 : decode cX11_readRow 86 = .ok (.aload_n 0, 1) := by decide +kernel
theorem dX11_readRow_87 : decode cX11_readRow 87 = .ok (.getfield 26, 3) := by decide +kernel
theorem dX11_readRow_90 : decode cX11_readRow 90 = .ok (.iconst 2, 1) := by decide +kernel
theorem dX11_readRow_91 : decode cX11_readRow 91 = .ok (.aload_n 0, 1) := by decide +kernel
theorem dX11_readRow_92 : decode cX11_readRow 92 = .ok (.getfield 151, 3) := by decide +kernel
theorem dX11_readRow_95 : decode cX11_readRow 95 = .ok (.imul, 1) := by decide +kernel
theorem dX11_readRow_96 : decode cX11_readRow 96 = .ok (.iconst 1, 1) := by decide +kernel
theorem dX11_readRow_97 : decode cX11_readRow 97 = .ok (.iadd, 1) := by decide +kernel
theorem dX11_readRow_98 : decode cX11_readRow 98 = .ok (.aload_n 0, 1) := by decide +kernel
theorem dX11_readRow_99 : decode cX11_readRow 99 = .ok (.iconst 0, 1) := by decide +kernel
theorem dX11_readRow_100 : decode cX11_readRow 100 = .ok (.bipush 99, 2) := by decide +kernel
theorem dX11_readRow_102 : decode cX11_readRow 102 = .ok (.invokevirtual 186, 3) := by decide +kernel
theorem dX11_readRow_105 : decode cX11_readRow 105 = .ok (.iastore, 1) := by decide +kernel
theorem dX11_readRow_106 : decode cX11_readRow 106 = .ok (.aload_n 0, 1) := by decide +kernel
theorem dX11_readRow_107 : decode cX11_readRow 107 = .ok (.dup, 1) := by decide +kernel
theorem dX11_readRow_108 : decode cX11_readRow 108 = .ok (.getfield 151, 3) := by decide +kernel
theorem dX11_readRow_111 : decode cX11_readRow 111 = .ok (.iconst 1, 1) := by decide +kernel
theorem dX11_readRow_112 : decode cX11_readRow 112 = .ok (.iadd, 1) := by decide +kernel
theorem dX11_readRow_113 : decode cX11_readRow 113 = .ok (.putfield 151, 3) := by decide +kernel
theorem dX11_readRow_116 : decode cX11_readRow 116 = .ok (.goto 46, 3) := by decide +kernel
theorem dX11_readRow_119 : decode cX11_readRow 119 = .ok (.aload_n 0, 1) := by decide +kernel
theorem dX11_readRow_120 : decode cX11_readRow 120 = .ok (.iconst 0, 1) := by decide +kernel
theorem dX11_readRow_121 : decode cX11_readRow 121 = .ok (.aload_n 0, 1) := by decide +kernel
theorem dX11_readRow_122 : decode cX11_readRow 122 = .ok (.getfield 151, 3) := by decide +kernel
theorem dX11_readRow_125 : decode cX11_readRow 125 = .ok (.iconst 1, 1) := by decide +kernel
theorem dX11_readRow_126 : decode cX11_readRow 126 = .ok (.isub, 1) := by decide +kernel
theorem dX11_readRow_127 : decode cX11_readRow 127 = .ok (.invokevirtual 186, 3) := by decide +kernel
theorem dX11_readRow_130 : decode cX11_readRow 130 = .ok (.istore_n 2, 1) := by decide +kernel
theorem dX11_readRow_131 : decode cX11_readRow 131 = .ok (.aload_n 0, 1) := by decide +kernel
theorem dX11_readRow_132 : decode cX11_readRow 132 = .ok (.iconst 0, 1) := by decide +kernel
theorem dX11_readRow_133 : decode cX11_readRow 133 = .ok (.aload_n 0, 1) := by decide +kernel
theorem dX11_readRow_134 : decode cX11_readRow 134 = .ok (.getfield 148, 3) := by decide +kernel
theorem dX11_readRow_137 : decode cX11_readRow 137 = .ok (.iconst 1, 1) := by decide +kernel
theorem dX11_readRow_138 : decode cX11_readRow 138 = .ok (.isub, 1) := by decide +kernel
theorem dX11_readRow_139 : decode cX11_readRow 139 = .ok (.invokevirtual 186, 3) := by decide +kernel
theorem dX11_readRow_142 : decode cX11_readRow 142 = .ok (.istore_n 3, 1) := by decide +kernel
theorem dX11_readRow_143 : decode cX11_readRow 143 = .ok (.aload_n 0, 1) := by decide +kernel
theorem dX11_readRow_144 : decode cX11_readRow 144 = .ok (.invokevirtual 134, 3) := by decide +kernel
theorem dX11_readRow_147 : decode cX11_readRow 147 = .ok (.ifCond .eq 15, 3) := by decide +kernel
theorem dX11_readRow_150 : decode cX11_readRow 150 = .ok (.aload_n 0, 1) := by decide +kernel
theorem dX11_readRow_151 : decode cX11_readRow 151 = .ok (.getfield 29, 3) := by decide +kernel
theorem dX11_readRow_154 : decode cX11_readRow 154 = .ok (.iload_n 2, 1) := by decide +kernel
theorem dX11_readRow_155 : decode cX11_readRow 155 = .ok (.dup2, 1) := by decide +kernel
theorem dX11_readRow_156 : decode cX11_readRow 156 = .ok (.iaload, 1) := by decide +kernel
theorem dX11_readRow_157 : decode cX11_readRow 157 = .ok (.iconst 1, 1) := by decide +kernel
theorem dX11_readRow_158 : decode cX11_readRow 158 = .ok (.iload_n 3, 1) := by decide +kernel
theorem dX11_readRow_159 : decode cX11_readRow 159 = .ok (.ishl, 1) := by decide +kernel
theorem dX11_readRow_160 : decode cX11_readRow 160 = .ok (.ior, 1) := by decide +kernel
theorem dX11_readRow_161 : decode cX11_readRow 161 = .ok (.iastore, 1) := by decide +kernel
theorem dX11_readRow_162 : decode cX11_readRow 162 = .ok (.return_, 1) := by decide +kernel
theorem dX11_county_0 : decode cX11_county 0 = .ok (.aload_n 0, 1) := by decide +kernel
theorem dX11_county_1 : decode cX11_county 1 = .ok (.iconst 0, 1) := by decide +kernel
theorem dX11_county_2 : decode cX11_county 2 = .ok (.putfield 3, 3) := by decide +kernel
theorem dX11_county_5 : decode cX11_county 5 = .ok (.aload_n 0, 1) := by decide +kernel
theorem dX11_county_6 : decode cX11_county 6 = .ok (.iload_n 1, 1) := by decide +kernel
theorem dX11_county_7 : decode cX11_county 7 = .ok (.ifCond .lt 15, 3) := by decide +kernel
theorem dX11_county_10 : decode cX11_county 10 = .ok (.iload_n 1, 1) := by decide +kernel
theorem dX11_county_11 : decode cX11_county 11 = .ok (.aload_n 0, 1) := by decide +kernel
theorem dX11_county_12 : decode cX11_county 12 = .ok (.getfield 102, 3) := by decide +kernel
theorem dX11_county_15 : decode cX11_county 15 = .ok (.if_icmp .gt 7, 3) := by decide +kernel
theorem dX11_county_18 : decode cX11_county 18 = .ok (.iconst 1, 1) := by decide +kernel
theorem dX11_county_19 : decode cX11_county 19 = .ok (.goto 4, 3) := by decide +kernel
theorem dX11_county_22 : decode cX11_county 22 = .ok (.iconst 0, 1) := by decide +kernel
theorem dX11_county_23 : decode cX11_county 23 = .ok (.iconst 1, 1) := by decide +kernel
theorem dX11_county_24 : decode cX11_county 24 = .ok (.iconst 1, 1) := by decide +kernel
theorem dX11_county_25 : decode cX11_county 25 = .ok (.invokevirtual 190, 3) := by decide +kernel
theorem dX11_county_28 : decode cX11_county 28 = .ok (.ifCond .ne 5, 3) := by decide +kernel
theorem dX11_county_31 : decode cX11_county 31 = .ok (.iconst 0, 1) := by decide +kernel
theorem dX11_county_32 : decode cX11_county 32 = .ok (.ireturn, 1) := by decide +kernel
theorem dX11_county_33 : decode cX11_county 33 = .ok (.aload_n 0, 1) := by decide +kernel
theorem dX11_county_34 : decode cX11_county 34 = .ok (.iload_n 1, 1) := by decide +kernel
theorem dX11_county_35 : decode cX11_county 35 = .ok (.invokevirtual 194, 3) := by decide +kernel
theorem dX11_county_38 : decode cX11_county 38 = .ok (.aload_n 0, 1) := by decide +kernel
theorem dX11_county_39 : decode cX11_county 39 = .ok (.invokevirtual 96, 3) := by decide +kernel
theorem dX11_county_42 : decode cX11_county 42 = .ok (.iconst 0, 1) := by decide +kernel
theorem dX11_county_43 : decode cX11_county 43 = .ok (.istore_n 2, 1) := by decide +kernel
theorem dX11_county_44 : decode cX11_county 44 = .ok (.aload_n 0, 1) := by decide +kernel
theorem dX11_county_45 : decode cX11_county 45 = .ok (.invokevirtual 134, 3) := by decide +kernel
theorem dX11_county_48 : decode cX11_county 48 = .ok (.ifCond .eq 116, 3) := by decide +kernel
theorem dX11_county_51 : decode cX11_county 51 = .ok (.aload_n 0, 1) := by decide +kernel
theorem dX11_county_52 : decode cX11_county 52 = .ok (.invokevirtual 198, 3) := by decide +kernel
theorem dX11_county_55 : decode cX11_county 55 = .ok (.ifCond .eq 109, 3) := by decide +kernel
theorem dX11_county_58 : decode cX11_county 58 = .ok (.aload_n 0, 1) := by decide +kernel
theorem dX11_county_59 : decode cX11_county 59 = .ok (.invokevirtual 201, 3) := by decide +kernel
theorem dX11_county_62 : decode cX11_county 62 = .ok (.istore_n 3, 1) := by decide +kernel
theorem dX11_county_63 : decode cX11_county 63 = .ok (.iload_n 3, 1) := by decide +kernel
theorem dX11_county_64 : decode cX11_county 64 = .ok (.invokestatic 204, 3) := by decide +kernel
theorem dX11_county_67 : decode cX11_county 67 = .ok (.ifCond .ne 15, 3) := by decide +kernel
theorem dX11_county_70 : decode cX11_county 70 = .ok (.aload_n 0, 1) := by decide +kernel
theorem dX11_county_71 : decode cX11_county 71 = .ok (.iconst 1, 1) := by decide +kernel
theorem dX11_county_72 : decode cX11_county 72 = .ok (.aload_n 0, 1) := by decide +kernel
theorem dX11_county_73 : decode cX11_county 73 = .ok (.getfield 111, 3) := by decide +kernel
theorem dX11_county_76 : decode cX11_county 76 = .ok (.invokevirtual 141, 3) := by decide +kernel
theorem dX11_county_79 : decode cX11_county 79 = .ok (.goto 54, 3) := by decide +kernel
theorem dX11_county_82 : decode cX11_county 82 = .ok (.iload_n 2, 1) := by decide +kernel
theorem dX11_county_83 : decode cX11_county 83 = .ok (.bipush 60, 2) := by decide +kernel
theorem dX11_county_85 : decode cX11_county 85 = .ok (.if_icmp .eq 39, 3) := by decide +kernel
theorem dX11_county_88 : decode cX11_county 88 = .ok (.iload_n 3, 1) := by decide +kernel
theorem dX11_county_89 : decode cX11_county 89 = .ok (.ldc 179, 2) := by decide +kernel
theorem dX11_county_91 : decode cX11_county 91 = .ok (.invokestatic 180, 3) := by decide +kernel
theorem dX11_county_94 : decode cX11_county 94 = .ok (.if_icmp .ne 12, 3) := by decide +kernel
theorem dX11_county_97 : decode cX11_county 97 = .ok (.aload_n 0, 1) := by decide +kernel
theorem dX11_county_98 : decode cX11_county 98 = .ok (.getfield 148, 3) := by decide +kernel
theorem dX11_county_101 : decode cX11_county 101 = .ok (.bipush 8, 2) := by decide +kernel
theorem dX11_county_103 : decode cX11_county 103 = .ok (.if_icmp .eq 21, 3) := by decide +kernel
theorem dX11_county_106 : decode cX11_county 106 = .ok (.iload_n 3, 1) := by decide +kernel
theorem dX11_county_107 : decode cX11_county 107 = .ok (.ldc 184, 2) := by decide +kernel
theorem dX11_county_109 : decode cX11_county 109 = .ok (.invokestatic 180, 3) := by decide +kernel
theorem dX11_county_112 : decode cX11_county 112 = .ok (.if_icmp .ne 21, 3) := by decide +kernel
theorem dX11_county_115 : decode cX11_county 115 = .ok (.aload_n 0, 1) := by decide +kernel
theorem dX11_county_116 : decode cX11_county 116 = .ok (.getfield 151, 3) := by decide +kernel
theorem dX11_county_119 : decode cX11_county 119 = .ok (.bipush 6, 2) := by decide +kernel
theorem dX11_county_121 : decode cX11_county 121 = .ok (.if_icmp .ne 12, 3) := by decide +kernel
theorem dX11_county_124 : decode cX11_county 124 = .ok (.aload_n 0, 1) := by decide +kernel
theorem dX11_county_125 : decode cX11_county 125 = .ok (.iconst 3, 1) := by decide +kernel
theorem dX11_county_126 : decode cX11_county 126 = .ok (.aload_n 0, 1) := by decide +kernel
theorem dX11_county_127 : decode cX11_county 127 = .ok (.getfield 111, 3) := by decide +kernel
theorem dX11_county_130 : decode cX11_county 130 = .ok (.invokevirtual 141, 3) := by decide +kernel
theorem dX11_county_133 : decode cX11_county 133 = .ok (.aload_n 0, 1) := by decide +kernel
theorem dX11_county_134 : decode cX11_county 134 = .ok (.invokevirtual 134, 3) := by decide +kernel
theorem dX11_county_137 : decode cX11_county 137 = .ok (.ifCond .ne 6, 3) := by decide +kernel
theorem dX11_county_140 : decode cX11_county 140 = .ok (.goto 24, 3) := by decide +kernel
theorem dX11_county_143 : decode cX11_county 143 = .ok (.aload_n 0, 1) := by decide +kernel
theorem dX11_county_144 : decode cX11_county 144 = .ok (.invokevirtual 207, 3) := by decide +kernel
theorem dX11_county_147 : decode cX11_county 147 = .ok (.aload_n 0, 1) := by decide +kernel
theorem dX11_county_148 : decode cX11_county 148 = .ok (.iload_n 3, 1) := by decide +kernel
theorem dX11_county_149 : decode cX11_county 149 = .ok (.invokevirtual 210, 3) := by decide +kernel
theorem dX11_county_152 : decode cX11_county 152 = .ok (.aload_n 0, 1) := by decide +kernel
theorem dX11_county_153 : decode cX11_county 153 = .ok (.bipush 59, 2) := by decide +kernel
theorem dX11_county_155 : decode cX11_county 155 = .ok (.invokevirtual 213, 3) := by decide +kernel
theorem dX11_county_158 : decode cX11_county 158 = .ok (.iinc 2 1, 3) := by decide +kernel
theorem dX11_county_161 : decode cX11_county 161 = .ok (.goto (-117), 3) := by decide +kernel
theorem dX11_county_164 : decode cX11_county 164 = .ok (.aload_n 0, 1) := by decide +kernel
theorem dX11_county_165 : decode cX11_county 165 = .ok (.aload_n 0, 1) := by decide +kernel
theorem dX11_county_166 : decode cX11_county 166 = .ok (.getfield 148, 3) := by decide +kernel
theorem dX11_county_169 : decode cX11_county 169 = .ok (.invokevirtual 216, 3) := by decide +kernel
theorem dX11_county_172 : decode cX11_county 172 = .ok (.istore_n 3, 1) := by decide +kernel
theorem dX11_county_173 : decode cX11_county 173 = .ok (.aload_n 0, 1) := by decide +kernel
theorem dX11_county_174 : decode cX11_county 174 = .ok (.getfield 105, 3) := by decide +kernel
theorem dX11_county_177 : decode cX11_county 177 = .ok (.iconst (-1), 1) := by decide +kernel
theorem dX11_county_178 : decode cX11_county 178 = .ok (.if_icmp .ne 7, 3) := by decide +kernel
theorem dX11_county_181 : decode cX11_county 181 = .ok (.aload_n 0, 1) := by decide +kernel
theorem dX11_county_182 : decode cX11_county 182 = .ok (.invokevirtual 99, 3) := by decide +kernel
theorem dX11_county_185 : decode cX11_county 185 = .ok (.iload_n 3, 1) := by decide +kernel
theorem dX11_county_186 : decode cX11_county 186 = .ok (.ireturn, 1) := by decide +kernel
theorem dX11_emit_0 : decode cX11_emit 0 = .ok (.aload_n 0, 1) := by decide +kernel
theorem dX11_emit_1 : decode cX11_emit 1 = .ok (.invokevirtual 134, 3) := by decide +kernel
theorem dX11_emit_4 : decode cX11_emit 4 = .ok (.ifCond .ne 4, 3) := by decide +kernel
theorem dX11_emit_7 : decode cX11_emit 7 = .ok (.return_, 1) := by decide +kernel
theorem dX11_emit_8 : decode cX11_emit 8 = .ok (.aload_n 0, 1) := by decide +kernel
theorem dX11_emit_9 : decode cX11_emit 9 = .ok (.getfield 41, 3) := by decide +kernel
theorem dX11_emit_12 : decode cX11_emit 12 = .ok (.aload_n 0, 1) := by decide +kernel
theorem dX11_emit_13 : decode cX11_emit 13 = .ok (.getfield 220, 3) := by decide +kernel
theorem dX11_emit_16 : decode cX11_emit 16 = .ok (.iload_n 1, 1) := by decide +kernel
theorem dX11_emit_17 : decode cX11_emit 17 = .ok (.iastore, 1) := by decide +kernel
theorem dX11_emit_18 : decode cX11_emit 18 = .ok (.aload_n 0, 1) := by decide +kernel
theorem dX11_emit_19 : decode cX11_emit 19 = .ok (.getfield 44, 3) := by decide +kernel
theorem dX11_emit_22 : decode cX11_emit 22 = .ok (.aload_n 0, 1) := by decide +kernel
theorem dX11_emit_23 : decode cX11_emit 23 = .ok (.getfield 220, 3) := by decide +kernel
theorem dX11_emit_26 : decode cX11_emit 26 = .ok (.iload_n 2, 1) := by decide +kernel
theorem dX11_emit_27 : decode cX11_emit 27 = .ok (.iastore, 1) := by decide +kernel
theorem dX11_emit_28 : decode cX11_emit 28 = .ok (.aload_n 0, 1) := by decide +kernel
theorem dX11_emit_29 : decode cX11_emit 29 = .ok (.dup, 1) := by decide +kernel
theorem dX11_emit_30 : decode cX11_emit 30 = .ok (.getfield 220, 3) := by decide +kernel
theorem dX11_emit_33 : decode cX11_emit 33 = .ok (.iconst 1, 1) := by decide +kernel
theorem dX11_emit_34 : decode cX11_emit 34 = .ok (.iadd, 1) := by decide +kernel
theorem dX11_emit_35 : decode cX11_emit 35 = .ok (.putfield 220, 3) := by decide +kernel
theorem dX11_emit_38 : decode cX11_emit 38 = .ok (.return_, 1) := by decide +kernel
theorem dX11_opensOne_0 : decode cX11_opensOne 0 = .ok (.aload_n 0, 1) := by decide +kernel
theorem dX11_opensOne_1 : decode cX11_opensOne 1 = .ok (.invokevirtual 134, 3) := by decide +kernel
theorem dX11_opensOne_4 : decode cX11_opensOne 4 = .ok (.ifCond .eq 21, 3) := by decide +kernel
theorem dX11_opensOne_7 : decode cX11_opensOne 7 = .ok (.aload_n 0, 1) := by decide +kernel
theorem dX11_opensOne_8 : decode cX11_opensOne 8 = .ok (.getfield 145, 3) := by decide +kernel
theorem dX11_opensOne_11 : decode cX11_opensOne 11 = .ok (.bipush 6, 2) := by decide +kernel
theorem dX11_opensOne_13 : decode cX11_opensOne 13 = .ok (.if_icmp .ne 12, 3) := by decide +kernel
theorem dX11_opensOne_16 : decode cX11_opensOne 16 = .ok (.aload_n 0, 1) := by decide +kernel
theorem dX11_opensOne_17 : decode cX11_opensOne 17 = .ok (.iconst 3, 1) := by decide +kernel
theorem dX11_opensOne_18 : decode cX11_opensOne 18 = .ok (.aload_n 0, 1) := by decide +kernel
theorem dX11_opensOne_19 : decode cX11_opensOne 19 = .ok (.getfield 111, 3) := by decide +kernel
theorem dX11_opensOne_22 : decode cX11_opensOne 22 = .ok (.invokevirtual 141, 3) := by decide +kernel
theorem dX11_opensOne_25 : decode cX11_opensOne 25 = .ok (.aload_n 0, 1) := by decide +kernel
theorem dX11_opensOne_26 : decode cX11_opensOne 26 = .ok (.invokevirtual 134, 3) := by decide +kernel
theorem dX11_opensOne_29 : decode cX11_opensOne 29 = .ok (.ifCond .eq 13, 3) := by decide +kernel
theorem dX11_opensOne_32 : decode cX11_opensOne 32 = .ok (.aload_n 0, 1) := by decide +kernel
theorem dX11_opensOne_33 : decode cX11_opensOne 33 = .ok (.dup, 1) := by decide +kernel
theorem dX11_opensOne_34 : decode cX11_opensOne 34 = .ok (.getfield 111, 3) := by decide +kernel
theorem dX11_opensOne_37 : decode cX11_opensOne 37 = .ok (.iload_n 1, 1) := by decide +kernel
theorem dX11_opensOne_38 : decode cX11_opensOne 38 = .ok (.iadd, 1) := by decide +kernel
theorem dX11_opensOne_39 : decode cX11_opensOne 39 = .ok (.putfield 111, 3) := by decide +kernel
theorem dX11_opensOne_42 : decode cX11_opensOne 42 = .ok (.aload_n 0, 1) := by decide +kernel
theorem dX11_opensOne_43 : decode cX11_opensOne 43 = .ok (.dup, 1) := by decide +kernel
theorem dX11_opensOne_44 : decode cX11_opensOne 44 = .ok (.getfield 145, 3) := by decide +kernel
theorem dX11_opensOne_47 : decode cX11_opensOne 47 = .ok (.iconst 1, 1) := by decide +kernel
theorem dX11_opensOne_48 : decode cX11_opensOne 48 = .ok (.iadd, 1) := by decide +kernel
theorem dX11_opensOne_49 : decode cX11_opensOne 49 = .ok (.putfield 145, 3) := by decide +kernel
theorem dX11_opensOne_52 : decode cX11_opensOne 52 = .ok (.return_, 1) := by decide +kernel
theorem dX11_readSum_0 : decode cX11_readSum 0 = .ok (.aload_n 0, 1) := by decide +kernel
theorem dX11_readSum_1 : decode cX11_readSum 1 = .ok (.invokevirtual 223, 3) := by decide +kernel
theorem dX11_readSum_4 : decode cX11_readSum 4 = .ok (.aload_n 0, 1) := by decide +kernel
theorem dX11_readSum_5 : decode cX11_readSum 5 = .ok (.invokevirtual 134, 3) := by decide +kernel
theorem dX11_readSum_8 : decode cX11_readSum 8 = .ok (.ifCond .eq 59, 3) := by decide +kernel
theorem dX11_readSum_11 : decode cX11_readSum 11 = .ok (.aload_n 0, 1) := by decide +kernel
theorem dX11_readSum_12 : decode cX11_readSum 12 = .ok (.invokevirtual 117, 3) := by decide +kernel
theorem dX11_readSum_15 : decode cX11_readSum 15 = .ok (.bipush 43, 2) := by decide +kernel
theorem dX11_readSum_17 : decode cX11_readSum 17 = .ok (.if_icmp .eq 12, 3) := by decide +kernel
theorem dX11_readSum_20 : decode cX11_readSum 20 = .ok (.aload_n 0, 1) := by decide +kernel
theorem dX11_readSum_21 : decode cX11_readSum 21 = .ok (.invokevirtual 117, 3) := by decide +kernel
theorem dX11_readSum_24 : decode cX11_readSum 24 = .ok (.bipush 45, 2) := by decide +kernel
theorem dX11_readSum_26 : decode cX11_readSum 26 = .ok (.if_icmp .ne 41, 3) := by decide +kernel
theorem dX11_readSum_29 : decode cX11_readSum 29 = .ok (.aload_n 0, 1) := by decide +kernel
theorem dX11_readSum_30 : decode cX11_readSum 30 = .ok (.invokevirtual 117, 3) := by decide +kernel
theorem dX11_readSum_33 : decode cX11_readSum 33 = .ok (.bipush 43, 2) := by decide +kernel
theorem dX11_readSum_35 : decode cX11_readSum 35 = .ok (.if_icmp .ne 7, 3) := by decide +kernel
theorem dX11_readSum_38 : decode cX11_readSum 38 = .ok (.iconst 2, 1) := by decide +kernel
theorem dX11_readSum_39 : decode cX11_readSum 39 = .ok (.goto 4, 3) := by decide +kernel
theorem dX11_readSum_42 : decode cX11_readSum 42 = .ok (.iconst 3, 1) := by decide +kernel
theorem dX11_readSum_43 : decode cX11_readSum 43 = .ok (.istore_n 1, 1) := by decide +kernel
theorem dX11_readSum_44 : decode cX11_readSum 44 = .ok (.aload_n 0, 1) := by decide +kernel
theorem dX11_readSum_45 : decode cX11_readSum 45 = .ok (.dup, 1) := by decide +kernel
theorem dX11_readSum_46 : decode cX11_readSum 46 = .ok (.getfield 111, 3) := by decide +kernel
theorem dX11_readSum_49 : decode cX11_readSum 49 = .ok (.iconst 1, 1) := by decide +kernel
theorem dX11_readSum_50 : decode cX11_readSum 50 = .ok (.iadd, 1) := by decide +kernel
theorem dX11_readSum_51 : decode cX11_readSum 51 = .ok (.putfield 111, 3) := by decide +kernel
theorem dX11_readSum_54 : decode cX11_readSum 54 = .ok (.aload_n 0, 1) := by decide +kernel
theorem dX11_readSum_55 : decode cX11_readSum 55 = .ok (.invokevirtual 223, 3) := by decide +kernel
theorem dX11_readSum_58 : decode cX11_readSum 58 = .ok (.aload_n 0, 1) := by decide +kernel
theorem dX11_readSum_59 : decode cX11_readSum 59 = .ok (.iload_n 1, 1) := by decide +kernel
theorem dX11_readSum_60 : decode cX11_readSum 60 = .ok (.iconst 0, 1) := by decide +kernel
theorem dX11_readSum_61 : decode cX11_readSum 61 = .ok (.invokevirtual 226, 3) := by decide +kernel
theorem dX11_readSum_64 : decode cX11_readSum 64 = .ok (.goto (-60), 3) := by decide +kernel
theorem dX11_readSum_67 : decode cX11_readSum 67 = .ok (.return_, 1) := by decide +kernel
theorem dX11_readProduct_0 : decode cX11_readProduct 0 = .ok (.aload_n 0, 1) := by decide +kernel
theorem dX11_readProduct_1 : decode cX11_readProduct 1 = .ok (.invokevirtual 229, 3) := by decide +kernel
theorem dX11_readProduct_4 : decode cX11_readProduct 4 = .ok (.aload_n 0, 1) := by decide +kernel
theorem dX11_readProduct_5 : decode cX11_readProduct 5 = .ok (.invokevirtual 134, 3) := by decide +kernel
theorem dX11_readProduct_8 : decode cX11_readProduct 8 = .ok (.ifCond .eq 82, 3) := by decide +kernel
theorem dX11_readProduct_11 : decode cX11_readProduct 11 = .ok (.aload_n 0, 1) := by decide +kernel
theorem dX11_readProduct_12 : decode cX11_readProduct 12 = .ok (.invokevirtual 117, 3) := by decide +kernel
theorem dX11_readProduct_15 : decode cX11_readProduct 15 = .ok (.bipush 42, 2) := by decide +kernel
theorem dX11_readProduct_17 : decode cX11_readProduct 17 = .ok (.if_icmp .eq 21, 3) := by decide +kernel
theorem dX11_readProduct_20 : decode cX11_readProduct 20 = .ok (.aload_n 0, 1) := by decide +kernel
theorem dX11_readProduct_21 : decode cX11_readProduct 21 = .ok (.invokevirtual 117, 3) := by decide +kernel
theorem dX11_readProduct_24 : decode cX11_readProduct 24 = .ok (.bipush 47, 2) := by decide +kernel
theorem dX11_readProduct_26 : decode cX11_readProduct 26 = .ok (.if_icmp .eq 12, 3) := by decide +kernel
theorem dX11_readProduct_29 : decode cX11_readProduct 29 = .ok (.aload_n 0, 1) := by decide +kernel
theorem dX11_readProduct_30 : decode cX11_readProduct 30 = .ok (.invokevirtual 117, 3) := by decide +kernel
theorem dX11_readProduct_33 : decode cX11_readProduct 33 = .ok (.bipush 37, 2) := by decide +kernel
theorem dX11_readProduct_35 : decode cX11_readProduct 35 = .ok (.if_icmp .ne 55, 3) := by decide +kernel
theorem dX11_readProduct_38 : decode cX11_readProduct 38 = .ok (.aload_n 0, 1) := by decide +kernel
theorem dX11_readProduct_39 : decode cX11_readProduct 39 = .ok (.invokevirtual 117, 3) := by decide +kernel
theorem dX11_readProduct_42 : decode cX11_readProduct 42 = .ok (.bipush 42, 2) := by decide +kernel
theorem dX11_readProduct_44 : decode cX11_readProduct 44 = .ok (.if_icmp .ne 7, 3) := by decide +kernel
theorem dX11_readProduct_47 : decode cX11_readProduct 47 = .ok (.iconst 4, 1) := by decide +kernel
theorem dX11_readProduct_48 : decode cX11_readProduct 48 = .ok (.goto 18, 3) := by decide +kernel
theorem dX11_readProduct_51 : decode cX11_readProduct 51 = .ok (.aload_n 0, 1) := by decide +kernel
theorem dX11_readProduct_52 : decode cX11_readProduct 52 = .ok (.invokevirtual 117, 3) := by decide +kernel
theorem dX11_readProduct_55 : decode cX11_readProduct 55 = .ok (.bipush 47, 2) := by decide +kernel
theorem dX11_readProduct_57 : decode cX11_readProduct 57 = .ok (.if_icmp .ne 7, 3) := by decide +kernel
theorem dX11_readProduct_60 : decode cX11_readProduct 60 = .ok (.iconst 5, 1) := by decide +kernel
theorem dX11_readProduct_61 : decode cX11_readProduct 61 = .ok (.goto 5, 3) := by decide +kernel
theorem dX11_readProduct_64 : decode cX11_readProduct 64 = .ok (.bipush 8, 2) := by decide +kernel
theorem dX11_readProduct_66 : decode cX11_readProduct 66 = .ok (.istore_n 1, 1) := by decide +kernel
theorem dX11_readProduct_67 : decode cX11_readProduct 67 = .ok (.aload_n 0, 1) := by decide +kernel
theorem dX11_readProduct_68 : decode cX11_readProduct 68 = .ok (.dup, 1) := by decide +kernel
theorem dX11_readProduct_69 : decode cX11_readProduct 69 = .ok (.getfield 111, 3) := by decide +kernel
theorem dX11_readProduct_72 : decode cX11_readProduct 72 = .ok (.iconst 1, 1) := by decide +kernel
theorem dX11_readProduct_73 : decode cX11_readProduct 73 = .ok (.iadd, 1) := by decide +kernel
theorem dX11_readProduct_74 : decode cX11_readProduct 74 = .ok (.putfield 111, 3) := by decide +kernel
theorem dX11_readProduct_77 : decode cX11_readProduct 77 = .ok (.aload_n 0, 1) := by decide +kernel
theorem dX11_readProduct_78 : decode cX11_readProduct 78 = .ok (.invokevirtual 229, 3) := by decide +kernel
theorem dX11_readProduct_81 : decode cX11_readProduct 81 = .ok (.aload_n 0, 1) := by decide +kernel
theorem dX11_readProduct_82 : decode cX11_readProduct 82 = .ok (.iload_n 1, 1) := by decide +kernel
theorem dX11_readProduct_83 : decode cX11_readProduct 83 = .ok (.iconst 0, 1) := by decide +kernel
theorem dX11_readProduct_84 : decode cX11_readProduct 84 = .ok (.invokevirtual 226, 3) := by decide +kernel
theorem dX11_readProduct_87 : decode cX11_readProduct 87 = .ok (.goto (-83), 3) := by decide +kernel
theorem dX11_readProduct_90 : decode cX11_readProduct 90 = .ok (.return_, 1) := by decide +kernel
theorem dX11_readTwo_0 : decode cX11_readTwo 0 = .ok (.aload_n 0, 1) := by decide +kernel
theorem dX11_readTwo_1 : decode cX11_readTwo 1 = .ok (.iload_n 1, 1) := by decide +kernel
theorem dX11_readTwo_2 : decode cX11_readTwo 2 = .ok (.invokevirtual 232, 3) := by decide +kernel
theorem dX11_readTwo_5 : decode cX11_readTwo 5 = .ok (.aload_n 0, 1) := by decide +kernel
theorem dX11_readTwo_6 : decode cX11_readTwo 6 = .ok (.bipush 91, 2) := by decide +kernel
theorem dX11_readTwo_8 : decode cX11_readTwo 8 = .ok (.invokevirtual 213, 3) := by decide +kernel
theorem dX11_readTwo_11 : decode cX11_readTwo 11 = .ok (.aload_n 0, 1) := by decide +kernel
theorem dX11_readTwo_12 : decode cX11_readTwo 12 = .ok (.invokevirtual 235, 3) := by decide +kernel
theorem dX11_readTwo_15 : decode cX11_readTwo 15 = .ok (.aload_n 0, 1) := by decide +kernel
theorem dX11_readTwo_16 : decode cX11_readTwo 16 = .ok (.bipush 44, 2) := by decide +kernel
theorem dX11_readTwo_18 : decode cX11_readTwo 18 = .ok (.invokevirtual 213, 3) := by decide +kernel
theorem dX11_readTwo_21 : decode cX11_readTwo 21 = .ok (.aload_n 0, 1) := by decide +kernel
theorem dX11_readTwo_22 : decode cX11_readTwo 22 = .ok (.invokevirtual 235, 3) := by decide +kernel
theorem dX11_readTwo_25 : decode cX11_readTwo 25 = .ok (.aload_n 0, 1) := by decide +kernel
theorem dX11_readTwo_26 : decode cX11_readTwo 26 = .ok (.bipush 93, 2) := by decide +kernel
theorem dX11_readTwo_28 : decode cX11_readTwo 28 = .ok (.invokevirtual 213, 3) := by decide +kernel
theorem dX11_readTwo_31 : decode cX11_readTwo 31 = .ok (.aload_n 0, 1) := by decide +kernel
theorem dX11_readTwo_32 : decode cX11_readTwo 32 = .ok (.dup, 1) := by decide +kernel
theorem dX11_readTwo_33 : decode cX11_readTwo 33 = .ok (.getfield 145, 3) := by decide +kernel
theorem dX11_readTwo_36 : decode cX11_readTwo 36 = .ok (.iconst 1, 1) := by decide +kernel
theorem dX11_readTwo_37 : decode cX11_readTwo 37 = .ok (.isub, 1) := by decide +kernel
theorem dX11_readTwo_38 : decode cX11_readTwo 38 = .ok (.putfield 145, 3) := by decide +kernel
theorem dX11_readTwo_41 : decode cX11_readTwo 41 = .ok (.aload_n 0, 1) := by decide +kernel
theorem dX11_readTwo_42 : decode cX11_readTwo 42 = .ok (.iload_n 2, 1) := by decide +kernel
theorem dX11_readTwo_43 : decode cX11_readTwo 43 = .ok (.iconst 0, 1) := by decide +kernel
theorem dX11_readTwo_44 : decode cX11_readTwo 44 = .ok (.invokevirtual 226, 3) := by decide +kernel
theorem dX11_readTwo_47 : decode cX11_readTwo 47 = .ok (.return_, 1) := by decide +kernel
theorem dX11_standsHere_0 : decode cX11_standsHere 0 = .ok (.aload_n 0, 1) := by decide +kernel
theorem dX11_standsHere_1 : decode cX11_standsHere 1 = .ok (.invokevirtual 117, 3) := by decide +kernel
theorem dX11_standsHere_4 : decode cX11_standsHere 4 = .ok (.pop, 1) := by decide +kernel
theorem dX11_standsHere_5 : decode cX11_standsHere 5 = .ok (.iconst 0, 1) := by decide +kernel
theorem dX11_standsHere_6 : decode cX11_standsHere 6 = .ok (.istore_n 2, 1) := by decide +kernel
theorem dX11_standsHere_7 : decode cX11_standsHere 7 = .ok (.iload_n 2, 1) := by decide +kernel
theorem dX11_standsHere_8 : decode cX11_standsHere 8 = .ok (.aload_n 1, 1) := by decide +kernel
theorem dX11_standsHere_9 : decode cX11_standsHere 9 = .ok (.invokevirtual 125, 3) := by decide +kernel
theorem dX11_standsHere_12 : decode cX11_standsHere 12 = .ok (.if_icmp .ge 43, 3) := by decide +kernel
theorem dX11_standsHere_15 : decode cX11_standsHere 15 = .ok (.aload_n 0, 1) := by decide +kernel
theorem dX11_standsHere_16 : decode cX11_standsHere 16 = .ok (.getfield 111, 3) := by decide +kernel
theorem dX11_standsHere_19 : decode cX11_standsHere 19 = .ok (.iload_n 2, 1) := by decide +kernel
theorem dX11_standsHere_20 : decode cX11_standsHere 20 = .ok (.iadd, 1) := by decide +kernel
theorem dX11_standsHere_21 : decode cX11_standsHere 21 = .ok (.aload_n 0, 1) := by decide +kernel
theorem dX11_standsHere_22 : decode cX11_standsHere 22 = .ok (.getfield 114, 3) := by decide +kernel
theorem dX11_standsHere_25 : decode cX11_standsHere 25 = .ok (.if_icmp .ge 22, 3) := by decide +kernel
theorem dX11_standsHere_28 : decode cX11_standsHere 28 = .ok (.aload_n 0, 1) := by decide +kernel
theorem dX11_standsHere_29 : decode cX11_standsHere 29 = .ok (.getfield 20, 3) := by decide +kernel
theorem dX11_standsHere_32 : decode cX11_standsHere 32 = .ok (.aload_n 0, 1) := by decide +kernel
theorem dX11_standsHere_33 : decode cX11_standsHere 33 = .ok (.getfield 111, 3) := by decide +kernel
theorem dX11_standsHere_36 : decode cX11_standsHere 36 = .ok (.iload_n 2, 1) := by decide +kernel
theorem dX11_standsHere_37 : decode cX11_standsHere 37 = .ok (.iadd, 1) := by decide +kernel
theorem dX11_standsHere_38 : decode cX11_standsHere 38 = .ok (.iaload, 1) := by decide +kernel
theorem dX11_standsHere_39 : decode cX11_standsHere 39 = .ok (.aload_n 1, 1) := by decide +kernel
theorem dX11_standsHere_40 : decode cX11_standsHere 40 = .ok (.iload_n 2, 1) := by decide +kernel
theorem dX11_standsHere_41 : decode cX11_standsHere 41 = .ok (.invokevirtual 130, 3) := by decide +kernel
theorem dX11_standsHere_44 : decode cX11_standsHere 44 = .ok (.if_icmp .eq 5, 3) := by decide +kernel
theorem dX11_standsHere_47 : decode cX11_standsHere 47 = .ok (.iconst 0, 1) := by decide +kernel
theorem dX11_standsHere_48 : decode cX11_standsHere 48 = .ok (.ireturn, 1) := by decide +kernel
theorem dX11_standsHere_49 : decode cX11_standsHere 49 = .ok (.iinc 2 1, 3) := by decide +kernel
theorem dX11_standsHere_52 : decode cX11_standsHere 52 = .ok (.goto (-45), 3) := by decide +kernel
theorem dX11_standsHere_55 : decode cX11_standsHere 55 = .ok (.aload_n 0, 1) := by decide +kernel
theorem dX11_standsHere_56 : decode cX11_standsHere 56 = .ok (.getfield 111, 3) := by decide +kernel
theorem dX11_standsHere_59 : decode cX11_standsHere 59 = .ok (.aload_n 1, 1) := by decide +kernel
theorem dX11_standsHere_60 : decode cX11_standsHere 60 = .ok (.invokevirtual 125, 3) := by decide +kernel
theorem dX11_standsHere_63 : decode cX11_standsHere 63 = .ok (.iadd, 1) := by decide +kernel
theorem dX11_standsHere_64 : decode cX11_standsHere 64 = .ok (.aload_n 0, 1) := by decide +kernel
theorem dX11_standsHere_65 : decode cX11_standsHere 65 = .ok (.getfield 114, 3) := by decide +kernel
theorem dX11_standsHere_68 : decode cX11_standsHere 68 = .ok (.if_icmp .ge 23, 3) := by decide +kernel
theorem dX11_standsHere_71 : decode cX11_standsHere 71 = .ok (.aload_n 0, 1) := by decide +kernel
theorem dX11_standsHere_72 : decode cX11_standsHere 72 = .ok (.getfield 20, 3) := by decide +kernel
theorem dX11_standsHere_75 : decode cX11_standsHere 75 = .ok (.aload_n 0, 1) := by decide +kernel
theorem dX11_standsHere_76 : decode cX11_standsHere 76 = .ok (.getfield 111, 3) := by decide +kernel
theorem dX11_standsHere_79 : decode cX11_standsHere 79 = .ok (.aload_n 1, 1) := by decide +kernel
theorem dX11_standsHere_80 : decode cX11_standsHere 80 = .ok (.invokevirtual 125, 3) := by decide +kernel
theorem dX11_standsHere_83 : decode cX11_standsHere 83 = .ok (.iadd, 1) := by decide +kernel
theorem dX11_standsHere_84 : decode cX11_standsHere 84 = .ok (.iaload, 1) := by decide +kernel
theorem dX11_standsHere_85 : decode cX11_standsHere 85 = .ok (.invokestatic 121, 3) := by decide +kernel
theorem dX11_standsHere_88 : decode cX11_standsHere 88 = .ok (.ifCond .ne 7, 3) := by decide +kernel
theorem dX11_standsHere_91 : decode cX11_standsHere 91 = .ok (.iconst 1, 1) := by decide +kernel
theorem dX11_standsHere_92 : decode cX11_standsHere 92 = .ok (.goto 4, 3) := by decide +kernel
theorem dX11_standsHere_95 : decode cX11_standsHere 95 = .ok (.iconst 0, 1) := by decide +kernel
theorem dX11_standsHere_96 : decode cX11_standsHere 96 = .ok (.ireturn, 1) := by decide +kernel
theorem dX11_factHere_0 : decode cX11_factHere 0 = .ok (.aload_n 0, 1) := by decide +kernel
theorem dX11_factHere_1 : decode cX11_factHere 1 = .ok (.ldc 238, 2) := by decide +kernel
theorem dX11_factHere_3 : decode cX11_factHere 3 = .ok (.invokevirtual 240, 3) := by decide +kernel
theorem dX11_factHere_6 : decode cX11_factHere 6 = .ok (.ifCond .eq 5, 3) := by decide +kernel
theorem dX11_factHere_9 : decode cX11_factHere 9 = .ok (.iconst 4, 1) := by decide +kernel
theorem dX11_factHere_10 : decode cX11_factHere 10 = .ok (.ireturn, 1) := by decide +kernel
theorem dX11_factHere_11 : decode cX11_factHere 11 = .ok (.aload_n 0, 1) := by decide +kernel
theorem dX11_factHere_12 : decode cX11_factHere 12 = .ok (.invokevirtual 201, 3) := by decide +kernel
theorem dX11_factHere_15 : decode cX11_factHere 15 = .ok (.istore_n 1, 1) := by decide +kernel
theorem dX11_factHere_16 : decode cX11_factHere 16 = .ok (.iload_n 1, 1) := by decide +kernel
theorem dX11_factHere_17 : decode cX11_factHere 17 = .ok (.ldc 244, 2) := by decide +kernel
theorem dX11_factHere_19 : decode cX11_factHere 19 = .ok (.invokestatic 180, 3) := by decide +kernel
theorem dX11_factHere_22 : decode cX11_factHere 22 = .ok (.if_icmp .ne 7, 3) := by decide +kernel
theorem dX11_factHere_25 : decode cX11_factHere 25 = .ok (.iconst 0, 1) := by decide +kernel
theorem dX11_factHere_26 : decode cX11_factHere 26 = .ok (.goto 84, 3) := by decide +kernel
theorem dX11_factHere_29 : decode cX11_factHere 29 = .ok (.iload_n 1, 1) := by decide +kernel
theorem dX11_factHere_30 : decode cX11_factHere 30 = .ok (.ldc 246, 2) := by decide +kernel
theorem dX11_factHere_32 : decode cX11_factHere 32 = .ok (.invokestatic 180, 3) := by decide +kernel
theorem dX11_factHere_35 : decode cX11_factHere 35 = .ok (.if_icmp .ne 7, 3) := by decide +kernel
theorem dX11_factHere_38 : decode cX11_factHere 38 = .ok (.iconst 1, 1) := by decide +kernel
theorem dX11_factHere_39 : decode cX11_factHere 39 = .ok (.goto 71, 3) := by decide +kernel
theorem dX11_factHere_42 : decode cX11_factHere 42 = .ok (.iload_n 1, 1) := by decide +kernel
theorem dX11_factHere_43 : decode cX11_factHere 43 = .ok (.ldc 248, 2) := by decide +kernel
theorem dX11_factHere_45 : decode cX11_factHere 45 = .ok (.invokestatic 180, 3) := by decide +kernel
theorem dX11_factHere_48 : decode cX11_factHere 48 = .ok (.if_icmp .ne 7, 3) := by decide +kernel
theorem dX11_factHere_51 : decode cX11_factHere 51 = .ok (.iconst 2, 1) := by decide +kernel
theorem dX11_factHere_52 : decode cX11_factHere 52 = .ok (.goto 58, 3) := by decide +kernel
theorem dX11_factHere_55 : decode cX11_factHere 55 = .ok (.iload_n 1, 1) := by decide +kernel
theorem dX11_factHere_56 : decode cX11_factHere 56 = .ok (.ldc 185, 2) := by decide +kernel
theorem dX11_factHere_58 : decode cX11_factHere 58 = .ok (.invokestatic 180, 3) := by decide +kernel
theorem dX11_factHere_61 : decode cX11_factHere 61 = .ok (.if_icmp .ne 7, 3) := by decide +kernel
theorem dX11_factHere_64 : decode cX11_factHere 64 = .ok (.iconst 3, 1) := by decide +kernel
theorem dX11_factHere_65 : decode cX11_factHere 65 = .ok (.goto 45, 3) := by decide +kernel
theorem dX11_factHere_68 : decode cX11_factHere 68 = .ok (.iload_n 1, 1) := by decide +kernel
theorem dX11_factHere_69 : decode cX11_factHere 69 = .ok (.ldc 250, 2) := by decide +kernel
theorem dX11_factHere_71 : decode cX11_factHere 71 = .ok (.invokestatic 180, 3) := by decide +kernel
theorem dX11_factHere_74 : decode cX11_factHere 74 = .ok (.if_icmp .ne 7, 3) := by decide +kernel
theorem dX11_factHere_77 : decode cX11_factHere 77 = .ok (.iconst 5, 1) := by decide +kernel
theorem dX11_factHere_78 : decode cX11_factHere 78 = .ok (.goto 32, 3) := by decide +kernel
theorem dX11_factHere_81 : decode cX11_factHere 81 = .ok (.iload_n 1, 1) := by decide +kernel
theorem dX11_factHere_82 : decode cX11_factHere 82 = .ok (.ldc 252, 2) := by decide +kernel
theorem dX11_factHere_84 : decode cX11_factHere 84 = .ok (.invokestatic 180, 3) := by decide +kernel
theorem dX11_factHere_87 : decode cX11_factHere 87 = .ok (.if_icmp .ne 8, 3) := by decide +kernel
theorem dX11_factHere_90 : decode cX11_factHere 90 = .ok (.bipush 6, 2) := by decide +kernel
theorem dX11_factHere_92 : decode cX11_factHere 92 = .ok (.goto 18, 3) := by decide +kernel
theorem dX11_factHere_95 : decode cX11_factHere 95 = .ok (.iload_n 1, 1) := by decide +kernel
theorem dX11_factHere_96 : decode cX11_factHere 96 = .ok (.ldc 184, 2) := by decide +kernel
theorem dX11_factHere_98 : decode cX11_factHere 98 = .ok (.invokestatic 180, 3) := by decide +kernel
theorem dX11_factHere_101 : decode cX11_factHere 101 = .ok (.if_icmp .ne 8, 3) := by decide +kernel
theorem dX11_factHere_104 : decode cX11_factHere 104 = .ok (.bipush 7, 2) := by decide +kernel
theorem dX11_factHere_106 : decode cX11_factHere 106 = .ok (.goto 4, 3) := by decide +kernel
theorem dX11_factHere_109 : decode cX11_factHere 109 = .ok (.iconst (-1), 1) := by decide +kernel
theorem dX11_factHere_110 : decode cX11_factHere 110 = .ok (.ireturn, 1) := by decide +kernel
theorem dX11_readUnit_0 : decode cX11_readUnit 0 = .ok (.aload_n 0, 1) := by decide +kernel
theorem dX11_readUnit_1 : decode cX11_readUnit 1 = .ok (.invokevirtual 134, 3) := by decide +kernel
theorem dX11_readUnit_4 : decode cX11_readUnit 4 = .ok (.ifCond .ne 4, 3) := by decide +kernel
theorem dX11_readUnit_7 : decode cX11_readUnit 7 = .ok (.return_, 1) := by decide +kernel
theorem dX11_readUnit_8 : decode cX11_readUnit 8 = .ok (.aload_n 0, 1) := by decide +kernel
theorem dX11_readUnit_9 : decode cX11_readUnit 9 = .ok (.invokevirtual 117, 3) := by decide +kernel
theorem dX11_readUnit_12 : decode cX11_readUnit 12 = .ok (.bipush 40, 2) := by decide +kernel
theorem dX11_readUnit_14 : decode cX11_readUnit 14 = .ok (.if_icmp .ne 31, 3) := by decide +kernel
theorem dX11_readUnit_17 : decode cX11_readUnit 17 = .ok (.aload_n 0, 1) := by decide +kernel
theorem dX11_readUnit_18 : decode cX11_readUnit 18 = .ok (.iconst 1, 1) := by decide +kernel
theorem dX11_readUnit_19 : decode cX11_readUnit 19 = .ok (.invokevirtual 232, 3) := by decide +kernel
theorem dX11_readUnit_22 : decode cX11_readUnit 22 = .ok (.aload_n 0, 1) := by decide +kernel
theorem dX11_readUnit_23 : decode cX11_readUnit 23 = .ok (.invokevirtual 235, 3) := by decide +kernel
theorem dX11_readUnit_26 : decode cX11_readUnit 26 = .ok (.aload_n 0, 1) := by decide +kernel
theorem dX11_readUnit_27 : decode cX11_readUnit 27 = .ok (.bipush 41, 2) := by decide +kernel
theorem dX11_readUnit_29 : decode cX11_readUnit 29 = .ok (.invokevirtual 213, 3) := by decide +kernel
theorem dX11_readUnit_32 : decode cX11_readUnit 32 = .ok (.aload_n 0, 1) := by decide +kernel
theorem dX11_readUnit_33 : decode cX11_readUnit 33 = .ok (.dup, 1) := by decide +kernel
theorem dX11_readUnit_34 : decode cX11_readUnit 34 = .ok (.getfield 145, 3) := by decide +kernel
theorem dX11_readUnit_37 : decode cX11_readUnit 37 = .ok (.iconst 1, 1) := by decide +kernel
theorem dX11_readUnit_38 : decode cX11_readUnit 38 = .ok (.isub, 1) := by decide +kernel
theorem dX11_readUnit_39 : decode cX11_readUnit 39 = .ok (.putfield 145, 3) := by decide +kernel
theorem dX11_readUnit_42 : decode cX11_readUnit 42 = .ok (.goto 111, 3) := by decide +kernel
theorem dX11_readUnit_45 : decode cX11_readUnit 45 = .ok (.aload_n 0, 1) := by decide +kernel
theorem dX11_readUnit_46 : decode cX11_readUnit 46 = .ok (.invokevirtual 117, 3) := by decide +kernel
theorem dX11_readUnit_49 : decode cX11_readUnit 49 = .ok (.invokestatic 138, 3) := by decide +kernel
theorem dX11_readUnit_52 : decode cX11_readUnit 52 = .ok (.ifCond .eq 19, 3) := by decide +kernel
theorem dX11_readUnit_55 : decode cX11_readUnit 55 = .ok (.aload_n 0, 1) := by decide +kernel
theorem dX11_readUnit_56 : decode cX11_readUnit 56 = .ok (.iconst 0, 1) := by decide +kernel
theorem dX11_readUnit_57 : decode cX11_readUnit 57 = .ok (.aload_n 0, 1) := by decide +kernel
theorem dX11_readUnit_58 : decode cX11_readUnit 58 = .ok (.iconst 0, 1) := by decide +kernel
theorem dX11_readUnit_59 : decode cX11_readUnit 59 = .ok (.sipush 999, 3) := by decide +kernel
theorem dX11_readUnit_62 : decode cX11_readUnit 62 = .ok (.invokevirtual 186, 3) := by decide +kernel
theorem dX11_readUnit_65 : decode cX11_readUnit 65 = .ok (.invokevirtual 226, 3) := by decide +kernel
theorem dX11_readUnit_68 : decode cX11_readUnit 68 = .ok (.goto 85, 3) := by decide +kernel
theorem dX11_readUnit_71 : decode cX11_readUnit 71 = .ok (.aload_n 0, 1) := by decide +kernel
theorem dX11_readUnit_72 : decode cX11_readUnit 72 = .ok (.invokevirtual 201, 3) := by decide +kernel
theorem dX11_readUnit_75 : decode cX11_readUnit 75 = .ok (.ldc 254, 2) := by decide +kernel
theorem dX11_readUnit_77 : decode cX11_readUnit 77 = .ok (.invokestatic 180, 3) := by decide +kernel
theorem dX11_readUnit_80 : decode cX11_readUnit 80 = .ok (.if_icmp .ne 13, 3) := by decide +kernel
theorem dX11_readUnit_83 : decode cX11_readUnit 83 = .ok (.aload_n 0, 1) := by decide +kernel
theorem dX11_readUnit_84 : decode cX11_readUnit 84 = .ok (.iconst 5, 1) := by decide +kernel
theorem dX11_readUnit_85 : decode cX11_readUnit 85 = .ok (.bipush 6, 2) := by decide +kernel
theorem dX11_readUnit_87 : decode cX11_readUnit 87 = .ok (.invokevirtual 256, 3) := by decide +kernel
theorem dX11_readUnit_90 : decode cX11_readUnit 90 = .ok (.goto 63, 3) := by decide +kernel
theorem dX11_readUnit_93 : decode cX11_readUnit 93 = .ok (.aload_n 0, 1) := by decide +kernel
theorem dX11_readUnit_94 : decode cX11_readUnit 94 = .ok (.invokevirtual 201, 3) := by decide +kernel
theorem dX11_readUnit_97 : decode cX11_readUnit 97 = .ok (.ldc_w 259, 3) := by decide +kernel
theorem dX11_readUnit_100 : decode cX11_readUnit 100 = .ok (.invokestatic 180, 3) := by decide +kernel
theorem dX11_readUnit_103 : decode cX11_readUnit 103 = .ok (.if_icmp .ne 13, 3) := by decide +kernel
theorem dX11_readUnit_106 : decode cX11_readUnit 106 = .ok (.aload_n 0, 1) := by decide +kernel
theorem dX11_readUnit_107 : decode cX11_readUnit 107 = .ok (.iconst 4, 1) := by decide +kernel
theorem dX11_readUnit_108 : decode cX11_readUnit 108 = .ok (.bipush 7, 2) := by decide +kernel
theorem dX11_readUnit_110 : decode cX11_readUnit 110 = .ok (.invokevirtual 256, 3) := by decide +kernel
theorem dX11_readUnit_113 : decode cX11_readUnit 113 = .ok (.goto 40, 3) := by decide +kernel
theorem dX11_readUnit_116 : decode cX11_readUnit 116 = .ok (.aload_n 0, 1) := by decide +kernel
theorem dX11_readUnit_117 : decode cX11_readUnit 117 = .ok (.invokevirtual 261, 3) := by decide +kernel
theorem dX11_readUnit_120 : decode cX11_readUnit 120 = .ok (.istore_n 1, 1) := by decide +kernel
theorem dX11_readUnit_121 : decode cX11_readUnit 121 = .ok (.iload_n 1, 1) := by decide +kernel
theorem dX11_readUnit_122 : decode cX11_readUnit 122 = .ok (.iconst (-1), 1) := by decide +kernel
theorem dX11_readUnit_123 : decode cX11_readUnit 123 = .ok (.if_icmp .ne 12, 3) := by decide +kernel
theorem dX11_readUnit_126 : decode cX11_readUnit 126 = .ok (.aload_n 0, 1) := by decide +kernel
theorem dX11_readUnit_127 : decode cX11_readUnit 127 = .ok (.iconst 1, 1) := by decide +kernel
theorem dX11_readUnit_128 : decode cX11_readUnit 128 = .ok (.aload_n 0, 1) := by decide +kernel
theorem dX11_readUnit_129 : decode cX11_readUnit 129 = .ok (.getfield 111, 3) := by decide +kernel
theorem dX11_readUnit_132 : decode cX11_readUnit 132 = .ok (.invokevirtual 141, 3) := by decide +kernel
theorem dX11_readUnit_135 : decode cX11_readUnit 135 = .ok (.aload_n 0, 1) := by decide +kernel
theorem dX11_readUnit_136 : decode cX11_readUnit 136 = .ok (.invokevirtual 134, 3) := by decide +kernel
theorem dX11_readUnit_139 : decode cX11_readUnit 139 = .ok (.ifCond .ne 4, 3) := by decide +kernel
theorem dX11_readUnit_142 : decode cX11_readUnit 142 = .ok (.return_, 1) := by decide +kernel
theorem dX11_readUnit_143 : decode cX11_readUnit 143 = .ok (.aload_n 0, 1) := by decide +kernel
theorem dX11_readUnit_144 : decode cX11_readUnit 144 = .ok (.invokevirtual 207, 3) := by decide +kernel
theorem dX11_readUnit_147 : decode cX11_readUnit 147 = .ok (.aload_n 0, 1) := by decide +kernel
theorem dX11_readUnit_148 : decode cX11_readUnit 148 = .ok (.iconst 1, 1) := by decide +kernel
theorem dX11_readUnit_149 : decode cX11_readUnit 149 = .ok (.iload_n 1, 1) := by decide +kernel
theorem dX11_readUnit_150 : decode cX11_readUnit 150 = .ok (.invokevirtual 226, 3) := by decide +kernel
theorem dX11_readUnit_153 : decode cX11_readUnit 153 = .ok (.return_, 1) := by decide +kernel
theorem dX11_law_0 : decode cX11_law 0 = .ok (.aload_n 0, 1) := by decide +kernel
theorem dX11_law_1 : decode cX11_law 1 = .ok (.iconst 0, 1) := by decide +kernel
theorem dX11_law_2 : decode cX11_law 2 = .ok (.putfield 3, 3) := by decide +kernel
theorem dX11_law_5 : decode cX11_law 5 = .ok (.aload_n 0, 1) := by decide +kernel
theorem dX11_law_6 : decode cX11_law 6 = .ok (.iload_n 1, 1) := by decide +kernel
theorem dX11_law_7 : decode cX11_law 7 = .ok (.ifCond .lt 22, 3) := by decide +kernel
theorem dX11_law_10 : decode cX11_law 10 = .ok (.iload_n 1, 1) := by decide +kernel
theorem dX11_law_11 : decode cX11_law 11 = .ok (.aload_n 0, 1) := by decide +kernel
theorem dX11_law_12 : decode cX11_law 12 = .ok (.getfield 102, 3) := by decide +kernel
theorem dX11_law_15 : decode cX11_law 15 = .ok (.if_icmp .gt 14, 3) := by decide +kernel
theorem dX11_law_18 : decode cX11_law 18 = .ok (.iload_n 1, 1) := by decide +kernel
theorem dX11_law_19 : decode cX11_law 19 = .ok (.sipush 150, 3) := by decide +kernel
theorem dX11_law_22 : decode cX11_law 22 = .ok (.if_icmp .gt 7, 3) := by decide +kernel
theorem dX11_law_25 : decode cX11_law 25 = .ok (.iconst 1, 1) := by decide +kernel
theorem dX11_law_26 : decode cX11_law 26 = .ok (.goto 4, 3) := by decide +kernel
theorem dX11_law_29 : decode cX11_law 29 = .ok (.iconst 0, 1) := by decide +kernel
theorem dX11_law_30 : decode cX11_law 30 = .ok (.iconst 1, 1) := by decide +kernel
theorem dX11_law_31 : decode cX11_law 31 = .ok (.iconst 1, 1) := by decide +kernel
theorem dX11_law_32 : decode cX11_law 32 = .ok (.invokevirtual 190, 3) := by decide +kernel
theorem dX11_law_35 : decode cX11_law 35 = .ok (.ifCond .ne 5, 3) := by decide +kernel
theorem dX11_law_38 : decode cX11_law 38 = .ok (.iconst 0, 1) := by decide +kernel
theorem dX11_law_39 : decode cX11_law 39 = .ok (.ireturn, 1) := by decide +kernel
theorem dX11_law_40 : decode cX11_law 40 = .ok (.aload_n 0, 1) := by decide +kernel
theorem dX11_law_41 : decode cX11_law 41 = .ok (.iload_n 1, 1) := by decide +kernel
theorem dX11_law_42 : decode cX11_law 42 = .ok (.invokevirtual 194, 3) := by decide +kernel
theorem dX11_law_45 : decode cX11_law 45 = .ok (.aload_n 0, 1) := by decide +kernel
theorem dX11_law_46 : decode cX11_law 46 = .ok (.iconst 0, 1) := by decide +kernel
theorem dX11_law_47 : decode cX11_law 47 = .ok (.putfield 220, 3) := by decide +kernel
theorem dX11_law_50 : decode cX11_law 50 = .ok (.aload_n 0, 1) := by decide +kernel
theorem dX11_law_51 : decode cX11_law 51 = .ok (.invokevirtual 235, 3) := by decide +kernel
theorem dX11_law_54 : decode cX11_law 54 = .ok (.aload_n 0, 1) := by decide +kernel
theorem dX11_law_55 : decode cX11_law 55 = .ok (.invokevirtual 134, 3) := by decide +kernel
theorem dX11_law_58 : decode cX11_law 58 = .ok (.ifCond .eq 19, 3) := by decide +kernel
theorem dX11_law_61 : decode cX11_law 61 = .ok (.aload_n 0, 1) := by decide +kernel
theorem dX11_law_62 : decode cX11_law 62 = .ok (.invokevirtual 198, 3) := by decide +kernel
theorem dX11_law_65 : decode cX11_law 65 = .ok (.ifCond .eq 12, 3) := by decide +kernel
theorem dX11_law_68 : decode cX11_law 68 = .ok (.aload_n 0, 1) := by decide +kernel
theorem dX11_law_69 : decode cX11_law 69 = .ok (.iconst 1, 1) := by decide +kernel
theorem dX11_law_70 : decode cX11_law 70 = .ok (.aload_n 0, 1) := by decide +kernel
theorem dX11_law_71 : decode cX11_law 71 = .ok (.getfield 111, 3) := by decide +kernel
theorem dX11_law_74 : decode cX11_law 74 = .ok (.invokevirtual 141, 3) := by decide +kernel
theorem dX11_law_77 : decode cX11_law 77 = .ok (.aload_n 0, 1) := by decide +kernel
theorem dX11_law_78 : decode cX11_law 78 = .ok (.iconst 1, 1) := by decide +kernel
theorem dX11_law_79 : decode cX11_law 79 = .ok (.invokevirtual 216, 3) := by decide +kernel
theorem dX11_law_82 : decode cX11_law 82 = .ok (.istore_n 2, 1) := by decide +kernel
theorem dX11_law_83 : decode cX11_law 83 = .ok (.aload_n 0, 1) := by decide +kernel
theorem dX11_law_84 : decode cX11_law 84 = .ok (.getfield 105, 3) := by decide +kernel
theorem dX11_law_87 : decode cX11_law 87 = .ok (.iconst (-1), 1) := by decide +kernel
theorem dX11_law_88 : decode cX11_law 88 = .ok (.if_icmp .eq 5, 3) := by decide +kernel
theorem dX11_law_91 : decode cX11_law 91 = .ok (.iload_n 2, 1) := by decide +kernel
theorem dX11_law_92 : decode cX11_law 92 = .ok (.ireturn, 1) := by decide +kernel
theorem dX11_law_93 : decode cX11_law 93 = .ok (.aload_n 0, 1) := by decide +kernel
theorem dX11_law_94 : decode cX11_law 94 = .ok (.aload_n 0, 1) := by decide +kernel
theorem dX11_law_95 : decode cX11_law 95 = .ok (.getfield 220, 3) := by decide +kernel
theorem dX11_law_98 : decode cX11_law 98 = .ok (.putfield 164, 3) := by decide +kernel
theorem dX11_law_101 : decode cX11_law 101 = .ok (.aload_n 0, 1) := by decide +kernel
theorem dX11_law_102 : decode cX11_law 102 = .ok (.aload_n 0, 1) := by decide +kernel
theorem dX11_law_103 : decode cX11_law 103 = .ok (.getfield 41, 3) := by decide +kernel
theorem dX11_law_106 : decode cX11_law 106 = .ok (.aload_n 0, 1) := by decide +kernel
theorem dX11_law_107 : decode cX11_law 107 = .ok (.getfield 47, 3) := by decide +kernel
theorem dX11_law_110 : decode cX11_law 110 = .ok (.aload_n 0, 1) := by decide +kernel
theorem dX11_law_111 : decode cX11_law 111 = .ok (.getfield 220, 3) := by decide +kernel
theorem dX11_law_114 : decode cX11_law 114 = .ok (.invokevirtual 160, 3) := by decide +kernel
theorem dX11_law_117 : decode cX11_law 117 = .ok (.aload_n 0, 1) := by decide +kernel
theorem dX11_law_118 : decode cX11_law 118 = .ok (.aload_n 0, 1) := by decide +kernel
theorem dX11_law_119 : decode cX11_law 119 = .ok (.getfield 44, 3) := by decide +kernel
theorem dX11_law_122 : decode cX11_law 122 = .ok (.aload_n 0, 1) := by decide +kernel
theorem dX11_law_123 : decode cX11_law 123 = .ok (.getfield 50, 3) := by decide +kernel
theorem dX11_law_126 : decode cX11_law 126 = .ok (.aload_n 0, 1) := by decide +kernel
theorem dX11_law_127 : decode cX11_law 127 = .ok (.getfield 220, 3) := by decide +kernel
theorem dX11_law_130 : decode cX11_law 130 = .ok (.invokevirtual 160, 3) := by decide +kernel
theorem dX11_law_133 : decode cX11_law 133 = .ok (.iload_n 2, 1) := by decide +kernel
theorem dX11_law_134 : decode cX11_law 134 = .ok (.ireturn, 1) := by decide +kernel
theorem dX11_valueNow_0 : decode cX11_valueNow 0 = .ok (.iconst 0, 1) := by decide +kernel
theorem dX11_valueNow_1 : decode cX11_valueNow 1 = .ok (.istore_n 1, 1) := by decide +kernel
theorem dX11_valueNow_2 : decode cX11_valueNow 2 = .ok (.iconst 0, 1) := by decide +kernel
theorem dX11_valueNow_3 : decode cX11_valueNow 3 = .ok (.istore_n 2, 1) := by decide +kernel
theorem dX11_valueNow_4 : decode cX11_valueNow 4 = .ok (.iload_n 2, 1) := by decide +kernel
theorem dX11_valueNow_5 : decode cX11_valueNow 5 = .ok (.aload_n 0, 1) := by decide +kernel
theorem dX11_valueNow_6 : decode cX11_valueNow 6 = .ok (.getfield 164, 3) := by decide +kernel
theorem dX11_valueNow_9 : decode cX11_valueNow 9 = .ok (.if_icmp .ge 86, 3) := by decide +kernel
theorem dX11_valueNow_12 : decode cX11_valueNow 12 = .ok (.aload_n 0, 1) := by decide +kernel
theorem dX11_valueNow_13 : decode cX11_valueNow 13 = .ok (.getfield 47, 3) := by decide +kernel
theorem dX11_valueNow_16 : decode cX11_valueNow 16 = .ok (.iload_n 2, 1) := by decide +kernel
theorem dX11_valueNow_17 : decode cX11_valueNow 17 = .ok (.iaload, 1) := by decide +kernel
theorem dX11_valueNow_18 : decode cX11_valueNow 18 = .ok (.istore_n 3, 1) := by decide +kernel
theorem dX11_valueNow_19 : decode cX11_valueNow 19 = .ok (.iload_n 3, 1) := by decide +kernel
theorem dX11_valueNow_20 : decode cX11_valueNow 20 = .ok (.iconst 1, 1) := by decide +kernel
theorem dX11_valueNow_21 : decode cX11_valueNow 21 = .ok (.if_icmp .gt 39, 3) := by decide +kernel
theorem dX11_valueNow_24 : decode cX11_valueNow 24 = .ok (.aload_n 0, 1) := by decide +kernel
theorem dX11_valueNow_25 : decode cX11_valueNow 25 = .ok (.getfield 53, 3) := by decide +kernel
theorem dX11_valueNow_28 : decode cX11_valueNow 28 = .ok (.iload_n 1, 1) := by decide +kernel
theorem dX11_valueNow_29 : decode cX11_valueNow 29 = .ok (.iload_n 3, 1) := by decide +kernel
theorem dX11_valueNow_30 : decode cX11_valueNow 30 = .ok (.ifCond .ne 12, 3) := by decide +kernel
theorem dX11_valueNow_33 : decode cX11_valueNow 33 = .ok (.aload_n 0, 1) := by decide +kernel
theorem dX11_valueNow_34 : decode cX11_valueNow 34 = .ok (.getfield 50, 3) := by decide +kernel
theorem dX11_valueNow_37 : decode cX11_valueNow 37 = .ok (.iload_n 2, 1) := by decide +kernel
theorem dX11_valueNow_38 : decode cX11_valueNow 38 = .ok (.iaload, 1) := by decide +kernel
theorem dX11_valueNow_39 : decode cX11_valueNow 39 = .ok (.goto 14, 3) := by decide +kernel
theorem dX11_valueNow_42 : decode cX11_valueNow 42 = .ok (.aload_n 0, 1) := by decide +kernel
theorem dX11_valueNow_43 : decode cX11_valueNow 43 = .ok (.getfield 56, 3) := by decide +kernel
theorem dX11_valueNow_46 : decode cX11_valueNow 46 = .ok (.aload_n 0, 1) := by decide +kernel
theorem dX11_valueNow_47 : decode cX11_valueNow 47 = .ok (.getfield 50, 3) := by decide +kernel
theorem dX11_valueNow_50 : decode cX11_valueNow 50 = .ok (.iload_n 2, 1) := by decide +kernel
theorem dX11_valueNow_51 : decode cX11_valueNow 51 = .ok (.iaload, 1) := by decide +kernel
theorem dX11_valueNow_52 : decode cX11_valueNow 52 = .ok (.iaload, 1) := by decide +kernel
theorem dX11_valueNow_53 : decode cX11_valueNow 53 = .ok (.iastore, 1) := by decide +kernel
theorem dX11_valueNow_54 : decode cX11_valueNow 54 = .ok (.iinc 1 1, 3) := by decide +kernel
theorem dX11_valueNow_57 : decode cX11_valueNow 57 = .ok (.goto 32, 3) := by decide +kernel
theorem dX11_valueNow_60 : decode cX11_valueNow 60 = .ok (.iinc 1 (-1), 3) := by decide +kernel
theorem dX11_valueNow_63 : decode cX11_valueNow 63 = .ok (.aload_n 0, 1) := by decide +kernel
theorem dX11_valueNow_64 : decode cX11_valueNow 64 = .ok (.getfield 53, 3) := by decide +kernel
theorem dX11_valueNow_67 : decode cX11_valueNow 67 = .ok (.iload_n 1, 1) := by decide +kernel
theorem dX11_valueNow_68 : decode cX11_valueNow 68 = .ok (.iconst 1, 1) := by decide +kernel
theorem dX11_valueNow_69 : decode cX11_valueNow 69 = .ok (.isub, 1) := by decide +kernel
theorem dX11_valueNow_70 : decode cX11_valueNow 70 = .ok (.iload_n 3, 1) := by decide +kernel
theorem dX11_valueNow_71 : decode cX11_valueNow 71 = .ok (.aload_n 0, 1) := by decide +kernel
theorem dX11_valueNow_72 : decode cX11_valueNow 72 = .ok (.getfield 53, 3) := by decide +kernel
theorem dX11_valueNow_75 : decode cX11_valueNow 75 = .ok (.iload_n 1, 1) := by decide +kernel
theorem dX11_valueNow_76 : decode cX11_valueNow 76 = .ok (.iconst 1, 1) := by decide +kernel
theorem dX11_valueNow_77 : decode cX11_valueNow 77 = .ok (.isub, 1) := by decide +kernel
theorem dX11_valueNow_78 : decode cX11_valueNow 78 = .ok (.iaload, 1) := by decide +kernel
theorem dX11_valueNow_79 : decode cX11_valueNow 79 = .ok (.aload_n 0, 1) := by decide +kernel
theorem dX11_valueNow_80 : decode cX11_valueNow 80 = .ok (.getfield 53, 3) := by decide +kernel
theorem dX11_valueNow_83 : decode cX11_valueNow 83 = .ok (.iload_n 1, 1) := by decide +kernel
theorem dX11_valueNow_84 : decode cX11_valueNow 84 = .ok (.iaload, 1) := by decide +kernel
theorem dX11_valueNow_85 : decode cX11_valueNow 85 = .ok (.invokestatic 264, 3) := by decide +kernel
theorem dX11_valueNow_88 : decode cX11_valueNow 88 = .ok (.iastore, 1) := by decide +kernel
theorem dX11_valueNow_89 : decode cX11_valueNow 89 = .ok (.iinc 2 1, 3) := by decide +kernel
theorem dX11_valueNow_92 : decode cX11_valueNow 92 = .ok (.goto (-88), 3) := by decide +kernel
theorem dX11_valueNow_95 : decode cX11_valueNow 95 = .ok (.aload_n 0, 1) := by decide +kernel
theorem dX11_valueNow_96 : decode cX11_valueNow 96 = .ok (.getfield 53, 3) := by decide +kernel
theorem dX11_valueNow_99 : decode cX11_valueNow 99 = .ok (.iconst 0, 1) := by decide +kernel
theorem dX11_valueNow_100 : decode cX11_valueNow 100 = .ok (.iaload, 1) := by decide +kernel
theorem dX11_valueNow_101 : decode cX11_valueNow 101 = .ok (.ireturn, 1) := by decide +kernel
theorem dX11_both_0 : decode cX11_both 0 = .ok (.iload_n 0, 1) := by decide +kernel
theorem dX11_both_1 : decode cX11_both 1 = .ok (.iconst 2, 1) := by decide +kernel
theorem dX11_both_2 : decode cX11_both 2 = .ok (.if_icmp .ne 7, 3) := by decide +kernel
theorem dX11_both_5 : decode cX11_both 5 = .ok (.iload_n 1, 1) := by decide +kernel
theorem dX11_both_6 : decode cX11_both 6 = .ok (.iload_n 2, 1) := by decide +kernel
theorem dX11_both_7 : decode cX11_both 7 = .ok (.iadd, 1) := by decide +kernel
theorem dX11_both_8 : decode cX11_both 8 = .ok (.ireturn, 1) := by decide +kernel
theorem dX11_both_9 : decode cX11_both 9 = .ok (.iload_n 0, 1) := by decide +kernel
theorem dX11_both_10 : decode cX11_both 10 = .ok (.iconst 3, 1) := by decide +kernel
theorem dX11_both_11 : decode cX11_both 11 = .ok (.if_icmp .ne 7, 3) := by decide +kernel
theorem dX11_both_14 : decode cX11_both 14 = .ok (.iload_n 1, 1) := by decide +kernel
theorem dX11_both_15 : decode cX11_both 15 = .ok (.iload_n 2, 1) := by decide +kernel
theorem dX11_both_16 : decode cX11_both 16 = .ok (.isub, 1) := by decide +kernel
theorem dX11_both_17 : decode cX11_both 17 = .ok (.ireturn, 1) := by decide +kernel
theorem dX11_both_18 : decode cX11_both 18 = .ok (.iload_n 0, 1) := by decide +kernel
theorem dX11_both_19 : decode cX11_both 19 = .ok (.iconst 4, 1) := by decide +kernel
theorem dX11_both_20 : decode cX11_both 20 = .ok (.if_icmp .ne 7, 3) := by decide +kernel
theorem dX11_both_23 : decode cX11_both 23 = .ok (.iload_n 1, 1) := by decide +kernel
theorem dX11_both_24 : decode cX11_both 24 = .ok (.iload_n 2, 1) := by decide +kernel
theorem dX11_both_25 : decode cX11_both 25 = .ok (.imul, 1) := by decide +kernel
theorem dX11_both_26 : decode cX11_both 26 = .ok (.ireturn, 1) := by decide +kernel
theorem dX11_both_27 : decode cX11_both 27 = .ok (.iload_n 0, 1) := by decide +kernel
theorem dX11_both_28 : decode cX11_both 28 = .ok (.iconst 5, 1) := by decide +kernel
theorem dX11_both_29 : decode cX11_both 29 = .ok (.if_icmp .eq 9, 3) := by decide +kernel
theorem dX11_both_32 : decode cX11_both 32 = .ok (.iload_n 0, 1) := by decide +kernel
theorem dX11_both_33 : decode cX11_both 33 = .ok (.bipush 8, 2) := by decide +kernel
theorem dX11_both_35 : decode cX11_both 35 = .ok (.if_icmp .ne 26, 3) := by decide +kernel
theorem dX11_both_38 : decode cX11_both 38 = .ok (.iload_n 2, 1) := by decide +kernel
theorem dX11_both_39 : decode cX11_both 39 = .ok (.ifCond .ne 7, 3) := by decide +kernel
theorem dX11_both_42 : decode cX11_both 42 = .ok (.iconst 0, 1) := by decide +kernel
theorem dX11_both_43 : decode cX11_both 43 = .ok (.goto 17, 3) := by decide +kernel
theorem dX11_both_46 : decode cX11_both 46 = .ok (.iload_n 0, 1) := by decide +kernel
theorem dX11_both_47 : decode cX11_both 47 = .ok (.iconst 5, 1) := by decide +kernel
theorem dX11_both_48 : decode cX11_both 48 = .ok (.if_icmp .ne 9, 3) := by decide +kernel
theorem dX11_both_51 : decode cX11_both 51 = .ok (.iload_n 1, 1) := by decide +kernel
theorem dX11_both_52 : decode cX11_both 52 = .ok (.iload_n 2, 1) := by decide +kernel
theorem dX11_both_53 : decode cX11_both 53 = .ok (.idiv, 1) := by decide +kernel
theorem dX11_both_54 : decode cX11_both 54 = .ok (.goto 6, 3) := by decide +kernel
theorem dX11_both_57 : decode cX11_both 57 = .ok (.iload_n 1, 1) := by decide +kernel
theorem dX11_both_58 : decode cX11_both 58 = .ok (.iload_n 2, 1) := by decide +kernel
theorem dX11_both_59 : decode cX11_both 59 = .ok (.irem, 1) := by decide +kernel
theorem dX11_both_60 : decode cX11_both 60 = .ok (.ireturn, 1) := by decide +kernel
theorem dX11_both_61 : decode cX11_both 61 = .ok (.iload_n 1, 1) := by decide +kernel
theorem dX11_both_62 : decode cX11_both 62 = .ok (.iload_n 2, 1) := by decide +kernel
theorem dX11_both_63 : decode cX11_both 63 = .ok (.if_icmp .ge 7, 3) := by decide +kernel
theorem dX11_both_66 : decode cX11_both 66 = .ok (.iconst 1, 1) := by decide +kernel
