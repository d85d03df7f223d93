theorem dX11_lendsTo_66 : decode cX11_lendsTo 66 = .ok (.iadd, 1) := by decide +kernel
theorem dX11_lendsTo_67 : decode cX11_lendsTo 67 = .ok (.iload_n 3, 1) := by decide +kernel
theorem dX11_lendsTo_68 : decode cX11_lendsTo 68 = .ok (.iastore, 1) := by decide +kernel
theorem dX11_lendsTo_69 : decode cX11_lendsTo 69 = .ok (.aload_n 0, 1) := by decide +kernel
theorem dX11_lendsTo_70 : decode cX11_lendsTo 70 = .ok (.getfield 68, 3) := by decide +kernel
theorem dX11_lendsTo_73 : decode cX11_lendsTo 73 = .ok (.iload 5, 2) := by decide +kernel
theorem dX11_lendsTo_75 : decode cX11_lendsTo 75 = .ok (.iconst 3, 1) := by decide +kernel
theorem dX11_lendsTo_76 : decode cX11_lendsTo 76 = .ok (.iadd, 1) := by decide +kernel
theorem dX11_lendsTo_77 : decode cX11_lendsTo 77 = .ok (.aload_n 0, 1) := by decide +kernel
theorem dX11_lendsTo_78 : decode cX11_lendsTo 78 = .ok (.getfield 68, 3) := by decide +kernel
theorem dX11_lendsTo_81 : decode cX11_lendsTo 81 = .ok (.bipush 90, 2) := by decide +kernel
theorem dX11_lendsTo_83 : decode cX11_lendsTo 83 = .ok (.iaload, 1) := by decide +kernel
theorem dX11_lendsTo_84 : decode cX11_lendsTo 84 = .ok (.iastore, 1) := by decide +kernel
theorem dX11_lendsTo_85 : decode cX11_lendsTo 85 = .ok (.aload_n 0, 1) := by decide +kernel
theorem dX11_lendsTo_86 : decode cX11_lendsTo 86 = .ok (.getfield 68, 3) := by decide +kernel
theorem dX11_lendsTo_89 : decode cX11_lendsTo 89 = .ok (.iload 5, 2) := by decide +kernel
theorem dX11_lendsTo_91 : decode cX11_lendsTo 91 = .ok (.iconst 4, 1) := by decide +kernel
theorem dX11_lendsTo_92 : decode cX11_lendsTo 92 = .ok (.iadd, 1) := by decide +kernel
theorem dX11_lendsTo_93 : decode cX11_lendsTo 93 = .ok (.aload_n 0, 1) := by decide +kernel
theorem dX11_lendsTo_94 : decode cX11_lendsTo 94 = .ok (.getfield 68, 3) := by decide +kernel
theorem dX11_lendsTo_97 : decode cX11_lendsTo 97 = .ok (.bipush 90, 2) := by decide +kernel
theorem dX11_lendsTo_99 : decode cX11_lendsTo 99 = .ok (.iaload, 1) := by decide +kernel
theorem dX11_lendsTo_100 : decode cX11_lendsTo 100 = .ok (.iload 4, 2) := by decide +kernel
theorem dX11_lendsTo_102 : decode cX11_lendsTo 102 = .ok (.iadd, 1) := by decide +kernel
theorem dX11_lendsTo_103 : decode cX11_lendsTo 103 = .ok (.iastore, 1) := by decide +kernel
theorem dX11_lendsTo_104 : decode cX11_lendsTo 104 = .ok (.aload_n 0, 1) := by decide +kernel
theorem dX11_lendsTo_105 : decode cX11_lendsTo 105 = .ok (.getfield 68, 3) := by decide +kernel
theorem dX11_lendsTo_108 : decode cX11_lendsTo 108 = .ok (.iload 5, 2) := by decide +kernel
theorem dX11_lendsTo_110 : decode cX11_lendsTo 110 = .ok (.iconst 5, 1) := by decide +kernel
theorem dX11_lendsTo_111 : decode cX11_lendsTo 111 = .ok (.iadd, 1) := by decide +kernel
theorem dX11_lendsTo_112 : decode cX11_lendsTo 112 = .ok (.iconst 0, 1) := by decide +kernel
theorem dX11_lendsTo_113 : decode cX11_lendsTo 113 = .ok (.iastore, 1) := by decide +kernel
theorem dX11_lendsTo_114 : decode cX11_lendsTo 114 = .ok (.aload_n 0, 1) := by decide +kernel
theorem dX11_lendsTo_115 : decode cX11_lendsTo 115 = .ok (.getfield 68, 3) := by decide +kernel
theorem dX11_lendsTo_118 : decode cX11_lendsTo 118 = .ok (.bipush 88, 2) := by decide +kernel
theorem dX11_lendsTo_120 : decode cX11_lendsTo 120 = .ok (.dup2, 1) := by decide +kernel
theorem dX11_lendsTo_121 : decode cX11_lendsTo 121 = .ok (.iaload, 1) := by decide +kernel
theorem dX11_lendsTo_122 : decode cX11_lendsTo 122 = .ok (.iconst 1, 1) := by decide +kernel
theorem dX11_lendsTo_123 : decode cX11_lendsTo 123 = .ok (.iadd, 1) := by decide +kernel
theorem dX11_lendsTo_124 : decode cX11_lendsTo 124 = .ok (.iastore, 1) := by decide +kernel
theorem dX11_lendsTo_125 : decode cX11_lendsTo 125 = .ok (.iconst 1, 1) := by decide +kernel
theorem dX11_lendsTo_126 : decode cX11_lendsTo 126 = .ok (.ireturn, 1) := by decide +kernel
theorem dX11_held_0 : decode cX11_held 0 = .ok (.iload_n 0, 1) := by decide +kernel
theorem dX11_held_1 : decode cX11_held 1 = .ok (.iload_n 1, 1) := by decide +kernel
theorem dX11_held_2 : decode cX11_held 2 = .ok (.if_icmp .le 7, 3) := by decide +kernel
theorem dX11_held_5 : decode cX11_held 5 = .ok (.iload_n 1, 1) := by decide +kernel
theorem dX11_held_6 : decode cX11_held 6 = .ok (.goto 4, 3) := by decide +kernel
theorem dX11_held_9 : decode cX11_held 9 = .ok (.iload_n 0, 1) := by decide +kernel
theorem dX11_held_10 : decode cX11_held 10 = .ok (.ireturn, 1) := by decide +kernel
theorem dX11_pays_0 : decode cX11_pays 0 = .ok (.iload_n 1, 1) := by decide +kernel
theorem dX11_pays_1 : decode cX11_pays 1 = .ok (.aload_n 0, 1) := by decide +kernel
theorem dX11_pays_2 : decode cX11_pays 2 = .ok (.getfield 68, 3) := by decide +kernel
theorem dX11_pays_5 : decode cX11_pays 5 = .ok (.bipush 88, 2) := by decide +kernel
theorem dX11_pays_7 : decode cX11_pays 7 = .ok (.iaload, 1) := by decide +kernel
theorem dX11_pays_8 : decode cX11_pays 8 = .ok (.if_icmp .lt 5, 3) := by decide +kernel
theorem dX11_pays_11 : decode cX11_pays 11 = .ok (.iconst 0, 1) := by decide +kernel
theorem dX11_pays_12 : decode cX11_pays 12 = .ok (.ireturn, 1) := by decide +kernel
theorem dX11_pays_13 : decode cX11_pays 13 = .ok (.aload_n 0, 1) := by decide +kernel
theorem dX11_pays_14 : decode cX11_pays 14 = .ok (.iload_n 1, 1) := by decide +kernel
theorem dX11_pays_15 : decode cX11_pays 15 = .ok (.iconst 0, 1) := by decide +kernel
theorem dX11_pays_16 : decode cX11_pays 16 = .ok (.invokevirtual 314, 3) := by decide +kernel
theorem dX11_pays_19 : decode cX11_pays 19 = .ok (.istore_n 2, 1) := by decide +kernel
theorem dX11_pays_20 : decode cX11_pays 20 = .ok (.aload_n 0, 1) := by decide +kernel
theorem dX11_pays_21 : decode cX11_pays 21 = .ok (.iload_n 1, 1) := by decide +kernel
theorem dX11_pays_22 : decode cX11_pays 22 = .ok (.iconst 1, 1) := by decide +kernel
theorem dX11_pays_23 : decode cX11_pays 23 = .ok (.invokevirtual 314, 3) := by decide +kernel
theorem dX11_pays_26 : decode cX11_pays 26 = .ok (.istore_n 3, 1) := by decide +kernel
theorem dX11_pays_27 : decode cX11_pays 27 = .ok (.aload_n 0, 1) := by decide +kernel
theorem dX11_pays_28 : decode cX11_pays 28 = .ok (.iload_n 1, 1) := by decide +kernel
theorem dX11_pays_29 : decode cX11_pays 29 = .ok (.invokevirtual 328, 3) := by decide +kernel
theorem dX11_pays_32 : decode cX11_pays 32 = .ok (.istore 4, 2) := by decide +kernel
theorem dX11_pays_34 : decode cX11_pays 34 = .ok (.iload 4, 2) := by decide +kernel
theorem dX11_pays_36 : decode cX11_pays 36 = .ok (.aload_n 0, 1) := by decide +kernel
theorem dX11_pays_37 : decode cX11_pays 37 = .ok (.getfield 68, 3) := by decide +kernel
theorem dX11_pays_40 : decode cX11_pays 40 = .ok (.bipush 22, 2) := by decide +kernel
theorem dX11_pays_42 : decode cX11_pays 42 = .ok (.iload_n 2, 1) := by decide +kernel
theorem dX11_pays_43 : decode cX11_pays 43 = .ok (.iadd, 1) := by decide +kernel
theorem dX11_pays_44 : decode cX11_pays 44 = .ok (.iaload, 1) := by decide +kernel
theorem dX11_pays_45 : decode cX11_pays 45 = .ok (.if_icmp .le 5, 3) := by decide +kernel
theorem dX11_pays_48 : decode cX11_pays 48 = .ok (.iconst 0, 1) := by decide +kernel
theorem dX11_pays_49 : decode cX11_pays 49 = .ok (.ireturn, 1) := by decide +kernel
theorem dX11_pays_50 : decode cX11_pays 50 = .ok (.aload_n 0, 1) := by decide +kernel
theorem dX11_pays_51 : decode cX11_pays 51 = .ok (.getfield 68, 3) := by decide +kernel
theorem dX11_pays_54 : decode cX11_pays 54 = .ok (.bipush 22, 2) := by decide +kernel
theorem dX11_pays_56 : decode cX11_pays 56 = .ok (.iload_n 2, 1) := by decide +kernel
theorem dX11_pays_57 : decode cX11_pays 57 = .ok (.iadd, 1) := by decide +kernel
theorem dX11_pays_58 : decode cX11_pays 58 = .ok (.dup2, 1) := by decide +kernel
theorem dX11_pays_59 : decode cX11_pays 59 = .ok (.iaload, 1) := by decide +kernel
theorem dX11_pays_60 : decode cX11_pays 60 = .ok (.iload 4, 2) := by decide +kernel
theorem dX11_pays_62 : decode cX11_pays 62 = .ok (.isub, 1) := by decide +kernel
theorem dX11_pays_63 : decode cX11_pays 63 = .ok (.iastore, 1) := by decide +kernel
theorem dX11_pays_64 : decode cX11_pays 64 = .ok (.aload_n 0, 1) := by decide +kernel
theorem dX11_pays_65 : decode cX11_pays 65 = .ok (.getfield 68, 3) := by decide +kernel
theorem dX11_pays_68 : decode cX11_pays 68 = .ok (.iconst 0, 1) := by decide +kernel
theorem dX11_pays_69 : decode cX11_pays 69 = .ok (.iload_n 3, 1) := by decide +kernel
theorem dX11_pays_70 : decode cX11_pays 70 = .ok (.iadd, 1) := by decide +kernel
theorem dX11_pays_71 : decode cX11_pays 71 = .ok (.aload_n 0, 1) := by decide +kernel
theorem dX11_pays_72 : decode cX11_pays 72 = .ok (.getfield 68, 3) := by decide +kernel
theorem dX11_pays_75 : decode cX11_pays 75 = .ok (.iconst 0, 1) := by decide +kernel
theorem dX11_pays_76 : decode cX11_pays 76 = .ok (.iload_n 3, 1) := by decide +kernel
theorem dX11_pays_77 : decode cX11_pays 77 = .ok (.iadd, 1) := by decide +kernel
theorem dX11_pays_78 : decode cX11_pays 78 = .ok (.iaload, 1) := by decide +kernel
theorem dX11_pays_79 : decode cX11_pays 79 = .ok (.iload 4, 2) := by decide +kernel
theorem dX11_pays_81 : decode cX11_pays 81 = .ok (.iadd, 1) := by decide +kernel
theorem dX11_pays_82 : decode cX11_pays 82 = .ok (.bipush 99, 2) := by decide +kernel
theorem dX11_pays_84 : decode cX11_pays 84 = .ok (.invokestatic 331, 3) := by decide +kernel
theorem dX11_pays_87 : decode cX11_pays 87 = .ok (.iastore, 1) := by decide +kernel
theorem dX11_pays_88 : decode cX11_pays 88 = .ok (.aload_n 0, 1) := by decide +kernel
theorem dX11_pays_89 : decode cX11_pays 89 = .ok (.iload_n 1, 1) := by decide +kernel
theorem dX11_pays_90 : decode cX11_pays 90 = .ok (.iconst 5, 1) := by decide +kernel
theorem dX11_pays_91 : decode cX11_pays 91 = .ok (.invokevirtual 314, 3) := by decide +kernel
theorem dX11_pays_94 : decode cX11_pays 94 = .ok (.ifCond .ne 28, 3) := by decide +kernel
theorem dX11_pays_97 : decode cX11_pays 97 = .ok (.aload_n 0, 1) := by decide +kernel
theorem dX11_pays_98 : decode cX11_pays 98 = .ok (.getfield 68, 3) := by decide +kernel
theorem dX11_pays_101 : decode cX11_pays 101 = .ok (.bipush 16, 2) := by decide +kernel
theorem dX11_pays_103 : decode cX11_pays 103 = .ok (.iload_n 2, 1) := by decide +kernel
theorem dX11_pays_104 : decode cX11_pays 104 = .ok (.iadd, 1) := by decide +kernel
theorem dX11_pays_105 : decode cX11_pays 105 = .ok (.aload_n 0, 1) := by decide +kernel
theorem dX11_pays_106 : decode cX11_pays 106 = .ok (.getfield 68, 3) := by decide +kernel
theorem dX11_pays_109 : decode cX11_pays 109 = .ok (.bipush 16, 2) := by decide +kernel
theorem dX11_pays_111 : decode cX11_pays 111 = .ok (.iload_n 2, 1) := by decide +kernel
theorem dX11_pays_112 : decode cX11_pays 112 = .ok (.iadd, 1) := by decide +kernel
theorem dX11_pays_113 : decode cX11_pays 113 = .ok (.iaload, 1) := by decide +kernel
theorem dX11_pays_114 : decode cX11_pays 114 = .ok (.iconst 1, 1) := by decide +kernel
theorem dX11_pays_115 : decode cX11_pays 115 = .ok (.iadd, 1) := by decide +kernel
theorem dX11_pays_116 : decode cX11_pays 116 = .ok (.bipush 9, 2) := by decide +kernel
theorem dX11_pays_118 : decode cX11_pays 118 = .ok (.invokestatic 331, 3) := by decide +kernel
theorem dX11_pays_121 : decode cX11_pays 121 = .ok (.iastore, 1) := by decide +kernel
theorem dX11_pays_122 : decode cX11_pays 122 = .ok (.aload_n 0, 1) := by decide +kernel
theorem dX11_pays_123 : decode cX11_pays 123 = .ok (.getfield 68, 3) := by decide +kernel
theorem dX11_pays_126 : decode cX11_pays 126 = .ok (.bipush 88, 2) := by decide +kernel
theorem dX11_pays_128 : decode cX11_pays 128 = .ok (.dup2, 1) := by decide +kernel
theorem dX11_pays_129 : decode cX11_pays 129 = .ok (.iaload, 1) := by decide +kernel
theorem dX11_pays_130 : decode cX11_pays 130 = .ok (.iconst 1, 1) := by decide +kernel
theorem dX11_pays_131 : decode cX11_pays 131 = .ok (.isub, 1) := by decide +kernel
theorem dX11_pays_132 : decode cX11_pays 132 = .ok (.iastore, 1) := by decide +kernel
theorem dX11_pays_133 : decode cX11_pays 133 = .ok (.bipush 28, 2) := by decide +kernel
theorem dX11_pays_135 : decode cX11_pays 135 = .ok (.bipush 6, 2) := by decide +kernel
theorem dX11_pays_137 : decode cX11_pays 137 = .ok (.iload_n 1, 1) := by decide +kernel
theorem dX11_pays_138 : decode cX11_pays 138 = .ok (.imul, 1) := by decide +kernel
theorem dX11_pays_139 : decode cX11_pays 139 = .ok (.iadd, 1) := by decide +kernel
theorem dX11_pays_140 : decode cX11_pays 140 = .ok (.istore 5, 2) := by decide +kernel
theorem dX11_pays_142 : decode cX11_pays 142 = .ok (.iload 5, 2) := by decide +kernel
theorem dX11_pays_144 : decode cX11_pays 144 = .ok (.bipush 28, 2) := by decide +kernel
theorem dX11_pays_146 : decode cX11_pays 146 = .ok (.bipush 6, 2) := by decide +kernel
theorem dX11_pays_148 : decode cX11_pays 148 = .ok (.aload_n 0, 1) := by decide +kernel
theorem dX11_pays_149 : decode cX11_pays 149 = .ok (.getfield 68, 3) := by decide +kernel
theorem dX11_pays_152 : decode cX11_pays 152 = .ok (.bipush 88, 2) := by decide +kernel
theorem dX11_pays_154 : decode cX11_pays 154 = .ok (.iaload, 1) := by decide +kernel
theorem dX11_pays_155 : decode cX11_pays 155 = .ok (.imul, 1) := by decide +kernel
theorem dX11_pays_156 : decode cX11_pays 156 = .ok (.iadd, 1) := by decide +kernel
theorem dX11_pays_157 : decode cX11_pays 157 = .ok (.if_icmp .ge 26, 3) := by decide +kernel
theorem dX11_pays_160 : decode cX11_pays 160 = .ok (.aload_n 0, 1) := by decide +kernel
theorem dX11_pays_161 : decode cX11_pays 161 = .ok (.getfield 68, 3) := by decide +kernel
theorem dX11_pays_164 : decode cX11_pays 164 = .ok (.iload 5, 2) := by decide +kernel
theorem dX11_pays_166 : decode cX11_pays 166 = .ok (.aload_n 0, 1) := by decide +kernel
theorem dX11_pays_167 : decode cX11_pays 167 = .ok (.getfield 68, 3) := by decide +kernel
theorem dX11_pays_170 : decode cX11_pays 170 = .ok (.iload 5, 2) := by decide +kernel
theorem dX11_pays_172 : decode cX11_pays 172 = .ok (.bipush 6, 2) := by decide +kernel
theorem dX11_pays_174 : decode cX11_pays 174 = .ok (.iadd, 1) := by decide +kernel
theorem dX11_pays_175 : decode cX11_pays 175 = .ok (.iaload, 1) := by decide +kernel
theorem dX11_pays_176 : decode cX11_pays 176 = .ok (.iastore, 1) := by decide +kernel
theorem dX11_pays_177 : decode cX11_pays 177 = .ok (.iinc 5 1, 3) := by decide +kernel
theorem dX11_pays_180 : decode cX11_pays 180 = .ok (.goto (-38), 3) := by decide +kernel
theorem dX11_pays_183 : decode cX11_pays 183 = .ok (.aload_n 0, 1) := by decide +kernel
theorem dX11_pays_184 : decode cX11_pays 184 = .ok (.getfield 68, 3) := by decide +kernel
theorem dX11_pays_187 : decode cX11_pays 187 = .ok (.bipush 89, 2) := by decide +kernel
theorem dX11_pays_189 : decode cX11_pays 189 = .ok (.dup2, 1) := by decide +kernel
theorem dX11_pays_190 : decode cX11_pays 190 = .ok (.iaload, 1) := by decide +kernel
theorem dX11_pays_191 : decode cX11_pays 191 = .ok (.iconst 1, 1) := by decide +kernel
theorem dX11_pays_192 : decode cX11_pays 192 = .ok (.iadd, 1) := by decide +kernel
theorem dX11_pays_193 : decode cX11_pays 193 = .ok (.iastore, 1) := by decide +kernel
theorem dX11_pays_194 : decode cX11_pays 194 = .ok (.iconst 1, 1) := by decide +kernel
theorem dX11_pays_195 : decode cX11_pays 195 = .ok (.ireturn, 1) := by decide +kernel
theorem dX11_earns_0 : decode cX11_earns 0 = .ok (.aload_n 0, 1) := by decide +kernel
theorem dX11_earns_1 : decode cX11_earns 1 = .ok (.getfield 68, 3) := by decide +kernel
theorem dX11_earns_4 : decode cX11_earns 4 = .ok (.bipush 22, 2) := by decide +kernel
theorem dX11_earns_6 : decode cX11_earns 6 = .ok (.iload_n 1, 1) := by decide +kernel
theorem dX11_earns_7 : decode cX11_earns 7 = .ok (.iadd, 1) := by decide +kernel
theorem dX11_earns_8 : decode cX11_earns 8 = .ok (.iaload, 1) := by decide +kernel
theorem dX11_earns_9 : decode cX11_earns 9 = .ok (.sipush 300, 3) := by decide +kernel
theorem dX11_earns_12 : decode cX11_earns 12 = .ok (.if_icmp .ne 5, 3) := by decide +kernel
theorem dX11_earns_15 : decode cX11_earns 15 = .ok (.iconst 0, 1) := by decide +kernel
theorem dX11_earns_16 : decode cX11_earns 16 = .ok (.ireturn, 1) := by decide +kernel
theorem dX11_earns_17 : decode cX11_earns 17 = .ok (.aload_n 0, 1) := by decide +kernel
theorem dX11_earns_18 : decode cX11_earns 18 = .ok (.getfield 68, 3) := by decide +kernel
theorem dX11_earns_21 : decode cX11_earns 21 = .ok (.bipush 22, 2) := by decide +kernel
theorem dX11_earns_23 : decode cX11_earns 23 = .ok (.iload_n 1, 1) := by decide +kernel
theorem dX11_earns_24 : decode cX11_earns 24 = .ok (.iadd, 1) := by decide +kernel
theorem dX11_earns_25 : decode cX11_earns 25 = .ok (.aload_n 0, 1) := by decide +kernel
theorem dX11_earns_26 : decode cX11_earns 26 = .ok (.getfield 68, 3) := by decide +kernel
theorem dX11_earns_29 : decode cX11_earns 29 = .ok (.bipush 22, 2) := by decide +kernel
theorem dX11_earns_31 : decode cX11_earns 31 = .ok (.iload_n 1, 1) := by decide +kernel
theorem dX11_earns_32 : decode cX11_earns 32 = .ok (.iadd, 1) := by decide +kernel
theorem dX11_earns_33 : decode cX11_earns 33 = .ok (.iaload, 1) := by decide +kernel
theorem dX11_earns_34 : decode cX11_earns 34 = .ok (.iload_n 2, 1) := by decide +kernel
theorem dX11_earns_35 : decode cX11_earns 35 = .ok (.iadd, 1) := by decide +kernel
theorem dX11_earns_36 : decode cX11_earns 36 = .ok (.sipush 300, 3) := by decide +kernel
theorem dX11_earns_39 : decode cX11_earns 39 = .ok (.invokestatic 331, 3) := by decide +kernel
theorem dX11_earns_42 : decode cX11_earns 42 = .ok (.iastore, 1) := by decide +kernel
theorem dX11_earns_43 : decode cX11_earns 43 = .ok (.iconst 1, 1) := by decide +kernel
theorem dX11_earns_44 : decode cX11_earns 44 = .ok (.ireturn, 1) := by decide +kernel
theorem dX11_passes_0 : decode cX11_passes 0 = .ok (.aload_n 0, 1) := by decide +kernel
theorem dX11_passes_1 : decode cX11_passes 1 = .ok (.getfield 68, 3) := by decide +kernel
theorem dX11_passes_4 : decode cX11_passes 4 = .ok (.bipush 90, 2) := by decide +kernel
theorem dX11_passes_6 : decode cX11_passes 6 = .ok (.dup2, 1) := by decide +kernel
theorem dX11_passes_7 : decode cX11_passes 7 = .ok (.iaload, 1) := by decide +kernel
theorem dX11_passes_8 : decode cX11_passes 8 = .ok (.iconst 1, 1) := by decide +kernel
theorem dX11_passes_9 : decode cX11_passes 9 = .ok (.iadd, 1) := by decide +kernel
theorem dX11_passes_10 : decode cX11_passes 10 = .ok (.iastore, 1) := by decide +kernel
theorem dX11_passes_11 : decode cX11_passes 11 = .ok (.iconst 0, 1) := by decide +kernel
theorem dX11_passes_12 : decode cX11_passes 12 = .ok (.istore_n 1, 1) := by decide +kernel
theorem dX11_passes_13 : decode cX11_passes 13 = .ok (.iload_n 1, 1) := by decide +kernel
theorem dX11_passes_14 : decode cX11_passes 14 = .ok (.aload_n 0, 1) := by decide +kernel
theorem dX11_passes_15 : decode cX11_passes 15 = .ok (.getfield 68, 3) := by decide +kernel
theorem dX11_passes_18 : decode cX11_passes 18 = .ok (.bipush 88, 2) := by decide +kernel
theorem dX11_passes_20 : decode cX11_passes 20 = .ok (.iaload, 1) := by decide +kernel
theorem dX11_passes_21 : decode cX11_passes 21 = .ok (.if_icmp .ge 107, 3) := by decide +kernel
theorem dX11_passes_24 : decode cX11_passes 24 = .ok (.aload_n 0, 1) := by decide +kernel
theorem dX11_passes_25 : decode cX11_passes 25 = .ok (.iload_n 1, 1) := by decide +kernel
theorem dX11_passes_26 : decode cX11_passes 26 = .ok (.iconst 4, 1) := by decide +kernel
theorem dX11_passes_27 : decode cX11_passes 27 = .ok (.invokevirtual 314, 3) := by decide +kernel
theorem dX11_passes_30 : decode cX11_passes 30 = .ok (.aload_n 0, 1) := by decide +kernel
theorem dX11_passes_31 : decode cX11_passes 31 = .ok (.getfield 68, 3) := by decide +kernel
theorem dX11_passes_34 : decode cX11_passes 34 = .ok (.bipush 90, 2) := by decide +kernel
theorem dX11_passes_36 : decode cX11_passes 36 = .ok (.iaload, 1) := by decide +kernel
theorem dX11_passes_37 : decode cX11_passes 37 = .ok (.if_icmp .ge 85, 3) := by decide +kernel
theorem dX11_passes_40 : decode cX11_passes 40 = .ok (.aload_n 0, 1) := by decide +kernel
theorem dX11_passes_41 : decode cX11_passes 41 = .ok (.iload_n 1, 1) := by decide +kernel
theorem dX11_passes_42 : decode cX11_passes 42 = .ok (.iconst 5, 1) := by decide +kernel
theorem dX11_passes_43 : decode cX11_passes 43 = .ok (.invokevirtual 314, 3) := by decide +kernel
theorem dX11_passes_46 : decode cX11_passes 46 = .ok (.iconst 1, 1) := by decide +kernel
theorem dX11_passes_47 : decode cX11_passes 47 = .ok (.if_icmp .ne 6, 3) := by decide +kernel
theorem dX11_passes_50 : decode cX11_passes 50 = .ok (.goto 72, 3) := by decide +kernel
theorem dX11_passes_53 : decode cX11_passes 53 = .ok (.aload_n 0, 1) := by decide +kernel
theorem dX11_passes_54 : decode cX11_passes 54 = .ok (.getfield 68, 3) := by decide +kernel
theorem dX11_passes_57 : decode cX11_passes 57 = .ok (.bipush 28, 2) := by decide +kernel
theorem dX11_passes_59 : decode cX11_passes 59 = .ok (.bipush 6, 2) := by decide +kernel
theorem dX11_passes_61 : decode cX11_passes 61 = .ok (.iload_n 1, 1) := by decide +kernel
theorem dX11_passes_62 : decode cX11_passes 62 = .ok (.imul, 1) := by decide +kernel
theorem dX11_passes_63 : decode cX11_passes 63 = .ok (.iadd, 1) := by decide +kernel
theorem dX11_passes_64 : decode cX11_passes 64 = .ok (.iconst 5, 1) := by decide +kernel
theorem dX11_passes_65 : decode cX11_passes 65 = .ok (.iadd, 1) := by decide +kernel
theorem dX11_passes_66 : decode cX11_passes 66 = .ok (.iconst 1, 1) := by decide +kernel
theorem dX11_passes_67 : decode cX11_passes 67 = .ok (.iastore, 1) := by decide +kernel
theorem dX11_passes_68 : decode cX11_passes 68 = .ok (.aload_n 0, 1) := by decide +kernel
theorem dX11_passes_69 : decode cX11_passes 69 = .ok (.getfield 68, 3) := by decide +kernel
theorem dX11_passes_72 : decode cX11_passes 72 = .ok (.bipush 16, 2) := by decide +kernel
theorem dX11_passes_74 : decode cX11_passes 74 = .ok (.aload_n 0, 1) := by decide +kernel
theorem dX11_passes_75 : decode cX11_passes 75 = .ok (.iload_n 1, 1) := by decide +kernel
theorem dX11_passes_76 : decode cX11_passes 76 = .ok (.iconst 0, 1) := by decide +kernel
theorem dX11_passes_77 : decode cX11_passes 77 = .ok (.invokevirtual 314, 3) := by decide +kernel
theorem dX11_passes_80 : decode cX11_passes 80 = .ok (.iadd, 1) := by decide +kernel
theorem dX11_passes_81 : decode cX11_passes 81 = .ok (.dup2, 1) := by decide +kernel
theorem dX11_passes_82 : decode cX11_passes 82 = .ok (.iaload, 1) := by decide +kernel
theorem dX11_passes_83 : decode cX11_passes 83 = .ok (.aload_n 0, 1) := by decide +kernel
theorem dX11_passes_84 : decode cX11_passes 84 = .ok (.getfield 68, 3) := by decide +kernel
theorem dX11_passes_87 : decode cX11_passes 87 = .ok (.bipush 16, 2) := by decide +kernel
theorem dX11_passes_89 : decode cX11_passes 89 = .ok (.aload_n 0, 1) := by decide +kernel
theorem dX11_passes_90 : decode cX11_passes 90 = .ok (.iload_n 1, 1) := by decide +kernel
theorem dX11_passes_91 : decode cX11_passes 91 = .ok (.iconst 0, 1) := by decide +kernel
theorem dX11_passes_92 : decode cX11_passes 92 = .ok (.invokevirtual 314, 3) := by decide +kernel
theorem dX11_passes_95 : decode cX11_passes 95 = .ok (.iadd, 1) := by decide +kernel
theorem dX11_passes_96 : decode cX11_passes 96 = .ok (.iaload, 1) := by decide +kernel
theorem dX11_passes_97 : decode cX11_passes 97 = .ok (.ifCond .le 7, 3) := by decide +kernel
theorem dX11_passes_100 : decode cX11_passes 100 = .ok (.iconst 1, 1) := by decide +kernel
theorem dX11_passes_101 : decode cX11_passes 101 = .ok (.goto 4, 3) := by decide +kernel
theorem dX11_passes_104 : decode cX11_passes 104 = .ok (.iconst 0, 1) := by decide +kernel
theorem dX11_passes_105 : decode cX11_passes 105 = .ok (.isub, 1) := by decide +kernel
theorem dX11_passes_106 : decode cX11_passes 106 = .ok (.iastore, 1) := by decide +kernel
theorem dX11_passes_107 : decode cX11_passes 107 = .ok (.aload_n 0, 1) := by decide +kernel
theorem dX11_passes_108 : decode cX11_passes 108 = .ok (.getfield 68, 3) := by decide +kernel
theorem dX11_passes_111 : decode cX11_passes 111 = .ok (.bipush 8, 2) := by decide +kernel
theorem dX11_passes_113 : decode cX11_passes 113 = .ok (.aload_n 0, 1) := by decide +kernel
theorem dX11_passes_114 : decode cX11_passes 114 = .ok (.iload_n 1, 1) := by decide +kernel
theorem dX11_passes_115 : decode cX11_passes 115 = .ok (.iconst 1, 1) := by decide +kernel
theorem dX11_passes_116 : decode cX11_passes 116 = .ok (.invokevirtual 314, 3) := by decide +kernel
theorem dX11_passes_119 : decode cX11_passes 119 = .ok (.iadd, 1) := by decide +kernel
theorem dX11_passes_120 : decode cX11_passes 120 = .ok (.iconst 1, 1) := by decide +kernel
theorem dX11_passes_121 : decode cX11_passes 121 = .ok (.iastore, 1) := by decide +kernel
theorem dX11_passes_122 : decode cX11_passes 122 = .ok (.iinc 1 1, 3) := by decide +kernel
theorem dX11_passes_125 : decode cX11_passes 125 = .ok (.goto (-112), 3) := by decide +kernel
theorem dX11_passes_128 : decode cX11_passes 128 = .ok (.return_, 1) := by decide +kernel
theorem dX11_isDone_0 : decode cX11_isDone 0 = .ok (.aload_n 0, 1) := by decide +kernel
theorem dX11_isDone_1 : decode cX11_isDone 1 = .ok (.getfield 62, 3) := by decide +kernel
theorem dX11_isDone_4 : decode cX11_isDone 4 = .ok (.iload_n 1, 1) := by decide +kernel
theorem dX11_isDone_5 : decode cX11_isDone 5 = .ok (.iaload, 1) := by decide +kernel
theorem dX11_isDone_6 : decode cX11_isDone 6 = .ok (.istore_n 2, 1) := by decide +kernel
theorem dX11_isDone_7 : decode cX11_isDone 7 = .ok (.aload_n 0, 1) := by decide +kernel
theorem dX11_isDone_8 : decode cX11_isDone 8 = .ok (.getfield 62, 3) := by decide +kernel
theorem dX11_isDone_11 : decode cX11_isDone 11 = .ok (.iload_n 1, 1) := by decide +kernel
theorem dX11_isDone_12 : decode cX11_isDone 12 = .ok (.iconst 1, 1) := by decide +kernel
theorem dX11_isDone_13 : decode cX11_isDone 13 = .ok (.iadd, 1) := by decide +kernel
theorem dX11_isDone_14 : decode cX11_isDone 14 = .ok (.iaload, 1) := by decide +kernel
theorem dX11_isDone_15 : decode cX11_isDone 15 = .ok (.istore_n 3, 1) := by decide +kernel
theorem dX11_isDone_16 : decode cX11_isDone 16 = .ok (.iload_n 2, 1) := by decide +kernel
theorem dX11_isDone_17 : decode cX11_isDone 17 = .ok (.ifCond .ne 33, 3) := by decide +kernel
theorem dX11_isDone_20 : decode cX11_isDone 20 = .ok (.aload_n 0, 1) := by decide +kernel
theorem dX11_isDone_21 : decode cX11_isDone 21 = .ok (.iload_n 3, 1) := by decide +kernel
theorem dX11_isDone_22 : decode cX11_isDone 22 = .ok (.aload_n 0, 1) := by decide +kernel
theorem dX11_isDone_23 : decode cX11_isDone 23 = .ok (.getfield 62, 3) := by decide +kernel
theorem dX11_isDone_26 : decode cX11_isDone 26 = .ok (.iload_n 1, 1) := by decide +kernel
theorem dX11_isDone_27 : decode cX11_isDone 27 = .ok (.iconst 2, 1) := by decide +kernel
theorem dX11_isDone_28 : decode cX11_isDone 28 = .ok (.iadd, 1) := by decide +kernel
theorem dX11_isDone_29 : decode cX11_isDone 29 = .ok (.iaload, 1) := by decide +kernel
theorem dX11_isDone_30 : decode cX11_isDone 30 = .ok (.aload_n 0, 1) := by decide +kernel
theorem dX11_isDone_31 : decode cX11_isDone 31 = .ok (.getfield 62, 3) := by decide +kernel
theorem dX11_isDone_34 : decode cX11_isDone 34 = .ok (.iload_n 1, 1) := by decide +kernel
theorem dX11_isDone_35 : decode cX11_isDone 35 = .ok (.iconst 3, 1) := by decide +kernel
theorem dX11_isDone_36 : decode cX11_isDone 36 = .ok (.iadd, 1) := by decide +kernel
theorem dX11_isDone_37 : decode cX11_isDone 37 = .ok (.iaload, 1) := by decide +kernel
theorem dX11_isDone_38 : decode cX11_isDone 38 = .ok (.aload_n 0, 1) := by decide +kernel
theorem dX11_isDone_39 : decode cX11_isDone 39 = .ok (.getfield 62, 3) := by decide +kernel
theorem dX11_isDone_42 : decode cX11_isDone 42 = .ok (.iload_n 1, 1) := by decide +kernel
theorem dX11_isDone_43 : decode cX11_isDone 43 = .ok (.iconst 4, 1) := by decide +kernel
theorem dX11_isDone_44 : decode cX11_isDone 44 = .ok (.iadd, 1) := by decide +kernel
theorem dX11_isDone_45 : decode cX11_isDone 45 = .ok (.iaload, 1) := by decide +kernel
theorem dX11_isDone_46 : decode cX11_isDone 46 = .ok (.invokevirtual 334, 3) := by decide +kernel
theorem dX11_isDone_49 : decode cX11_isDone 49 = .ok (.ireturn, 1) := by decide +kernel
theorem dX11_isDone_50 : decode cX11_isDone 50 = .ok (.iload_n 2, 1) := by decide +kernel
theorem dX11_isDone_51 : decode cX11_isDone 51 = .ok (.iconst 1, 1) := by decide +kernel
theorem dX11_isDone_52 : decode cX11_isDone 52 = .ok (.if_icmp .ne 9, 3) := by decide +kernel
theorem dX11_isDone_55 : decode cX11_isDone 55 = .ok (.aload_n 0, 1) := by decide +kernel
theorem dX11_isDone_56 : decode cX11_isDone 56 = .ok (.iload_n 3, 1) := by decide +kernel
theorem dX11_isDone_57 : decode cX11_isDone 57 = .ok (.invokevirtual 338, 3) := by decide +kernel
theorem dX11_isDone_60 : decode cX11_isDone 60 = .ok (.ireturn, 1) := by decide +kernel
theorem dX11_isDone_61 : decode cX11_isDone 61 = .ok (.iload_n 2, 1) := by decide +kernel
theorem dX11_isDone_62 : decode cX11_isDone 62 = .ok (.iconst 2, 1) := by decide +kernel
theorem dX11_isDone_63 : decode cX11_isDone 63 = .ok (.if_icmp .ne 17, 3) := by decide +kernel
theorem dX11_isDone_66 : decode cX11_isDone 66 = .ok (.aload_n 0, 1) := by decide +kernel
theorem dX11_isDone_67 : decode cX11_isDone 67 = .ok (.iload_n 3, 1) := by decide +kernel
theorem dX11_isDone_68 : decode cX11_isDone 68 = .ok (.aload_n 0, 1) := by decide +kernel
theorem dX11_isDone_69 : decode cX11_isDone 69 = .ok (.getfield 62, 3) := by decide +kernel
theorem dX11_isDone_72 : decode cX11_isDone 72 = .ok (.iload_n 1, 1) := by decide +kernel
theorem dX11_isDone_73 : decode cX11_isDone 73 = .ok (.iconst 2, 1) := by decide +kernel
theorem dX11_isDone_74 : decode cX11_isDone 74 = .ok (.iadd, 1) := by decide +kernel
theorem dX11_isDone_75 : decode cX11_isDone 75 = .ok (.iaload, 1) := by decide +kernel
theorem dX11_isDone_76 : decode cX11_isDone 76 = .ok (.invokevirtual 341, 3) := by decide +kernel
theorem dX11_isDone_79 : decode cX11_isDone 79 = .ok (.ireturn, 1) := by decide +kernel
theorem dX11_isDone_80 : decode cX11_isDone 80 = .ok (.iload_n 2, 1) := by decide +kernel
theorem dX11_isDone_81 : decode cX11_isDone 81 = .ok (.iconst 3, 1) := by decide +kernel
theorem dX11_isDone_82 : decode cX11_isDone 82 = .ok (.if_icmp .eq 8, 3) := by decide +kernel
theorem dX11_isDone_85 : decode cX11_isDone 85 = .ok (.iload_n 2, 1) := by decide +kernel
theorem dX11_isDone_86 : decode cX11_isDone 86 = .ok (.iconst 4, 1) := by decide +kernel
theorem dX11_isDone_87 : decode cX11_isDone 87 = .ok (.if_icmp .ne 44, 3) := by decide +kernel
theorem dX11_isDone_90 : decode cX11_isDone 90 = .ok (.iload_n 2, 1) := by decide +kernel
theorem dX11_isDone_91 : decode cX11_isDone 91 = .ok (.iconst 3, 1) := by decide +kernel
theorem dX11_isDone_92 : decode cX11_isDone 92 = .ok (.if_icmp .ne 7, 3) := by decide +kernel
theorem dX11_isDone_95 : decode cX11_isDone 95 = .ok (.iconst 1, 1) := by decide +kernel
theorem dX11_isDone_96 : decode cX11_isDone 96 = .ok (.goto 4, 3) := by decide +kernel
theorem dX11_isDone_99 : decode cX11_isDone 99 = .ok (.iconst 0, 1) := by decide +kernel
theorem dX11_isDone_100 : decode cX11_isDone 100 = .ok (.istore 4, 2) := by decide +kernel
theorem dX11_isDone_102 : decode cX11_isDone 102 = .ok (.aload_n 0, 1) := by decide +kernel
theorem dX11_isDone_103 : decode cX11_isDone 103 = .ok (.getfield 68, 3) := by decide +kernel
theorem dX11_isDone_106 : decode cX11_isDone 106 = .ok (.bipush 8, 2) := by decide +kernel
theorem dX11_isDone_108 : decode cX11_isDone 108 = .ok (.iload_n 3, 1) := by decide +kernel
theorem dX11_isDone_109 : decode cX11_isDone 109 = .ok (.iadd, 1) := by decide +kernel
theorem dX11_isDone_110 : decode cX11_isDone 110 = .ok (.iaload, 1) := by decide +kernel
theorem dX11_isDone_111 : decode cX11_isDone 111 = .ok (.iload 4, 2) := by decide +kernel
theorem dX11_isDone_113 : decode cX11_isDone 113 = .ok (.if_icmp .ne 5, 3) := by decide +kernel
theorem dX11_isDone_116 : decode cX11_isDone 116 = .ok (.iconst 0, 1) := by decide +kernel
theorem dX11_isDone_117 : decode cX11_isDone 117 = .ok (.ireturn, 1) := by decide +kernel
theorem dX11_isDone_118 : decode cX11_isDone 118 = .ok (.aload_n 0, 1) := by decide +kernel
theorem dX11_isDone_119 : decode cX11_isDone 119 = .ok (.getfield 68, 3) := by decide +kernel
theorem dX11_isDone_122 : decode cX11_isDone 122 = .ok (.bipush 8, 2) := by decide +kernel
theorem dX11_isDone_124 : decode cX11_isDone 124 = .ok (.iload_n 3, 1) := by decide +kernel
theorem dX11_isDone_125 : decode cX11_isDone 125 = .ok (.iadd, 1) := by decide +kernel
theorem dX11_isDone_126 : decode cX11_isDone 126 = .ok (.iload 4, 2) := by decide +kernel
theorem dX11_isDone_128 : decode cX11_isDone 128 = .ok (.iastore, 1) := by decide +kernel
theorem dX11_isDone_129 : decode cX11_isDone 129 = .ok (.iconst 1, 1) := by decide +kernel
theorem dX11_isDone_130 : decode cX11_isDone 130 = .ok (.ireturn, 1) := by decide +kernel
theorem dX11_isDone_131 : decode cX11_isDone 131 = .ok (.aload_n 0, 1) := by decide +kernel
theorem dX11_isDone_132 : decode cX11_isDone 132 = .ok (.getfield 68, 3) := by decide +kernel
theorem dX11_isDone_135 : decode cX11_isDone 135 = .ok (.bipush 90, 2) := by decide +kernel
theorem dX11_isDone_137 : decode cX11_isDone 137 = .ok (.iaload, 1) := by decide +kernel
theorem dX11_isDone_138 : decode cX11_isDone 138 = .ok (.sipush 400, 3) := by decide +kernel
theorem dX11_isDone_141 : decode cX11_isDone 141 = .ok (.if_icmp .ne 5, 3) := by decide +kernel
theorem dX11_isDone_144 : decode cX11_isDone 144 = .ok (.iconst 0, 1) := by decide +kernel
theorem dX11_isDone_145 : decode cX11_isDone 145 = .ok (.ireturn, 1) := by decide +kernel
theorem dX11_isDone_146 : decode cX11_isDone 146 = .ok (.aload_n 0, 1) := by decide +kernel
theorem dX11_isDone_147 : decode cX11_isDone 147 = .ok (.invokevirtual 345, 3) := by decide +kernel
theorem dX11_isDone_150 : decode cX11_isDone 150 = .ok (.iconst 1, 1) := by decide +kernel
theorem dX11_isDone_151 : decode cX11_isDone 151 = .ok (.ireturn, 1) := by decide +kernel
theorem dX11_book_0 : decode cX11_book 0 = .ok (.aload_n 0, 1) := by decide +kernel
theorem dX11_book_1 : decode cX11_book 1 = .ok (.iconst 0, 1) := by decide +kernel
theorem dX11_book_2 : decode cX11_book 2 = .ok (.putfield 3, 3) := by decide +kernel
theorem dX11_book_5 : decode cX11_book 5 = .ok (.aload_n 0, 1) := by decide +kernel
theorem dX11_book_6 : decode cX11_book 6 = .ok (.iload_n 1, 1) := by decide +kernel
theorem dX11_book_7 : decode cX11_book 7 = .ok (.ifCond .lt 21, 3) := by decide +kernel
theorem dX11_book_10 : decode cX11_book 10 = .ok (.iload_n 1, 1) := by decide +kernel
theorem dX11_book_11 : decode cX11_book 11 = .ok (.aload_n 0, 1) := by decide +kernel
theorem dX11_book_12 : decode cX11_book 12 = .ok (.getfield 102, 3) := by decide +kernel
theorem dX11_book_15 : decode cX11_book 15 = .ok (.if_icmp .gt 13, 3) := by decide +kernel
theorem dX11_book_18 : decode cX11_book 18 = .ok (.iload_n 1, 1) := by decide +kernel
theorem dX11_book_19 : decode cX11_book 19 = .ok (.bipush 60, 2) := by decide +kernel
theorem dX11_book_21 : decode cX11_book 21 = .ok (.if_icmp .gt 7, 3) := by decide +kernel
theorem dX11_book_24 : decode cX11_book 24 = .ok (.iconst 1, 1) := by decide +kernel
theorem dX11_book_25 : decode cX11_book 25 = .ok (.goto 4, 3) := by decide +kernel
theorem dX11_book_28 : decode cX11_book 28 = .ok (.iconst 0, 1) := by decide +kernel
theorem dX11_book_29 : decode cX11_book 29 = .ok (.iconst 1, 1) := by decide +kernel
theorem dX11_book_30 : decode cX11_book 30 = .ok (.iconst 1, 1) := by decide +kernel
theorem dX11_book_31 : decode cX11_book 31 = .ok (.invokevirtual 190, 3) := by decide +kernel
theorem dX11_book_34 : decode cX11_book 34 = .ok (.ifCond .ne 5, 3) := by decide +kernel
theorem dX11_book_37 : decode cX11_book 37 = .ok (.iconst 0, 1) := by decide +kernel
theorem dX11_book_38 : decode cX11_book 38 = .ok (.ireturn, 1) := by decide +kernel
theorem dX11_book_39 : decode cX11_book 39 = .ok (.aload_n 0, 1) := by decide +kernel
theorem dX11_book_40 : decode cX11_book 40 = .ok (.iload_n 1, 1) := by decide +kernel
theorem dX11_book_41 : decode cX11_book 41 = .ok (.invokevirtual 194, 3) := by decide +kernel
theorem dX11_book_44 : decode cX11_book 44 = .ok (.iconst 0, 1) := by decide +kernel
theorem dX11_book_45 : decode cX11_book 45 = .ok (.istore_n 2, 1) := by decide +kernel
theorem dX11_book_46 : decode cX11_book 46 = .ok (.aload_n 0, 1) := by decide +kernel
theorem dX11_book_47 : decode cX11_book 47 = .ok (.invokevirtual 134, 3) := by decide +kernel
theorem dX11_book_50 : decode cX11_book 50 = .ok (.ifCond .eq 125, 3) := by decide +kernel
theorem dX11_book_53 : decode cX11_book 53 = .ok (.aload_n 0, 1) := by decide +kernel
theorem dX11_book_54 : decode cX11_book 54 = .ok (.invokevirtual 198, 3) := by decide +kernel
theorem dX11_book_57 : decode cX11_book 57 = .ok (.ifCond .eq 118, 3) := by decide +kernel
theorem dX11_book_60 : decode cX11_book 60 = .ok (.aload_n 0, 1) := by decide +kernel
theorem dX11_book_61 : decode cX11_book 61 = .ok (.invokevirtual 117, 3) := by decide +kernel
theorem dX11_book_64 : decode cX11_book 64 = .ok (.pop, 1) := by decide +kernel
theorem dX11_book_65 : decode cX11_book 65 = .ok (.aload_n 0, 1) := by decide +kernel
theorem dX11_book_66 : decode cX11_book 66 = .ok (.getfield 111, 3) := by decide +kernel
theorem dX11_book_69 : decode cX11_book 69 = .ok (.istore_n 3, 1) := by decide +kernel
theorem dX11_book_70 : decode cX11_book 70 = .ok (.aload_n 0, 1) := by decide +kernel
theorem dX11_book_71 : decode cX11_book 71 = .ok (.iconst 0, 1) := by decide +kernel
theorem dX11_book_72 : decode cX11_book 72 = .ok (.aload_n 0, 1) := by decide +kernel
theorem dX11_book_73 : decode cX11_book 73 = .ok (.getfield 157, 3) := by decide +kernel
theorem dX11_book_76 : decode cX11_book 76 = .ok (.iconst 1, 1) := by decide +kernel
theorem dX11_book_77 : decode cX11_book 77 = .ok (.isub, 1) := by decide +kernel
theorem dX11_book_78 : decode cX11_book 78 = .ok (.invokevirtual 186, 3) := by decide +kernel
theorem dX11_book_81 : decode cX11_book 81 = .ok (.istore 4, 2) := by decide +kernel
theorem dX11_book_83 : decode cX11_book 83 = .ok (.aload_n 0, 1) := by decide +kernel
theorem dX11_book_84 : decode cX11_book 84 = .ok (.invokevirtual 134, 3) := by decide +kernel
theorem dX11_book_87 : decode cX11_book 87 = .ok (.ifCond .eq 15, 3) := by decide +kernel
theorem dX11_book_90 : decode cX11_book 90 = .ok (.iload_n 2, 1) := by decide +kernel
theorem dX11_book_91 : decode cX11_book 91 = .ok (.bipush 6, 2) := by decide +kernel
theorem dX11_book_93 : decode cX11_book 93 = .ok (.if_icmp .ne 9, 3) := by decide +kernel
theorem dX11_book_96 : decode cX11_book 96 = .ok (.aload_n 0, 1) := by decide +kernel
theorem dX11_book_97 : decode cX11_book 97 = .ok (.iconst 3, 1) := by decide +kernel
theorem dX11_book_98 : decode cX11_book 98 = .ok (.iload_n 3, 1) := by decide +kernel
theorem dX11_book_99 : decode cX11_book 99 = .ok (.invokevirtual 141, 3) := by decide +kernel
theorem dX11_book_102 : decode cX11_book 102 = .ok (.aload_n 0, 1) := by decide +kernel
theorem dX11_book_103 : decode cX11_book 103 = .ok (.iconst 0, 1) := by decide +kernel
theorem dX11_book_104 : decode cX11_book 104 = .ok (.iconst 5, 1) := by decide +kernel
theorem dX11_book_105 : decode cX11_book 105 = .ok (.invokevirtual 186, 3) := by decide +kernel
theorem dX11_book_108 : decode cX11_book 108 = .ok (.istore 5, 2) := by decide +kernel
theorem dX11_book_110 : decode cX11_book 110 = .ok (.aload_n 0, 1) := by decide +kernel
theorem dX11_book_111 : decode cX11_book 111 = .ok (.iconst 1, 1) := by decide +kernel
theorem dX11_book_112 : decode cX11_book 112 = .ok (.bipush 60, 2) := by decide +kernel
theorem dX11_book_114 : decode cX11_book 114 = .ok (.invokevirtual 186, 3) := by decide +kernel
theorem dX11_book_117 : decode cX11_book 117 = .ok (.istore 6, 2) := by decide +kernel
theorem dX11_book_119 : decode cX11_book 119 = .ok (.aload_n 0, 1) := by decide +kernel
theorem dX11_book_120 : decode cX11_book 120 = .ok (.bipush 59, 2) := by decide +kernel
theorem dX11_book_122 : decode cX11_book 122 = .ok (.invokevirtual 213, 3) := by decide +kernel
theorem dX11_book_125 : decode cX11_book 125 = .ok (.aload_n 0, 1) := by decide +kernel
theorem dX11_book_126 : decode cX11_book 126 = .ok (.invokevirtual 134, 3) := by decide +kernel
theorem dX11_book_129 : decode cX11_book 129 = .ok (.ifCond .ne 6, 3) := by decide +kernel
theorem dX11_book_132 : decode cX11_book 132 = .ok (.goto 43, 3) := by decide +kernel
theorem dX11_book_135 : decode cX11_book 135 = .ok (.aload_n 0, 1) := by decide +kernel
theorem dX11_book_136 : decode cX11_book 136 = .ok (.getfield 74, 3) := by decide +kernel
theorem dX11_book_139 : decode cX11_book 139 = .ok (.iconst 3, 1) := by decide +kernel
theorem dX11_book_140 : decode cX11_book 140 = .ok (.iload_n 2, 1) := by decide +kernel
theorem dX11_book_141 : decode cX11_book 141 = .ok (.imul, 1) := by decide +kernel
theorem dX11_book_142 : decode cX11_book 142 = .ok (.iload 4, 2) := by decide +kernel
theorem dX11_book_144 : decode cX11_book 144 = .ok (.iastore, 1) := by decide +kernel
theorem dX11_book_145 : decode cX11_book 145 = .ok (.aload_n 0, 1) := by decide +kernel
theorem dX11_book_146 : decode cX11_book 146 = .ok (.getfield 74, 3) := by decide +kernel
theorem dX11_book_149 : decode cX11_book 149 = .ok (.iconst 3, 1) := by decide +kernel
theorem dX11_book_150 : decode cX11_book 150 = .ok (.iload_n 2, 1) := by decide +kernel
theorem dX11_book_151 : decode cX11_book 151 = .ok (.imul, 1) := by decide +kernel
theorem dX11_book_152 : decode cX11_book 152 = .ok (.iconst 1, 1) := by decide +kernel
theorem dX11_book_153 : decode cX11_book 153 = .ok (.iadd, 1) := by decide +kernel
theorem dX11_book_154 : decode cX11_book 154 = .ok (.iload 5, 2) := by decide +kernel
theorem dX11_book_156 : decode cX11_book 156 = .ok (.iastore, 1) := by decide +kernel
theorem dX11_book_157 : decode cX11_book 157 = .ok (.aload_n 0, 1) := by decide +kernel
theorem dX11_book_158 : decode cX11_book 158 = .ok (.getfield 74, 3) := by decide +kernel
theorem dX11_book_161 : decode cX11_book 161 = .ok (.iconst 3, 1) := by decide +kernel
theorem dX11_book_162 : decode cX11_book 162 = .ok (.iload_n 2, 1) := by decide +kernel
theorem dX11_book_163 : decode cX11_book 163 = .ok (.imul, 1) := by decide +kernel
theorem dX11_book_164 : decode cX11_book 164 = .ok (.iconst 2, 1) := by decide +kernel
theorem dX11_book_165 : decode cX11_book 165 = .ok (.iadd, 1) := by decide +kernel
theorem dX11_book_166 : decode cX11_book 166 = .ok (.iload 6, 2) := by decide +kernel
theorem dX11_book_168 : decode cX11_book 168 = .ok (.iastore, 1) := by decide +kernel
theorem dX11_book_169 : decode cX11_book 169 = .ok (.iinc 2 1, 3) := by decide +kernel
theorem dX11_book_172 : decode cX11_book 172 = .ok (.goto (-126), 3) := by decide +kernel
theorem dX11_book_175 : decode cX11_book 175 = .ok (.aload_n 0, 1) := by decide +kernel
theorem dX11_book_176 : decode cX11_book 176 = .ok (.iload_n 2, 1) := by decide +kernel
theorem dX11_book_177 : decode cX11_book 177 = .ok (.invokevirtual 216, 3) := by decide +kernel
theorem dX11_book_180 : decode cX11_book 180 = .ok (.istore_n 3, 1) := by decide +kernel
theorem dX11_book_181 : decode cX11_book 181 = .ok (.aload_n 0, 1) := by decide +kernel
theorem dX11_book_182 : decode cX11_book 182 = .ok (.getfield 105, 3) := by decide +kernel
theorem dX11_book_185 : decode cX11_book 185 = .ok (.iconst (-1), 1) := by decide +kernel
theorem dX11_book_186 : decode cX11_book 186 = .ok (.if_icmp .eq 5, 3) := by decide +kernel
theorem dX11_book_189 : decode cX11_book 189 = .ok (.iload_n 3, 1) := by decide +kernel
theorem dX11_book_190 : decode cX11_book 190 = .ok (.ireturn, 1) := by decide +kernel
theorem dX11_book_191 : decode cX11_book 191 = .ok (.aload_n 0, 1) := by decide +kernel
theorem dX11_book_192 : decode cX11_book 192 = .ok (.iload_n 2, 1) := by decide +kernel
theorem dX11_book_193 : decode cX11_book 193 = .ok (.putfield 167, 3) := by decide +kernel
theorem dX11_book_196 : decode cX11_book 196 = .ok (.aload_n 0, 1) := by decide +kernel
theorem dX11_book_197 : decode cX11_book 197 = .ok (.aload_n 0, 1) := by decide +kernel
theorem dX11_book_198 : decode cX11_book 198 = .ok (.getfield 74, 3) := by decide +kernel
theorem dX11_book_201 : decode cX11_book 201 = .ok (.aload_n 0, 1) := by decide +kernel
theorem dX11_book_202 : decode cX11_book 202 = .ok (.getfield 77, 3) := by decide +kernel
theorem dX11_book_205 : decode cX11_book 205 = .ok (.bipush 18, 2) := by decide +kernel
theorem dX11_book_207 : decode cX11_book 207 = .ok (.invokevirtual 160, 3) := by decide +kernel
theorem dX11_book_210 : decode cX11_book 210 = .ok (.iload_n 3, 1) := by decide +kernel
theorem dX11_book_211 : decode cX11_book 211 = .ok (.ireturn, 1) := by decide +kernel
theorem dX11_undo_0 : decode cX11_undo 0 = .ok (.aload_n 0, 1) := by decide +kernel
theorem dX11_undo_1 : decode cX11_undo 1 = .ok (.iconst 0, 1) := by decide +kernel
theorem dX11_undo_2 : decode cX11_undo 2 = .ok (.putfield 3, 3) := by decide +kernel
theorem dX11_undo_5 : decode cX11_undo 5 = .ok (.aload_n 0, 1) := by decide +kernel
theorem dX11_undo_6 : decode cX11_undo 6 = .ok (.getfield 170, 3) := by decide +kernel
theorem dX11_undo_9 : decode cX11_undo 9 = .ok (.ifCond .ne 5, 3) := by decide +kernel
theorem dX11_undo_12 : decode cX11_undo 12 = .ok (.iconst (-1), 1) := by decide +kernel
theorem dX11_undo_13 : decode cX11_undo 13 = .ok (.ireturn, 1) := by decide +kernel
theorem dX11_undo_14 : decode cX11_undo 14 = .ok (.aload_n 0, 1) := by decide +kernel
theorem dX11_undo_15 : decode cX11_undo 15 = .ok (.dup, 1) := by decide +kernel
theorem dX11_undo_16 : decode cX11_undo 16 = .ok (.getfield 170, 3) := by decide +kernel
theorem dX11_undo_19 : decode cX11_undo 19 = .ok (.iconst 1, 1) := by decide +kernel
theorem dX11_undo_20 : decode cX11_undo 20 = .ok (.isub, 1) := by decide +kernel
theorem dX11_undo_21 : decode cX11_undo 21 = .ok (.putfield 170, 3) := by decide +kernel
theorem dX11_undo_24 : decode cX11_undo 24 = .ok (.iconst 0, 1) := by decide +kernel
theorem dX11_undo_25 : decode cX11_undo 25 = .ok (.istore_n 1, 1) := by decide +kernel
theorem dX11_undo_26 : decode cX11_undo 26 = .ok (.iload_n 1, 1) := by decide +kernel
theorem dX11_undo_27 : decode cX11_undo 27 = .ok (.bipush 91, 2) := by decide +kernel
theorem dX11_undo_29 : decode cX11_undo 29 = .ok (.if_icmp .ge 29, 3) := by decide +kernel
theorem dX11_undo_32 : decode cX11_undo 32 = .ok (.aload_n 0, 1) := by decide +kernel
theorem dX11_undo_33 : decode cX11_undo 33 = .ok (.getfield 65, 3) := by decide +kernel
theorem dX11_undo_36 : decode cX11_undo 36 = .ok (.iload_n 1, 1) := by decide +kernel
theorem dX11_undo_37 : decode cX11_undo 37 = .ok (.aload_n 0, 1) := by decide +kernel
theorem dX11_undo_38 : decode cX11_undo 38 = .ok (.getfield 71, 3) := by decide +kernel
theorem dX11_undo_41 : decode cX11_undo 41 = .ok (.bipush 91, 2) := by decide +kernel
theorem dX11_undo_43 : decode cX11_undo 43 = .ok (.aload_n 0, 1) := by decide +kernel
theorem dX11_undo_44 : decode cX11_undo 44 = .ok (.getfield 170, 3) := by decide +kernel
theorem dX11_undo_47 : decode cX11_undo 47 = .ok (.imul, 1) := by decide +kernel
theorem dX11_undo_48 : decode cX11_undo 48 = .ok (.iload_n 1, 1) := by decide +kernel
theorem dX11_undo_49 : decode cX11_undo 49 = .ok (.iadd, 1) := by decide +kernel
theorem dX11_undo_50 : decode cX11_undo 50 = .ok (.iaload, 1) := by decide +kernel
theorem dX11_undo_51 : decode cX11_undo 51 = .ok (.iastore, 1) := by decide +kernel
theorem dX11_undo_52 : decode cX11_undo 52 = .ok (.iinc 1 1, 3) := by decide +kernel
theorem dX11_undo_55 : decode cX11_undo 55 = .ok (.goto (-29), 3) := by decide +kernel
theorem dX11_undo_58 : decode cX11_undo 58 = .ok (.aload_n 0, 1) := by decide +kernel
theorem dX11_undo_59 : decode cX11_undo 59 = .ok (.iconst 0, 1) := by decide +kernel
theorem dX11_undo_60 : decode cX11_undo 60 = .ok (.putfield 176, 3) := by decide +kernel
theorem dX11_undo_63 : decode cX11_undo 63 = .ok (.aload_n 0, 1) := by decide +kernel
theorem dX11_undo_64 : decode cX11_undo 64 = .ok (.getfield 170, 3) := by decide +kernel
theorem dX11_undo_67 : decode cX11_undo 67 = .ok (.ireturn, 1) := by decide +kernel
theorem dX11_sumOf_0 : decode cX11_sumOf 0 = .ok (.iconst 0, 1) := by decide +kernel
theorem dX11_sumOf_1 : decode cX11_sumOf 1 = .ok (.istore_n 3, 1) := by decide +kernel
theorem dX11_sumOf_2 : decode cX11_sumOf 2 = .ok (.iconst 0, 1) := by decide +kernel
theorem dX11_sumOf_3 : decode cX11_sumOf 3 = .ok (.istore 4, 2) := by decide +kernel
theorem dX11_sumOf_5 : decode cX11_sumOf 5 = .ok (.iload 4, 2) := by decide +kernel
theorem dX11_sumOf_7 : decode cX11_sumOf 7 = .ok (.iload_n 2, 1) := by decide +kernel
theorem dX11_sumOf_8 : decode cX11_sumOf 8 = .ok (.if_icmp .ge 21, 3) := by decide +kernel
theorem dX11_sumOf_11 : decode cX11_sumOf 11 = .ok (.iload_n 3, 1) := by decide +kernel
theorem dX11_sumOf_12 : decode cX11_sumOf 12 = .ok (.aload_n 0, 1) := by decide +kernel
theorem dX11_sumOf_13 : decode cX11_sumOf 13 = .ok (.getfield 68, 3) := by decide +kernel
theorem dX11_sumOf_16 : decode cX11_sumOf 16 = .ok (.iload_n 1, 1) := by decide +kernel
theorem dX11_sumOf_17 : decode cX11_sumOf 17 = .ok (.iload 4, 2) := by decide +kernel
theorem dX11_sumOf_19 : decode cX11_sumOf 19 = .ok (.iadd, 1) := by decide +kernel
theorem dX11_sumOf_20 : decode cX11_sumOf 20 = .ok (.iaload, 1) := by decide +kernel
theorem dX11_sumOf_21 : decode cX11_sumOf 21 = .ok (.iadd, 1) := by decide +kernel
theorem dX11_sumOf_22 : decode cX11_sumOf 22 = .ok (.istore_n 3, 1) := by decide +kernel
theorem dX11_sumOf_23 : decode cX11_sumOf 23 = .ok (.iinc 4 1, 3) := by decide +kernel
theorem dX11_sumOf_26 : decode cX11_sumOf 26 = .ok (.goto (-21), 3) := by decide +kernel
theorem dX11_sumOf_29 : decode cX11_sumOf 29 = .ok (.iload_n 3, 1) := by decide +kernel
theorem dX11_sumOf_30 : decode cX11_sumOf 30 = .ok (.ireturn, 1) := by decide +kernel
theorem dX11_owesAll_0 : decode cX11_owesAll 0 = .ok (.iconst 0, 1) := by decide +kernel
theorem dX11_owesAll_1 : decode cX11_owesAll 1 = .ok (.istore_n 2, 1) := by decide +kernel
theorem dX11_owesAll_2 : decode cX11_owesAll 2 = .ok (.iconst 0, 1) := by decide +kernel
theorem dX11_owesAll_3 : decode cX11_owesAll 3 = .ok (.istore_n 3, 1) := by decide +kernel
theorem dX11_owesAll_4 : decode cX11_owesAll 4 = .ok (.iload_n 3, 1) := by decide +kernel
theorem dX11_owesAll_5 : decode cX11_owesAll 5 = .ok (.aload_n 0, 1) := by decide +kernel
theorem dX11_owesAll_6 : decode cX11_owesAll 6 = .ok (.getfield 68, 3) := by decide +kernel
theorem dX11_owesAll_9 : decode cX11_owesAll 9 = .ok (.bipush 88, 2) := by decide +kernel
theorem dX11_owesAll_11 : decode cX11_owesAll 11 = .ok (.iaload, 1) := by decide +kernel
theorem dX11_owesAll_12 : decode cX11_owesAll 12 = .ok (.if_icmp .ge 23, 3) := by decide +kernel
theorem dX11_owesAll_15 : decode cX11_owesAll 15 = .ok (.iload_n 2, 1) := by decide +kernel
theorem dX11_owesAll_16 : decode cX11_owesAll 16 = .ok (.iload_n 1, 1) := by decide +kernel
theorem dX11_owesAll_17 : decode cX11_owesAll 17 = .ok (.iload_n 3, 1) := by decide +kernel
theorem dX11_owesAll_18 : decode cX11_owesAll 18 = .ok (.ishr, 1) := by decide +kernel
theorem dX11_owesAll_19 : decode cX11_owesAll 19 = .ok (.iconst 1, 1) := by decide +kernel
theorem dX11_owesAll_20 : decode cX11_owesAll 20 = .ok (.iand, 1) := by decide +kernel
theorem dX11_owesAll_21 : decode cX11_owesAll 21 = .ok (.aload_n 0, 1) := by decide +kernel
theorem dX11_owesAll_22 : decode cX11_owesAll 22 = .ok (.iload_n 3, 1) := by decide +kernel
theorem dX11_owesAll_23 : decode cX11_owesAll 23 = .ok (.invokevirtual 328, 3) := by decide +kernel
theorem dX11_owesAll_26 : decode cX11_owesAll 26 = .ok (.imul, 1) := by decide +kernel
theorem dX11_owesAll_27 : decode cX11_owesAll 27 = .ok (.iadd, 1) := by decide +kernel
theorem dX11_owesAll_28 : decode cX11_owesAll 28 = .ok (.istore_n 2, 1) := by decide +kernel
theorem dX11_owesAll_29 : decode cX11_owesAll 29 = .ok (.iinc 3 1, 3) := by decide +kernel
theorem dX11_owesAll_32 : decode cX11_owesAll 32 = .ok (.goto (-28), 3) := by decide +kernel
theorem dX11_owesAll_35 : decode cX11_owesAll 35 = .ok (.iload_n 2, 1) := by decide +kernel
theorem dX11_owesAll_36 : decode cX11_owesAll 36 = .ok (.ireturn, 1) := by decide +kernel
theorem dX11_allLoans_0 : decode cX11_allLoans 0 = .ok (.iconst 1, 1) := by decide +kernel
theorem dX11_allLoans_1 : decode cX11_allLoans 1 = .ok (.aload_n 0, 1) := by decide +kernel
theorem dX11_allLoans_2 : decode cX11_allLoans 2 = .ok (.getfield 68, 3) := by decide +kernel
theorem dX11_allLoans_5 : decode cX11_allLoans 5 = .ok (.bipush 88, 2) := by decide +kernel
theorem dX11_allLoans_7 : decode cX11_allLoans 7 = .ok (.iaload, 1) := by decide +kernel
theorem dX11_allLoans_8 : decode cX11_allLoans 8 = .ok (.ishl, 1) := by decide +kernel
theorem dX11_allLoans_9 : decode cX11_allLoans 9 = .ok (.iconst 1, 1) := by decide +kernel
theorem dX11_allLoans_10 : decode cX11_allLoans 10 = .ok (.isub, 1) := by decide +kernel
theorem dX11_allLoans_11 : decode cX11_allLoans 11 = .ok (.ireturn, 1) := by decide +kernel
theorem dX11_loansBy_0 : decode cX11_loansBy 0 = .ok (.iconst 0, 1) := by decide +kernel
theorem dX11_loansBy_1 : decode cX11_loansBy 1 = .ok (.istore_n 3, 1) := by decide +kernel
theorem dX11_loansBy_2 : decode cX11_loansBy 2 = .ok (.iconst 0, 1) := by decide +kernel
theorem dX11_loansBy_3 : decode cX11_loansBy 3 = .ok (.istore 4, 2) := by decide +kernel
theorem dX11_loansBy_5 : decode cX11_loansBy 5 = .ok (.iload 4, 2) := by decide +kernel
theorem dX11_loansBy_7 : decode cX11_loansBy 7 = .ok (.aload_n 0, 1) := by decide +kernel
theorem dX11_loansBy_8 : decode cX11_loansBy 8 = .ok (.getfield 68, 3) := by decide +kernel
theorem dX11_loansBy_11 : decode cX11_loansBy 11 = .ok (.bipush 88, 2) := by decide +kernel
theorem dX11_loansBy_13 : decode cX11_loansBy 13 = .ok (.iaload, 1) := by decide +kernel
theorem dX11_loansBy_14 : decode cX11_loansBy 14 = .ok (.if_icmp .ge 31, 3) := by decide +kernel
theorem dX11_loansBy_17 : decode cX11_loansBy 17 = .ok (.iload_n 3, 1) := by decide +kernel
theorem dX11_loansBy_18 : decode cX11_loansBy 18 = .ok (.aload_n 0, 1) := by decide +kernel
theorem dX11_loansBy_19 : decode cX11_loansBy 19 = .ok (.iload 4, 2) := by decide +kernel
theorem dX11_loansBy_21 : decode cX11_loansBy 21 = .ok (.iload_n 1, 1) := by decide +kernel
theorem dX11_loansBy_22 : decode cX11_loansBy 22 = .ok (.invokevirtual 314, 3) := by decide +kernel
theorem dX11_loansBy_25 : decode cX11_loansBy 25 = .ok (.iload_n 2, 1) := by decide +kernel
theorem dX11_loansBy_26 : decode cX11_loansBy 26 = .ok (.if_icmp .ne 10, 3) := by decide +kernel
theorem dX11_loansBy_29 : decode cX11_loansBy 29 = .ok (.iconst 1, 1) := by decide +kernel
theorem dX11_loansBy_30 : decode cX11_loansBy 30 = .ok (.iload 4, 2) := by decide +kernel
theorem dX11_loansBy_32 : decode cX11_loansBy 32 = .ok (.ishl, 1) := by decide +kernel
theorem dX11_loansBy_33 : decode cX11_loansBy 33 = .ok (.goto 4, 3) := by decide +kernel
theorem dX11_loansBy_36 : decode cX11_loansBy 36 = .ok (.iconst 0, 1) := by decide +kernel
theorem dX11_loansBy_37 : decode cX11_loansBy 37 = .ok (.ior, 1) := by decide +kernel
theorem dX11_loansBy_38 : decode cX11_loansBy 38 = .ok (.istore_n 3, 1) := by decide +kernel
theorem dX11_loansBy_39 : decode cX11_loansBy 39 = .ok (.iinc 4 1, 3) := by decide +kernel
theorem dX11_loansBy_42 : decode cX11_loansBy 42 = .ok (.goto (-37), 3) := by decide +kernel
theorem dX11_loansBy_45 : decode cX11_loansBy 45 = .ok (.iload_n 3, 1) := by decide +kernel
theorem dX11_loansBy_46 : decode cX11_loansBy 46 = .ok (.ireturn, 1) := by decide +kernel
theorem dX11_shutNow_0 : decode cX11_shutNow 0 = .ok (.iconst 0, 1) := by decide +kernel
theorem dX11_shutNow_1 : decode cX11_shutNow 1 = .ok (.istore_n 1, 1) := by decide +kernel
theorem dX11_shutNow_2 : decode cX11_shutNow 2 = .ok (.iconst 0, 1) := by decide +kernel
theorem dX11_shutNow_3 : decode cX11_shutNow 3 = .ok (.istore_n 2, 1) := by decide +kernel
theorem dX11_shutNow_4 : decode cX11_shutNow 4 = .ok (.iload_n 2, 1) := by decide +kernel
theorem dX11_shutNow_5 : decode cX11_shutNow 5 = .ok (.aload_n 0, 1) := by decide +kernel
theorem dX11_shutNow_6 : decode cX11_shutNow 6 = .ok (.getfield 154, 3) := by decide +kernel
theorem dX11_shutNow_9 : decode cX11_shutNow 9 = .ok (.if_icmp .ge 23, 3) := by decide +kernel
theorem dX11_shutNow_12 : decode cX11_shutNow 12 = .ok (.iload_n 1, 1) := by decide +kernel
theorem dX11_shutNow_13 : decode cX11_shutNow 13 = .ok (.aload_n 0, 1) := by decide +kernel
theorem dX11_shutNow_14 : decode cX11_shutNow 14 = .ok (.getfield 68, 3) := by decide +kernel
theorem dX11_shutNow_17 : decode cX11_shutNow 17 = .ok (.bipush 8, 2) := by decide +kernel
theorem dX11_shutNow_19 : decode cX11_shutNow 19 = .ok (.iload_n 2, 1) := by decide +kernel
theorem dX11_shutNow_20 : decode cX11_shutNow 20 = .ok (.iadd, 1) := by decide +kernel
theorem dX11_shutNow_21 : decode cX11_shutNow 21 = .ok (.iaload, 1) := by decide +kernel
theorem dX11_shutNow_22 : decode cX11_shutNow 22 = .ok (.iload_n 2, 1) := by decide +kernel
theorem dX11_shutNow_23 : decode cX11_shutNow 23 = .ok (.ishl, 1) := by decide +kernel
theorem dX11_shutNow_24 : decode cX11_shutNow 24 = .ok (.ior, 1) := by decide +kernel
theorem dX11_shutNow_25 : decode cX11_shutNow 25 = .ok (.istore_n 1, 1) := by decide +kernel
theorem dX11_shutNow_26 : decode cX11_shutNow 26 = .ok (.iinc 2 1, 3) := by decide +kernel
theorem dX11_shutNow_29 : decode cX11_shutNow 29 = .ok (.goto (-25), 3) := by decide +kernel
theorem dX11_shutNow_32 : decode cX11_shutNow 32 = .ok (.iload_n 1, 1) := by decide +kernel
theorem dX11_shutNow_33 : decode cX11_shutNow 33 = .ok (.ireturn, 1) := by decide +kernel
theorem dX11_told_0 : decode cX11_told 0 = .ok (.aload_n 0, 1) := by decide +kernel
theorem dX11_told_1 : decode cX11_told 1 = .ok (.iconst 0, 1) := by decide +kernel
theorem dX11_told_2 : decode cX11_told 2 = .ok (.putfield 3, 3) := by decide +kernel
theorem dX11_told_5 : decode cX11_told 5 = .ok (.aload_n 0, 1) := by decide +kernel
theorem dX11_told_6 : decode cX11_told 6 = .ok (.iload_n 1, 1) := by decide +kernel
theorem dX11_told_7 : decode cX11_told 7 = .ok (.iconst 0, 1) := by decide +kernel
theorem dX11_told_8 : decode cX11_told 8 = .ok (.bipush 11, 2) := by decide +kernel
theorem dX11_told_10 : decode cX11_told 10 = .ok (.invokestatic 348, 3) := by decide +kernel
theorem dX11_told_13 : decode cX11_told 13 = .ok (.iconst 1, 1) := by decide +kernel
theorem dX11_told_14 : decode cX11_told 14 = .ok (.iconst 1, 1) := by decide +kernel
theorem dX11_told_15 : decode cX11_told 15 = .ok (.invokevirtual 190, 3) := by decide +kernel
theorem dX11_told_18 : decode cX11_told 18 = .ok (.ifCond .ne 5, 3) := by decide +kernel
theorem dX11_told_21 : decode cX11_told 21 = .ok (.iconst 0, 1) := by decide +kernel
theorem dX11_told_22 : decode cX11_told 22 = .ok (.ireturn, 1) := by decide +kernel
theorem dX11_told_23 : decode cX11_told 23 = .ok (.aload_n 0, 1) := by decide +kernel
theorem dX11_told_24 : decode cX11_told 24 = .ok (.invokevirtual 293, 3) := by decide +kernel
theorem dX11_told_27 : decode cX11_told 27 = .ok (.iload_n 1, 1) := by decide +kernel
theorem dX11_told_28 : decode cX11_told 28 = .ok (.iconst 4, 1) := by decide +kernel
theorem dX11_told_29 : decode cX11_told 29 = .ok (.if_icmp .ge 44, 3) := by decide +kernel
theorem dX11_told_32 : decode cX11_told 32 = .ok (.iload_n 1, 1) := by decide +kernel
theorem dX11_told_33 : decode cX11_told 33 = .ok (.ifCond .ne 10, 3) := by decide +kernel
theorem dX11_told_36 : decode cX11_told 36 = .ok (.aload_n 0, 1) := by decide +kernel
theorem dX11_told_37 : decode cX11_told 37 = .ok (.getfield 154, 3) := by decide +kernel
theorem dX11_told_40 : decode cX11_told 40 = .ok (.goto 32, 3) := by decide +kernel
theorem dX11_told_43 : decode cX11_told 43 = .ok (.iload_n 1, 1) := by decide +kernel
theorem dX11_told_44 : decode cX11_told 44 = .ok (.iconst 1, 1) := by decide +kernel
theorem dX11_told_45 : decode cX11_told 45 = .ok (.if_icmp .ne 10, 3) := by decide +kernel
theorem dX11_told_48 : decode cX11_told 48 = .ok (.aload_n 0, 1) := by decide +kernel
theorem dX11_told_49 : decode cX11_told 49 = .ok (.getfield 157, 3) := by decide +kernel
theorem dX11_told_52 : decode cX11_told 52 = .ok (.goto 20, 3) := by decide +kernel
theorem dX11_told_55 : decode cX11_told 55 = .ok (.aload_n 0, 1) := by decide +kernel
theorem dX11_told_56 : decode cX11_told 56 = .ok (.getfield 68, 3) := by decide +kernel
theorem dX11_told_59 : decode cX11_told 59 = .ok (.iload_n 1, 1) := by decide +kernel
theorem dX11_told_60 : decode cX11_told 60 = .ok (.iconst 2, 1) := by decide +kernel
theorem dX11_told_61 : decode cX11_told 61 = .ok (.if_icmp .ne 8, 3) := by decide +kernel
theorem dX11_told_64 : decode cX11_told 64 = .ok (.bipush 88, 2) := by decide +kernel
theorem dX11_told_66 : decode cX11_told 66 = .ok (.goto 5, 3) := by decide +kernel
theorem dX11_told_69 : decode cX11_told 69 = .ok (.bipush 90, 2) := by decide +kernel
theorem dX11_told_71 : decode cX11_told 71 = .ok (.iaload, 1) := by decide +kernel
theorem dX11_told_72 : decode cX11_told 72 = .ok (.ireturn, 1) := by decide +kernel
theorem dX11_told_73 : decode cX11_told 73 = .ok (.iload_n 1, 1) := by decide +kernel
theorem dX11_told_74 : decode cX11_told 74 = .ok (.bipush 8, 2) := by decide +kernel
theorem dX11_told_76 : decode cX11_told 76 = .ok (.if_icmp .ge 56, 3) := by decide +kernel
theorem dX11_told_79 : decode cX11_told 79 = .ok (.iload_n 1, 1) := by decide +kernel
theorem dX11_told_80 : decode cX11_told 80 = .ok (.iconst 4, 1) := by decide +kernel
theorem dX11_told_81 : decode cX11_told 81 = .ok (.if_icmp .ne 10, 3) := by decide +kernel
theorem dX11_told_84 : decode cX11_told 84 = .ok (.aload_n 0, 1) := by decide +kernel
theorem dX11_told_85 : decode cX11_told 85 = .ok (.invokevirtual 351, 3) := by decide +kernel
