theorem dX11_tries_43 : decode cX11_tries 43 = .ok (.aload_n 0, 1) := by decide +kernel
theorem dX11_tries_44 : decode cX11_tries 44 = .ok (.aload_n 0, 1) := by decide +kernel
theorem dX11_tries_45 : decode cX11_tries 45 = .ok (.getfield 83, 3) := by decide +kernel
theorem dX11_tries_48 : decode cX11_tries 48 = .ok (.aload_n 0, 1) := by decide +kernel
theorem dX11_tries_49 : decode cX11_tries 49 = .ok (.getfield 86, 3) := by decide +kernel
theorem dX11_tries_52 : decode cX11_tries 52 = .ok (.bipush 6, 2) := by decide +kernel
theorem dX11_tries_54 : decode cX11_tries 54 = .ok (.invokevirtual 160, 3) := by decide +kernel
theorem dX11_tries_57 : decode cX11_tries 57 = .ok (.return_, 1) := by decide +kernel
theorem dX11_tries_58 : decode cX11_tries 58 = .ok (.aload_n 0, 1) := by decide +kernel
theorem dX11_tries_59 : decode cX11_tries 59 = .ok (.getfield 77, 3) := by decide +kernel
theorem dX11_tries_62 : decode cX11_tries 62 = .ok (.iconst 3, 1) := by decide +kernel
theorem dX11_tries_63 : decode cX11_tries 63 = .ok (.iload_n 1, 1) := by decide +kernel
theorem dX11_tries_64 : decode cX11_tries 64 = .ok (.imul, 1) := by decide +kernel
theorem dX11_tries_65 : decode cX11_tries 65 = .ok (.iconst 2, 1) := by decide +kernel
theorem dX11_tries_66 : decode cX11_tries 66 = .ok (.iadd, 1) := by decide +kernel
theorem dX11_tries_67 : decode cX11_tries 67 = .ok (.iaload, 1) := by decide +kernel
theorem dX11_tries_68 : decode cX11_tries 68 = .ok (.istore 4, 2) := by decide +kernel
theorem dX11_tries_70 : decode cX11_tries 70 = .ok (.iconst 0, 1) := by decide +kernel
theorem dX11_tries_71 : decode cX11_tries 71 = .ok (.istore 5, 2) := by decide +kernel
theorem dX11_tries_73 : decode cX11_tries 73 = .ok (.iload 5, 2) := by decide +kernel
theorem dX11_tries_75 : decode cX11_tries 75 = .ok (.aload_n 0, 1) := by decide +kernel
theorem dX11_tries_76 : decode cX11_tries 76 = .ok (.getfield 154, 3) := by decide +kernel
theorem dX11_tries_79 : decode cX11_tries 79 = .ok (.if_icmp .ge 80, 3) := by decide +kernel
theorem dX11_tries_82 : decode cX11_tries 82 = .ok (.aload_n 0, 1) := by decide +kernel
theorem dX11_tries_83 : decode cX11_tries 83 = .ok (.iload_n 1, 1) := by decide +kernel
theorem dX11_tries_84 : decode cX11_tries 84 = .ok (.iload 5, 2) := by decide +kernel
theorem dX11_tries_86 : decode cX11_tries 86 = .ok (.invokevirtual 381, 3) := by decide +kernel
theorem dX11_tries_89 : decode cX11_tries 89 = .ok (.ifCond .eq 64, 3) := by decide +kernel
theorem dX11_tries_92 : decode cX11_tries 92 = .ok (.aload_n 0, 1) := by decide +kernel
theorem dX11_tries_93 : decode cX11_tries 93 = .ok (.getfield 80, 3) := by decide +kernel
theorem dX11_tries_96 : decode cX11_tries 96 = .ok (.iload 5, 2) := by decide +kernel
theorem dX11_tries_98 : decode cX11_tries 98 = .ok (.iaload, 1) := by decide +kernel
theorem dX11_tries_99 : decode cX11_tries 99 = .ok (.iload 4, 2) := by decide +kernel
theorem dX11_tries_101 : decode cX11_tries 101 = .ok (.if_icmp .ge 6, 3) := by decide +kernel
theorem dX11_tries_104 : decode cX11_tries 104 = .ok (.goto 49, 3) := by decide +kernel
theorem dX11_tries_107 : decode cX11_tries 107 = .ok (.aload_n 0, 1) := by decide +kernel
theorem dX11_tries_108 : decode cX11_tries 108 = .ok (.getfield 80, 3) := by decide +kernel
theorem dX11_tries_111 : decode cX11_tries 111 = .ok (.iload 5, 2) := by decide +kernel
theorem dX11_tries_113 : decode cX11_tries 113 = .ok (.dup2, 1) := by decide +kernel
theorem dX11_tries_114 : decode cX11_tries 114 = .ok (.iaload, 1) := by decide +kernel
theorem dX11_tries_115 : decode cX11_tries 115 = .ok (.iload 4, 2) := by decide +kernel
theorem dX11_tries_117 : decode cX11_tries 117 = .ok (.isub, 1) := by decide +kernel
theorem dX11_tries_118 : decode cX11_tries 118 = .ok (.iastore, 1) := by decide +kernel
theorem dX11_tries_119 : decode cX11_tries 119 = .ok (.aload_n 0, 1) := by decide +kernel
theorem dX11_tries_120 : decode cX11_tries 120 = .ok (.getfield 83, 3) := by decide +kernel
theorem dX11_tries_123 : decode cX11_tries 123 = .ok (.iload_n 1, 1) := by decide +kernel
theorem dX11_tries_124 : decode cX11_tries 124 = .ok (.iload 5, 2) := by decide +kernel
theorem dX11_tries_126 : decode cX11_tries 126 = .ok (.iastore, 1) := by decide +kernel
theorem dX11_tries_127 : decode cX11_tries 127 = .ok (.aload_n 0, 1) := by decide +kernel
theorem dX11_tries_128 : decode cX11_tries 128 = .ok (.iload_n 1, 1) := by decide +kernel
theorem dX11_tries_129 : decode cX11_tries 129 = .ok (.iconst 1, 1) := by decide +kernel
theorem dX11_tries_130 : decode cX11_tries 130 = .ok (.iadd, 1) := by decide +kernel
theorem dX11_tries_131 : decode cX11_tries 131 = .ok (.iload_n 2, 1) := by decide +kernel
theorem dX11_tries_132 : decode cX11_tries 132 = .ok (.iconst 1, 1) := by decide +kernel
theorem dX11_tries_133 : decode cX11_tries 133 = .ok (.iadd, 1) := by decide +kernel
theorem dX11_tries_134 : decode cX11_tries 134 = .ok (.iload_n 3, 1) := by decide +kernel
theorem dX11_tries_135 : decode cX11_tries 135 = .ok (.iload 4, 2) := by decide +kernel
theorem dX11_tries_137 : decode cX11_tries 137 = .ok (.iadd, 1) := by decide +kernel
theorem dX11_tries_138 : decode cX11_tries 138 = .ok (.invokevirtual 384, 3) := by decide +kernel
theorem dX11_tries_141 : decode cX11_tries 141 = .ok (.aload_n 0, 1) := by decide +kernel
theorem dX11_tries_142 : decode cX11_tries 142 = .ok (.getfield 80, 3) := by decide +kernel
theorem dX11_tries_145 : decode cX11_tries 145 = .ok (.iload 5, 2) := by decide +kernel
theorem dX11_tries_147 : decode cX11_tries 147 = .ok (.dup2, 1) := by decide +kernel
theorem dX11_tries_148 : decode cX11_tries 148 = .ok (.iaload, 1) := by decide +kernel
theorem dX11_tries_149 : decode cX11_tries 149 = .ok (.iload 4, 2) := by decide +kernel
theorem dX11_tries_151 : decode cX11_tries 151 = .ok (.iadd, 1) := by decide +kernel
theorem dX11_tries_152 : decode cX11_tries 152 = .ok (.iastore, 1) := by decide +kernel
theorem dX11_tries_153 : decode cX11_tries 153 = .ok (.iinc 5 1, 3) := by decide +kernel
theorem dX11_tries_156 : decode cX11_tries 156 = .ok (.goto (-83), 3) := by decide +kernel
theorem dX11_tries_159 : decode cX11_tries 159 = .ok (.aload_n 0, 1) := by decide +kernel
theorem dX11_tries_160 : decode cX11_tries 160 = .ok (.getfield 83, 3) := by decide +kernel
theorem dX11_tries_163 : decode cX11_tries 163 = .ok (.iload_n 1, 1) := by decide +kernel
theorem dX11_tries_164 : decode cX11_tries 164 = .ok (.iconst (-1), 1) := by decide +kernel
theorem dX11_tries_165 : decode cX11_tries 165 = .ok (.iastore, 1) := by decide +kernel
theorem dX11_tries_166 : decode cX11_tries 166 = .ok (.iload_n 2, 1) := by decide +kernel
theorem dX11_tries_167 : decode cX11_tries 167 = .ok (.aload_n 0, 1) := by decide +kernel
theorem dX11_tries_168 : decode cX11_tries 168 = .ok (.getfield 167, 3) := by decide +kernel
theorem dX11_tries_171 : decode cX11_tries 171 = .ok (.iadd, 1) := by decide +kernel
theorem dX11_tries_172 : decode cX11_tries 172 = .ok (.iload_n 1, 1) := by decide +kernel
theorem dX11_tries_173 : decode cX11_tries 173 = .ok (.isub, 1) := by decide +kernel
theorem dX11_tries_174 : decode cX11_tries 174 = .ok (.iconst 1, 1) := by decide +kernel
theorem dX11_tries_175 : decode cX11_tries 175 = .ok (.isub, 1) := by decide +kernel
theorem dX11_tries_176 : decode cX11_tries 176 = .ok (.aload_n 0, 1) := by decide +kernel
theorem dX11_tries_177 : decode cX11_tries 177 = .ok (.getfield 375, 3) := by decide +kernel
theorem dX11_tries_180 : decode cX11_tries 180 = .ok (.if_icmp .lt 12, 3) := by decide +kernel
theorem dX11_tries_183 : decode cX11_tries 183 = .ok (.aload_n 0, 1) := by decide +kernel
theorem dX11_tries_184 : decode cX11_tries 184 = .ok (.iload_n 1, 1) := by decide +kernel
theorem dX11_tries_185 : decode cX11_tries 185 = .ok (.iconst 1, 1) := by decide +kernel
theorem dX11_tries_186 : decode cX11_tries 186 = .ok (.iadd, 1) := by decide +kernel
theorem dX11_tries_187 : decode cX11_tries 187 = .ok (.iload_n 2, 1) := by decide +kernel
theorem dX11_tries_188 : decode cX11_tries 188 = .ok (.iload_n 3, 1) := by decide +kernel
theorem dX11_tries_189 : decode cX11_tries 189 = .ok (.invokevirtual 384, 3) := by decide +kernel
theorem dX11_tries_192 : decode cX11_tries 192 = .ok (.return_, 1) := by decide +kernel
theorem dX11_isFor_0 : decode cX11_isFor 0 = .ok (.aload_n 0, 1) := by decide +kernel
theorem dX11_isFor_1 : decode cX11_isFor 1 = .ok (.getfield 32, 3) := by decide +kernel
theorem dX11_isFor_4 : decode cX11_isFor 4 = .ok (.iconst 2, 1) := by decide +kernel
theorem dX11_isFor_5 : decode cX11_isFor 5 = .ok (.iload_n 2, 1) := by decide +kernel
theorem dX11_isFor_6 : decode cX11_isFor 6 = .ok (.imul, 1) := by decide +kernel
theorem dX11_isFor_7 : decode cX11_isFor 7 = .ok (.iaload, 1) := by decide +kernel
theorem dX11_isFor_8 : decode cX11_isFor 8 = .ok (.aload_n 0, 1) := by decide +kernel
theorem dX11_isFor_9 : decode cX11_isFor 9 = .ok (.getfield 77, 3) := by decide +kernel
theorem dX11_isFor_12 : decode cX11_isFor 12 = .ok (.iconst 3, 1) := by decide +kernel
theorem dX11_isFor_13 : decode cX11_isFor 13 = .ok (.iload_n 1, 1) := by decide +kernel
theorem dX11_isFor_14 : decode cX11_isFor 14 = .ok (.imul, 1) := by decide +kernel
theorem dX11_isFor_15 : decode cX11_isFor 15 = .ok (.iconst 1, 1) := by decide +kernel
theorem dX11_isFor_16 : decode cX11_isFor 16 = .ok (.iadd, 1) := by decide +kernel
theorem dX11_isFor_17 : decode cX11_isFor 17 = .ok (.iaload, 1) := by decide +kernel
theorem dX11_isFor_18 : decode cX11_isFor 18 = .ok (.if_icmp .ne 33, 3) := by decide +kernel
theorem dX11_isFor_21 : decode cX11_isFor 21 = .ok (.aload_n 0, 1) := by decide +kernel
theorem dX11_isFor_22 : decode cX11_isFor 22 = .ok (.aload_n 0, 1) := by decide +kernel
theorem dX11_isFor_23 : decode cX11_isFor 23 = .ok (.getfield 77, 3) := by decide +kernel
theorem dX11_isFor_26 : decode cX11_isFor 26 = .ok (.iconst 3, 1) := by decide +kernel
theorem dX11_isFor_27 : decode cX11_isFor 27 = .ok (.iload_n 1, 1) := by decide +kernel
theorem dX11_isFor_28 : decode cX11_isFor 28 = .ok (.imul, 1) := by decide +kernel
theorem dX11_isFor_29 : decode cX11_isFor 29 = .ok (.iaload, 1) := by decide +kernel
theorem dX11_isFor_30 : decode cX11_isFor 30 = .ok (.iload_n 2, 1) := by decide +kernel
theorem dX11_isFor_31 : decode cX11_isFor 31 = .ok (.aload_n 0, 1) := by decide +kernel
theorem dX11_isFor_32 : decode cX11_isFor 32 = .ok (.getfield 77, 3) := by decide +kernel
theorem dX11_isFor_35 : decode cX11_isFor 35 = .ok (.iconst 3, 1) := by decide +kernel
theorem dX11_isFor_36 : decode cX11_isFor 36 = .ok (.iload_n 1, 1) := by decide +kernel
theorem dX11_isFor_37 : decode cX11_isFor 37 = .ok (.imul, 1) := by decide +kernel
theorem dX11_isFor_38 : decode cX11_isFor 38 = .ok (.iconst 2, 1) := by decide +kernel
theorem dX11_isFor_39 : decode cX11_isFor 39 = .ok (.iadd, 1) := by decide +kernel
theorem dX11_isFor_40 : decode cX11_isFor 40 = .ok (.iaload, 1) := by decide +kernel
theorem dX11_isFor_41 : decode cX11_isFor 41 = .ok (.invokevirtual 321, 3) := by decide +kernel
theorem dX11_isFor_44 : decode cX11_isFor 44 = .ok (.ifCond .eq 7, 3) := by decide +kernel
theorem dX11_isFor_47 : decode cX11_isFor 47 = .ok (.iconst 1, 1) := by decide +kernel
theorem dX11_isFor_48 : decode cX11_isFor 48 = .ok (.goto 4, 3) := by decide +kernel
theorem dX11_isFor_51 : decode cX11_isFor 51 = .ok (.iconst 0, 1) := by decide +kernel
theorem dX11_isFor_52 : decode cX11_isFor 52 = .ok (.ireturn, 1) := by decide +kernel
theorem dX11_findServed_0 : decode cX11_findServed 0 = .ok (.aload_n 0, 1) := by decide +kernel
theorem dX11_findServed_1 : decode cX11_findServed 1 = .ok (.invokevirtual 293, 3) := by decide +kernel
theorem dX11_findServed_4 : decode cX11_findServed 4 = .ok (.aload_n 0, 1) := by decide +kernel
theorem dX11_findServed_5 : decode cX11_findServed 5 = .ok (.iconst 0, 1) := by decide +kernel
theorem dX11_findServed_6 : decode cX11_findServed 6 = .ok (.putfield 375, 3) := by decide +kernel
theorem dX11_findServed_9 : decode cX11_findServed 9 = .ok (.aload_n 0, 1) := by decide +kernel
theorem dX11_findServed_10 : decode cX11_findServed 10 = .ok (.iconst (-1), 1) := by decide +kernel
theorem dX11_findServed_11 : decode cX11_findServed 11 = .ok (.putfield 378, 3) := by decide +kernel
theorem dX11_findServed_14 : decode cX11_findServed 14 = .ok (.iconst 0, 1) := by decide +kernel
theorem dX11_findServed_15 : decode cX11_findServed 15 = .ok (.istore_n 1, 1) := by decide +kernel
theorem dX11_findServed_16 : decode cX11_findServed 16 = .ok (.iload_n 1, 1) := by decide +kernel
theorem dX11_findServed_17 : decode cX11_findServed 17 = .ok (.aload_n 0, 1) := by decide +kernel
theorem dX11_findServed_18 : decode cX11_findServed 18 = .ok (.getfield 154, 3) := by decide +kernel
theorem dX11_findServed_21 : decode cX11_findServed 21 = .ok (.if_icmp .ge 23, 3) := by decide +kernel
theorem dX11_findServed_24 : decode cX11_findServed 24 = .ok (.aload_n 0, 1) := by decide +kernel
theorem dX11_findServed_25 : decode cX11_findServed 25 = .ok (.getfield 80, 3) := by decide +kernel
theorem dX11_findServed_28 : decode cX11_findServed 28 = .ok (.iload_n 1, 1) := by decide +kernel
theorem dX11_findServed_29 : decode cX11_findServed 29 = .ok (.aload_n 0, 1) := by decide +kernel
theorem dX11_findServed_30 : decode cX11_findServed 30 = .ok (.getfield 68, 3) := by decide +kernel
theorem dX11_findServed_33 : decode cX11_findServed 33 = .ok (.iconst 0, 1) := by decide +kernel
theorem dX11_findServed_34 : decode cX11_findServed 34 = .ok (.iload_n 1, 1) := by decide +kernel
theorem dX11_findServed_35 : decode cX11_findServed 35 = .ok (.iadd, 1) := by decide +kernel
theorem dX11_findServed_36 : decode cX11_findServed 36 = .ok (.iaload, 1) := by decide +kernel
theorem dX11_findServed_37 : decode cX11_findServed 37 = .ok (.iastore, 1) := by decide +kernel
theorem dX11_findServed_38 : decode cX11_findServed 38 = .ok (.iinc 1 1, 3) := by decide +kernel
theorem dX11_findServed_41 : decode cX11_findServed 41 = .ok (.goto (-25), 3) := by decide +kernel
theorem dX11_findServed_44 : decode cX11_findServed 44 = .ok (.aload_n 0, 1) := by decide +kernel
theorem dX11_findServed_45 : decode cX11_findServed 45 = .ok (.iconst 0, 1) := by decide +kernel
theorem dX11_findServed_46 : decode cX11_findServed 46 = .ok (.iconst 0, 1) := by decide +kernel
theorem dX11_findServed_47 : decode cX11_findServed 47 = .ok (.iconst 0, 1) := by decide +kernel
theorem dX11_findServed_48 : decode cX11_findServed 48 = .ok (.invokevirtual 384, 3) := by decide +kernel
theorem dX11_findServed_51 : decode cX11_findServed 51 = .ok (.return_, 1) := by decide +kernel
theorem dX11_serves_0 : decode cX11_serves 0 = .ok (.aload_n 0, 1) := by decide +kernel
theorem dX11_serves_1 : decode cX11_serves 1 = .ok (.iconst 0, 1) := by decide +kernel
theorem dX11_serves_2 : decode cX11_serves 2 = .ok (.putfield 3, 3) := by decide +kernel
theorem dX11_serves_5 : decode cX11_serves 5 = .ok (.aload_n 0, 1) := by decide +kernel
theorem dX11_serves_6 : decode cX11_serves 6 = .ok (.iload_n 1, 1) := by decide +kernel
theorem dX11_serves_7 : decode cX11_serves 7 = .ok (.iconst 0, 1) := by decide +kernel
theorem dX11_serves_8 : decode cX11_serves 8 = .ok (.iconst 1, 1) := by decide +kernel
theorem dX11_serves_9 : decode cX11_serves 9 = .ok (.invokestatic 348, 3) := by decide +kernel
theorem dX11_serves_12 : decode cX11_serves 12 = .ok (.iconst 1, 1) := by decide +kernel
theorem dX11_serves_13 : decode cX11_serves 13 = .ok (.iconst 1, 1) := by decide +kernel
theorem dX11_serves_14 : decode cX11_serves 14 = .ok (.invokevirtual 190, 3) := by decide +kernel
theorem dX11_serves_17 : decode cX11_serves 17 = .ok (.ifCond .ne 5, 3) := by decide +kernel
theorem dX11_serves_20 : decode cX11_serves 20 = .ok (.iconst 0, 1) := by decide +kernel
theorem dX11_serves_21 : decode cX11_serves 21 = .ok (.ireturn, 1) := by decide +kernel
theorem dX11_serves_22 : decode cX11_serves 22 = .ok (.aload_n 0, 1) := by decide +kernel
theorem dX11_serves_23 : decode cX11_serves 23 = .ok (.invokevirtual 388, 3) := by decide +kernel
theorem dX11_serves_26 : decode cX11_serves 26 = .ok (.iload_n 1, 1) := by decide +kernel
theorem dX11_serves_27 : decode cX11_serves 27 = .ok (.ifCond .ne 10, 3) := by decide +kernel
theorem dX11_serves_30 : decode cX11_serves 30 = .ok (.aload_n 0, 1) := by decide +kernel
theorem dX11_serves_31 : decode cX11_serves 31 = .ok (.getfield 375, 3) := by decide +kernel
theorem dX11_serves_34 : decode cX11_serves 34 = .ok (.goto 7, 3) := by decide +kernel
theorem dX11_serves_37 : decode cX11_serves 37 = .ok (.aload_n 0, 1) := by decide +kernel
theorem dX11_serves_38 : decode cX11_serves 38 = .ok (.getfield 378, 3) := by decide +kernel
theorem dX11_serves_41 : decode cX11_serves 41 = .ok (.ireturn, 1) := by decide +kernel
theorem dX11_served_0 : decode cX11_served 0 = .ok (.aload_n 0, 1) := by decide +kernel
theorem dX11_served_1 : decode cX11_served 1 = .ok (.iconst 0, 1) := by decide +kernel
theorem dX11_served_2 : decode cX11_served 2 = .ok (.putfield 3, 3) := by decide +kernel
theorem dX11_served_5 : decode cX11_served 5 = .ok (.aload_n 0, 1) := by decide +kernel
theorem dX11_served_6 : decode cX11_served 6 = .ok (.iload_n 1, 1) := by decide +kernel
theorem dX11_served_7 : decode cX11_served 7 = .ok (.iconst 0, 1) := by decide +kernel
theorem dX11_served_8 : decode cX11_served 8 = .ok (.aload_n 0, 1) := by decide +kernel
theorem dX11_served_9 : decode cX11_served 9 = .ok (.getfield 167, 3) := by decide +kernel
theorem dX11_served_12 : decode cX11_served 12 = .ok (.iconst 1, 1) := by decide +kernel
theorem dX11_served_13 : decode cX11_served 13 = .ok (.isub, 1) := by decide +kernel
theorem dX11_served_14 : decode cX11_served 14 = .ok (.invokestatic 348, 3) := by decide +kernel
theorem dX11_served_17 : decode cX11_served 17 = .ok (.iconst 1, 1) := by decide +kernel
theorem dX11_served_18 : decode cX11_served 18 = .ok (.iconst 0, 1) := by decide +kernel
theorem dX11_served_19 : decode cX11_served 19 = .ok (.invokevirtual 190, 3) := by decide +kernel
theorem dX11_served_22 : decode cX11_served 22 = .ok (.ifCond .ne 5, 3) := by decide +kernel
theorem dX11_served_25 : decode cX11_served 25 = .ok (.iconst 0, 1) := by decide +kernel
theorem dX11_served_26 : decode cX11_served 26 = .ok (.ireturn, 1) := by decide +kernel
theorem dX11_served_27 : decode cX11_served 27 = .ok (.aload_n 0, 1) := by decide +kernel
theorem dX11_served_28 : decode cX11_served 28 = .ok (.invokevirtual 388, 3) := by decide +kernel
theorem dX11_served_31 : decode cX11_served 31 = .ok (.aload_n 0, 1) := by decide +kernel
theorem dX11_served_32 : decode cX11_served 32 = .ok (.getfield 86, 3) := by decide +kernel
theorem dX11_served_35 : decode cX11_served 35 = .ok (.iload_n 1, 1) := by decide +kernel
theorem dX11_served_36 : decode cX11_served 36 = .ok (.iaload, 1) := by decide +kernel
theorem dX11_served_37 : decode cX11_served 37 = .ok (.ireturn, 1) := by decide +kernel
theorem dX11_areServed_0 : decode cX11_areServed 0 = .ok (.iload_n 1, 1) := by decide +kernel
theorem dX11_areServed_1 : decode cX11_areServed 1 = .ok (.aload_n 0, 1) := by decide +kernel
theorem dX11_areServed_2 : decode cX11_areServed 2 = .ok (.getfield 167, 3) := by decide +kernel
theorem dX11_areServed_5 : decode cX11_areServed 5 = .ok (.if_icmp .ne 5, 3) := by decide +kernel
theorem dX11_areServed_8 : decode cX11_areServed 8 = .ok (.iconst 1, 1) := by decide +kernel
theorem dX11_areServed_9 : decode cX11_areServed 9 = .ok (.ireturn, 1) := by decide +kernel
theorem dX11_areServed_10 : decode cX11_areServed 10 = .ok (.iload_n 2, 1) := by decide +kernel
theorem dX11_areServed_11 : decode cX11_areServed 11 = .ok (.iload_n 1, 1) := by decide +kernel
theorem dX11_areServed_12 : decode cX11_areServed 12 = .ok (.ishr, 1) := by decide +kernel
theorem dX11_areServed_13 : decode cX11_areServed 13 = .ok (.iconst 1, 1) := by decide +kernel
theorem dX11_areServed_14 : decode cX11_areServed 14 = .ok (.iand, 1) := by decide +kernel
theorem dX11_areServed_15 : decode cX11_areServed 15 = .ok (.iconst 1, 1) := by decide +kernel
theorem dX11_areServed_16 : decode cX11_areServed 16 = .ok (.if_icmp .ne 12, 3) := by decide +kernel
theorem dX11_areServed_19 : decode cX11_areServed 19 = .ok (.aload_n 0, 1) := by decide +kernel
theorem dX11_areServed_20 : decode cX11_areServed 20 = .ok (.iload_n 1, 1) := by decide +kernel
theorem dX11_areServed_21 : decode cX11_areServed 21 = .ok (.iconst 1, 1) := by decide +kernel
theorem dX11_areServed_22 : decode cX11_areServed 22 = .ok (.iadd, 1) := by decide +kernel
theorem dX11_areServed_23 : decode cX11_areServed 23 = .ok (.iload_n 2, 1) := by decide +kernel
theorem dX11_areServed_24 : decode cX11_areServed 24 = .ok (.invokevirtual 391, 3) := by decide +kernel
theorem dX11_areServed_27 : decode cX11_areServed 27 = .ok (.ireturn, 1) := by decide +kernel
theorem dX11_areServed_28 : decode cX11_areServed 28 = .ok (.iconst 0, 1) := by decide +kernel
theorem dX11_areServed_29 : decode cX11_areServed 29 = .ok (.istore_n 3, 1) := by decide +kernel
theorem dX11_areServed_30 : decode cX11_areServed 30 = .ok (.aload_n 0, 1) := by decide +kernel
theorem dX11_areServed_31 : decode cX11_areServed 31 = .ok (.getfield 77, 3) := by decide +kernel
theorem dX11_areServed_34 : decode cX11_areServed 34 = .ok (.iconst 3, 1) := by decide +kernel
theorem dX11_areServed_35 : decode cX11_areServed 35 = .ok (.iload_n 1, 1) := by decide +kernel
theorem dX11_areServed_36 : decode cX11_areServed 36 = .ok (.imul, 1) := by decide +kernel
theorem dX11_areServed_37 : decode cX11_areServed 37 = .ok (.iconst 2, 1) := by decide +kernel
theorem dX11_areServed_38 : decode cX11_areServed 38 = .ok (.iadd, 1) := by decide +kernel
theorem dX11_areServed_39 : decode cX11_areServed 39 = .ok (.iaload, 1) := by decide +kernel
theorem dX11_areServed_40 : decode cX11_areServed 40 = .ok (.istore 4, 2) := by decide +kernel
theorem dX11_areServed_42 : decode cX11_areServed 42 = .ok (.iconst 0, 1) := by decide +kernel
theorem dX11_areServed_43 : decode cX11_areServed 43 = .ok (.istore 5, 2) := by decide +kernel
theorem dX11_areServed_45 : decode cX11_areServed 45 = .ok (.iload 5, 2) := by decide +kernel
theorem dX11_areServed_47 : decode cX11_areServed 47 = .ok (.aload_n 0, 1) := by decide +kernel
theorem dX11_areServed_48 : decode cX11_areServed 48 = .ok (.getfield 154, 3) := by decide +kernel
theorem dX11_areServed_51 : decode cX11_areServed 51 = .ok (.if_icmp .ge 71, 3) := by decide +kernel
theorem dX11_areServed_54 : decode cX11_areServed 54 = .ok (.iload_n 3, 1) := by decide +kernel
theorem dX11_areServed_55 : decode cX11_areServed 55 = .ok (.ifCond .ne 67, 3) := by decide +kernel
theorem dX11_areServed_58 : decode cX11_areServed 58 = .ok (.aload_n 0, 1) := by decide +kernel
theorem dX11_areServed_59 : decode cX11_areServed 59 = .ok (.iload_n 1, 1) := by decide +kernel
theorem dX11_areServed_60 : decode cX11_areServed 60 = .ok (.iload 5, 2) := by decide +kernel
theorem dX11_areServed_62 : decode cX11_areServed 62 = .ok (.invokevirtual 381, 3) := by decide +kernel
theorem dX11_areServed_65 : decode cX11_areServed 65 = .ok (.ifCond .eq 51, 3) := by decide +kernel
theorem dX11_areServed_68 : decode cX11_areServed 68 = .ok (.aload_n 0, 1) := by decide +kernel
theorem dX11_areServed_69 : decode cX11_areServed 69 = .ok (.getfield 80, 3) := by decide +kernel
theorem dX11_areServed_72 : decode cX11_areServed 72 = .ok (.iload 5, 2) := by decide +kernel
theorem dX11_areServed_74 : decode cX11_areServed 74 = .ok (.iaload, 1) := by decide +kernel
theorem dX11_areServed_75 : decode cX11_areServed 75 = .ok (.iload 4, 2) := by decide +kernel
theorem dX11_areServed_77 : decode cX11_areServed 77 = .ok (.if_icmp .ge 6, 3) := by decide +kernel
theorem dX11_areServed_80 : decode cX11_areServed 80 = .ok (.goto 36, 3) := by decide +kernel
theorem dX11_areServed_83 : decode cX11_areServed 83 = .ok (.aload_n 0, 1) := by decide +kernel
theorem dX11_areServed_84 : decode cX11_areServed 84 = .ok (.getfield 80, 3) := by decide +kernel
theorem dX11_areServed_87 : decode cX11_areServed 87 = .ok (.iload 5, 2) := by decide +kernel
theorem dX11_areServed_89 : decode cX11_areServed 89 = .ok (.dup2, 1) := by decide +kernel
theorem dX11_areServed_90 : decode cX11_areServed 90 = .ok (.iaload, 1) := by decide +kernel
theorem dX11_areServed_91 : decode cX11_areServed 91 = .ok (.iload 4, 2) := by decide +kernel
theorem dX11_areServed_93 : decode cX11_areServed 93 = .ok (.isub, 1) := by decide +kernel
theorem dX11_areServed_94 : decode cX11_areServed 94 = .ok (.iastore, 1) := by decide +kernel
theorem dX11_areServed_95 : decode cX11_areServed 95 = .ok (.aload_n 0, 1) := by decide +kernel
theorem dX11_areServed_96 : decode cX11_areServed 96 = .ok (.iload_n 1, 1) := by decide +kernel
theorem dX11_areServed_97 : decode cX11_areServed 97 = .ok (.iconst 1, 1) := by decide +kernel
theorem dX11_areServed_98 : decode cX11_areServed 98 = .ok (.iadd, 1) := by decide +kernel
theorem dX11_areServed_99 : decode cX11_areServed 99 = .ok (.iload_n 2, 1) := by decide +kernel
theorem dX11_areServed_100 : decode cX11_areServed 100 = .ok (.invokevirtual 391, 3) := by decide +kernel
theorem dX11_areServed_103 : decode cX11_areServed 103 = .ok (.istore_n 3, 1) := by decide +kernel
theorem dX11_areServed_104 : decode cX11_areServed 104 = .ok (.aload_n 0, 1) := by decide +kernel
theorem dX11_areServed_105 : decode cX11_areServed 105 = .ok (.getfield 80, 3) := by decide +kernel
theorem dX11_areServed_108 : decode cX11_areServed 108 = .ok (.iload 5, 2) := by decide +kernel
theorem dX11_areServed_110 : decode cX11_areServed 110 = .ok (.dup2, 1) := by decide +kernel
theorem dX11_areServed_111 : decode cX11_areServed 111 = .ok (.iaload, 1) := by decide +kernel
theorem dX11_areServed_112 : decode cX11_areServed 112 = .ok (.iload 4, 2) := by decide +kernel
theorem dX11_areServed_114 : decode cX11_areServed 114 = .ok (.iadd, 1) := by decide +kernel
theorem dX11_areServed_115 : decode cX11_areServed 115 = .ok (.iastore, 1) := by decide +kernel
theorem dX11_areServed_116 : decode cX11_areServed 116 = .ok (.iinc 5 1, 3) := by decide +kernel
theorem dX11_areServed_119 : decode cX11_areServed 119 = .ok (.goto (-74), 3) := by decide +kernel
theorem dX11_areServed_122 : decode cX11_areServed 122 = .ok (.iload_n 3, 1) := by decide +kernel
theorem dX11_areServed_123 : decode cX11_areServed 123 = .ok (.ireturn, 1) := by decide +kernel
theorem dX11_call_0 : decode cX11_call 0 = .ok (.aload_n 0, 1) := by decide +kernel
theorem dX11_call_1 : decode cX11_call 1 = .ok (.iconst 0, 1) := by decide +kernel
theorem dX11_call_2 : decode cX11_call 2 = .ok (.putfield 3, 3) := by decide +kernel
theorem dX11_call_5 : decode cX11_call 5 = .ok (.aload_n 0, 1) := by decide +kernel
theorem dX11_call_6 : decode cX11_call 6 = .ok (.iload_n 1, 1) := by decide +kernel
theorem dX11_call_7 : decode cX11_call 7 = .ok (.iconst 0, 1) := by decide +kernel
theorem dX11_call_8 : decode cX11_call 8 = .ok (.iconst 5, 1) := by decide +kernel
theorem dX11_call_9 : decode cX11_call 9 = .ok (.invokestatic 348, 3) := by decide +kernel
theorem dX11_call_12 : decode cX11_call 12 = .ok (.iconst 1, 1) := by decide +kernel
theorem dX11_call_13 : decode cX11_call 13 = .ok (.iconst 1, 1) := by decide +kernel
theorem dX11_call_14 : decode cX11_call 14 = .ok (.invokevirtual 190, 3) := by decide +kernel
theorem dX11_call_17 : decode cX11_call 17 = .ok (.ifCond .ne 5, 3) := by decide +kernel
theorem dX11_call_20 : decode cX11_call 20 = .ok (.iconst 0, 1) := by decide +kernel
theorem dX11_call_21 : decode cX11_call 21 = .ok (.ireturn, 1) := by decide +kernel
theorem dX11_call_22 : decode cX11_call 22 = .ok (.aload_n 0, 1) := by decide +kernel
theorem dX11_call_23 : decode cX11_call 23 = .ok (.invokevirtual 293, 3) := by decide +kernel
theorem dX11_call_26 : decode cX11_call 26 = .ok (.iconst 0, 1) := by decide +kernel
theorem dX11_call_27 : decode cX11_call 27 = .ok (.istore_n 2, 1) := by decide +kernel
theorem dX11_call_28 : decode cX11_call 28 = .ok (.iload_n 2, 1) := by decide +kernel
theorem dX11_call_29 : decode cX11_call 29 = .ok (.aload_n 0, 1) := by decide +kernel
theorem dX11_call_30 : decode cX11_call 30 = .ok (.getfield 154, 3) := by decide +kernel
theorem dX11_call_33 : decode cX11_call 33 = .ok (.if_icmp .ge 23, 3) := by decide +kernel
theorem dX11_call_36 : decode cX11_call 36 = .ok (.aload_n 0, 1) := by decide +kernel
theorem dX11_call_37 : decode cX11_call 37 = .ok (.getfield 80, 3) := by decide +kernel
theorem dX11_call_40 : decode cX11_call 40 = .ok (.iload_n 2, 1) := by decide +kernel
theorem dX11_call_41 : decode cX11_call 41 = .ok (.aload_n 0, 1) := by decide +kernel
theorem dX11_call_42 : decode cX11_call 42 = .ok (.getfield 68, 3) := by decide +kernel
theorem dX11_call_45 : decode cX11_call 45 = .ok (.iconst 0, 1) := by decide +kernel
theorem dX11_call_46 : decode cX11_call 46 = .ok (.iload_n 2, 1) := by decide +kernel
theorem dX11_call_47 : decode cX11_call 47 = .ok (.iadd, 1) := by decide +kernel
theorem dX11_call_48 : decode cX11_call 48 = .ok (.iaload, 1) := by decide +kernel
theorem dX11_call_49 : decode cX11_call 49 = .ok (.iastore, 1) := by decide +kernel
theorem dX11_call_50 : decode cX11_call 50 = .ok (.iinc 2 1, 3) := by decide +kernel
theorem dX11_call_53 : decode cX11_call 53 = .ok (.goto (-25), 3) := by decide +kernel
theorem dX11_call_56 : decode cX11_call 56 = .ok (.iconst (-1), 1) := by decide +kernel
theorem dX11_call_57 : decode cX11_call 57 = .ok (.istore_n 2, 1) := by decide +kernel
theorem dX11_call_58 : decode cX11_call 58 = .ok (.iconst 0, 1) := by decide +kernel
theorem dX11_call_59 : decode cX11_call 59 = .ok (.istore_n 3, 1) := by decide +kernel
theorem dX11_call_60 : decode cX11_call 60 = .ok (.iload_n 3, 1) := by decide +kernel
theorem dX11_call_61 : decode cX11_call 61 = .ok (.iconst 1, 1) := by decide +kernel
theorem dX11_call_62 : decode cX11_call 62 = .ok (.aload_n 0, 1) := by decide +kernel
theorem dX11_call_63 : decode cX11_call 63 = .ok (.getfield 167, 3) := by decide +kernel
theorem dX11_call_66 : decode cX11_call 66 = .ok (.ishl, 1) := by decide +kernel
theorem dX11_call_67 : decode cX11_call 67 = .ok (.if_icmp .ge 123, 3) := by decide +kernel
theorem dX11_call_70 : decode cX11_call 70 = .ok (.iconst 0, 1) := by decide +kernel
theorem dX11_call_71 : decode cX11_call 71 = .ok (.istore 4, 2) := by decide +kernel
theorem dX11_call_73 : decode cX11_call 73 = .ok (.iconst 1, 1) := by decide +kernel
theorem dX11_call_74 : decode cX11_call 74 = .ok (.istore 5, 2) := by decide +kernel
theorem dX11_call_76 : decode cX11_call 76 = .ok (.iconst 0, 1) := by decide +kernel
theorem dX11_call_77 : decode cX11_call 77 = .ok (.istore 6, 2) := by decide +kernel
theorem dX11_call_79 : decode cX11_call 79 = .ok (.iload 6, 2) := by decide +kernel
theorem dX11_call_81 : decode cX11_call 81 = .ok (.aload_n 0, 1) := by decide +kernel
theorem dX11_call_82 : decode cX11_call 82 = .ok (.getfield 167, 3) := by decide +kernel
theorem dX11_call_85 : decode cX11_call 85 = .ok (.if_icmp .ge 64, 3) := by decide +kernel
theorem dX11_call_88 : decode cX11_call 88 = .ok (.iload_n 3, 1) := by decide +kernel
theorem dX11_call_89 : decode cX11_call 89 = .ok (.iload 6, 2) := by decide +kernel
theorem dX11_call_91 : decode cX11_call 91 = .ok (.ishr, 1) := by decide +kernel
theorem dX11_call_92 : decode cX11_call 92 = .ok (.iconst 1, 1) := by decide +kernel
theorem dX11_call_93 : decode cX11_call 93 = .ok (.iand, 1) := by decide +kernel
theorem dX11_call_94 : decode cX11_call 94 = .ok (.ifCond .ne 6, 3) := by decide +kernel
theorem dX11_call_97 : decode cX11_call 97 = .ok (.goto 46, 3) := by decide +kernel
theorem dX11_call_100 : decode cX11_call 100 = .ok (.iload 5, 2) := by decide +kernel
theorem dX11_call_102 : decode cX11_call 102 = .ok (.ifCond .eq 22, 3) := by decide +kernel
theorem dX11_call_105 : decode cX11_call 105 = .ok (.aload_n 0, 1) := by decide +kernel
theorem dX11_call_106 : decode cX11_call 106 = .ok (.getfield 77, 3) := by decide +kernel
theorem dX11_call_109 : decode cX11_call 109 = .ok (.iconst 3, 1) := by decide +kernel
theorem dX11_call_110 : decode cX11_call 110 = .ok (.iload 6, 2) := by decide +kernel
theorem dX11_call_112 : decode cX11_call 112 = .ok (.imul, 1) := by decide +kernel
theorem dX11_call_113 : decode cX11_call 113 = .ok (.iconst 1, 1) := by decide +kernel
theorem dX11_call_114 : decode cX11_call 114 = .ok (.iadd, 1) := by decide +kernel
theorem dX11_call_115 : decode cX11_call 115 = .ok (.iaload, 1) := by decide +kernel
theorem dX11_call_116 : decode cX11_call 116 = .ok (.iload_n 1, 1) := by decide +kernel
theorem dX11_call_117 : decode cX11_call 117 = .ok (.if_icmp .ne 7, 3) := by decide +kernel
theorem dX11_call_120 : decode cX11_call 120 = .ok (.iconst 1, 1) := by decide +kernel
theorem dX11_call_121 : decode cX11_call 121 = .ok (.goto 4, 3) := by decide +kernel
theorem dX11_call_124 : decode cX11_call 124 = .ok (.iconst 0, 1) := by decide +kernel
theorem dX11_call_125 : decode cX11_call 125 = .ok (.istore 5, 2) := by decide +kernel
theorem dX11_call_127 : decode cX11_call 127 = .ok (.iload 4, 2) := by decide +kernel
theorem dX11_call_129 : decode cX11_call 129 = .ok (.aload_n 0, 1) := by decide +kernel
theorem dX11_call_130 : decode cX11_call 130 = .ok (.getfield 77, 3) := by decide +kernel
theorem dX11_call_133 : decode cX11_call 133 = .ok (.iconst 3, 1) := by decide +kernel
theorem dX11_call_134 : decode cX11_call 134 = .ok (.iload 6, 2) := by decide +kernel
theorem dX11_call_136 : decode cX11_call 136 = .ok (.imul, 1) := by decide +kernel
theorem dX11_call_137 : decode cX11_call 137 = .ok (.iconst 2, 1) := by decide +kernel
theorem dX11_call_138 : decode cX11_call 138 = .ok (.iadd, 1) := by decide +kernel
theorem dX11_call_139 : decode cX11_call 139 = .ok (.iaload, 1) := by decide +kernel
theorem dX11_call_140 : decode cX11_call 140 = .ok (.iadd, 1) := by decide +kernel
theorem dX11_call_141 : decode cX11_call 141 = .ok (.istore 4, 2) := by decide +kernel
theorem dX11_call_143 : decode cX11_call 143 = .ok (.iinc 6 1, 3) := by decide +kernel
theorem dX11_call_146 : decode cX11_call 146 = .ok (.goto (-67), 3) := by decide +kernel
theorem dX11_call_149 : decode cX11_call 149 = .ok (.iload 5, 2) := by decide +kernel
theorem dX11_call_151 : decode cX11_call 151 = .ok (.ifCond .eq 33, 3) := by decide +kernel
theorem dX11_call_154 : decode cX11_call 154 = .ok (.iload 4, 2) := by decide +kernel
theorem dX11_call_156 : decode cX11_call 156 = .ok (.bipush 99, 2) := by decide +kernel
theorem dX11_call_158 : decode cX11_call 158 = .ok (.if_icmp .gt 26, 3) := by decide +kernel
theorem dX11_call_161 : decode cX11_call 161 = .ok (.iload_n 2, 1) := by decide +kernel
theorem dX11_call_162 : decode cX11_call 162 = .ok (.iconst (-1), 1) := by decide +kernel
theorem dX11_call_163 : decode cX11_call 163 = .ok (.if_icmp .eq 9, 3) := by decide +kernel
theorem dX11_call_166 : decode cX11_call 166 = .ok (.iload 4, 2) := by decide +kernel
theorem dX11_call_168 : decode cX11_call 168 = .ok (.iload_n 2, 1) := by decide +kernel
theorem dX11_call_169 : decode cX11_call 169 = .ok (.if_icmp .ge 15, 3) := by decide +kernel
theorem dX11_call_172 : decode cX11_call 172 = .ok (.aload_n 0, 1) := by decide +kernel
theorem dX11_call_173 : decode cX11_call 173 = .ok (.iconst 0, 1) := by decide +kernel
theorem dX11_call_174 : decode cX11_call 174 = .ok (.iload_n 3, 1) := by decide +kernel
theorem dX11_call_175 : decode cX11_call 175 = .ok (.invokevirtual 391, 3) := by decide +kernel
theorem dX11_call_178 : decode cX11_call 178 = .ok (.ifCond .eq 6, 3) := by decide +kernel
theorem dX11_call_181 : decode cX11_call 181 = .ok (.iload 4, 2) := by decide +kernel
theorem dX11_call_183 : decode cX11_call 183 = .ok (.istore_n 2, 1) := by decide +kernel
theorem dX11_call_184 : decode cX11_call 184 = .ok (.iinc 3 1, 3) := by decide +kernel
theorem dX11_call_187 : decode cX11_call 187 = .ok (.goto (-127), 3) := by decide +kernel
theorem dX11_call_190 : decode cX11_call 190 = .ok (.iload_n 2, 1) := by decide +kernel
theorem dX11_call_191 : decode cX11_call 191 = .ok (.ireturn, 1) := by decide +kernel
theorem dX11_without_0 : decode cX11_without 0 = .ok (.iload_n 1, 1) := by decide +kernel
theorem dX11_without_1 : decode cX11_without 1 = .ok (.ifCond .ne 15, 3) := by decide +kernel
theorem dX11_without_4 : decode cX11_without 4 = .ok (.iload 4, 2) := by decide +kernel
theorem dX11_without_6 : decode cX11_without 6 = .ok (.iconst 1, 1) := by decide +kernel
theorem dX11_without_7 : decode cX11_without 7 = .ok (.if_icmp .ne 7, 3) := by decide +kernel
theorem dX11_without_10 : decode cX11_without 10 = .ok (.iconst 0, 1) := by decide +kernel
theorem dX11_without_11 : decode cX11_without 11 = .ok (.goto 4, 3) := by decide +kernel
theorem dX11_without_14 : decode cX11_without 14 = .ok (.iconst 1, 1) := by decide +kernel
theorem dX11_without_15 : decode cX11_without 15 = .ok (.ireturn, 1) := by decide +kernel
theorem dX11_without_16 : decode cX11_without 16 = .ok (.iconst 0, 1) := by decide +kernel
theorem dX11_without_17 : decode cX11_without 17 = .ok (.istore 5, 2) := by decide +kernel
theorem dX11_without_19 : decode cX11_without 19 = .ok (.iconst 0, 1) := by decide +kernel
theorem dX11_without_20 : decode cX11_without 20 = .ok (.istore 6, 2) := by decide +kernel
theorem dX11_without_22 : decode cX11_without 22 = .ok (.iload 6, 2) := by decide +kernel
theorem dX11_without_24 : decode cX11_without 24 = .ok (.aload_n 0, 1) := by decide +kernel
theorem dX11_without_25 : decode cX11_without 25 = .ok (.getfield 157, 3) := by decide +kernel
theorem dX11_without_28 : decode cX11_without 28 = .ok (.if_icmp .ge 114, 3) := by decide +kernel
theorem dX11_without_31 : decode cX11_without 31 = .ok (.iload_n 1, 1) := by decide +kernel
theorem dX11_without_32 : decode cX11_without 32 = .ok (.iload 6, 2) := by decide +kernel
theorem dX11_without_34 : decode cX11_without 34 = .ok (.ishr, 1) := by decide +kernel
theorem dX11_without_35 : decode cX11_without 35 = .ok (.iconst 1, 1) := by decide +kernel
theorem dX11_without_36 : decode cX11_without 36 = .ok (.iand, 1) := by decide +kernel
theorem dX11_without_37 : decode cX11_without 37 = .ok (.ifCond .ne 6, 3) := by decide +kernel
theorem dX11_without_40 : decode cX11_without 40 = .ok (.goto 96, 3) := by decide +kernel
theorem dX11_without_43 : decode cX11_without 43 = .ok (.aload_n 0, 1) := by decide +kernel
theorem dX11_without_44 : decode cX11_without 44 = .ok (.getfield 65, 3) := by decide +kernel
theorem dX11_without_47 : decode cX11_without 47 = .ok (.bipush 22, 2) := by decide +kernel
theorem dX11_without_49 : decode cX11_without 49 = .ok (.iload 6, 2) := by decide +kernel
theorem dX11_without_51 : decode cX11_without 51 = .ok (.iadd, 1) := by decide +kernel
theorem dX11_without_52 : decode cX11_without 52 = .ok (.iaload, 1) := by decide +kernel
theorem dX11_without_53 : decode cX11_without 53 = .ok (.iconst 2, 1) := by decide +kernel
theorem dX11_without_54 : decode cX11_without 54 = .ok (.if_icmp .ge 7, 3) := by decide +kernel
theorem dX11_without_57 : decode cX11_without 57 = .ok (.iconst 1, 1) := by decide +kernel
theorem dX11_without_58 : decode cX11_without 58 = .ok (.goto 15, 3) := by decide +kernel
theorem dX11_without_61 : decode cX11_without 61 = .ok (.aload_n 0, 1) := by decide +kernel
theorem dX11_without_62 : decode cX11_without 62 = .ok (.getfield 65, 3) := by decide +kernel
theorem dX11_without_65 : decode cX11_without 65 = .ok (.bipush 22, 2) := by decide +kernel
theorem dX11_without_67 : decode cX11_without 67 = .ok (.iload 6, 2) := by decide +kernel
theorem dX11_without_69 : decode cX11_without 69 = .ok (.iadd, 1) := by decide +kernel
theorem dX11_without_70 : decode cX11_without 70 = .ok (.iaload, 1) := by decide +kernel
theorem dX11_without_71 : decode cX11_without 71 = .ok (.iconst 2, 1) := by decide +kernel
theorem dX11_without_72 : decode cX11_without 72 = .ok (.idiv, 1) := by decide +kernel
theorem dX11_without_73 : decode cX11_without 73 = .ok (.istore 7, 2) := by decide +kernel
theorem dX11_without_75 : decode cX11_without 75 = .ok (.iload 7, 2) := by decide +kernel
theorem dX11_without_77 : decode cX11_without 77 = .ok (.iload_n 2, 1) := by decide +kernel
theorem dX11_without_78 : decode cX11_without 78 = .ok (.if_icmp .gt 7, 3) := by decide +kernel
theorem dX11_without_81 : decode cX11_without 81 = .ok (.iconst 1, 1) := by decide +kernel
theorem dX11_without_82 : decode cX11_without 82 = .ok (.goto 4, 3) := by decide +kernel
theorem dX11_without_85 : decode cX11_without 85 = .ok (.iconst 0, 1) := by decide +kernel
theorem dX11_without_86 : decode cX11_without 86 = .ok (.istore 8, 2) := by decide +kernel
theorem dX11_without_88 : decode cX11_without 88 = .ok (.iload 5, 2) := by decide +kernel
theorem dX11_without_90 : decode cX11_without 90 = .ok (.aload_n 0, 1) := by decide +kernel
theorem dX11_without_91 : decode cX11_without 91 = .ok (.iload_n 1, 1) := by decide +kernel
theorem dX11_without_92 : decode cX11_without 92 = .ok (.iconst 1, 1) := by decide +kernel
theorem dX11_without_93 : decode cX11_without 93 = .ok (.iload 6, 2) := by decide +kernel
theorem dX11_without_95 : decode cX11_without 95 = .ok (.ishl, 1) := by decide +kernel
theorem dX11_without_96 : decode cX11_without 96 = .ok (.iconst (-1), 1) := by decide +kernel
theorem dX11_without_97 : decode cX11_without 97 = .ok (.ixor, 1) := by decide +kernel
theorem dX11_without_98 : decode cX11_without 98 = .ok (.iand, 1) := by decide +kernel
theorem dX11_without_99 : decode cX11_without 99 = .ok (.iload 8, 2) := by decide +kernel
theorem dX11_without_101 : decode cX11_without 101 = .ok (.ifCond .eq 10, 3) := by decide +kernel
theorem dX11_without_104 : decode cX11_without 104 = .ok (.iload_n 2, 1) := by decide +kernel
theorem dX11_without_105 : decode cX11_without 105 = .ok (.iload 7, 2) := by decide +kernel
theorem dX11_without_107 : decode cX11_without 107 = .ok (.isub, 1) := by decide +kernel
theorem dX11_without_108 : decode cX11_without 108 = .ok (.goto 4, 3) := by decide +kernel
theorem dX11_without_111 : decode cX11_without 111 = .ok (.iload_n 2, 1) := by decide +kernel
theorem dX11_without_112 : decode cX11_without 112 = .ok (.iload_n 3, 1) := by decide +kernel
theorem dX11_without_113 : decode cX11_without 113 = .ok (.iload 8, 2) := by decide +kernel
theorem dX11_without_115 : decode cX11_without 115 = .ok (.ifCond .eq 13, 3) := by decide +kernel
theorem dX11_without_118 : decode cX11_without 118 = .ok (.iload 6, 2) := by decide +kernel
theorem dX11_without_120 : decode cX11_without 120 = .ok (.iload_n 3, 1) := by decide +kernel
theorem dX11_without_121 : decode cX11_without 121 = .ok (.if_icmp .ne 7, 3) := by decide +kernel
theorem dX11_without_124 : decode cX11_without 124 = .ok (.iconst 1, 1) := by decide +kernel
theorem dX11_without_125 : decode cX11_without 125 = .ok (.goto 5, 3) := by decide +kernel
theorem dX11_without_128 : decode cX11_without 128 = .ok (.iload 4, 2) := by decide +kernel
theorem dX11_without_130 : decode cX11_without 130 = .ok (.invokevirtual 394, 3) := by decide +kernel
theorem dX11_without_133 : decode cX11_without 133 = .ok (.iadd, 1) := by decide +kernel
theorem dX11_without_134 : decode cX11_without 134 = .ok (.istore 5, 2) := by decide +kernel
theorem dX11_without_136 : decode cX11_without 136 = .ok (.iinc 6 1, 3) := by decide +kernel
theorem dX11_without_139 : decode cX11_without 139 = .ok (.goto (-117), 3) := by decide +kernel
theorem dX11_without_142 : decode cX11_without 142 = .ok (.iload 5, 2) := by decide +kernel
theorem dX11_without_144 : decode cX11_without 144 = .ok (.ireturn, 1) := by decide +kernel
theorem dX11_run_0 : decode cX11_run 0 = .ok (.aload_n 0, 1) := by decide +kernel
theorem dX11_run_1 : decode cX11_run 1 = .ok (.iconst 0, 1) := by decide +kernel
theorem dX11_run_2 : decode cX11_run 2 = .ok (.putfield 3, 3) := by decide +kernel
theorem dX11_run_5 : decode cX11_run 5 = .ok (.aload_n 0, 1) := by decide +kernel
theorem dX11_run_6 : decode cX11_run 6 = .ok (.iload_n 1, 1) := by decide +kernel
theorem dX11_run_7 : decode cX11_run 7 = .ok (.iconst 1, 1) := by decide +kernel
theorem dX11_run_8 : decode cX11_run 8 = .ok (.invokevirtual 366, 3) := by decide +kernel
theorem dX11_run_11 : decode cX11_run 11 = .ok (.ifCond .eq 12, 3) := by decide +kernel
theorem dX11_run_14 : decode cX11_run 14 = .ok (.aload_n 0, 1) := by decide +kernel
theorem dX11_run_15 : decode cX11_run 15 = .ok (.iload_n 2, 1) := by decide +kernel
theorem dX11_run_16 : decode cX11_run 16 = .ok (.iconst 1, 1) := by decide +kernel
theorem dX11_run_17 : decode cX11_run 17 = .ok (.invokevirtual 369, 3) := by decide +kernel
theorem dX11_run_20 : decode cX11_run 20 = .ok (.ifCond .ne 5, 3) := by decide +kernel
theorem dX11_run_23 : decode cX11_run 23 = .ok (.iconst 0, 1) := by decide +kernel
theorem dX11_run_24 : decode cX11_run 24 = .ok (.ireturn, 1) := by decide +kernel
theorem dX11_run_25 : decode cX11_run 25 = .ok (.aload_n 0, 1) := by decide +kernel
theorem dX11_run_26 : decode cX11_run 26 = .ok (.iconst 1, 1) := by decide +kernel
theorem dX11_run_27 : decode cX11_run 27 = .ok (.aload_n 0, 1) := by decide +kernel
theorem dX11_run_28 : decode cX11_run 28 = .ok (.getfield 157, 3) := by decide +kernel
theorem dX11_run_31 : decode cX11_run 31 = .ok (.ishl, 1) := by decide +kernel
theorem dX11_run_32 : decode cX11_run 32 = .ok (.iconst 1, 1) := by decide +kernel
theorem dX11_run_33 : decode cX11_run 33 = .ok (.isub, 1) := by decide +kernel
theorem dX11_run_34 : decode cX11_run 34 = .ok (.aload_n 0, 1) := by decide +kernel
theorem dX11_run_35 : decode cX11_run 35 = .ok (.getfield 65, 3) := by decide +kernel
theorem dX11_run_38 : decode cX11_run 38 = .ok (.iconst 0, 1) := by decide +kernel
theorem dX11_run_39 : decode cX11_run 39 = .ok (.iload_n 1, 1) := by decide +kernel
theorem dX11_run_40 : decode cX11_run 40 = .ok (.iadd, 1) := by decide +kernel
theorem dX11_run_41 : decode cX11_run 41 = .ok (.iaload, 1) := by decide +kernel
theorem dX11_run_42 : decode cX11_run 42 = .ok (.iload_n 2, 1) := by decide +kernel
theorem dX11_run_43 : decode cX11_run 43 = .ok (.iconst 0, 1) := by decide +kernel
theorem dX11_run_44 : decode cX11_run 44 = .ok (.invokevirtual 394, 3) := by decide +kernel
theorem dX11_run_47 : decode cX11_run 47 = .ok (.ireturn, 1) := by decide +kernel
theorem dX11_least_0 : decode cX11_least 0 = .ok (.lload_n 0, 1) := by decide +kernel
theorem dX11_least_1 : decode cX11_least 1 = .ok (.lstore 5, 2) := by decide +kernel
theorem dX11_least_3 : decode cX11_least 3 = .ok (.lload_n 2, 1) := by decide +kernel
theorem dX11_least_4 : decode cX11_least 4 = .ok (.lstore 7, 2) := by decide +kernel
theorem dX11_least_6 : decode cX11_least 6 = .ok (.lload 7, 2) := by decide +kernel
theorem dX11_least_8 : decode cX11_least 8 = .ok (.lconst 0, 1) := by decide +kernel
theorem dX11_least_9 : decode cX11_least 9 = .ok (.lcmp, 1) := by decide +kernel
theorem dX11_least_10 : decode cX11_least 10 = .ok (.ifCond .eq 21, 3) := by decide +kernel
theorem dX11_least_13 : decode cX11_least 13 = .ok (.lload 5, 2) := by decide +kernel
theorem dX11_least_15 : decode cX11_least 15 = .ok (.lload 7, 2) := by decide +kernel
theorem dX11_least_17 : decode cX11_least 17 = .ok (.lrem, 1) := by decide +kernel
theorem dX11_least_18 : decode cX11_least 18 = .ok (.lstore 9, 2) := by decide +kernel
theorem dX11_least_20 : decode cX11_least 20 = .ok (.lload 7, 2) := by decide +kernel
theorem dX11_least_22 : decode cX11_least 22 = .ok (.lstore 5, 2) := by decide +kernel
theorem dX11_least_24 : decode cX11_least 24 = .ok (.lload 9, 2) := by decide +kernel
theorem dX11_least_26 : decode cX11_least 26 = .ok (.lstore 7, 2) := by decide +kernel
theorem dX11_least_28 : decode cX11_least 28 = .ok (.goto (-22), 3) := by decide +kernel
theorem dX11_least_31 : decode cX11_least 31 = .ok (.iload 4, 2) := by decide +kernel
theorem dX11_least_33 : decode cX11_least 33 = .ok (.ifCond .ne 7, 3) := by decide +kernel
theorem dX11_least_36 : decode cX11_least 36 = .ok (.lload_n 0, 1) := by decide +kernel
theorem dX11_least_37 : decode cX11_least 37 = .ok (.goto 4, 3) := by decide +kernel
theorem dX11_least_40 : decode cX11_least 40 = .ok (.lload_n 2, 1) := by decide +kernel
theorem dX11_least_41 : decode cX11_least 41 = .ok (.lload 5, 2) := by decide +kernel
theorem dX11_least_43 : decode cX11_least 43 = .ok (.ldiv, 1) := by decide +kernel
theorem dX11_least_44 : decode cX11_least 44 = .ok (.lreturn, 1) := by decide +kernel
theorem dX11_all_0 : decode cX11_all 0 = .ok (.aload_n 0, 1) := by decide +kernel
theorem dX11_all_1 : decode cX11_all 1 = .ok (.iconst 0, 1) := by decide +kernel
theorem dX11_all_2 : decode cX11_all 2 = .ok (.putfield 3, 3) := by decide +kernel
theorem dX11_all_5 : decode cX11_all 5 = .ok (.aload_n 0, 1) := by decide +kernel
theorem dX11_all_6 : decode cX11_all 6 = .ok (.iload_n 1, 1) := by decide +kernel
theorem dX11_all_7 : decode cX11_all 7 = .ok (.iconst 0, 1) := by decide +kernel
theorem dX11_all_8 : decode cX11_all 8 = .ok (.bipush 12, 2) := by decide +kernel
theorem dX11_all_10 : decode cX11_all 10 = .ok (.invokestatic 348, 3) := by decide +kernel
theorem dX11_all_13 : decode cX11_all 13 = .ok (.ifCond .eq 37, 3) := by decide +kernel
theorem dX11_all_16 : decode cX11_all 16 = .ok (.iload_n 2, 1) := by decide +kernel
theorem dX11_all_17 : decode cX11_all 17 = .ok (.iconst 0, 1) := by decide +kernel
theorem dX11_all_18 : decode cX11_all 18 = .ok (.bipush 13, 2) := by decide +kernel
theorem dX11_all_20 : decode cX11_all 20 = .ok (.invokestatic 348, 3) := by decide +kernel
theorem dX11_all_23 : decode cX11_all 23 = .ok (.ifCond .eq 27, 3) := by decide +kernel
theorem dX11_all_26 : decode cX11_all 26 = .ok (.iload_n 3, 1) := by decide +kernel
theorem dX11_all_27 : decode cX11_all 27 = .ok (.iconst 0, 1) := by decide +kernel
theorem dX11_all_28 : decode cX11_all 28 = .ok (.bipush 16, 2) := by decide +kernel
theorem dX11_all_30 : decode cX11_all 30 = .ok (.invokestatic 348, 3) := by decide +kernel
theorem dX11_all_33 : decode cX11_all 33 = .ok (.ifCond .eq 17, 3) := by decide +kernel
theorem dX11_all_36 : decode cX11_all 36 = .ok (.iload 4, 2) := by decide +kernel
theorem dX11_all_38 : decode cX11_all 38 = .ok (.iconst 0, 1) := by decide +kernel
theorem dX11_all_39 : decode cX11_all 39 = .ok (.iconst 1, 1) := by decide +kernel
theorem dX11_all_40 : decode cX11_all 40 = .ok (.invokestatic 348, 3) := by decide +kernel
theorem dX11_all_43 : decode cX11_all 43 = .ok (.ifCond .eq 7, 3) := by decide +kernel
theorem dX11_all_46 : decode cX11_all 46 = .ok (.iconst 1, 1) := by decide +kernel
theorem dX11_all_47 : decode cX11_all 47 = .ok (.goto 4, 3) := by decide +kernel
theorem dX11_all_50 : decode cX11_all 50 = .ok (.iconst 0, 1) := by decide +kernel
theorem dX11_all_51 : decode cX11_all 51 = .ok (.iconst 1, 1) := by decide +kernel
theorem dX11_all_52 : decode cX11_all 52 = .ok (.iconst 1, 1) := by decide +kernel
theorem dX11_all_53 : decode cX11_all 53 = .ok (.invokevirtual 190, 3) := by decide +kernel
theorem dX11_all_56 : decode cX11_all 56 = .ok (.ifCond .ne 5, 3) := by decide +kernel
theorem dX11_all_59 : decode cX11_all 59 = .ok (.lconst 0, 1) := by decide +kernel
theorem dX11_all_60 : decode cX11_all 60 = .ok (.lreturn, 1) := by decide +kernel
theorem dX11_all_61 : decode cX11_all 61 = .ok (.iconst 0, 1) := by decide +kernel
theorem dX11_all_62 : decode cX11_all 62 = .ok (.istore 5, 2) := by decide +kernel
theorem dX11_all_64 : decode cX11_all 64 = .ok (.iload 5, 2) := by decide +kernel
theorem dX11_all_66 : decode cX11_all 66 = .ok (.bipush 14, 2) := by decide +kernel
theorem dX11_all_68 : decode cX11_all 68 = .ok (.if_icmp .ge 26, 3) := by decide +kernel
theorem dX11_all_71 : decode cX11_all 71 = .ok (.aload_n 0, 1) := by decide +kernel
theorem dX11_all_72 : decode cX11_all 72 = .ok (.getfield 89, 3) := by decide +kernel
theorem dX11_all_75 : decode cX11_all 75 = .ok (.iload 5, 2) := by decide +kernel
theorem dX11_all_77 : decode cX11_all 77 = .ok (.iload 5, 2) := by decide +kernel
theorem dX11_all_79 : decode cX11_all 79 = .ok (.ifCond .ne 7, 3) := by decide +kernel
theorem dX11_all_82 : decode cX11_all 82 = .ok (.lconst 1, 1) := by decide +kernel
theorem dX11_all_83 : decode cX11_all 83 = .ok (.goto 4, 3) := by decide +kernel
theorem dX11_all_86 : decode cX11_all 86 = .ok (.lconst 0, 1) := by decide +kernel
theorem dX11_all_87 : decode cX11_all 87 = .ok (.lastore, 1) := by decide +kernel
theorem dX11_all_88 : decode cX11_all 88 = .ok (.iinc 5 1, 3) := by decide +kernel
theorem dX11_all_91 : decode cX11_all 91 = .ok (.goto (-27), 3) := by decide +kernel
theorem dX11_all_94 : decode cX11_all 94 = .ok (.lconst 1, 1) := by decide +kernel
theorem dX11_all_95 : decode cX11_all 95 = .ok (.lstore 5, 2) := by decide +kernel
theorem dX11_all_97 : decode cX11_all 97 = .ok (.iconst 0, 1) := by decide +kernel
theorem dX11_all_98 : decode cX11_all 98 = .ok (.istore 7, 2) := by decide +kernel
theorem dX11_all_100 : decode cX11_all 100 = .ok (.iload 7, 2) := by decide +kernel
theorem dX11_all_102 : decode cX11_all 102 = .ok (.iload_n 1, 1) := by decide +kernel
theorem dX11_all_103 : decode cX11_all 103 = .ok (.if_icmp .ge 74, 3) := by decide +kernel
theorem dX11_all_106 : decode cX11_all 106 = .ok (.bipush 13, 2) := by decide +kernel
theorem dX11_all_108 : decode cX11_all 108 = .ok (.istore 8, 2) := by decide +kernel
theorem dX11_all_110 : decode cX11_all 110 = .ok (.iload 8, 2) := by decide +kernel
theorem dX11_all_112 : decode cX11_all 112 = .ok (.ifCond .lt 51, 3) := by decide +kernel
theorem dX11_all_115 : decode cX11_all 115 = .ok (.aload_n 0, 1) := by decide +kernel
theorem dX11_all_116 : decode cX11_all 116 = .ok (.getfield 89, 3) := by decide +kernel
theorem dX11_all_119 : decode cX11_all 119 = .ok (.iload 8, 2) := by decide +kernel
theorem dX11_all_121 : decode cX11_all 121 = .ok (.aload_n 0, 1) := by decide +kernel
theorem dX11_all_122 : decode cX11_all 122 = .ok (.getfield 89, 3) := by decide +kernel
theorem dX11_all_125 : decode cX11_all 125 = .ok (.iload 8, 2) := by decide +kernel
theorem dX11_all_127 : decode cX11_all 127 = .ok (.laload, 1) := by decide +kernel
theorem dX11_all_128 : decode cX11_all 128 = .ok (.bipush 16, 2) := by decide +kernel
theorem dX11_all_130 : decode cX11_all 130 = .ok (.iload_n 3, 1) := by decide +kernel
theorem dX11_all_131 : decode cX11_all 131 = .ok (.isub, 1) := by decide +kernel
theorem dX11_all_132 : decode cX11_all 132 = .ok (.i2l, 1) := by decide +kernel
theorem dX11_all_133 : decode cX11_all 133 = .ok (.lmul, 1) := by decide +kernel
theorem dX11_all_134 : decode cX11_all 134 = .ok (.iload 8, 2) := by decide +kernel
theorem dX11_all_136 : decode cX11_all 136 = .ok (.ifCond .le 18, 3) := by decide +kernel
theorem dX11_all_139 : decode cX11_all 139 = .ok (.aload_n 0, 1) := by decide +kernel
theorem dX11_all_140 : decode cX11_all 140 = .ok (.getfield 89, 3) := by decide +kernel
theorem dX11_all_143 : decode cX11_all 143 = .ok (.iload 8, 2) := by decide +kernel
theorem dX11_all_145 : decode cX11_all 145 = .ok (.iconst 1, 1) := by decide +kernel
theorem dX11_all_146 : decode cX11_all 146 = .ok (.isub, 1) := by decide +kernel
theorem dX11_all_147 : decode cX11_all 147 = .ok (.laload, 1) := by decide +kernel
theorem dX11_all_148 : decode cX11_all 148 = .ok (.iload_n 3, 1) := by decide +kernel
theorem dX11_all_149 : decode cX11_all 149 = .ok (.i2l, 1) := by decide +kernel
theorem dX11_all_150 : decode cX11_all 150 = .ok (.lmul, 1) := by decide +kernel
theorem dX11_all_151 : decode cX11_all 151 = .ok (.goto 4, 3) := by decide +kernel
theorem dX11_all_154 : decode cX11_all 154 = .ok (.lconst 0, 1) := by decide +kernel
theorem dX11_all_155 : decode cX11_all 155 = .ok (.ladd, 1) := by decide +kernel
theorem dX11_all_156 : decode cX11_all 156 = .ok (.lastore, 1) := by decide +kernel
theorem dX11_all_157 : decode cX11_all 157 = .ok (.iinc 8 (-1), 3) := by decide +kernel
theorem dX11_all_160 : decode cX11_all 160 = .ok (.goto (-50), 3) := by decide +kernel
theorem dX11_all_163 : decode cX11_all 163 = .ok (.lload 5, 2) := by decide +kernel
theorem dX11_all_165 : decode cX11_all 165 = .ok (.ldc2_w 398, 3) := by decide +kernel
theorem dX11_all_168 : decode cX11_all 168 = .ok (.lmul, 1) := by decide +kernel
theorem dX11_all_169 : decode cX11_all 169 = .ok (.lstore 5, 2) := by decide +kernel
theorem dX11_all_171 : decode cX11_all 171 = .ok (.iinc 7 1, 3) := by decide +kernel
theorem dX11_all_174 : decode cX11_all 174 = .ok (.goto (-74), 3) := by decide +kernel
theorem dX11_all_177 : decode cX11_all 177 = .ok (.lconst 0, 1) := by decide +kernel
theorem dX11_all_178 : decode cX11_all 178 = .ok (.lstore 7, 2) := by decide +kernel
theorem dX11_all_180 : decode cX11_all 180 = .ok (.iload_n 2, 1) := by decide +kernel
theorem dX11_all_181 : decode cX11_all 181 = .ok (.istore 9, 2) := by decide +kernel
theorem dX11_all_183 : decode cX11_all 183 = .ok (.iload 9, 2) := by decide +kernel
theorem dX11_all_185 : decode cX11_all 185 = .ok (.bipush 14, 2) := by decide +kernel
theorem dX11_all_187 : decode cX11_all 187 = .ok (.if_icmp .ge 21, 3) := by decide +kernel
theorem dX11_all_190 : decode cX11_all 190 = .ok (.lload 7, 2) := by decide +kernel
theorem dX11_all_192 : decode cX11_all 192 = .ok (.aload_n 0, 1) := by decide +kernel
theorem dX11_all_193 : decode cX11_all 193 = .ok (.getfield 89, 3) := by decide +kernel
theorem dX11_all_196 : decode cX11_all 196 = .ok (.iload 9, 2) := by decide +kernel
theorem dX11_all_198 : decode cX11_all 198 = .ok (.laload, 1) := by decide +kernel
theorem dX11_all_199 : decode cX11_all 199 = .ok (.ladd, 1) := by decide +kernel
theorem dX11_all_200 : decode cX11_all 200 = .ok (.lstore 7, 2) := by decide +kernel
theorem dX11_all_202 : decode cX11_all 202 = .ok (.iinc 9 1, 3) := by decide +kernel
theorem dX11_all_205 : decode cX11_all 205 = .ok (.goto (-22), 3) := by decide +kernel
theorem dX11_all_208 : decode cX11_all 208 = .ok (.lload 7, 2) := by decide +kernel
theorem dX11_all_210 : decode cX11_all 210 = .ok (.lload 5, 2) := by decide +kernel
theorem dX11_all_212 : decode cX11_all 212 = .ok (.iload 4, 2) := by decide +kernel
theorem dX11_all_214 : decode cX11_all 214 = .ok (.invokestatic 400, 3) := by decide +kernel
theorem dX11_all_217 : decode cX11_all 217 = .ok (.lreturn, 1) := by decide +kernel
theorem dX11_hasBy_0 : decode cX11_hasBy 0 = .ok (.iload_n 0, 1) := by decide +kernel
theorem dX11_hasBy_1 : decode cX11_hasBy 1 = .ok (.iload_n 1, 1) := by decide +kernel
theorem dX11_hasBy_2 : decode cX11_hasBy 2 = .ok (.if_icmp .ne 15, 3) := by decide +kernel
theorem dX11_hasBy_5 : decode cX11_hasBy 5 = .ok (.iload_n 0, 1) := by decide +kernel
theorem dX11_hasBy_6 : decode cX11_hasBy 6 = .ok (.ifCond .ne 7, 3) := by decide +kernel
theorem dX11_hasBy_9 : decode cX11_hasBy 9 = .ok (.iload_n 2, 1) := by decide +kernel
theorem dX11_hasBy_10 : decode cX11_hasBy 10 = .ok (.goto 18, 3) := by decide +kernel
theorem dX11_hasBy_13 : decode cX11_hasBy 13 = .ok (.iload_n 3, 1) := by decide +kernel
theorem dX11_hasBy_14 : decode cX11_hasBy 14 = .ok (.goto 14, 3) := by decide +kernel
theorem dX11_hasBy_17 : decode cX11_hasBy 17 = .ok (.iload_n 0, 1) := by decide +kernel
theorem dX11_hasBy_18 : decode cX11_hasBy 18 = .ok (.ifCond .ne 7, 3) := by decide +kernel
theorem dX11_hasBy_21 : decode cX11_hasBy 21 = .ok (.iconst 0, 1) := by decide +kernel
theorem dX11_hasBy_22 : decode cX11_hasBy 22 = .ok (.goto 6, 3) := by decide +kernel
theorem dX11_hasBy_25 : decode cX11_hasBy 25 = .ok (.iload_n 2, 1) := by decide +kernel
theorem dX11_hasBy_26 : decode cX11_hasBy 26 = .ok (.iload_n 3, 1) := by decide +kernel
theorem dX11_hasBy_27 : decode cX11_hasBy 27 = .ok (.iadd, 1) := by decide +kernel
theorem dX11_hasBy_28 : decode cX11_hasBy 28 = .ok (.ireturn, 1) := by decide +kernel
theorem dX11_saint_0 : decode cX11_saint 0 = .ok (.aload_n 0, 1) := by decide +kernel
theorem dX11_saint_1 : decode cX11_saint 1 = .ok (.iconst 0, 1) := by decide +kernel
theorem dX11_saint_2 : decode cX11_saint 2 = .ok (.putfield 3, 3) := by decide +kernel
theorem dX11_saint_5 : decode cX11_saint 5 = .ok (.aload_n 0, 1) := by decide +kernel
theorem dX11_saint_6 : decode cX11_saint 6 = .ok (.iload_n 1, 1) := by decide +kernel
theorem dX11_saint_7 : decode cX11_saint 7 = .ok (.iconst 0, 1) := by decide +kernel
theorem dX11_saint_8 : decode cX11_saint 8 = .ok (.bipush 99, 2) := by decide +kernel
theorem dX11_saint_10 : decode cX11_saint 10 = .ok (.invokestatic 348, 3) := by decide +kernel
theorem dX11_saint_13 : decode cX11_saint 13 = .ok (.ifCond .eq 26, 3) := by decide +kernel
theorem dX11_saint_16 : decode cX11_saint 16 = .ok (.iload_n 2, 1) := by decide +kernel
theorem dX11_saint_17 : decode cX11_saint 17 = .ok (.iconst 0, 1) := by decide +kernel
theorem dX11_saint_18 : decode cX11_saint 18 = .ok (.bipush 99, 2) := by decide +kernel
theorem dX11_saint_20 : decode cX11_saint 20 = .ok (.invokestatic 348, 3) := by decide +kernel
theorem dX11_saint_23 : decode cX11_saint 23 = .ok (.ifCond .eq 16, 3) := by decide +kernel
theorem dX11_saint_26 : decode cX11_saint 26 = .ok (.iload_n 3, 1) := by decide +kernel
theorem dX11_saint_27 : decode cX11_saint 27 = .ok (.iconst 0, 1) := by decide +kernel
theorem dX11_saint_28 : decode cX11_saint 28 = .ok (.iconst 2, 1) := by decide +kernel
theorem dX11_saint_29 : decode cX11_saint 29 = .ok (.invokestatic 348, 3) := by decide +kernel
theorem dX11_saint_32 : decode cX11_saint 32 = .ok (.ifCond .eq 7, 3) := by decide +kernel
theorem dX11_saint_35 : decode cX11_saint 35 = .ok (.iconst 1, 1) := by decide +kernel
theorem dX11_saint_36 : decode cX11_saint 36 = .ok (.goto 4, 3) := by decide +kernel
theorem dX11_saint_39 : decode cX11_saint 39 = .ok (.iconst 0, 1) := by decide +kernel
theorem dX11_saint_40 : decode cX11_saint 40 = .ok (.iconst 1, 1) := by decide +kernel
theorem dX11_saint_41 : decode cX11_saint 41 = .ok (.iconst 1, 1) := by decide +kernel
theorem dX11_saint_42 : decode cX11_saint 42 = .ok (.invokevirtual 190, 3) := by decide +kernel
theorem dX11_saint_45 : decode cX11_saint 45 = .ok (.ifCond .ne 5, 3) := by decide +kernel
theorem dX11_saint_48 : decode cX11_saint 48 = .ok (.iconst 0, 1) := by decide +kernel
theorem dX11_saint_49 : decode cX11_saint 49 = .ok (.ireturn, 1) := by decide +kernel
