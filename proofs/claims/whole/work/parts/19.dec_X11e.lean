theorem dX11_told_88 : decode cX11_told 88 = .ok (.goto 43, 3) := by decide +kernel
theorem dX11_told_91 : decode cX11_told 91 = .ok (.iload_n 1, 1) := by decide +kernel
theorem dX11_told_92 : decode cX11_told 92 = .ok (.iconst 5, 1) := by decide +kernel
theorem dX11_told_93 : decode cX11_told 93 = .ok (.if_icmp .ne 15, 3) := by decide +kernel
theorem dX11_told_96 : decode cX11_told 96 = .ok (.aload_n 0, 1) := by decide +kernel
theorem dX11_told_97 : decode cX11_told 97 = .ok (.iconst 0, 1) := by decide +kernel
theorem dX11_told_98 : decode cX11_told 98 = .ok (.aload_n 0, 1) := by decide +kernel
theorem dX11_told_99 : decode cX11_told 99 = .ok (.getfield 154, 3) := by decide +kernel
theorem dX11_told_102 : decode cX11_told 102 = .ok (.invokevirtual 354, 3) := by decide +kernel
theorem dX11_told_105 : decode cX11_told 105 = .ok (.goto 26, 3) := by decide +kernel
theorem dX11_told_108 : decode cX11_told 108 = .ok (.iload_n 1, 1) := by decide +kernel
theorem dX11_told_109 : decode cX11_told 109 = .ok (.bipush 6, 2) := by decide +kernel
theorem dX11_told_111 : decode cX11_told 111 = .ok (.if_icmp .ne 14, 3) := by decide +kernel
theorem dX11_told_114 : decode cX11_told 114 = .ok (.aload_n 0, 1) := by decide +kernel
theorem dX11_told_115 : decode cX11_told 115 = .ok (.aload_n 0, 1) := by decide +kernel
theorem dX11_told_116 : decode cX11_told 116 = .ok (.invokevirtual 357, 3) := by decide +kernel
theorem dX11_told_119 : decode cX11_told 119 = .ok (.invokevirtual 360, 3) := by decide +kernel
theorem dX11_told_122 : decode cX11_told 122 = .ok (.goto 9, 3) := by decide +kernel
theorem dX11_told_125 : decode cX11_told 125 = .ok (.aload_n 0, 1) := by decide +kernel
theorem dX11_told_126 : decode cX11_told 126 = .ok (.iconst 5, 1) := by decide +kernel
theorem dX11_told_127 : decode cX11_told 127 = .ok (.iconst 1, 1) := by decide +kernel
theorem dX11_told_128 : decode cX11_told 128 = .ok (.invokevirtual 363, 3) := by decide +kernel
theorem dX11_told_131 : decode cX11_told 131 = .ok (.ireturn, 1) := by decide +kernel
theorem dX11_told_132 : decode cX11_told 132 = .ok (.iload_n 1, 1) := by decide +kernel
theorem dX11_told_133 : decode cX11_told 133 = .ok (.bipush 8, 2) := by decide +kernel
theorem dX11_told_135 : decode cX11_told 135 = .ok (.if_icmp .ne 16, 3) := by decide +kernel
theorem dX11_told_138 : decode cX11_told 138 = .ok (.aload_n 0, 1) := by decide +kernel
theorem dX11_told_139 : decode cX11_told 139 = .ok (.bipush 22, 2) := by decide +kernel
theorem dX11_told_141 : decode cX11_told 141 = .ok (.aload_n 0, 1) := by decide +kernel
theorem dX11_told_142 : decode cX11_told 142 = .ok (.getfield 157, 3) := by decide +kernel
theorem dX11_told_145 : decode cX11_told 145 = .ok (.invokevirtual 354, 3) := by decide +kernel
theorem dX11_told_148 : decode cX11_told 148 = .ok (.goto 36, 3) := by decide +kernel
theorem dX11_told_151 : decode cX11_told 151 = .ok (.iload_n 1, 1) := by decide +kernel
theorem dX11_told_152 : decode cX11_told 152 = .ok (.bipush 9, 2) := by decide +kernel
theorem dX11_told_154 : decode cX11_told 154 = .ok (.if_icmp .ne 10, 3) := by decide +kernel
theorem dX11_told_157 : decode cX11_told 157 = .ok (.aload_n 0, 1) := by decide +kernel
theorem dX11_told_158 : decode cX11_told 158 = .ok (.getfield 167, 3) := by decide +kernel
theorem dX11_told_161 : decode cX11_told 161 = .ok (.goto 23, 3) := by decide +kernel
theorem dX11_told_164 : decode cX11_told 164 = .ok (.iload_n 1, 1) := by decide +kernel
theorem dX11_told_165 : decode cX11_told 165 = .ok (.bipush 10, 2) := by decide +kernel
theorem dX11_told_167 : decode cX11_told 167 = .ok (.if_icmp .ne 10, 3) := by decide +kernel
theorem dX11_told_170 : decode cX11_told 170 = .ok (.aload_n 0, 1) := by decide +kernel
theorem dX11_told_171 : decode cX11_told 171 = .ok (.getfield 176, 3) := by decide +kernel
theorem dX11_told_174 : decode cX11_told 174 = .ok (.goto 10, 3) := by decide +kernel
theorem dX11_told_177 : decode cX11_told 177 = .ok (.aload_n 0, 1) := by decide +kernel
theorem dX11_told_178 : decode cX11_told 178 = .ok (.getfield 68, 3) := by decide +kernel
theorem dX11_told_181 : decode cX11_told 181 = .ok (.bipush 89, 2) := by decide +kernel
theorem dX11_told_183 : decode cX11_told 183 = .ok (.iaload, 1) := by decide +kernel
theorem dX11_told_184 : decode cX11_told 184 = .ok (.ireturn, 1) := by decide +kernel
theorem dX11_isSlab_0 : decode cX11_isSlab 0 = .ok (.aload_n 0, 1) := by decide +kernel
theorem dX11_isSlab_1 : decode cX11_isSlab 1 = .ok (.iload_n 1, 1) := by decide +kernel
theorem dX11_isSlab_2 : decode cX11_isSlab 2 = .ok (.iconst 0, 1) := by decide +kernel
theorem dX11_isSlab_3 : decode cX11_isSlab 3 = .ok (.aload_n 0, 1) := by decide +kernel
theorem dX11_isSlab_4 : decode cX11_isSlab 4 = .ok (.getfield 154, 3) := by decide +kernel
theorem dX11_isSlab_7 : decode cX11_isSlab 7 = .ok (.iconst 1, 1) := by decide +kernel
theorem dX11_isSlab_8 : decode cX11_isSlab 8 = .ok (.isub, 1) := by decide +kernel
theorem dX11_isSlab_9 : decode cX11_isSlab 9 = .ok (.invokestatic 348, 3) := by decide +kernel
theorem dX11_isSlab_12 : decode cX11_isSlab 12 = .ok (.iload_n 2, 1) := by decide +kernel
theorem dX11_isSlab_13 : decode cX11_isSlab 13 = .ok (.iconst 0, 1) := by decide +kernel
theorem dX11_isSlab_14 : decode cX11_isSlab 14 = .ok (.invokevirtual 190, 3) := by decide +kernel
theorem dX11_isSlab_17 : decode cX11_isSlab 17 = .ok (.ireturn, 1) := by decide +kernel
theorem dX11_isSoul_0 : decode cX11_isSoul 0 = .ok (.aload_n 0, 1) := by decide +kernel
theorem dX11_isSoul_1 : decode cX11_isSoul 1 = .ok (.iload_n 1, 1) := by decide +kernel
theorem dX11_isSoul_2 : decode cX11_isSoul 2 = .ok (.iconst 0, 1) := by decide +kernel
theorem dX11_isSoul_3 : decode cX11_isSoul 3 = .ok (.aload_n 0, 1) := by decide +kernel
theorem dX11_isSoul_4 : decode cX11_isSoul 4 = .ok (.getfield 157, 3) := by decide +kernel
theorem dX11_isSoul_7 : decode cX11_isSoul 7 = .ok (.iconst 1, 1) := by decide +kernel
theorem dX11_isSoul_8 : decode cX11_isSoul 8 = .ok (.isub, 1) := by decide +kernel
theorem dX11_isSoul_9 : decode cX11_isSoul 9 = .ok (.invokestatic 348, 3) := by decide +kernel
theorem dX11_isSoul_12 : decode cX11_isSoul 12 = .ok (.iload_n 2, 1) := by decide +kernel
theorem dX11_isSoul_13 : decode cX11_isSoul 13 = .ok (.iconst 0, 1) := by decide +kernel
theorem dX11_isSoul_14 : decode cX11_isSoul 14 = .ok (.invokevirtual 190, 3) := by decide +kernel
theorem dX11_isSoul_17 : decode cX11_isSoul 17 = .ok (.ireturn, 1) := by decide +kernel
theorem dX11_slab_0 : decode cX11_slab 0 = .ok (.aload_n 0, 1) := by decide +kernel
theorem dX11_slab_1 : decode cX11_slab 1 = .ok (.iconst 0, 1) := by decide +kernel
theorem dX11_slab_2 : decode cX11_slab 2 = .ok (.putfield 3, 3) := by decide +kernel
theorem dX11_slab_5 : decode cX11_slab 5 = .ok (.aload_n 0, 1) := by decide +kernel
theorem dX11_slab_6 : decode cX11_slab 6 = .ok (.iload_n 1, 1) := by decide +kernel
theorem dX11_slab_7 : decode cX11_slab 7 = .ok (.iconst 1, 1) := by decide +kernel
theorem dX11_slab_8 : decode cX11_slab 8 = .ok (.invokevirtual 366, 3) := by decide +kernel
theorem dX11_slab_11 : decode cX11_slab 11 = .ok (.ifCond .eq 18, 3) := by decide +kernel
theorem dX11_slab_14 : decode cX11_slab 14 = .ok (.aload_n 0, 1) := by decide +kernel
theorem dX11_slab_15 : decode cX11_slab 15 = .ok (.iload_n 2, 1) := by decide +kernel
theorem dX11_slab_16 : decode cX11_slab 16 = .ok (.iconst 0, 1) := by decide +kernel
theorem dX11_slab_17 : decode cX11_slab 17 = .ok (.iconst 5, 1) := by decide +kernel
theorem dX11_slab_18 : decode cX11_slab 18 = .ok (.invokestatic 348, 3) := by decide +kernel
theorem dX11_slab_21 : decode cX11_slab 21 = .ok (.iconst 2, 1) := by decide +kernel
theorem dX11_slab_22 : decode cX11_slab 22 = .ok (.iconst 1, 1) := by decide +kernel
theorem dX11_slab_23 : decode cX11_slab 23 = .ok (.invokevirtual 190, 3) := by decide +kernel
theorem dX11_slab_26 : decode cX11_slab 26 = .ok (.ifCond .ne 5, 3) := by decide +kernel
theorem dX11_slab_29 : decode cX11_slab 29 = .ok (.iconst 0, 1) := by decide +kernel
theorem dX11_slab_30 : decode cX11_slab 30 = .ok (.ireturn, 1) := by decide +kernel
theorem dX11_slab_31 : decode cX11_slab 31 = .ok (.aload_n 0, 1) := by decide +kernel
theorem dX11_slab_32 : decode cX11_slab 32 = .ok (.invokevirtual 293, 3) := by decide +kernel
theorem dX11_slab_35 : decode cX11_slab 35 = .ok (.iload_n 2, 1) := by decide +kernel
theorem dX11_slab_36 : decode cX11_slab 36 = .ok (.iconst 4, 1) := by decide +kernel
theorem dX11_slab_37 : decode cX11_slab 37 = .ok (.if_icmp .ge 55, 3) := by decide +kernel
theorem dX11_slab_40 : decode cX11_slab 40 = .ok (.iload_n 2, 1) := by decide +kernel
theorem dX11_slab_41 : decode cX11_slab 41 = .ok (.ifCond .ne 14, 3) := by decide +kernel
theorem dX11_slab_44 : decode cX11_slab 44 = .ok (.aload_n 0, 1) := by decide +kernel
theorem dX11_slab_45 : decode cX11_slab 45 = .ok (.getfield 32, 3) := by decide +kernel
theorem dX11_slab_48 : decode cX11_slab 48 = .ok (.iconst 2, 1) := by decide +kernel
theorem dX11_slab_49 : decode cX11_slab 49 = .ok (.iload_n 1, 1) := by decide +kernel
theorem dX11_slab_50 : decode cX11_slab 50 = .ok (.imul, 1) := by decide +kernel
theorem dX11_slab_51 : decode cX11_slab 51 = .ok (.iaload, 1) := by decide +kernel
theorem dX11_slab_52 : decode cX11_slab 52 = .ok (.goto 39, 3) := by decide +kernel
theorem dX11_slab_55 : decode cX11_slab 55 = .ok (.iload_n 2, 1) := by decide +kernel
theorem dX11_slab_56 : decode cX11_slab 56 = .ok (.iconst 2, 1) := by decide +kernel
theorem dX11_slab_57 : decode cX11_slab 57 = .ok (.if_icmp .ne 16, 3) := by decide +kernel
theorem dX11_slab_60 : decode cX11_slab 60 = .ok (.aload_n 0, 1) := by decide +kernel
theorem dX11_slab_61 : decode cX11_slab 61 = .ok (.getfield 32, 3) := by decide +kernel
theorem dX11_slab_64 : decode cX11_slab 64 = .ok (.iconst 2, 1) := by decide +kernel
theorem dX11_slab_65 : decode cX11_slab 65 = .ok (.iload_n 1, 1) := by decide +kernel
theorem dX11_slab_66 : decode cX11_slab 66 = .ok (.imul, 1) := by decide +kernel
theorem dX11_slab_67 : decode cX11_slab 67 = .ok (.iconst 1, 1) := by decide +kernel
theorem dX11_slab_68 : decode cX11_slab 68 = .ok (.iadd, 1) := by decide +kernel
theorem dX11_slab_69 : decode cX11_slab 69 = .ok (.iaload, 1) := by decide +kernel
theorem dX11_slab_70 : decode cX11_slab 70 = .ok (.goto 21, 3) := by decide +kernel
theorem dX11_slab_73 : decode cX11_slab 73 = .ok (.aload_n 0, 1) := by decide +kernel
theorem dX11_slab_74 : decode cX11_slab 74 = .ok (.getfield 68, 3) := by decide +kernel
theorem dX11_slab_77 : decode cX11_slab 77 = .ok (.iload_n 2, 1) := by decide +kernel
theorem dX11_slab_78 : decode cX11_slab 78 = .ok (.iconst 1, 1) := by decide +kernel
theorem dX11_slab_79 : decode cX11_slab 79 = .ok (.if_icmp .ne 7, 3) := by decide +kernel
theorem dX11_slab_82 : decode cX11_slab 82 = .ok (.iconst 0, 1) := by decide +kernel
theorem dX11_slab_83 : decode cX11_slab 83 = .ok (.goto 5, 3) := by decide +kernel
theorem dX11_slab_86 : decode cX11_slab 86 = .ok (.bipush 8, 2) := by decide +kernel
theorem dX11_slab_88 : decode cX11_slab 88 = .ok (.iload_n 1, 1) := by decide +kernel
theorem dX11_slab_89 : decode cX11_slab 89 = .ok (.iadd, 1) := by decide +kernel
theorem dX11_slab_90 : decode cX11_slab 90 = .ok (.iaload, 1) := by decide +kernel
theorem dX11_slab_91 : decode cX11_slab 91 = .ok (.ireturn, 1) := by decide +kernel
theorem dX11_slab_92 : decode cX11_slab 92 = .ok (.iload_n 2, 1) := by decide +kernel
theorem dX11_slab_93 : decode cX11_slab 93 = .ok (.iconst 4, 1) := by decide +kernel
theorem dX11_slab_94 : decode cX11_slab 94 = .ok (.if_icmp .ne 10, 3) := by decide +kernel
theorem dX11_slab_97 : decode cX11_slab 97 = .ok (.aload_n 0, 1) := by decide +kernel
theorem dX11_slab_98 : decode cX11_slab 98 = .ok (.iconst 1, 1) := by decide +kernel
theorem dX11_slab_99 : decode cX11_slab 99 = .ok (.iload_n 1, 1) := by decide +kernel
theorem dX11_slab_100 : decode cX11_slab 100 = .ok (.invokevirtual 363, 3) := by decide +kernel
theorem dX11_slab_103 : decode cX11_slab 103 = .ok (.ireturn, 1) := by decide +kernel
theorem dX11_slab_104 : decode cX11_slab 104 = .ok (.iconst 0, 1) := by decide +kernel
theorem dX11_slab_105 : decode cX11_slab 105 = .ok (.istore_n 3, 1) := by decide +kernel
theorem dX11_slab_106 : decode cX11_slab 106 = .ok (.iconst 0, 1) := by decide +kernel
theorem dX11_slab_107 : decode cX11_slab 107 = .ok (.istore 4, 2) := by decide +kernel
theorem dX11_slab_109 : decode cX11_slab 109 = .ok (.iload 4, 2) := by decide +kernel
theorem dX11_slab_111 : decode cX11_slab 111 = .ok (.aload_n 0, 1) := by decide +kernel
theorem dX11_slab_112 : decode cX11_slab 112 = .ok (.getfield 157, 3) := by decide +kernel
theorem dX11_slab_115 : decode cX11_slab 115 = .ok (.if_icmp .ge 26, 3) := by decide +kernel
theorem dX11_slab_118 : decode cX11_slab 118 = .ok (.iload_n 3, 1) := by decide +kernel
theorem dX11_slab_119 : decode cX11_slab 119 = .ok (.aload_n 0, 1) := by decide +kernel
theorem dX11_slab_120 : decode cX11_slab 120 = .ok (.getfield 38, 3) := by decide +kernel
theorem dX11_slab_123 : decode cX11_slab 123 = .ok (.iload 4, 2) := by decide +kernel
theorem dX11_slab_125 : decode cX11_slab 125 = .ok (.iaload, 1) := by decide +kernel
theorem dX11_slab_126 : decode cX11_slab 126 = .ok (.iload_n 1, 1) := by decide +kernel
theorem dX11_slab_127 : decode cX11_slab 127 = .ok (.ishr, 1) := by decide +kernel
theorem dX11_slab_128 : decode cX11_slab 128 = .ok (.iconst 1, 1) := by decide +kernel
theorem dX11_slab_129 : decode cX11_slab 129 = .ok (.iand, 1) := by decide +kernel
theorem dX11_slab_130 : decode cX11_slab 130 = .ok (.iload 4, 2) := by decide +kernel
theorem dX11_slab_132 : decode cX11_slab 132 = .ok (.ishl, 1) := by decide +kernel
theorem dX11_slab_133 : decode cX11_slab 133 = .ok (.ior, 1) := by decide +kernel
theorem dX11_slab_134 : decode cX11_slab 134 = .ok (.istore_n 3, 1) := by decide +kernel
theorem dX11_slab_135 : decode cX11_slab 135 = .ok (.iinc 4 1, 3) := by decide +kernel
theorem dX11_slab_138 : decode cX11_slab 138 = .ok (.goto (-29), 3) := by decide +kernel
theorem dX11_slab_141 : decode cX11_slab 141 = .ok (.iload_n 3, 1) := by decide +kernel
theorem dX11_slab_142 : decode cX11_slab 142 = .ok (.ireturn, 1) := by decide +kernel
theorem dX11_soul_0 : decode cX11_soul 0 = .ok (.aload_n 0, 1) := by decide +kernel
theorem dX11_soul_1 : decode cX11_soul 1 = .ok (.iconst 0, 1) := by decide +kernel
theorem dX11_soul_2 : decode cX11_soul 2 = .ok (.putfield 3, 3) := by decide +kernel
theorem dX11_soul_5 : decode cX11_soul 5 = .ok (.aload_n 0, 1) := by decide +kernel
theorem dX11_soul_6 : decode cX11_soul 6 = .ok (.iload_n 1, 1) := by decide +kernel
theorem dX11_soul_7 : decode cX11_soul 7 = .ok (.iconst 1, 1) := by decide +kernel
theorem dX11_soul_8 : decode cX11_soul 8 = .ok (.invokevirtual 369, 3) := by decide +kernel
theorem dX11_soul_11 : decode cX11_soul 11 = .ok (.ifCond .eq 18, 3) := by decide +kernel
theorem dX11_soul_14 : decode cX11_soul 14 = .ok (.aload_n 0, 1) := by decide +kernel
theorem dX11_soul_15 : decode cX11_soul 15 = .ok (.iload_n 2, 1) := by decide +kernel
theorem dX11_soul_16 : decode cX11_soul 16 = .ok (.iconst 0, 1) := by decide +kernel
theorem dX11_soul_17 : decode cX11_soul 17 = .ok (.iconst 5, 1) := by decide +kernel
theorem dX11_soul_18 : decode cX11_soul 18 = .ok (.invokestatic 348, 3) := by decide +kernel
theorem dX11_soul_21 : decode cX11_soul 21 = .ok (.iconst 2, 1) := by decide +kernel
theorem dX11_soul_22 : decode cX11_soul 22 = .ok (.iconst 1, 1) := by decide +kernel
theorem dX11_soul_23 : decode cX11_soul 23 = .ok (.invokevirtual 190, 3) := by decide +kernel
theorem dX11_soul_26 : decode cX11_soul 26 = .ok (.ifCond .ne 5, 3) := by decide +kernel
theorem dX11_soul_29 : decode cX11_soul 29 = .ok (.iconst 0, 1) := by decide +kernel
theorem dX11_soul_30 : decode cX11_soul 30 = .ok (.ireturn, 1) := by decide +kernel
theorem dX11_soul_31 : decode cX11_soul 31 = .ok (.aload_n 0, 1) := by decide +kernel
theorem dX11_soul_32 : decode cX11_soul 32 = .ok (.invokevirtual 293, 3) := by decide +kernel
theorem dX11_soul_35 : decode cX11_soul 35 = .ok (.aload_n 0, 1) := by decide +kernel
theorem dX11_soul_36 : decode cX11_soul 36 = .ok (.iconst 0, 1) := by decide +kernel
theorem dX11_soul_37 : decode cX11_soul 37 = .ok (.iload_n 1, 1) := by decide +kernel
theorem dX11_soul_38 : decode cX11_soul 38 = .ok (.invokevirtual 363, 3) := by decide +kernel
theorem dX11_soul_41 : decode cX11_soul 41 = .ok (.istore_n 3, 1) := by decide +kernel
theorem dX11_soul_42 : decode cX11_soul 42 = .ok (.iload_n 2, 1) := by decide +kernel
theorem dX11_soul_43 : decode cX11_soul 43 = .ok (.iconst 4, 1) := by decide +kernel
theorem dX11_soul_44 : decode cX11_soul 44 = .ok (.if_icmp .ge 47, 3) := by decide +kernel
theorem dX11_soul_47 : decode cX11_soul 47 = .ok (.iload_n 2, 1) := by decide +kernel
theorem dX11_soul_48 : decode cX11_soul 48 = .ok (.iconst 1, 1) := by decide +kernel
theorem dX11_soul_49 : decode cX11_soul 49 = .ok (.if_icmp .ne 14, 3) := by decide +kernel
theorem dX11_soul_52 : decode cX11_soul 52 = .ok (.aload_n 0, 1) := by decide +kernel
theorem dX11_soul_53 : decode cX11_soul 53 = .ok (.getfield 35, 3) := by decide +kernel
theorem dX11_soul_56 : decode cX11_soul 56 = .ok (.iconst 2, 1) := by decide +kernel
theorem dX11_soul_57 : decode cX11_soul 57 = .ok (.iload_n 1, 1) := by decide +kernel
theorem dX11_soul_58 : decode cX11_soul 58 = .ok (.imul, 1) := by decide +kernel
theorem dX11_soul_59 : decode cX11_soul 59 = .ok (.iaload, 1) := by decide +kernel
theorem dX11_soul_60 : decode cX11_soul 60 = .ok (.goto 30, 3) := by decide +kernel
theorem dX11_soul_63 : decode cX11_soul 63 = .ok (.iload_n 2, 1) := by decide +kernel
theorem dX11_soul_64 : decode cX11_soul 64 = .ok (.iconst 3, 1) := by decide +kernel
theorem dX11_soul_65 : decode cX11_soul 65 = .ok (.if_icmp .ne 7, 3) := by decide +kernel
theorem dX11_soul_68 : decode cX11_soul 68 = .ok (.iload_n 3, 1) := by decide +kernel
theorem dX11_soul_69 : decode cX11_soul 69 = .ok (.goto 21, 3) := by decide +kernel
theorem dX11_soul_72 : decode cX11_soul 72 = .ok (.aload_n 0, 1) := by decide +kernel
theorem dX11_soul_73 : decode cX11_soul 73 = .ok (.getfield 68, 3) := by decide +kernel
theorem dX11_soul_76 : decode cX11_soul 76 = .ok (.iload_n 2, 1) := by decide +kernel
theorem dX11_soul_77 : decode cX11_soul 77 = .ok (.ifCond .ne 8, 3) := by decide +kernel
theorem dX11_soul_80 : decode cX11_soul 80 = .ok (.bipush 16, 2) := by decide +kernel
theorem dX11_soul_82 : decode cX11_soul 82 = .ok (.goto 5, 3) := by decide +kernel
theorem dX11_soul_85 : decode cX11_soul 85 = .ok (.bipush 22, 2) := by decide +kernel
theorem dX11_soul_87 : decode cX11_soul 87 = .ok (.iload_n 1, 1) := by decide +kernel
theorem dX11_soul_88 : decode cX11_soul 88 = .ok (.iadd, 1) := by decide +kernel
theorem dX11_soul_89 : decode cX11_soul 89 = .ok (.iaload, 1) := by decide +kernel
theorem dX11_soul_90 : decode cX11_soul 90 = .ok (.ireturn, 1) := by decide +kernel
theorem dX11_soul_91 : decode cX11_soul 91 = .ok (.iload_n 2, 1) := by decide +kernel
theorem dX11_soul_92 : decode cX11_soul 92 = .ok (.iconst 4, 1) := by decide +kernel
theorem dX11_soul_93 : decode cX11_soul 93 = .ok (.if_icmp .ne 9, 3) := by decide +kernel
theorem dX11_soul_96 : decode cX11_soul 96 = .ok (.aload_n 0, 1) := by decide +kernel
theorem dX11_soul_97 : decode cX11_soul 97 = .ok (.iload_n 3, 1) := by decide +kernel
theorem dX11_soul_98 : decode cX11_soul 98 = .ok (.invokevirtual 360, 3) := by decide +kernel
theorem dX11_soul_101 : decode cX11_soul 101 = .ok (.ireturn, 1) := by decide +kernel
theorem dX11_soul_102 : decode cX11_soul 102 = .ok (.iconst 0, 1) := by decide +kernel
theorem dX11_soul_103 : decode cX11_soul 103 = .ok (.istore 4, 2) := by decide +kernel
theorem dX11_soul_105 : decode cX11_soul 105 = .ok (.iconst 0, 1) := by decide +kernel
theorem dX11_soul_106 : decode cX11_soul 106 = .ok (.istore 5, 2) := by decide +kernel
theorem dX11_soul_108 : decode cX11_soul 108 = .ok (.iload 5, 2) := by decide +kernel
theorem dX11_soul_110 : decode cX11_soul 110 = .ok (.aload_n 0, 1) := by decide +kernel
theorem dX11_soul_111 : decode cX11_soul 111 = .ok (.getfield 68, 3) := by decide +kernel
theorem dX11_soul_114 : decode cX11_soul 114 = .ok (.bipush 88, 2) := by decide +kernel
theorem dX11_soul_116 : decode cX11_soul 116 = .ok (.iaload, 1) := by decide +kernel
theorem dX11_soul_117 : decode cX11_soul 117 = .ok (.if_icmp .ge 28, 3) := by decide +kernel
theorem dX11_soul_120 : decode cX11_soul 120 = .ok (.iload 4, 2) := by decide +kernel
theorem dX11_soul_122 : decode cX11_soul 122 = .ok (.iload_n 3, 1) := by decide +kernel
theorem dX11_soul_123 : decode cX11_soul 123 = .ok (.iload 5, 2) := by decide +kernel
theorem dX11_soul_125 : decode cX11_soul 125 = .ok (.ishr, 1) := by decide +kernel
theorem dX11_soul_126 : decode cX11_soul 126 = .ok (.iconst 1, 1) := by decide +kernel
theorem dX11_soul_127 : decode cX11_soul 127 = .ok (.iand, 1) := by decide +kernel
theorem dX11_soul_128 : decode cX11_soul 128 = .ok (.aload_n 0, 1) := by decide +kernel
theorem dX11_soul_129 : decode cX11_soul 129 = .ok (.iload 5, 2) := by decide +kernel
theorem dX11_soul_131 : decode cX11_soul 131 = .ok (.iconst 2, 1) := by decide +kernel
theorem dX11_soul_132 : decode cX11_soul 132 = .ok (.invokevirtual 314, 3) := by decide +kernel
theorem dX11_soul_135 : decode cX11_soul 135 = .ok (.imul, 1) := by decide +kernel
theorem dX11_soul_136 : decode cX11_soul 136 = .ok (.iadd, 1) := by decide +kernel
theorem dX11_soul_137 : decode cX11_soul 137 = .ok (.istore 4, 2) := by decide +kernel
theorem dX11_soul_139 : decode cX11_soul 139 = .ok (.iinc 5 1, 3) := by decide +kernel
theorem dX11_soul_142 : decode cX11_soul 142 = .ok (.goto (-34), 3) := by decide +kernel
theorem dX11_soul_145 : decode cX11_soul 145 = .ok (.iload 4, 2) := by decide +kernel
theorem dX11_soul_147 : decode cX11_soul 147 = .ok (.ireturn, 1) := by decide +kernel
theorem dX11_loan_0 : decode cX11_loan 0 = .ok (.aload_n 0, 1) := by decide +kernel
theorem dX11_loan_1 : decode cX11_loan 1 = .ok (.iconst 0, 1) := by decide +kernel
theorem dX11_loan_2 : decode cX11_loan 2 = .ok (.putfield 3, 3) := by decide +kernel
theorem dX11_loan_5 : decode cX11_loan 5 = .ok (.aload_n 0, 1) := by decide +kernel
theorem dX11_loan_6 : decode cX11_loan 6 = .ok (.iload_n 1, 1) := by decide +kernel
theorem dX11_loan_7 : decode cX11_loan 7 = .ok (.iconst 0, 1) := by decide +kernel
theorem dX11_loan_8 : decode cX11_loan 8 = .ok (.aload_n 0, 1) := by decide +kernel
theorem dX11_loan_9 : decode cX11_loan 9 = .ok (.getfield 65, 3) := by decide +kernel
theorem dX11_loan_12 : decode cX11_loan 12 = .ok (.bipush 88, 2) := by decide +kernel
theorem dX11_loan_14 : decode cX11_loan 14 = .ok (.iaload, 1) := by decide +kernel
theorem dX11_loan_15 : decode cX11_loan 15 = .ok (.iconst 1, 1) := by decide +kernel
theorem dX11_loan_16 : decode cX11_loan 16 = .ok (.isub, 1) := by decide +kernel
theorem dX11_loan_17 : decode cX11_loan 17 = .ok (.invokestatic 348, 3) := by decide +kernel
theorem dX11_loan_20 : decode cX11_loan 20 = .ok (.iconst 1, 1) := by decide +kernel
theorem dX11_loan_21 : decode cX11_loan 21 = .ok (.iconst 0, 1) := by decide +kernel
theorem dX11_loan_22 : decode cX11_loan 22 = .ok (.invokevirtual 190, 3) := by decide +kernel
theorem dX11_loan_25 : decode cX11_loan 25 = .ok (.ifCond .eq 19, 3) := by decide +kernel
theorem dX11_loan_28 : decode cX11_loan 28 = .ok (.aload_n 0, 1) := by decide +kernel
theorem dX11_loan_29 : decode cX11_loan 29 = .ok (.iload_n 2, 1) := by decide +kernel
theorem dX11_loan_30 : decode cX11_loan 30 = .ok (.iconst 0, 1) := by decide +kernel
theorem dX11_loan_31 : decode cX11_loan 31 = .ok (.bipush 6, 2) := by decide +kernel
theorem dX11_loan_33 : decode cX11_loan 33 = .ok (.invokestatic 348, 3) := by decide +kernel
theorem dX11_loan_36 : decode cX11_loan 36 = .ok (.iconst 2, 1) := by decide +kernel
theorem dX11_loan_37 : decode cX11_loan 37 = .ok (.iconst 1, 1) := by decide +kernel
theorem dX11_loan_38 : decode cX11_loan 38 = .ok (.invokevirtual 190, 3) := by decide +kernel
theorem dX11_loan_41 : decode cX11_loan 41 = .ok (.ifCond .ne 5, 3) := by decide +kernel
theorem dX11_loan_44 : decode cX11_loan 44 = .ok (.iconst 0, 1) := by decide +kernel
theorem dX11_loan_45 : decode cX11_loan 45 = .ok (.ireturn, 1) := by decide +kernel
theorem dX11_loan_46 : decode cX11_loan 46 = .ok (.aload_n 0, 1) := by decide +kernel
theorem dX11_loan_47 : decode cX11_loan 47 = .ok (.invokevirtual 293, 3) := by decide +kernel
theorem dX11_loan_50 : decode cX11_loan 50 = .ok (.iload_n 2, 1) := by decide +kernel
theorem dX11_loan_51 : decode cX11_loan 51 = .ok (.bipush 6, 2) := by decide +kernel
theorem dX11_loan_53 : decode cX11_loan 53 = .ok (.if_icmp .ne 11, 3) := by decide +kernel
theorem dX11_loan_56 : decode cX11_loan 56 = .ok (.aload_n 0, 1) := by decide +kernel
theorem dX11_loan_57 : decode cX11_loan 57 = .ok (.iload_n 1, 1) := by decide +kernel
theorem dX11_loan_58 : decode cX11_loan 58 = .ok (.invokevirtual 328, 3) := by decide +kernel
theorem dX11_loan_61 : decode cX11_loan 61 = .ok (.goto 9, 3) := by decide +kernel
theorem dX11_loan_64 : decode cX11_loan 64 = .ok (.aload_n 0, 1) := by decide +kernel
theorem dX11_loan_65 : decode cX11_loan 65 = .ok (.iload_n 1, 1) := by decide +kernel
theorem dX11_loan_66 : decode cX11_loan 66 = .ok (.iload_n 2, 1) := by decide +kernel
theorem dX11_loan_67 : decode cX11_loan 67 = .ok (.invokevirtual 314, 3) := by decide +kernel
theorem dX11_loan_70 : decode cX11_loan 70 = .ok (.ireturn, 1) := by decide +kernel
theorem dX11_would_0 : decode cX11_would 0 = .ok (.aload_n 0, 1) := by decide +kernel
theorem dX11_would_1 : decode cX11_would 1 = .ok (.iconst 0, 1) := by decide +kernel
theorem dX11_would_2 : decode cX11_would 2 = .ok (.putfield 3, 3) := by decide +kernel
theorem dX11_would_5 : decode cX11_would 5 = .ok (.aload_n 0, 1) := by decide +kernel
theorem dX11_would_6 : decode cX11_would 6 = .ok (.iload_n 1, 1) := by decide +kernel
theorem dX11_would_7 : decode cX11_would 7 = .ok (.iconst 1, 1) := by decide +kernel
theorem dX11_would_8 : decode cX11_would 8 = .ok (.bipush 60, 2) := by decide +kernel
theorem dX11_would_10 : decode cX11_would 10 = .ok (.invokestatic 348, 3) := by decide +kernel
theorem dX11_would_13 : decode cX11_would 13 = .ok (.ifCond .eq 81, 3) := by decide +kernel
theorem dX11_would_16 : decode cX11_would 16 = .ok (.iload_n 2, 1) := by decide +kernel
theorem dX11_would_17 : decode cX11_would 17 = .ok (.iconst 0, 1) := by decide +kernel
theorem dX11_would_18 : decode cX11_would 18 = .ok (.sipush 999, 3) := by decide +kernel
theorem dX11_would_21 : decode cX11_would 21 = .ok (.invokestatic 348, 3) := by decide +kernel
theorem dX11_would_24 : decode cX11_would 24 = .ok (.ifCond .eq 70, 3) := by decide +kernel
theorem dX11_would_27 : decode cX11_would 27 = .ok (.iload_n 3, 1) := by decide +kernel
theorem dX11_would_28 : decode cX11_would 28 = .ok (.iconst 0, 1) := by decide +kernel
theorem dX11_would_29 : decode cX11_would 29 = .ok (.iconst 5, 1) := by decide +kernel
theorem dX11_would_30 : decode cX11_would 30 = .ok (.invokestatic 348, 3) := by decide +kernel
theorem dX11_would_33 : decode cX11_would 33 = .ok (.ifCond .eq 61, 3) := by decide +kernel
theorem dX11_would_36 : decode cX11_would 36 = .ok (.iload 4, 2) := by decide +kernel
theorem dX11_would_38 : decode cX11_would 38 = .ok (.iconst 0, 1) := by decide +kernel
theorem dX11_would_39 : decode cX11_would 39 = .ok (.iconst 1, 1) := by decide +kernel
theorem dX11_would_40 : decode cX11_would 40 = .ok (.invokestatic 348, 3) := by decide +kernel
theorem dX11_would_43 : decode cX11_would 43 = .ok (.ifCond .eq 51, 3) := by decide +kernel
theorem dX11_would_46 : decode cX11_would 46 = .ok (.iload 5, 2) := by decide +kernel
theorem dX11_would_48 : decode cX11_would 48 = .ok (.iconst 0, 1) := by decide +kernel
theorem dX11_would_49 : decode cX11_would 49 = .ok (.bipush 9, 2) := by decide +kernel
theorem dX11_would_51 : decode cX11_would 51 = .ok (.invokestatic 348, 3) := by decide +kernel
theorem dX11_would_54 : decode cX11_would 54 = .ok (.ifCond .eq 40, 3) := by decide +kernel
theorem dX11_would_57 : decode cX11_would 57 = .ok (.iload 6, 2) := by decide +kernel
theorem dX11_would_59 : decode cX11_would 59 = .ok (.iconst 0, 1) := by decide +kernel
theorem dX11_would_60 : decode cX11_would 60 = .ok (.bipush 99, 2) := by decide +kernel
theorem dX11_would_62 : decode cX11_would 62 = .ok (.invokestatic 348, 3) := by decide +kernel
theorem dX11_would_65 : decode cX11_would 65 = .ok (.ifCond .eq 29, 3) := by decide +kernel
theorem dX11_would_68 : decode cX11_would 68 = .ok (.iload 7, 2) := by decide +kernel
theorem dX11_would_70 : decode cX11_would 70 = .ok (.iconst 0, 1) := by decide +kernel
theorem dX11_would_71 : decode cX11_would 71 = .ok (.sipush 999, 3) := by decide +kernel
theorem dX11_would_74 : decode cX11_would 74 = .ok (.invokestatic 348, 3) := by decide +kernel
theorem dX11_would_77 : decode cX11_would 77 = .ok (.ifCond .eq 17, 3) := by decide +kernel
theorem dX11_would_80 : decode cX11_would 80 = .ok (.iload 8, 2) := by decide +kernel
theorem dX11_would_82 : decode cX11_would 82 = .ok (.iconst 0, 1) := by decide +kernel
theorem dX11_would_83 : decode cX11_would 83 = .ok (.iconst 5, 1) := by decide +kernel
theorem dX11_would_84 : decode cX11_would 84 = .ok (.invokestatic 348, 3) := by decide +kernel
theorem dX11_would_87 : decode cX11_would 87 = .ok (.ifCond .eq 7, 3) := by decide +kernel
theorem dX11_would_90 : decode cX11_would 90 = .ok (.iconst 1, 1) := by decide +kernel
theorem dX11_would_91 : decode cX11_would 91 = .ok (.goto 4, 3) := by decide +kernel
theorem dX11_would_94 : decode cX11_would 94 = .ok (.iconst 0, 1) := by decide +kernel
theorem dX11_would_95 : decode cX11_would 95 = .ok (.iconst 1, 1) := by decide +kernel
theorem dX11_would_96 : decode cX11_would 96 = .ok (.iconst 1, 1) := by decide +kernel
theorem dX11_would_97 : decode cX11_would 97 = .ok (.invokevirtual 190, 3) := by decide +kernel
theorem dX11_would_100 : decode cX11_would 100 = .ok (.ifCond .ne 5, 3) := by decide +kernel
theorem dX11_would_103 : decode cX11_would 103 = .ok (.iconst 0, 1) := by decide +kernel
theorem dX11_would_104 : decode cX11_would 104 = .ok (.ireturn, 1) := by decide +kernel
theorem dX11_would_105 : decode cX11_would 105 = .ok (.aload_n 0, 1) := by decide +kernel
theorem dX11_would_106 : decode cX11_would 106 = .ok (.iload_n 1, 1) := by decide +kernel
theorem dX11_would_107 : decode cX11_would 107 = .ok (.iload_n 2, 1) := by decide +kernel
theorem dX11_would_108 : decode cX11_would 108 = .ok (.iload_n 3, 1) := by decide +kernel
theorem dX11_would_109 : decode cX11_would 109 = .ok (.iload 4, 2) := by decide +kernel
theorem dX11_would_111 : decode cX11_would 111 = .ok (.iload 5, 2) := by decide +kernel
theorem dX11_would_113 : decode cX11_would 113 = .ok (.iload 6, 2) := by decide +kernel
theorem dX11_would_115 : decode cX11_would 115 = .ok (.iload 7, 2) := by decide +kernel
theorem dX11_would_117 : decode cX11_would 117 = .ok (.iload 8, 2) := by decide +kernel
theorem dX11_would_119 : decode cX11_would 119 = .ok (.invokevirtual 317, 3) := by decide +kernel
theorem dX11_would_122 : decode cX11_would 122 = .ok (.ireturn, 1) := by decide +kernel
theorem dX11_lends_0 : decode cX11_lends 0 = .ok (.aload_n 0, 1) := by decide +kernel
theorem dX11_lends_1 : decode cX11_lends 1 = .ok (.iconst 0, 1) := by decide +kernel
theorem dX11_lends_2 : decode cX11_lends 2 = .ok (.putfield 3, 3) := by decide +kernel
theorem dX11_lends_5 : decode cX11_lends 5 = .ok (.aload_n 0, 1) := by decide +kernel
theorem dX11_lends_6 : decode cX11_lends 6 = .ok (.iload_n 1, 1) := by decide +kernel
theorem dX11_lends_7 : decode cX11_lends 7 = .ok (.iconst 1, 1) := by decide +kernel
theorem dX11_lends_8 : decode cX11_lends 8 = .ok (.invokevirtual 369, 3) := by decide +kernel
theorem dX11_lends_11 : decode cX11_lends 11 = .ok (.ifCond .eq 28, 3) := by decide +kernel
theorem dX11_lends_14 : decode cX11_lends 14 = .ok (.aload_n 0, 1) := by decide +kernel
theorem dX11_lends_15 : decode cX11_lends 15 = .ok (.iload_n 2, 1) := by decide +kernel
theorem dX11_lends_16 : decode cX11_lends 16 = .ok (.iconst 1, 1) := by decide +kernel
theorem dX11_lends_17 : decode cX11_lends 17 = .ok (.invokevirtual 366, 3) := by decide +kernel
theorem dX11_lends_20 : decode cX11_lends 20 = .ok (.ifCond .eq 19, 3) := by decide +kernel
theorem dX11_lends_23 : decode cX11_lends 23 = .ok (.aload_n 0, 1) := by decide +kernel
theorem dX11_lends_24 : decode cX11_lends 24 = .ok (.iload_n 3, 1) := by decide +kernel
theorem dX11_lends_25 : decode cX11_lends 25 = .ok (.iconst 1, 1) := by decide +kernel
theorem dX11_lends_26 : decode cX11_lends 26 = .ok (.bipush 60, 2) := by decide +kernel
theorem dX11_lends_28 : decode cX11_lends 28 = .ok (.invokestatic 348, 3) := by decide +kernel
theorem dX11_lends_31 : decode cX11_lends 31 = .ok (.iconst 2, 1) := by decide +kernel
theorem dX11_lends_32 : decode cX11_lends 32 = .ok (.iconst 1, 1) := by decide +kernel
theorem dX11_lends_33 : decode cX11_lends 33 = .ok (.invokevirtual 190, 3) := by decide +kernel
theorem dX11_lends_36 : decode cX11_lends 36 = .ok (.ifCond .ne 5, 3) := by decide +kernel
theorem dX11_lends_39 : decode cX11_lends 39 = .ok (.iconst 0, 1) := by decide +kernel
theorem dX11_lends_40 : decode cX11_lends 40 = .ok (.ireturn, 1) := by decide +kernel
theorem dX11_lends_41 : decode cX11_lends 41 = .ok (.aload_n 0, 1) := by decide +kernel
theorem dX11_lends_42 : decode cX11_lends 42 = .ok (.invokevirtual 293, 3) := by decide +kernel
theorem dX11_lends_45 : decode cX11_lends 45 = .ok (.aload_n 0, 1) := by decide +kernel
theorem dX11_lends_46 : decode cX11_lends 46 = .ok (.iload_n 1, 1) := by decide +kernel
theorem dX11_lends_47 : decode cX11_lends 47 = .ok (.iload_n 2, 1) := by decide +kernel
theorem dX11_lends_48 : decode cX11_lends 48 = .ok (.iload_n 3, 1) := by decide +kernel
theorem dX11_lends_49 : decode cX11_lends 49 = .ok (.invokevirtual 325, 3) := by decide +kernel
theorem dX11_lends_52 : decode cX11_lends 52 = .ok (.ireturn, 1) := by decide +kernel
theorem dX11_ahead_0 : decode cX11_ahead 0 = .ok (.aload_n 0, 1) := by decide +kernel
theorem dX11_ahead_1 : decode cX11_ahead 1 = .ok (.iconst 0, 1) := by decide +kernel
theorem dX11_ahead_2 : decode cX11_ahead 2 = .ok (.putfield 3, 3) := by decide +kernel
theorem dX11_ahead_5 : decode cX11_ahead 5 = .ok (.aload_n 0, 1) := by decide +kernel
theorem dX11_ahead_6 : decode cX11_ahead 6 = .ok (.iload_n 1, 1) := by decide +kernel
theorem dX11_ahead_7 : decode cX11_ahead 7 = .ok (.iconst 0, 1) := by decide +kernel
theorem dX11_ahead_8 : decode cX11_ahead 8 = .ok (.bipush 99, 2) := by decide +kernel
theorem dX11_ahead_10 : decode cX11_ahead 10 = .ok (.invokestatic 348, 3) := by decide +kernel
theorem dX11_ahead_13 : decode cX11_ahead 13 = .ok (.ifCond .eq 16, 3) := by decide +kernel
theorem dX11_ahead_16 : decode cX11_ahead 16 = .ok (.iload_n 2, 1) := by decide +kernel
theorem dX11_ahead_17 : decode cX11_ahead 17 = .ok (.iconst 0, 1) := by decide +kernel
theorem dX11_ahead_18 : decode cX11_ahead 18 = .ok (.iconst 2, 1) := by decide +kernel
theorem dX11_ahead_19 : decode cX11_ahead 19 = .ok (.invokestatic 348, 3) := by decide +kernel
theorem dX11_ahead_22 : decode cX11_ahead 22 = .ok (.ifCond .eq 7, 3) := by decide +kernel
theorem dX11_ahead_25 : decode cX11_ahead 25 = .ok (.iconst 1, 1) := by decide +kernel
theorem dX11_ahead_26 : decode cX11_ahead 26 = .ok (.goto 4, 3) := by decide +kernel
theorem dX11_ahead_29 : decode cX11_ahead 29 = .ok (.iconst 0, 1) := by decide +kernel
theorem dX11_ahead_30 : decode cX11_ahead 30 = .ok (.iconst 1, 1) := by decide +kernel
theorem dX11_ahead_31 : decode cX11_ahead 31 = .ok (.iconst 1, 1) := by decide +kernel
theorem dX11_ahead_32 : decode cX11_ahead 32 = .ok (.invokevirtual 190, 3) := by decide +kernel
theorem dX11_ahead_35 : decode cX11_ahead 35 = .ok (.ifCond .ne 5, 3) := by decide +kernel
theorem dX11_ahead_38 : decode cX11_ahead 38 = .ok (.iconst 0, 1) := by decide +kernel
theorem dX11_ahead_39 : decode cX11_ahead 39 = .ok (.ireturn, 1) := by decide +kernel
theorem dX11_ahead_40 : decode cX11_ahead 40 = .ok (.aload_n 0, 1) := by decide +kernel
theorem dX11_ahead_41 : decode cX11_ahead 41 = .ok (.invokevirtual 293, 3) := by decide +kernel
theorem dX11_ahead_44 : decode cX11_ahead 44 = .ok (.iconst 0, 1) := by decide +kernel
theorem dX11_ahead_45 : decode cX11_ahead 45 = .ok (.istore_n 3, 1) := by decide +kernel
theorem dX11_ahead_46 : decode cX11_ahead 46 = .ok (.iload_n 3, 1) := by decide +kernel
theorem dX11_ahead_47 : decode cX11_ahead 47 = .ok (.iload_n 1, 1) := by decide +kernel
theorem dX11_ahead_48 : decode cX11_ahead 48 = .ok (.if_icmp .ge 13, 3) := by decide +kernel
theorem dX11_ahead_51 : decode cX11_ahead 51 = .ok (.aload_n 0, 1) := by decide +kernel
theorem dX11_ahead_52 : decode cX11_ahead 52 = .ok (.invokevirtual 345, 3) := by decide +kernel
theorem dX11_ahead_55 : decode cX11_ahead 55 = .ok (.iinc 3 1, 3) := by decide +kernel
theorem dX11_ahead_58 : decode cX11_ahead 58 = .ok (.goto (-12), 3) := by decide +kernel
theorem dX11_ahead_61 : decode cX11_ahead 61 = .ok (.iload_n 2, 1) := by decide +kernel
theorem dX11_ahead_62 : decode cX11_ahead 62 = .ok (.ifCond .ne 14, 3) := by decide +kernel
theorem dX11_ahead_65 : decode cX11_ahead 65 = .ok (.aload_n 0, 1) := by decide +kernel
theorem dX11_ahead_66 : decode cX11_ahead 66 = .ok (.aload_n 0, 1) := by decide +kernel
theorem dX11_ahead_67 : decode cX11_ahead 67 = .ok (.invokevirtual 357, 3) := by decide +kernel
theorem dX11_ahead_70 : decode cX11_ahead 70 = .ok (.invokevirtual 360, 3) := by decide +kernel
theorem dX11_ahead_73 : decode cX11_ahead 73 = .ok (.goto 21, 3) := by decide +kernel
theorem dX11_ahead_76 : decode cX11_ahead 76 = .ok (.iload_n 2, 1) := by decide +kernel
theorem dX11_ahead_77 : decode cX11_ahead 77 = .ok (.iconst 1, 1) := by decide +kernel
theorem dX11_ahead_78 : decode cX11_ahead 78 = .ok (.if_icmp .ne 10, 3) := by decide +kernel
theorem dX11_ahead_81 : decode cX11_ahead 81 = .ok (.aload_n 0, 1) := by decide +kernel
theorem dX11_ahead_82 : decode cX11_ahead 82 = .ok (.invokevirtual 351, 3) := by decide +kernel
theorem dX11_ahead_85 : decode cX11_ahead 85 = .ok (.goto 9, 3) := by decide +kernel
theorem dX11_ahead_88 : decode cX11_ahead 88 = .ok (.aload_n 0, 1) := by decide +kernel
theorem dX11_ahead_89 : decode cX11_ahead 89 = .ok (.iconst 5, 1) := by decide +kernel
theorem dX11_ahead_90 : decode cX11_ahead 90 = .ok (.iconst 1, 1) := by decide +kernel
theorem dX11_ahead_91 : decode cX11_ahead 91 = .ok (.invokevirtual 363, 3) := by decide +kernel
theorem dX11_ahead_94 : decode cX11_ahead 94 = .ok (.ireturn, 1) := by decide +kernel
theorem dX11_cheapest_0 : decode cX11_cheapest 0 = .ok (.aload_n 0, 1) := by decide +kernel
theorem dX11_cheapest_1 : decode cX11_cheapest 1 = .ok (.iconst 0, 1) := by decide +kernel
theorem dX11_cheapest_2 : decode cX11_cheapest 2 = .ok (.putfield 3, 3) := by decide +kernel
theorem dX11_cheapest_5 : decode cX11_cheapest 5 = .ok (.aload_n 0, 1) := by decide +kernel
theorem dX11_cheapest_6 : decode cX11_cheapest 6 = .ok (.iload_n 1, 1) := by decide +kernel
theorem dX11_cheapest_7 : decode cX11_cheapest 7 = .ok (.iconst 1, 1) := by decide +kernel
theorem dX11_cheapest_8 : decode cX11_cheapest 8 = .ok (.invokevirtual 369, 3) := by decide +kernel
theorem dX11_cheapest_11 : decode cX11_cheapest 11 = .ok (.ifCond .eq 47, 3) := by decide +kernel
theorem dX11_cheapest_14 : decode cX11_cheapest 14 = .ok (.aload_n 0, 1) := by decide +kernel
theorem dX11_cheapest_15 : decode cX11_cheapest 15 = .ok (.iload_n 2, 1) := by decide +kernel
theorem dX11_cheapest_16 : decode cX11_cheapest 16 = .ok (.iconst 0, 1) := by decide +kernel
theorem dX11_cheapest_17 : decode cX11_cheapest 17 = .ok (.iconst 5, 1) := by decide +kernel
theorem dX11_cheapest_18 : decode cX11_cheapest 18 = .ok (.invokestatic 348, 3) := by decide +kernel
theorem dX11_cheapest_21 : decode cX11_cheapest 21 = .ok (.ifCond .eq 28, 3) := by decide +kernel
theorem dX11_cheapest_24 : decode cX11_cheapest 24 = .ok (.iload_n 3, 1) := by decide +kernel
theorem dX11_cheapest_25 : decode cX11_cheapest 25 = .ok (.iconst 1, 1) := by decide +kernel
theorem dX11_cheapest_26 : decode cX11_cheapest 26 = .ok (.bipush 60, 2) := by decide +kernel
theorem dX11_cheapest_28 : decode cX11_cheapest 28 = .ok (.invokestatic 348, 3) := by decide +kernel
theorem dX11_cheapest_31 : decode cX11_cheapest 31 = .ok (.ifCond .eq 18, 3) := by decide +kernel
theorem dX11_cheapest_34 : decode cX11_cheapest 34 = .ok (.iload 4, 2) := by decide +kernel
theorem dX11_cheapest_36 : decode cX11_cheapest 36 = .ok (.iconst 1, 1) := by decide +kernel
theorem dX11_cheapest_37 : decode cX11_cheapest 37 = .ok (.bipush 40, 2) := by decide +kernel
theorem dX11_cheapest_39 : decode cX11_cheapest 39 = .ok (.invokestatic 348, 3) := by decide +kernel
theorem dX11_cheapest_42 : decode cX11_cheapest 42 = .ok (.ifCond .eq 7, 3) := by decide +kernel
theorem dX11_cheapest_45 : decode cX11_cheapest 45 = .ok (.iconst 1, 1) := by decide +kernel
theorem dX11_cheapest_46 : decode cX11_cheapest 46 = .ok (.goto 4, 3) := by decide +kernel
theorem dX11_cheapest_49 : decode cX11_cheapest 49 = .ok (.iconst 0, 1) := by decide +kernel
theorem dX11_cheapest_50 : decode cX11_cheapest 50 = .ok (.iconst 2, 1) := by decide +kernel
theorem dX11_cheapest_51 : decode cX11_cheapest 51 = .ok (.iconst 1, 1) := by decide +kernel
theorem dX11_cheapest_52 : decode cX11_cheapest 52 = .ok (.invokevirtual 190, 3) := by decide +kernel
theorem dX11_cheapest_55 : decode cX11_cheapest 55 = .ok (.ifCond .ne 5, 3) := by decide +kernel
theorem dX11_cheapest_58 : decode cX11_cheapest 58 = .ok (.iconst 0, 1) := by decide +kernel
theorem dX11_cheapest_59 : decode cX11_cheapest 59 = .ok (.ireturn, 1) := by decide +kernel
theorem dX11_cheapest_60 : decode cX11_cheapest 60 = .ok (.aload_n 0, 1) := by decide +kernel
theorem dX11_cheapest_61 : decode cX11_cheapest 61 = .ok (.invokevirtual 293, 3) := by decide +kernel
theorem dX11_cheapest_64 : decode cX11_cheapest 64 = .ok (.iconst (-1), 1) := by decide +kernel
theorem dX11_cheapest_65 : decode cX11_cheapest 65 = .ok (.istore 5, 2) := by decide +kernel
theorem dX11_cheapest_67 : decode cX11_cheapest 67 = .ok (.iconst (-1), 1) := by decide +kernel
theorem dX11_cheapest_68 : decode cX11_cheapest 68 = .ok (.istore 6, 2) := by decide +kernel
theorem dX11_cheapest_70 : decode cX11_cheapest 70 = .ok (.iconst 0, 1) := by decide +kernel
theorem dX11_cheapest_71 : decode cX11_cheapest 71 = .ok (.istore 7, 2) := by decide +kernel
theorem dX11_cheapest_73 : decode cX11_cheapest 73 = .ok (.iload 7, 2) := by decide +kernel
theorem dX11_cheapest_75 : decode cX11_cheapest 75 = .ok (.aload_n 0, 1) := by decide +kernel
theorem dX11_cheapest_76 : decode cX11_cheapest 76 = .ok (.getfield 154, 3) := by decide +kernel
theorem dX11_cheapest_79 : decode cX11_cheapest 79 = .ok (.if_icmp .ge 112, 3) := by decide +kernel
theorem dX11_cheapest_82 : decode cX11_cheapest 82 = .ok (.aload_n 0, 1) := by decide +kernel
theorem dX11_cheapest_83 : decode cX11_cheapest 83 = .ok (.getfield 32, 3) := by decide +kernel
theorem dX11_cheapest_86 : decode cX11_cheapest 86 = .ok (.iconst 2, 1) := by decide +kernel
theorem dX11_cheapest_87 : decode cX11_cheapest 87 = .ok (.iload 7, 2) := by decide +kernel
theorem dX11_cheapest_89 : decode cX11_cheapest 89 = .ok (.imul, 1) := by decide +kernel
theorem dX11_cheapest_90 : decode cX11_cheapest 90 = .ok (.iaload, 1) := by decide +kernel
theorem dX11_cheapest_91 : decode cX11_cheapest 91 = .ok (.iload_n 2, 1) := by decide +kernel
theorem dX11_cheapest_92 : decode cX11_cheapest 92 = .ok (.if_icmp .ne 93, 3) := by decide +kernel
theorem dX11_cheapest_95 : decode cX11_cheapest 95 = .ok (.aload_n 0, 1) := by decide +kernel
theorem dX11_cheapest_96 : decode cX11_cheapest 96 = .ok (.iload_n 1, 1) := by decide +kernel
theorem dX11_cheapest_97 : decode cX11_cheapest 97 = .ok (.iload 7, 2) := by decide +kernel
theorem dX11_cheapest_99 : decode cX11_cheapest 99 = .ok (.iload_n 3, 1) := by decide +kernel
theorem dX11_cheapest_100 : decode cX11_cheapest 100 = .ok (.invokevirtual 325, 3) := by decide +kernel
theorem dX11_cheapest_103 : decode cX11_cheapest 103 = .ok (.ifCond .ne 6, 3) := by decide +kernel
theorem dX11_cheapest_106 : decode cX11_cheapest 106 = .ok (.goto 79, 3) := by decide +kernel
theorem dX11_cheapest_109 : decode cX11_cheapest 109 = .ok (.aload_n 0, 1) := by decide +kernel
theorem dX11_cheapest_110 : decode cX11_cheapest 110 = .ok (.iload_n 3, 1) := by decide +kernel
theorem dX11_cheapest_111 : decode cX11_cheapest 111 = .ok (.iload 4, 2) := by decide +kernel
theorem dX11_cheapest_113 : decode cX11_cheapest 113 = .ok (.iload_n 2, 1) := by decide +kernel
theorem dX11_cheapest_114 : decode cX11_cheapest 114 = .ok (.aload_n 0, 1) := by decide +kernel
theorem dX11_cheapest_115 : decode cX11_cheapest 115 = .ok (.getfield 38, 3) := by decide +kernel
theorem dX11_cheapest_118 : decode cX11_cheapest 118 = .ok (.iload_n 1, 1) := by decide +kernel
theorem dX11_cheapest_119 : decode cX11_cheapest 119 = .ok (.iaload, 1) := by decide +kernel
theorem dX11_cheapest_120 : decode cX11_cheapest 120 = .ok (.iload 7, 2) := by decide +kernel
theorem dX11_cheapest_122 : decode cX11_cheapest 122 = .ok (.ishr, 1) := by decide +kernel
theorem dX11_cheapest_123 : decode cX11_cheapest 123 = .ok (.iconst 1, 1) := by decide +kernel
theorem dX11_cheapest_124 : decode cX11_cheapest 124 = .ok (.iand, 1) := by decide +kernel
theorem dX11_cheapest_125 : decode cX11_cheapest 125 = .ok (.aload_n 0, 1) := by decide +kernel
theorem dX11_cheapest_126 : decode cX11_cheapest 126 = .ok (.getfield 68, 3) := by decide +kernel
theorem dX11_cheapest_129 : decode cX11_cheapest 129 = .ok (.bipush 16, 2) := by decide +kernel
theorem dX11_cheapest_131 : decode cX11_cheapest 131 = .ok (.iload_n 1, 1) := by decide +kernel
theorem dX11_cheapest_132 : decode cX11_cheapest 132 = .ok (.iadd, 1) := by decide +kernel
theorem dX11_cheapest_133 : decode cX11_cheapest 133 = .ok (.iaload, 1) := by decide +kernel
theorem dX11_cheapest_134 : decode cX11_cheapest 134 = .ok (.aload_n 0, 1) := by decide +kernel
theorem dX11_cheapest_135 : decode cX11_cheapest 135 = .ok (.getfield 68, 3) := by decide +kernel
theorem dX11_cheapest_138 : decode cX11_cheapest 138 = .ok (.iconst 0, 1) := by decide +kernel
theorem dX11_cheapest_139 : decode cX11_cheapest 139 = .ok (.iload 7, 2) := by decide +kernel
theorem dX11_cheapest_141 : decode cX11_cheapest 141 = .ok (.iadd, 1) := by decide +kernel
theorem dX11_cheapest_142 : decode cX11_cheapest 142 = .ok (.iaload, 1) := by decide +kernel
theorem dX11_cheapest_143 : decode cX11_cheapest 143 = .ok (.iload_n 3, 1) := by decide +kernel
theorem dX11_cheapest_144 : decode cX11_cheapest 144 = .ok (.isub, 1) := by decide +kernel
theorem dX11_cheapest_145 : decode cX11_cheapest 145 = .ok (.aload_n 0, 1) := by decide +kernel
theorem dX11_cheapest_146 : decode cX11_cheapest 146 = .ok (.getfield 68, 3) := by decide +kernel
theorem dX11_cheapest_149 : decode cX11_cheapest 149 = .ok (.bipush 90, 2) := by decide +kernel
theorem dX11_cheapest_151 : decode cX11_cheapest 151 = .ok (.iaload, 1) := by decide +kernel
theorem dX11_cheapest_152 : decode cX11_cheapest 152 = .ok (.iload 4, 2) := by decide +kernel
theorem dX11_cheapest_154 : decode cX11_cheapest 154 = .ok (.iadd, 1) := by decide +kernel
theorem dX11_cheapest_155 : decode cX11_cheapest 155 = .ok (.iload_n 1, 1) := by decide +kernel
theorem dX11_cheapest_156 : decode cX11_cheapest 156 = .ok (.invokevirtual 317, 3) := by decide +kernel
theorem dX11_cheapest_159 : decode cX11_cheapest 159 = .ok (.istore 8, 2) := by decide +kernel
theorem dX11_cheapest_161 : decode cX11_cheapest 161 = .ok (.iload 5, 2) := by decide +kernel
theorem dX11_cheapest_163 : decode cX11_cheapest 163 = .ok (.iconst (-1), 1) := by decide +kernel
theorem dX11_cheapest_164 : decode cX11_cheapest 164 = .ok (.if_icmp .eq 13, 3) := by decide +kernel
theorem dX11_cheapest_167 : decode cX11_cheapest 167 = .ok (.iload 8, 2) := by decide +kernel
theorem dX11_cheapest_169 : decode cX11_cheapest 169 = .ok (.iload 6, 2) := by decide +kernel
theorem dX11_cheapest_171 : decode cX11_cheapest 171 = .ok (.if_icmp .lt 6, 3) := by decide +kernel
theorem dX11_cheapest_174 : decode cX11_cheapest 174 = .ok (.goto 11, 3) := by decide +kernel
theorem dX11_cheapest_177 : decode cX11_cheapest 177 = .ok (.iload 7, 2) := by decide +kernel
theorem dX11_cheapest_179 : decode cX11_cheapest 179 = .ok (.istore 5, 2) := by decide +kernel
theorem dX11_cheapest_181 : decode cX11_cheapest 181 = .ok (.iload 8, 2) := by decide +kernel
theorem dX11_cheapest_183 : decode cX11_cheapest 183 = .ok (.istore 6, 2) := by decide +kernel
theorem dX11_cheapest_185 : decode cX11_cheapest 185 = .ok (.iinc 7 1, 3) := by decide +kernel
theorem dX11_cheapest_188 : decode cX11_cheapest 188 = .ok (.goto (-115), 3) := by decide +kernel
theorem dX11_cheapest_191 : decode cX11_cheapest 191 = .ok (.iload 5, 2) := by decide +kernel
theorem dX11_cheapest_193 : decode cX11_cheapest 193 = .ok (.ireturn, 1) := by decide +kernel
theorem dX11_ones_0 : decode cX11_ones 0 = .ok (.iconst 0, 1) := by decide +kernel
theorem dX11_ones_1 : decode cX11_ones 1 = .ok (.istore_n 1, 1) := by decide +kernel
theorem dX11_ones_2 : decode cX11_ones 2 = .ok (.iconst 0, 1) := by decide +kernel
theorem dX11_ones_3 : decode cX11_ones 3 = .ok (.istore_n 2, 1) := by decide +kernel
theorem dX11_ones_4 : decode cX11_ones 4 = .ok (.iload_n 2, 1) := by decide +kernel
theorem dX11_ones_5 : decode cX11_ones 5 = .ok (.bipush 10, 2) := by decide +kernel
theorem dX11_ones_7 : decode cX11_ones 7 = .ok (.if_icmp .ge 17, 3) := by decide +kernel
theorem dX11_ones_10 : decode cX11_ones 10 = .ok (.iload_n 1, 1) := by decide +kernel
theorem dX11_ones_11 : decode cX11_ones 11 = .ok (.iload_n 0, 1) := by decide +kernel
theorem dX11_ones_12 : decode cX11_ones 12 = .ok (.iload_n 2, 1) := by decide +kernel
theorem dX11_ones_13 : decode cX11_ones 13 = .ok (.ishr, 1) := by decide +kernel
theorem dX11_ones_14 : decode cX11_ones 14 = .ok (.iconst 1, 1) := by decide +kernel
theorem dX11_ones_15 : decode cX11_ones 15 = .ok (.iand, 1) := by decide +kernel
theorem dX11_ones_16 : decode cX11_ones 16 = .ok (.iadd, 1) := by decide +kernel
theorem dX11_ones_17 : decode cX11_ones 17 = .ok (.istore_n 1, 1) := by decide +kernel
theorem dX11_ones_18 : decode cX11_ones 18 = .ok (.iinc 2 1, 3) := by decide +kernel
theorem dX11_ones_21 : decode cX11_ones 21 = .ok (.goto (-17), 3) := by decide +kernel
theorem dX11_ones_24 : decode cX11_ones 24 = .ok (.iload_n 1, 1) := by decide +kernel
theorem dX11_ones_25 : decode cX11_ones 25 = .ok (.ireturn, 1) := by decide +kernel
theorem dX11_clears_0 : decode cX11_clears 0 = .ok (.aload_n 0, 1) := by decide +kernel
theorem dX11_clears_1 : decode cX11_clears 1 = .ok (.iconst 0, 1) := by decide +kernel
theorem dX11_clears_2 : decode cX11_clears 2 = .ok (.putfield 3, 3) := by decide +kernel
theorem dX11_clears_5 : decode cX11_clears 5 = .ok (.aload_n 0, 1) := by decide +kernel
theorem dX11_clears_6 : decode cX11_clears 6 = .ok (.iload_n 1, 1) := by decide +kernel
theorem dX11_clears_7 : decode cX11_clears 7 = .ok (.iconst 1, 1) := by decide +kernel
theorem dX11_clears_8 : decode cX11_clears 8 = .ok (.invokevirtual 369, 3) := by decide +kernel
theorem dX11_clears_11 : decode cX11_clears 11 = .ok (.ifCond .ne 5, 3) := by decide +kernel
theorem dX11_clears_14 : decode cX11_clears 14 = .ok (.iconst 0, 1) := by decide +kernel
theorem dX11_clears_15 : decode cX11_clears 15 = .ok (.ireturn, 1) := by decide +kernel
theorem dX11_clears_16 : decode cX11_clears 16 = .ok (.aload_n 0, 1) := by decide +kernel
theorem dX11_clears_17 : decode cX11_clears 17 = .ok (.invokevirtual 293, 3) := by decide +kernel
theorem dX11_clears_20 : decode cX11_clears 20 = .ok (.aload_n 0, 1) := by decide +kernel
theorem dX11_clears_21 : decode cX11_clears 21 = .ok (.iconst 0, 1) := by decide +kernel
theorem dX11_clears_22 : decode cX11_clears 22 = .ok (.iload_n 1, 1) := by decide +kernel
theorem dX11_clears_23 : decode cX11_clears 23 = .ok (.invokevirtual 363, 3) := by decide +kernel
theorem dX11_clears_26 : decode cX11_clears 26 = .ok (.istore_n 2, 1) := by decide +kernel
theorem dX11_clears_27 : decode cX11_clears 27 = .ok (.iconst 0, 1) := by decide +kernel
theorem dX11_clears_28 : decode cX11_clears 28 = .ok (.istore_n 3, 1) := by decide +kernel
theorem dX11_clears_29 : decode cX11_clears 29 = .ok (.iconst 0, 1) := by decide +kernel
theorem dX11_clears_30 : decode cX11_clears 30 = .ok (.istore 4, 2) := by decide +kernel
theorem dX11_clears_32 : decode cX11_clears 32 = .ok (.iconst 1, 1) := by decide +kernel
theorem dX11_clears_33 : decode cX11_clears 33 = .ok (.istore 5, 2) := by decide +kernel
theorem dX11_clears_35 : decode cX11_clears 35 = .ok (.iload 5, 2) := by decide +kernel
theorem dX11_clears_37 : decode cX11_clears 37 = .ok (.iload_n 2, 1) := by decide +kernel
theorem dX11_clears_38 : decode cX11_clears 38 = .ok (.if_icmp .gt 84, 3) := by decide +kernel
theorem dX11_clears_41 : decode cX11_clears 41 = .ok (.iload 5, 2) := by decide +kernel
theorem dX11_clears_43 : decode cX11_clears 43 = .ok (.iload_n 2, 1) := by decide +kernel
theorem dX11_clears_44 : decode cX11_clears 44 = .ok (.iconst (-1), 1) := by decide +kernel
theorem dX11_clears_45 : decode cX11_clears 45 = .ok (.ixor, 1) := by decide +kernel
theorem dX11_clears_46 : decode cX11_clears 46 = .ok (.iand, 1) := by decide +kernel
theorem dX11_clears_47 : decode cX11_clears 47 = .ok (.ifCond .eq 6, 3) := by decide +kernel
theorem dX11_clears_50 : decode cX11_clears 50 = .ok (.goto 66, 3) := by decide +kernel
theorem dX11_clears_53 : decode cX11_clears 53 = .ok (.aload_n 0, 1) := by decide +kernel
theorem dX11_clears_54 : decode cX11_clears 54 = .ok (.iload 5, 2) := by decide +kernel
theorem dX11_clears_56 : decode cX11_clears 56 = .ok (.invokevirtual 360, 3) := by decide +kernel
theorem dX11_clears_59 : decode cX11_clears 59 = .ok (.istore 6, 2) := by decide +kernel
theorem dX11_clears_61 : decode cX11_clears 61 = .ok (.iload 6, 2) := by decide +kernel
theorem dX11_clears_63 : decode cX11_clears 63 = .ok (.aload_n 0, 1) := by decide +kernel
theorem dX11_clears_64 : decode cX11_clears 64 = .ok (.getfield 68, 3) := by decide +kernel
theorem dX11_clears_67 : decode cX11_clears 67 = .ok (.bipush 22, 2) := by decide +kernel
theorem dX11_clears_69 : decode cX11_clears 69 = .ok (.iload_n 1, 1) := by decide +kernel
theorem dX11_clears_70 : decode cX11_clears 70 = .ok (.iadd, 1) := by decide +kernel
theorem dX11_clears_71 : decode cX11_clears 71 = .ok (.iaload, 1) := by decide +kernel
theorem dX11_clears_72 : decode cX11_clears 72 = .ok (.if_icmp .gt 44, 3) := by decide +kernel
theorem dX11_clears_75 : decode cX11_clears 75 = .ok (.iload 5, 2) := by decide +kernel
theorem dX11_clears_77 : decode cX11_clears 77 = .ok (.invokestatic 372, 3) := by decide +kernel
theorem dX11_clears_80 : decode cX11_clears 80 = .ok (.iload_n 3, 1) := by decide +kernel
theorem dX11_clears_81 : decode cX11_clears 81 = .ok (.invokestatic 372, 3) := by decide +kernel
theorem dX11_clears_84 : decode cX11_clears 84 = .ok (.if_icmp .lt 32, 3) := by decide +kernel
theorem dX11_clears_87 : decode cX11_clears 87 = .ok (.iload 5, 2) := by decide +kernel
theorem dX11_clears_89 : decode cX11_clears 89 = .ok (.invokestatic 372, 3) := by decide +kernel
theorem dX11_clears_92 : decode cX11_clears 92 = .ok (.iload_n 3, 1) := by decide +kernel
theorem dX11_clears_93 : decode cX11_clears 93 = .ok (.invokestatic 372, 3) := by decide +kernel
theorem dX11_clears_96 : decode cX11_clears 96 = .ok (.if_icmp .ne 13, 3) := by decide +kernel
theorem dX11_clears_99 : decode cX11_clears 99 = .ok (.iload 6, 2) := by decide +kernel
theorem dX11_clears_101 : decode cX11_clears 101 = .ok (.iload 4, 2) := by decide +kernel
theorem dX11_clears_103 : decode cX11_clears 103 = .ok (.if_icmp .lt 6, 3) := by decide +kernel
theorem dX11_clears_106 : decode cX11_clears 106 = .ok (.goto 10, 3) := by decide +kernel
theorem dX11_clears_109 : decode cX11_clears 109 = .ok (.iload 5, 2) := by decide +kernel
theorem dX11_clears_111 : decode cX11_clears 111 = .ok (.istore_n 3, 1) := by decide +kernel
theorem dX11_clears_112 : decode cX11_clears 112 = .ok (.iload 6, 2) := by decide +kernel
theorem dX11_clears_114 : decode cX11_clears 114 = .ok (.istore 4, 2) := by decide +kernel
theorem dX11_clears_116 : decode cX11_clears 116 = .ok (.iinc 5 1, 3) := by decide +kernel
theorem dX11_clears_119 : decode cX11_clears 119 = .ok (.goto (-84), 3) := by decide +kernel
theorem dX11_clears_122 : decode cX11_clears 122 = .ok (.iload_n 3, 1) := by decide +kernel
theorem dX11_clears_123 : decode cX11_clears 123 = .ok (.ireturn, 1) := by decide +kernel
theorem dX11_comes_0 : decode cX11_comes 0 = .ok (.aload_n 0, 1) := by decide +kernel
theorem dX11_comes_1 : decode cX11_comes 1 = .ok (.iconst 0, 1) := by decide +kernel
theorem dX11_comes_2 : decode cX11_comes 2 = .ok (.putfield 3, 3) := by decide +kernel
theorem dX11_comes_5 : decode cX11_comes 5 = .ok (.aload_n 0, 1) := by decide +kernel
theorem dX11_comes_6 : decode cX11_comes 6 = .ok (.iload_n 1, 1) := by decide +kernel
theorem dX11_comes_7 : decode cX11_comes 7 = .ok (.iconst 0, 1) := by decide +kernel
theorem dX11_comes_8 : decode cX11_comes 8 = .ok (.sipush 999, 3) := by decide +kernel
theorem dX11_comes_11 : decode cX11_comes 11 = .ok (.invokestatic 348, 3) := by decide +kernel
theorem dX11_comes_14 : decode cX11_comes 14 = .ok (.iconst 1, 1) := by decide +kernel
theorem dX11_comes_15 : decode cX11_comes 15 = .ok (.iconst 1, 1) := by decide +kernel
theorem dX11_comes_16 : decode cX11_comes 16 = .ok (.invokevirtual 190, 3) := by decide +kernel
theorem dX11_comes_19 : decode cX11_comes 19 = .ok (.ifCond .ne 5, 3) := by decide +kernel
theorem dX11_comes_22 : decode cX11_comes 22 = .ok (.iconst 0, 1) := by decide +kernel
theorem dX11_comes_23 : decode cX11_comes 23 = .ok (.ireturn, 1) := by decide +kernel
theorem dX11_comes_24 : decode cX11_comes 24 = .ok (.aload_n 0, 1) := by decide +kernel
theorem dX11_comes_25 : decode cX11_comes 25 = .ok (.invokevirtual 293, 3) := by decide +kernel
theorem dX11_comes_28 : decode cX11_comes 28 = .ok (.iconst 0, 1) := by decide +kernel
theorem dX11_comes_29 : decode cX11_comes 29 = .ok (.istore_n 2, 1) := by decide +kernel
theorem dX11_comes_30 : decode cX11_comes 30 = .ok (.iconst 0, 1) := by decide +kernel
theorem dX11_comes_31 : decode cX11_comes 31 = .ok (.istore_n 3, 1) := by decide +kernel
theorem dX11_comes_32 : decode cX11_comes 32 = .ok (.iload_n 3, 1) := by decide +kernel
theorem dX11_comes_33 : decode cX11_comes 33 = .ok (.aload_n 0, 1) := by decide +kernel
theorem dX11_comes_34 : decode cX11_comes 34 = .ok (.invokevirtual 357, 3) := by decide +kernel
theorem dX11_comes_37 : decode cX11_comes 37 = .ok (.if_icmp .gt 26, 3) := by decide +kernel
theorem dX11_comes_40 : decode cX11_comes 40 = .ok (.iload_n 2, 1) := by decide +kernel
theorem dX11_comes_41 : decode cX11_comes 41 = .ok (.aload_n 0, 1) := by decide +kernel
theorem dX11_comes_42 : decode cX11_comes 42 = .ok (.iload_n 3, 1) := by decide +kernel
theorem dX11_comes_43 : decode cX11_comes 43 = .ok (.invokevirtual 360, 3) := by decide +kernel
theorem dX11_comes_46 : decode cX11_comes 46 = .ok (.iload_n 1, 1) := by decide +kernel
theorem dX11_comes_47 : decode cX11_comes 47 = .ok (.if_icmp .ne 7, 3) := by decide +kernel
theorem dX11_comes_50 : decode cX11_comes 50 = .ok (.iconst 1, 1) := by decide +kernel
theorem dX11_comes_51 : decode cX11_comes 51 = .ok (.goto 4, 3) := by decide +kernel
theorem dX11_comes_54 : decode cX11_comes 54 = .ok (.iconst 0, 1) := by decide +kernel
theorem dX11_comes_55 : decode cX11_comes 55 = .ok (.iadd, 1) := by decide +kernel
theorem dX11_comes_56 : decode cX11_comes 56 = .ok (.istore_n 2, 1) := by decide +kernel
theorem dX11_comes_57 : decode cX11_comes 57 = .ok (.iinc 3 1, 3) := by decide +kernel
theorem dX11_comes_60 : decode cX11_comes 60 = .ok (.goto (-28), 3) := by decide +kernel
theorem dX11_comes_63 : decode cX11_comes 63 = .ok (.iload_n 2, 1) := by decide +kernel
theorem dX11_comes_64 : decode cX11_comes 64 = .ok (.ireturn, 1) := by decide +kernel
theorem dX11_tries_0 : decode cX11_tries 0 = .ok (.iload_n 1, 1) := by decide +kernel
theorem dX11_tries_1 : decode cX11_tries 1 = .ok (.aload_n 0, 1) := by decide +kernel
theorem dX11_tries_2 : decode cX11_tries 2 = .ok (.getfield 167, 3) := by decide +kernel
theorem dX11_tries_5 : decode cX11_tries 5 = .ok (.if_icmp .ne 53, 3) := by decide +kernel
theorem dX11_tries_8 : decode cX11_tries 8 = .ok (.iload_n 2, 1) := by decide +kernel
theorem dX11_tries_9 : decode cX11_tries 9 = .ok (.aload_n 0, 1) := by decide +kernel
theorem dX11_tries_10 : decode cX11_tries 10 = .ok (.getfield 375, 3) := by decide +kernel
theorem dX11_tries_13 : decode cX11_tries 13 = .ok (.if_icmp .lt 19, 3) := by decide +kernel
theorem dX11_tries_16 : decode cX11_tries 16 = .ok (.iload_n 2, 1) := by decide +kernel
theorem dX11_tries_17 : decode cX11_tries 17 = .ok (.aload_n 0, 1) := by decide +kernel
theorem dX11_tries_18 : decode cX11_tries 18 = .ok (.getfield 375, 3) := by decide +kernel
theorem dX11_tries_21 : decode cX11_tries 21 = .ok (.if_icmp .ne 12, 3) := by decide +kernel
theorem dX11_tries_24 : decode cX11_tries 24 = .ok (.iload_n 3, 1) := by decide +kernel
theorem dX11_tries_25 : decode cX11_tries 25 = .ok (.aload_n 0, 1) := by decide +kernel
theorem dX11_tries_26 : decode cX11_tries 26 = .ok (.getfield 378, 3) := by decide +kernel
theorem dX11_tries_29 : decode cX11_tries 29 = .ok (.if_icmp .gt 4, 3) := by decide +kernel
theorem dX11_tries_32 : decode cX11_tries 32 = .ok (.return_, 1) := by decide +kernel
theorem dX11_tries_33 : decode cX11_tries 33 = .ok (.aload_n 0, 1) := by decide +kernel
theorem dX11_tries_34 : decode cX11_tries 34 = .ok (.iload_n 2, 1) := by decide +kernel
theorem dX11_tries_35 : decode cX11_tries 35 = .ok (.putfield 375, 3) := by decide +kernel
theorem dX11_tries_38 : decode cX11_tries 38 = .ok (.aload_n 0, 1) := by decide +kernel
theorem dX11_tries_39 : decode cX11_tries 39 = .ok (.iload_n 3, 1) := by decide +kernel
theorem dX11_tries_40 : decode cX11_tries 40 = .ok (.putfield 378, 3) := by decide +kernel
