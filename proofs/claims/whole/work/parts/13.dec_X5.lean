theorem dX5_init_0 : decode cX5_init 0 = .ok (.aload_n 0, 1) := by decide +kernel
theorem dX5_init_1 : decode cX5_init 1 = .ok (.invokespecial 3, 3) := by decide +kernel
theorem dX5_init_4 : decode cX5_init 4 = .ok (.aload_n 0, 1) := by decide +kernel
theorem dX5_init_5 : decode cX5_init 5 = .ok (.bipush 6, 2) := by decide +kernel
theorem dX5_init_7 : decode cX5_init 7 = .ok (.newarray .int, 2) := by decide +kernel
theorem dX5_init_9 : decode cX5_init 9 = .ok (.putfield 9, 3) := by decide +kernel
theorem dX5_init_12 : decode cX5_init 12 = .ok (.aload_n 0, 1) := by decide +kernel
theorem dX5_init_13 : decode cX5_init 13 = .ok (.bipush 8, 2) := by decide +kernel
theorem dX5_init_15 : decode cX5_init 15 = .ok (.newarray .int, 2) := by decide +kernel
theorem dX5_init_17 : decode cX5_init 17 = .ok (.putfield 15, 3) := by decide +kernel
theorem dX5_init_20 : decode cX5_init 20 = .ok (.aload_n 0, 1) := by decide +kernel
theorem dX5_init_21 : decode cX5_init 21 = .ok (.bipush 8, 2) := by decide +kernel
theorem dX5_init_23 : decode cX5_init 23 = .ok (.newarray .int, 2) := by decide +kernel
theorem dX5_init_25 : decode cX5_init 25 = .ok (.putfield 18, 3) := by decide +kernel
theorem dX5_init_28 : decode cX5_init 28 = .ok (.aload_n 0, 1) := by decide +kernel
theorem dX5_init_29 : decode cX5_init 29 = .ok (.bipush 64, 2) := by decide +kernel
theorem dX5_init_31 : decode cX5_init 31 = .ok (.newarray .int, 2) := by decide +kernel
theorem dX5_init_33 : decode cX5_init 33 = .ok (.putfield 21, 3) := by decide +kernel
theorem dX5_init_36 : decode cX5_init 36 = .ok (.return_, 1) := by decide +kernel
theorem dX5_begin_0 : decode cX5_begin 0 = .ok (.aload_n 0, 1) := by decide +kernel
theorem dX5_begin_1 : decode cX5_begin 1 = .ok (.aload_n 1, 1) := by decide +kernel
theorem dX5_begin_2 : decode cX5_begin 2 = .ok (.getfield 24, 3) := by decide +kernel
theorem dX5_begin_5 : decode cX5_begin 5 = .ok (.bipush 6, 2) := by decide +kernel
theorem dX5_begin_7 : decode cX5_begin 7 = .ok (.invokestatic 30, 3) := by decide +kernel
theorem dX5_begin_10 : decode cX5_begin 10 = .ok (.putfield 36, 3) := by decide +kernel
theorem dX5_begin_13 : decode cX5_begin 13 = .ok (.aload_n 0, 1) := by decide +kernel
theorem dX5_begin_14 : decode cX5_begin 14 = .ok (.aload_n 2, 1) := by decide +kernel
theorem dX5_begin_15 : decode cX5_begin 15 = .ok (.getfield 37, 3) := by decide +kernel
theorem dX5_begin_18 : decode cX5_begin 18 = .ok (.getfield 43, 3) := by decide +kernel
theorem dX5_begin_21 : decode cX5_begin 21 = .ok (.bipush 8, 2) := by decide +kernel
theorem dX5_begin_23 : decode cX5_begin 23 = .ok (.invokestatic 30, 3) := by decide +kernel
theorem dX5_begin_26 : decode cX5_begin 26 = .ok (.putfield 48, 3) := by decide +kernel
theorem dX5_begin_29 : decode cX5_begin 29 = .ok (.iconst 0, 1) := by decide +kernel
theorem dX5_begin_30 : decode cX5_begin 30 = .ok (.istore 4, 2) := by decide +kernel
theorem dX5_begin_32 : decode cX5_begin 32 = .ok (.iload 4, 2) := by decide +kernel
theorem dX5_begin_34 : decode cX5_begin 34 = .ok (.aload_n 0, 1) := by decide +kernel
theorem dX5_begin_35 : decode cX5_begin 35 = .ok (.getfield 36, 3) := by decide +kernel
theorem dX5_begin_38 : decode cX5_begin 38 = .ok (.if_icmp .ge 24, 3) := by decide +kernel
theorem dX5_begin_41 : decode cX5_begin 41 = .ok (.aload_n 0, 1) := by decide +kernel
theorem dX5_begin_42 : decode cX5_begin 42 = .ok (.getfield 9, 3) := by decide +kernel
theorem dX5_begin_45 : decode cX5_begin 45 = .ok (.iload 4, 2) := by decide +kernel
theorem dX5_begin_47 : decode cX5_begin 47 = .ok (.aload_n 1, 1) := by decide +kernel
theorem dX5_begin_48 : decode cX5_begin 48 = .ok (.iload 4, 2) := by decide +kernel
theorem dX5_begin_50 : decode cX5_begin 50 = .ok (.invokevirtual 49, 3) := by decide +kernel
theorem dX5_begin_53 : decode cX5_begin 53 = .ok (.invokestatic 53, 3) := by decide +kernel
theorem dX5_begin_56 : decode cX5_begin 56 = .ok (.iinc 4 1, 3) := by decide +kernel
theorem dX5_begin_59 : decode cX5_begin 59 = .ok (.goto (-27), 3) := by decide +kernel
theorem dX5_begin_62 : decode cX5_begin 62 = .ok (.iconst 0, 1) := by decide +kernel
theorem dX5_begin_63 : decode cX5_begin 63 = .ok (.istore 4, 2) := by decide +kernel
theorem dX5_begin_65 : decode cX5_begin 65 = .ok (.iload 4, 2) := by decide +kernel
theorem dX5_begin_67 : decode cX5_begin 67 = .ok (.aload_n 0, 1) := by decide +kernel
theorem dX5_begin_68 : decode cX5_begin 68 = .ok (.getfield 48, 3) := by decide +kernel
theorem dX5_begin_71 : decode cX5_begin 71 = .ok (.if_icmp .ge 115, 3) := by decide +kernel
theorem dX5_begin_74 : decode cX5_begin 74 = .ok (.aload_n 0, 1) := by decide +kernel
theorem dX5_begin_75 : decode cX5_begin 75 = .ok (.getfield 18, 3) := by decide +kernel
theorem dX5_begin_78 : decode cX5_begin 78 = .ok (.iload 4, 2) := by decide +kernel
theorem dX5_begin_80 : decode cX5_begin 80 = .ok (.aload_n 3, 1) := by decide +kernel
theorem dX5_begin_81 : decode cX5_begin 81 = .ok (.iload 4, 2) := by decide +kernel
theorem dX5_begin_83 : decode cX5_begin 83 = .ok (.invokevirtual 57, 3) := by decide +kernel
theorem dX5_begin_86 : decode cX5_begin 86 = .ok (.invokestatic 53, 3) := by decide +kernel
theorem dX5_begin_89 : decode cX5_begin 89 = .ok (.aload_n 0, 1) := by decide +kernel
theorem dX5_begin_90 : decode cX5_begin 90 = .ok (.getfield 15, 3) := by decide +kernel
theorem dX5_begin_93 : decode cX5_begin 93 = .ok (.iload 4, 2) := by decide +kernel
theorem dX5_begin_95 : decode cX5_begin 95 = .ok (.iconst 0, 1) := by decide +kernel
theorem dX5_begin_96 : decode cX5_begin 96 = .ok (.invokestatic 53, 3) := by decide +kernel
theorem dX5_begin_99 : decode cX5_begin 99 = .ok (.iconst 0, 1) := by decide +kernel
theorem dX5_begin_100 : decode cX5_begin 100 = .ok (.istore 5, 2) := by decide +kernel
theorem dX5_begin_102 : decode cX5_begin 102 = .ok (.iload 5, 2) := by decide +kernel
theorem dX5_begin_104 : decode cX5_begin 104 = .ok (.aload_n 0, 1) := by decide +kernel
theorem dX5_begin_105 : decode cX5_begin 105 = .ok (.getfield 36, 3) := by decide +kernel
theorem dX5_begin_108 : decode cX5_begin 108 = .ok (.if_icmp .ge 72, 3) := by decide +kernel
theorem dX5_begin_111 : decode cX5_begin 111 = .ok (.aload_n 1, 1) := by decide +kernel
theorem dX5_begin_112 : decode cX5_begin 112 = .ok (.iload 5, 2) := by decide +kernel
theorem dX5_begin_114 : decode cX5_begin 114 = .ok (.invokevirtual 62, 3) := by decide +kernel
theorem dX5_begin_117 : decode cX5_begin 117 = .ok (.aload_n 2, 1) := by decide +kernel
theorem dX5_begin_118 : decode cX5_begin 118 = .ok (.getfield 37, 3) := by decide +kernel
theorem dX5_begin_121 : decode cX5_begin 121 = .ok (.iload 4, 2) := by decide +kernel
theorem dX5_begin_123 : decode cX5_begin 123 = .ok (.invokevirtual 65, 3) := by decide +kernel
theorem dX5_begin_126 : decode cX5_begin 126 = .ok (.if_icmp .ne 48, 3) := by decide +kernel
theorem dX5_begin_129 : decode cX5_begin 129 = .ok (.aload_n 2, 1) := by decide +kernel
theorem dX5_begin_130 : decode cX5_begin 130 = .ok (.aload_n 3, 1) := by decide +kernel
theorem dX5_begin_131 : decode cX5_begin 131 = .ok (.aload_n 1, 1) := by decide +kernel
theorem dX5_begin_132 : decode cX5_begin 132 = .ok (.iload 5, 2) := by decide +kernel
theorem dX5_begin_134 : decode cX5_begin 134 = .ok (.invokevirtual 66, 3) := by decide +kernel
theorem dX5_begin_137 : decode cX5_begin 137 = .ok (.iload 4, 2) := by decide +kernel
theorem dX5_begin_139 : decode cX5_begin 139 = .ok (.aload_n 1, 1) := by decide +kernel
theorem dX5_begin_140 : decode cX5_begin 140 = .ok (.iload 5, 2) := by decide +kernel
theorem dX5_begin_142 : decode cX5_begin 142 = .ok (.invokevirtual 49, 3) := by decide +kernel
theorem dX5_begin_145 : decode cX5_begin 145 = .ok (.invokevirtual 69, 3) := by decide +kernel
theorem dX5_begin_148 : decode cX5_begin 148 = .ok (.ifCond .eq 26, 3) := by decide +kernel
theorem dX5_begin_151 : decode cX5_begin 151 = .ok (.aload_n 0, 1) := by decide +kernel
theorem dX5_begin_152 : decode cX5_begin 152 = .ok (.getfield 15, 3) := by decide +kernel
theorem dX5_begin_155 : decode cX5_begin 155 = .ok (.iload 4, 2) := by decide +kernel
theorem dX5_begin_157 : decode cX5_begin 157 = .ok (.aload_n 0, 1) := by decide +kernel
theorem dX5_begin_158 : decode cX5_begin 158 = .ok (.getfield 15, 3) := by decide +kernel
theorem dX5_begin_161 : decode cX5_begin 161 = .ok (.iload 4, 2) := by decide +kernel
theorem dX5_begin_163 : decode cX5_begin 163 = .ok (.invokestatic 73, 3) := by decide +kernel
theorem dX5_begin_166 : decode cX5_begin 166 = .ok (.iconst 1, 1) := by decide +kernel
theorem dX5_begin_167 : decode cX5_begin 167 = .ok (.iload 5, 2) := by decide +kernel
theorem dX5_begin_169 : decode cX5_begin 169 = .ok (.ishl, 1) := by decide +kernel
theorem dX5_begin_170 : decode cX5_begin 170 = .ok (.ior, 1) := by decide +kernel
theorem dX5_begin_171 : decode cX5_begin 171 = .ok (.invokestatic 53, 3) := by decide +kernel
theorem dX5_begin_174 : decode cX5_begin 174 = .ok (.iinc 5 1, 3) := by decide +kernel
theorem dX5_begin_177 : decode cX5_begin 177 = .ok (.goto (-75), 3) := by decide +kernel
theorem dX5_begin_180 : decode cX5_begin 180 = .ok (.iinc 4 1, 3) := by decide +kernel
theorem dX5_begin_183 : decode cX5_begin 183 = .ok (.goto (-118), 3) := by decide +kernel
theorem dX5_begin_186 : decode cX5_begin 186 = .ok (.aload_n 0, 1) := by decide +kernel
theorem dX5_begin_187 : decode cX5_begin 187 = .ok (.invokevirtual 77, 3) := by decide +kernel
theorem dX5_begin_190 : decode cX5_begin 190 = .ok (.return_, 1) := by decide +kernel
theorem dX5_fillSums_0 : decode cX5_fillSums 0 = .ok (.iconst 0, 1) := by decide +kernel
theorem dX5_fillSums_1 : decode cX5_fillSums 1 = .ok (.istore_n 1, 1) := by decide +kernel
theorem dX5_fillSums_2 : decode cX5_fillSums 2 = .ok (.iload_n 1, 1) := by decide +kernel
theorem dX5_fillSums_3 : decode cX5_fillSums 3 = .ok (.iconst 1, 1) := by decide +kernel
theorem dX5_fillSums_4 : decode cX5_fillSums 4 = .ok (.aload_n 0, 1) := by decide +kernel
theorem dX5_fillSums_5 : decode cX5_fillSums 5 = .ok (.getfield 36, 3) := by decide +kernel
theorem dX5_fillSums_8 : decode cX5_fillSums 8 = .ok (.ishl, 1) := by decide +kernel
theorem dX5_fillSums_9 : decode cX5_fillSums 9 = .ok (.if_icmp .ge 53, 3) := by decide +kernel
theorem dX5_fillSums_12 : decode cX5_fillSums 12 = .ok (.iconst 0, 1) := by decide +kernel
theorem dX5_fillSums_13 : decode cX5_fillSums 13 = .ok (.istore_n 2, 1) := by decide +kernel
theorem dX5_fillSums_14 : decode cX5_fillSums 14 = .ok (.iconst 0, 1) := by decide +kernel
theorem dX5_fillSums_15 : decode cX5_fillSums 15 = .ok (.istore_n 3, 1) := by decide +kernel
theorem dX5_fillSums_16 : decode cX5_fillSums 16 = .ok (.iload_n 3, 1) := by decide +kernel
theorem dX5_fillSums_17 : decode cX5_fillSums 17 = .ok (.aload_n 0, 1) := by decide +kernel
theorem dX5_fillSums_18 : decode cX5_fillSums 18 = .ok (.getfield 36, 3) := by decide +kernel
theorem dX5_fillSums_21 : decode cX5_fillSums 21 = .ok (.if_icmp .ge 26, 3) := by decide +kernel
theorem dX5_fillSums_24 : decode cX5_fillSums 24 = .ok (.iload_n 2, 1) := by decide +kernel
theorem dX5_fillSums_25 : decode cX5_fillSums 25 = .ok (.iload_n 1, 1) := by decide +kernel
theorem dX5_fillSums_26 : decode cX5_fillSums 26 = .ok (.iload_n 3, 1) := by decide +kernel
theorem dX5_fillSums_27 : decode cX5_fillSums 27 = .ok (.ishr, 1) := by decide +kernel
theorem dX5_fillSums_28 : decode cX5_fillSums 28 = .ok (.iconst 1, 1) := by decide +kernel
theorem dX5_fillSums_29 : decode cX5_fillSums 29 = .ok (.iand, 1) := by decide +kernel
theorem dX5_fillSums_30 : decode cX5_fillSums 30 = .ok (.aload_n 0, 1) := by decide +kernel
theorem dX5_fillSums_31 : decode cX5_fillSums 31 = .ok (.getfield 9, 3) := by decide +kernel
theorem dX5_fillSums_34 : decode cX5_fillSums 34 = .ok (.iload_n 3, 1) := by decide +kernel
theorem dX5_fillSums_35 : decode cX5_fillSums 35 = .ok (.invokestatic 73, 3) := by decide +kernel
theorem dX5_fillSums_38 : decode cX5_fillSums 38 = .ok (.imul, 1) := by decide +kernel
theorem dX5_fillSums_39 : decode cX5_fillSums 39 = .ok (.iadd, 1) := by decide +kernel
theorem dX5_fillSums_40 : decode cX5_fillSums 40 = .ok (.istore_n 2, 1) := by decide +kernel
theorem dX5_fillSums_41 : decode cX5_fillSums 41 = .ok (.iinc 3 1, 3) := by decide +kernel
theorem dX5_fillSums_44 : decode cX5_fillSums 44 = .ok (.goto (-28), 3) := by decide +kernel
theorem dX5_fillSums_47 : decode cX5_fillSums 47 = .ok (.aload_n 0, 1) := by decide +kernel
theorem dX5_fillSums_48 : decode cX5_fillSums 48 = .ok (.getfield 21, 3) := by decide +kernel
theorem dX5_fillSums_51 : decode cX5_fillSums 51 = .ok (.iload_n 1, 1) := by decide +kernel
theorem dX5_fillSums_52 : decode cX5_fillSums 52 = .ok (.iload_n 2, 1) := by decide +kernel
theorem dX5_fillSums_53 : decode cX5_fillSums 53 = .ok (.invokestatic 53, 3) := by decide +kernel
theorem dX5_fillSums_56 : decode cX5_fillSums 56 = .ok (.iinc 1 1, 3) := by decide +kernel
theorem dX5_fillSums_59 : decode cX5_fillSums 59 = .ok (.goto (-57), 3) := by decide +kernel
theorem dX5_fillSums_62 : decode cX5_fillSums 62 = .ok (.return_, 1) := by decide +kernel
theorem dX5_mostLines_0 : decode cX5_mostLines 0 = .ok (.aload_n 0, 1) := by decide +kernel
theorem dX5_mostLines_1 : decode cX5_mostLines 1 = .ok (.iconst 0, 1) := by decide +kernel
theorem dX5_mostLines_2 : decode cX5_mostLines 2 = .ok (.invokevirtual 80, 3) := by decide +kernel
theorem dX5_mostLines_5 : decode cX5_mostLines 5 = .ok (.sipush 1000, 3) := by decide +kernel
theorem dX5_mostLines_8 : decode cX5_mostLines 8 = .ok (.idiv, 1) := by decide +kernel
theorem dX5_mostLines_9 : decode cX5_mostLines 9 = .ok (.ireturn, 1) := by decide +kernel
theorem dX5_mostAmount_0 : decode cX5_mostAmount 0 = .ok (.aload_n 0, 1) := by decide +kernel
theorem dX5_mostAmount_1 : decode cX5_mostAmount 1 = .ok (.iconst 0, 1) := by decide +kernel
theorem dX5_mostAmount_2 : decode cX5_mostAmount 2 = .ok (.invokevirtual 80, 3) := by decide +kernel
theorem dX5_mostAmount_5 : decode cX5_mostAmount 5 = .ok (.sipush 1000, 3) := by decide +kernel
theorem dX5_mostAmount_8 : decode cX5_mostAmount 8 = .ok (.irem, 1) := by decide +kernel
theorem dX5_mostAmount_9 : decode cX5_mostAmount 9 = .ok (.ireturn, 1) := by decide +kernel
theorem dX5_slabOf_0 : decode cX5_slabOf 0 = .ok (.aload_n 0, 1) := by decide +kernel
theorem dX5_slabOf_1 : decode cX5_slabOf 1 = .ok (.iconst 0, 1) := by decide +kernel
theorem dX5_slabOf_2 : decode cX5_slabOf 2 = .ok (.invokevirtual 80, 3) := by decide +kernel
theorem dX5_slabOf_5 : decode cX5_slabOf 5 = .ok (.istore_n 2, 1) := by decide +kernel
theorem dX5_slabOf_6 : decode cX5_slabOf 6 = .ok (.iconst (-1), 1) := by decide +kernel
theorem dX5_slabOf_7 : decode cX5_slabOf 7 = .ok (.istore_n 3, 1) := by decide +kernel
theorem dX5_slabOf_8 : decode cX5_slabOf 8 = .ok (.iconst 0, 1) := by decide +kernel
theorem dX5_slabOf_9 : decode cX5_slabOf 9 = .ok (.istore 4, 2) := by decide +kernel
theorem dX5_slabOf_11 : decode cX5_slabOf 11 = .ok (.iload 4, 2) := by decide +kernel
theorem dX5_slabOf_13 : decode cX5_slabOf 13 = .ok (.iload_n 1, 1) := by decide +kernel
theorem dX5_slabOf_14 : decode cX5_slabOf 14 = .ok (.if_icmp .gt 47, 3) := by decide +kernel
theorem dX5_slabOf_17 : decode cX5_slabOf 17 = .ok (.iload 4, 2) := by decide +kernel
theorem dX5_slabOf_19 : decode cX5_slabOf 19 = .ok (.aload_n 0, 1) := by decide +kernel
theorem dX5_slabOf_20 : decode cX5_slabOf 20 = .ok (.getfield 36, 3) := by decide +kernel
theorem dX5_slabOf_23 : decode cX5_slabOf 23 = .ok (.if_icmp .ge 38, 3) := by decide +kernel
theorem dX5_slabOf_26 : decode cX5_slabOf 26 = .ok (.aload_n 0, 1) := by decide +kernel
theorem dX5_slabOf_27 : decode cX5_slabOf 27 = .ok (.iload 4, 2) := by decide +kernel
theorem dX5_slabOf_29 : decode cX5_slabOf 29 = .ok (.iload_n 2, 1) := by decide +kernel
theorem dX5_slabOf_30 : decode cX5_slabOf 30 = .ok (.invokevirtual 83, 3) := by decide +kernel
theorem dX5_slabOf_33 : decode cX5_slabOf 33 = .ok (.istore_n 3, 1) := by decide +kernel
theorem dX5_slabOf_34 : decode cX5_slabOf 34 = .ok (.iload_n 3, 1) := by decide +kernel
theorem dX5_slabOf_35 : decode cX5_slabOf 35 = .ok (.iconst (-1), 1) := by decide +kernel
theorem dX5_slabOf_36 : decode cX5_slabOf 36 = .ok (.if_icmp .eq 19, 3) := by decide +kernel
theorem dX5_slabOf_39 : decode cX5_slabOf 39 = .ok (.iload_n 2, 1) := by decide +kernel
theorem dX5_slabOf_40 : decode cX5_slabOf 40 = .ok (.sipush 1000, 3) := by decide +kernel
theorem dX5_slabOf_43 : decode cX5_slabOf 43 = .ok (.aload_n 0, 1) := by decide +kernel
theorem dX5_slabOf_44 : decode cX5_slabOf 44 = .ok (.getfield 9, 3) := by decide +kernel
theorem dX5_slabOf_47 : decode cX5_slabOf 47 = .ok (.iload 4, 2) := by decide +kernel
theorem dX5_slabOf_49 : decode cX5_slabOf 49 = .ok (.invokestatic 73, 3) := by decide +kernel
theorem dX5_slabOf_52 : decode cX5_slabOf 52 = .ok (.iadd, 1) := by decide +kernel
theorem dX5_slabOf_53 : decode cX5_slabOf 53 = .ok (.isub, 1) := by decide +kernel
theorem dX5_slabOf_54 : decode cX5_slabOf 54 = .ok (.istore_n 2, 1) := by decide +kernel
theorem dX5_slabOf_55 : decode cX5_slabOf 55 = .ok (.iinc 4 1, 3) := by decide +kernel
theorem dX5_slabOf_58 : decode cX5_slabOf 58 = .ok (.goto (-47), 3) := by decide +kernel
theorem dX5_slabOf_61 : decode cX5_slabOf 61 = .ok (.iload_n 3, 1) := by decide +kernel
theorem dX5_slabOf_62 : decode cX5_slabOf 62 = .ok (.ireturn, 1) := by decide +kernel
theorem dX5_leastSlab_0 : decode cX5_leastSlab 0 = .ok (.aload_n 0, 1) := by decide +kernel
theorem dX5_leastSlab_1 : decode cX5_leastSlab 1 = .ok (.getfield 9, 3) := by decide +kernel
theorem dX5_leastSlab_4 : decode cX5_leastSlab 4 = .ok (.iload_n 1, 1) := by decide +kernel
theorem dX5_leastSlab_5 : decode cX5_leastSlab 5 = .ok (.invokestatic 73, 3) := by decide +kernel
theorem dX5_leastSlab_8 : decode cX5_leastSlab 8 = .ok (.istore_n 3, 1) := by decide +kernel
theorem dX5_leastSlab_9 : decode cX5_leastSlab 9 = .ok (.iconst 0, 1) := by decide +kernel
theorem dX5_leastSlab_10 : decode cX5_leastSlab 10 = .ok (.istore 4, 2) := by decide +kernel
theorem dX5_leastSlab_12 : decode cX5_leastSlab 12 = .ok (.iload 4, 2) := by decide +kernel
theorem dX5_leastSlab_14 : decode cX5_leastSlab 14 = .ok (.aload_n 0, 1) := by decide +kernel
theorem dX5_leastSlab_15 : decode cX5_leastSlab 15 = .ok (.getfield 48, 3) := by decide +kernel
theorem dX5_leastSlab_18 : decode cX5_leastSlab 18 = .ok (.if_icmp .ge 87, 3) := by decide +kernel
theorem dX5_leastSlab_21 : decode cX5_leastSlab 21 = .ok (.aload_n 0, 1) := by decide +kernel
theorem dX5_leastSlab_22 : decode cX5_leastSlab 22 = .ok (.getfield 18, 3) := by decide +kernel
theorem dX5_leastSlab_25 : decode cX5_leastSlab 25 = .ok (.iload 4, 2) := by decide +kernel
theorem dX5_leastSlab_27 : decode cX5_leastSlab 27 = .ok (.invokestatic 73, 3) := by decide +kernel
theorem dX5_leastSlab_30 : decode cX5_leastSlab 30 = .ok (.istore 5, 2) := by decide +kernel
theorem dX5_leastSlab_32 : decode cX5_leastSlab 32 = .ok (.aload_n 0, 1) := by decide +kernel
theorem dX5_leastSlab_33 : decode cX5_leastSlab 33 = .ok (.getfield 15, 3) := by decide +kernel
theorem dX5_leastSlab_36 : decode cX5_leastSlab 36 = .ok (.iload 4, 2) := by decide +kernel
theorem dX5_leastSlab_38 : decode cX5_leastSlab 38 = .ok (.invokestatic 73, 3) := by decide +kernel
theorem dX5_leastSlab_41 : decode cX5_leastSlab 41 = .ok (.iload_n 1, 1) := by decide +kernel
theorem dX5_leastSlab_42 : decode cX5_leastSlab 42 = .ok (.ishr, 1) := by decide +kernel
theorem dX5_leastSlab_43 : decode cX5_leastSlab 43 = .ok (.iconst 1, 1) := by decide +kernel
theorem dX5_leastSlab_44 : decode cX5_leastSlab 44 = .ok (.iand, 1) := by decide +kernel
theorem dX5_leastSlab_45 : decode cX5_leastSlab 45 = .ok (.iconst 1, 1) := by decide +kernel
theorem dX5_leastSlab_46 : decode cX5_leastSlab 46 = .ok (.if_icmp .ne 53, 3) := by decide +kernel
theorem dX5_leastSlab_49 : decode cX5_leastSlab 49 = .ok (.iload 5, 2) := by decide +kernel
theorem dX5_leastSlab_51 : decode cX5_leastSlab 51 = .ok (.iload_n 3, 1) := by decide +kernel
theorem dX5_leastSlab_52 : decode cX5_leastSlab 52 = .ok (.if_icmp .lt 47, 3) := by decide +kernel
theorem dX5_leastSlab_55 : decode cX5_leastSlab 55 = .ok (.aload_n 0, 1) := by decide +kernel
theorem dX5_leastSlab_56 : decode cX5_leastSlab 56 = .ok (.getfield 18, 3) := by decide +kernel
theorem dX5_leastSlab_59 : decode cX5_leastSlab 59 = .ok (.iload 4, 2) := by decide +kernel
theorem dX5_leastSlab_61 : decode cX5_leastSlab 61 = .ok (.iload 5, 2) := by decide +kernel
theorem dX5_leastSlab_63 : decode cX5_leastSlab 63 = .ok (.iload_n 3, 1) := by decide +kernel
theorem dX5_leastSlab_64 : decode cX5_leastSlab 64 = .ok (.isub, 1) := by decide +kernel
theorem dX5_leastSlab_65 : decode cX5_leastSlab 65 = .ok (.invokestatic 53, 3) := by decide +kernel
theorem dX5_leastSlab_68 : decode cX5_leastSlab 68 = .ok (.sipush 1000, 3) := by decide +kernel
theorem dX5_leastSlab_71 : decode cX5_leastSlab 71 = .ok (.iload_n 3, 1) := by decide +kernel
theorem dX5_leastSlab_72 : decode cX5_leastSlab 72 = .ok (.iadd, 1) := by decide +kernel
theorem dX5_leastSlab_73 : decode cX5_leastSlab 73 = .ok (.aload_n 0, 1) := by decide +kernel
theorem dX5_leastSlab_74 : decode cX5_leastSlab 74 = .ok (.iload_n 1, 1) := by decide +kernel
theorem dX5_leastSlab_75 : decode cX5_leastSlab 75 = .ok (.iconst 1, 1) := by decide +kernel
theorem dX5_leastSlab_76 : decode cX5_leastSlab 76 = .ok (.iadd, 1) := by decide +kernel
theorem dX5_leastSlab_77 : decode cX5_leastSlab 77 = .ok (.invokevirtual 80, 3) := by decide +kernel
theorem dX5_leastSlab_80 : decode cX5_leastSlab 80 = .ok (.iadd, 1) := by decide +kernel
theorem dX5_leastSlab_81 : decode cX5_leastSlab 81 = .ok (.iload_n 2, 1) := by decide +kernel
theorem dX5_leastSlab_82 : decode cX5_leastSlab 82 = .ok (.if_icmp .ne 6, 3) := by decide +kernel
theorem dX5_leastSlab_85 : decode cX5_leastSlab 85 = .ok (.iload 4, 2) := by decide +kernel
theorem dX5_leastSlab_87 : decode cX5_leastSlab 87 = .ok (.ireturn, 1) := by decide +kernel
theorem dX5_leastSlab_88 : decode cX5_leastSlab 88 = .ok (.aload_n 0, 1) := by decide +kernel
theorem dX5_leastSlab_89 : decode cX5_leastSlab 89 = .ok (.getfield 18, 3) := by decide +kernel
theorem dX5_leastSlab_92 : decode cX5_leastSlab 92 = .ok (.iload 4, 2) := by decide +kernel
theorem dX5_leastSlab_94 : decode cX5_leastSlab 94 = .ok (.iload 5, 2) := by decide +kernel
theorem dX5_leastSlab_96 : decode cX5_leastSlab 96 = .ok (.invokestatic 53, 3) := by decide +kernel
theorem dX5_leastSlab_99 : decode cX5_leastSlab 99 = .ok (.iinc 4 1, 3) := by decide +kernel
theorem dX5_leastSlab_102 : decode cX5_leastSlab 102 = .ok (.goto (-90), 3) := by decide +kernel
theorem dX5_leastSlab_105 : decode cX5_leastSlab 105 = .ok (.iconst (-1), 1) := by decide +kernel
theorem dX5_leastSlab_106 : decode cX5_leastSlab 106 = .ok (.ireturn, 1) := by decide +kernel
theorem dX5_leastMore_0 : decode cX5_leastMore 0 = .ok (.iconst 1, 1) := by decide +kernel
theorem dX5_leastMore_1 : decode cX5_leastMore 1 = .ok (.aload_n 0, 1) := by decide +kernel
theorem dX5_leastMore_2 : decode cX5_leastMore 2 = .ok (.getfield 36, 3) := by decide +kernel
theorem dX5_leastMore_5 : decode cX5_leastMore 5 = .ok (.ishl, 1) := by decide +kernel
theorem dX5_leastMore_6 : decode cX5_leastMore 6 = .ok (.iconst 1, 1) := by decide +kernel
theorem dX5_leastMore_7 : decode cX5_leastMore 7 = .ok (.isub, 1) := by decide +kernel
theorem dX5_leastMore_8 : decode cX5_leastMore 8 = .ok (.istore_n 3, 1) := by decide +kernel
theorem dX5_leastMore_9 : decode cX5_leastMore 9 = .ok (.iconst 0, 1) := by decide +kernel
theorem dX5_leastMore_10 : decode cX5_leastMore 10 = .ok (.istore 4, 2) := by decide +kernel
theorem dX5_leastMore_12 : decode cX5_leastMore 12 = .ok (.iconst 0, 1) := by decide +kernel
theorem dX5_leastMore_13 : decode cX5_leastMore 13 = .ok (.istore 5, 2) := by decide +kernel
theorem dX5_leastMore_15 : decode cX5_leastMore 15 = .ok (.iload 5, 2) := by decide +kernel
theorem dX5_leastMore_17 : decode cX5_leastMore 17 = .ok (.aload_n 0, 1) := by decide +kernel
theorem dX5_leastMore_18 : decode cX5_leastMore 18 = .ok (.getfield 36, 3) := by decide +kernel
theorem dX5_leastMore_21 : decode cX5_leastMore 21 = .ok (.if_icmp .ge 28, 3) := by decide +kernel
theorem dX5_leastMore_24 : decode cX5_leastMore 24 = .ok (.aload_n 1, 1) := by decide +kernel
theorem dX5_leastMore_25 : decode cX5_leastMore 25 = .ok (.iload 5, 2) := by decide +kernel
theorem dX5_leastMore_27 : decode cX5_leastMore 27 = .ok (.invokevirtual 62, 3) := by decide +kernel
theorem dX5_leastMore_30 : decode cX5_leastMore 30 = .ok (.iload_n 2, 1) := by decide +kernel
theorem dX5_leastMore_31 : decode cX5_leastMore 31 = .ok (.if_icmp .ne 12, 3) := by decide +kernel
theorem dX5_leastMore_34 : decode cX5_leastMore 34 = .ok (.iload 4, 2) := by decide +kernel
theorem dX5_leastMore_36 : decode cX5_leastMore 36 = .ok (.iconst 1, 1) := by decide +kernel
theorem dX5_leastMore_37 : decode cX5_leastMore 37 = .ok (.iload 5, 2) := by decide +kernel
theorem dX5_leastMore_39 : decode cX5_leastMore 39 = .ok (.ishl, 1) := by decide +kernel
theorem dX5_leastMore_40 : decode cX5_leastMore 40 = .ok (.ior, 1) := by decide +kernel
theorem dX5_leastMore_41 : decode cX5_leastMore 41 = .ok (.istore 4, 2) := by decide +kernel
theorem dX5_leastMore_43 : decode cX5_leastMore 43 = .ok (.iinc 5 1, 3) := by decide +kernel
theorem dX5_leastMore_46 : decode cX5_leastMore 46 = .ok (.goto (-31), 3) := by decide +kernel
theorem dX5_leastMore_49 : decode cX5_leastMore 49 = .ok (.aload_n 0, 1) := by decide +kernel
theorem dX5_leastMore_50 : decode cX5_leastMore 50 = .ok (.iconst 0, 1) := by decide +kernel
theorem dX5_leastMore_51 : decode cX5_leastMore 51 = .ok (.invokevirtual 86, 3) := by decide +kernel
theorem dX5_leastMore_54 : decode cX5_leastMore 54 = .ok (.lstore 5, 2) := by decide +kernel
theorem dX5_leastMore_56 : decode cX5_leastMore 56 = .ok (.iconst (-1), 1) := by decide +kernel
theorem dX5_leastMore_57 : decode cX5_leastMore 57 = .ok (.istore 7, 2) := by decide +kernel
theorem dX5_leastMore_59 : decode cX5_leastMore 59 = .ok (.iconst 0, 1) := by decide +kernel
theorem dX5_leastMore_60 : decode cX5_leastMore 60 = .ok (.istore 8, 2) := by decide +kernel
theorem dX5_leastMore_62 : decode cX5_leastMore 62 = .ok (.iload 8, 2) := by decide +kernel
theorem dX5_leastMore_64 : decode cX5_leastMore 64 = .ok (.iload_n 3, 1) := by decide +kernel
theorem dX5_leastMore_65 : decode cX5_leastMore 65 = .ok (.if_icmp .gt 70, 3) := by decide +kernel
theorem dX5_leastMore_68 : decode cX5_leastMore 68 = .ok (.aload_n 0, 1) := by decide +kernel
theorem dX5_leastMore_69 : decode cX5_leastMore 69 = .ok (.getfield 21, 3) := by decide +kernel
theorem dX5_leastMore_72 : decode cX5_leastMore 72 = .ok (.iload 8, 2) := by decide +kernel
theorem dX5_leastMore_74 : decode cX5_leastMore 74 = .ok (.invokestatic 73, 3) := by decide +kernel
theorem dX5_leastMore_77 : decode cX5_leastMore 77 = .ok (.istore 9, 2) := by decide +kernel
theorem dX5_leastMore_79 : decode cX5_leastMore 79 = .ok (.iload 8, 2) := by decide +kernel
theorem dX5_leastMore_81 : decode cX5_leastMore 81 = .ok (.iload 4, 2) := by decide +kernel
theorem dX5_leastMore_83 : decode cX5_leastMore 83 = .ok (.iconst (-1), 1) := by decide +kernel
theorem dX5_leastMore_84 : decode cX5_leastMore 84 = .ok (.ixor, 1) := by decide +kernel
theorem dX5_leastMore_85 : decode cX5_leastMore 85 = .ok (.iand, 1) := by decide +kernel
theorem dX5_leastMore_86 : decode cX5_leastMore 86 = .ok (.ifCond .ne 43, 3) := by decide +kernel
theorem dX5_leastMore_89 : decode cX5_leastMore 89 = .ok (.lload 5, 2) := by decide +kernel
theorem dX5_leastMore_91 : decode cX5_leastMore 91 = .ok (.iload_n 3, 1) := by decide +kernel
theorem dX5_leastMore_92 : decode cX5_leastMore 92 = .ok (.iload 8, 2) := by decide +kernel
theorem dX5_leastMore_94 : decode cX5_leastMore 94 = .ok (.iconst (-1), 1) := by decide +kernel
theorem dX5_leastMore_95 : decode cX5_leastMore 95 = .ok (.ixor, 1) := by decide +kernel
theorem dX5_leastMore_96 : decode cX5_leastMore 96 = .ok (.iand, 1) := by decide +kernel
theorem dX5_leastMore_97 : decode cX5_leastMore 97 = .ok (.lushr, 1) := by decide +kernel
theorem dX5_leastMore_98 : decode cX5_leastMore 98 = .ok (.lconst 1, 1) := by decide +kernel
theorem dX5_leastMore_99 : decode cX5_leastMore 99 = .ok (.land, 1) := by decide +kernel
theorem dX5_leastMore_100 : decode cX5_leastMore 100 = .ok (.lconst 1, 1) := by decide +kernel
theorem dX5_leastMore_101 : decode cX5_leastMore 101 = .ok (.lcmp, 1) := by decide +kernel
theorem dX5_leastMore_102 : decode cX5_leastMore 102 = .ok (.ifCond .ne 27, 3) := by decide +kernel
theorem dX5_leastMore_105 : decode cX5_leastMore 105 = .ok (.iload 9, 2) := by decide +kernel
theorem dX5_leastMore_107 : decode cX5_leastMore 107 = .ok (.bipush 99, 2) := by decide +kernel
theorem dX5_leastMore_109 : decode cX5_leastMore 109 = .ok (.if_icmp .gt 20, 3) := by decide +kernel
theorem dX5_leastMore_112 : decode cX5_leastMore 112 = .ok (.iload 7, 2) := by decide +kernel
theorem dX5_leastMore_114 : decode cX5_leastMore 114 = .ok (.iconst (-1), 1) := by decide +kernel
theorem dX5_leastMore_115 : decode cX5_leastMore 115 = .ok (.if_icmp .eq 10, 3) := by decide +kernel
theorem dX5_leastMore_118 : decode cX5_leastMore 118 = .ok (.iload 9, 2) := by decide +kernel
theorem dX5_leastMore_120 : decode cX5_leastMore 120 = .ok (.iload 7, 2) := by decide +kernel
theorem dX5_leastMore_122 : decode cX5_leastMore 122 = .ok (.if_icmp .ge 7, 3) := by decide +kernel
theorem dX5_leastMore_125 : decode cX5_leastMore 125 = .ok (.iload 9, 2) := by decide +kernel
theorem dX5_leastMore_127 : decode cX5_leastMore 127 = .ok (.istore 7, 2) := by decide +kernel
theorem dX5_leastMore_129 : decode cX5_leastMore 129 = .ok (.iinc 8 1, 3) := by decide +kernel
theorem dX5_leastMore_132 : decode cX5_leastMore 132 = .ok (.goto (-70), 3) := by decide +kernel
theorem dX5_leastMore_135 : decode cX5_leastMore 135 = .ok (.iload 7, 2) := by decide +kernel
theorem dX5_leastMore_137 : decode cX5_leastMore 137 = .ok (.ireturn, 1) := by decide +kernel
theorem dX5_bestFrom_0 : decode cX5_bestFrom 0 = .ok (.aload_n 0, 1) := by decide +kernel
theorem dX5_bestFrom_1 : decode cX5_bestFrom 1 = .ok (.iload_n 1, 1) := by decide +kernel
theorem dX5_bestFrom_2 : decode cX5_bestFrom 2 = .ok (.invokevirtual 86, 3) := by decide +kernel
theorem dX5_bestFrom_5 : decode cX5_bestFrom 5 = .ok (.lstore_n 2, 1) := by decide +kernel
theorem dX5_bestFrom_6 : decode cX5_bestFrom 6 = .ok (.iconst 0, 1) := by decide +kernel
theorem dX5_bestFrom_7 : decode cX5_bestFrom 7 = .ok (.istore 4, 2) := by decide +kernel
theorem dX5_bestFrom_9 : decode cX5_bestFrom 9 = .ok (.iconst 0, 1) := by decide +kernel
theorem dX5_bestFrom_10 : decode cX5_bestFrom 10 = .ok (.istore 5, 2) := by decide +kernel
theorem dX5_bestFrom_12 : decode cX5_bestFrom 12 = .ok (.iload 5, 2) := by decide +kernel
theorem dX5_bestFrom_14 : decode cX5_bestFrom 14 = .ok (.iconst 1, 1) := by decide +kernel
theorem dX5_bestFrom_15 : decode cX5_bestFrom 15 = .ok (.aload_n 0, 1) := by decide +kernel
theorem dX5_bestFrom_16 : decode cX5_bestFrom 16 = .ok (.getfield 36, 3) := by decide +kernel
theorem dX5_bestFrom_19 : decode cX5_bestFrom 19 = .ok (.ishl, 1) := by decide +kernel
theorem dX5_bestFrom_20 : decode cX5_bestFrom 20 = .ok (.if_icmp .ge 46, 3) := by decide +kernel
theorem dX5_bestFrom_23 : decode cX5_bestFrom 23 = .ok (.lload_n 2, 1) := by decide +kernel
theorem dX5_bestFrom_24 : decode cX5_bestFrom 24 = .ok (.iload 5, 2) := by decide +kernel
theorem dX5_bestFrom_26 : decode cX5_bestFrom 26 = .ok (.lushr, 1) := by decide +kernel
theorem dX5_bestFrom_27 : decode cX5_bestFrom 27 = .ok (.lconst 1, 1) := by decide +kernel
theorem dX5_bestFrom_28 : decode cX5_bestFrom 28 = .ok (.land, 1) := by decide +kernel
theorem dX5_bestFrom_29 : decode cX5_bestFrom 29 = .ok (.lconst 1, 1) := by decide +kernel
theorem dX5_bestFrom_30 : decode cX5_bestFrom 30 = .ok (.lcmp, 1) := by decide +kernel
theorem dX5_bestFrom_31 : decode cX5_bestFrom 31 = .ok (.ifCond .ne 29, 3) := by decide +kernel
theorem dX5_bestFrom_34 : decode cX5_bestFrom 34 = .ok (.iload 4, 2) := by decide +kernel
theorem dX5_bestFrom_36 : decode cX5_bestFrom 36 = .ok (.iload 5, 2) := by decide +kernel
theorem dX5_bestFrom_38 : decode cX5_bestFrom 38 = .ok (.invokestatic 90, 3) := by decide +kernel
theorem dX5_bestFrom_41 : decode cX5_bestFrom 41 = .ok (.sipush 1000, 3) := by decide +kernel
theorem dX5_bestFrom_44 : decode cX5_bestFrom 44 = .ok (.imul, 1) := by decide +kernel
theorem dX5_bestFrom_45 : decode cX5_bestFrom 45 = .ok (.aload_n 0, 1) := by decide +kernel
theorem dX5_bestFrom_46 : decode cX5_bestFrom 46 = .ok (.getfield 21, 3) := by decide +kernel
theorem dX5_bestFrom_49 : decode cX5_bestFrom 49 = .ok (.iload 5, 2) := by decide +kernel
theorem dX5_bestFrom_51 : decode cX5_bestFrom 51 = .ok (.invokestatic 73, 3) := by decide +kernel
theorem dX5_bestFrom_54 : decode cX5_bestFrom 54 = .ok (.iadd, 1) := by decide +kernel
theorem dX5_bestFrom_55 : decode cX5_bestFrom 55 = .ok (.invokestatic 95, 3) := by decide +kernel
theorem dX5_bestFrom_58 : decode cX5_bestFrom 58 = .ok (.istore 4, 2) := by decide +kernel
theorem dX5_bestFrom_60 : decode cX5_bestFrom 60 = .ok (.iinc 5 1, 3) := by decide +kernel
theorem dX5_bestFrom_63 : decode cX5_bestFrom 63 = .ok (.goto (-51), 3) := by decide +kernel
theorem dX5_bestFrom_66 : decode cX5_bestFrom 66 = .ok (.iload 4, 2) := by decide +kernel
theorem dX5_bestFrom_68 : decode cX5_bestFrom 68 = .ok (.ireturn, 1) := by decide +kernel
theorem dX5_reachedFrom_0 : decode cX5_reachedFrom 0 = .ok (.lconst 1, 1) := by decide +kernel
theorem dX5_reachedFrom_1 : decode cX5_reachedFrom 1 = .ok (.lstore_n 2, 1) := by decide +kernel
theorem dX5_reachedFrom_2 : decode cX5_reachedFrom 2 = .ok (.iconst 0, 1) := by decide +kernel
theorem dX5_reachedFrom_3 : decode cX5_reachedFrom 3 = .ok (.istore 4, 2) := by decide +kernel
theorem dX5_reachedFrom_5 : decode cX5_reachedFrom 5 = .ok (.iload 4, 2) := by decide +kernel
theorem dX5_reachedFrom_7 : decode cX5_reachedFrom 7 = .ok (.aload_n 0, 1) := by decide +kernel
theorem dX5_reachedFrom_8 : decode cX5_reachedFrom 8 = .ok (.getfield 48, 3) := by decide +kernel
theorem dX5_reachedFrom_11 : decode cX5_reachedFrom 11 = .ok (.if_icmp .ge 85, 3) := by decide +kernel
theorem dX5_reachedFrom_14 : decode cX5_reachedFrom 14 = .ok (.lload_n 2, 1) := by decide +kernel
theorem dX5_reachedFrom_15 : decode cX5_reachedFrom 15 = .ok (.lstore 5, 2) := by decide +kernel
theorem dX5_reachedFrom_17 : decode cX5_reachedFrom 17 = .ok (.iconst 0, 1) := by decide +kernel
theorem dX5_reachedFrom_18 : decode cX5_reachedFrom 18 = .ok (.istore 7, 2) := by decide +kernel
theorem dX5_reachedFrom_20 : decode cX5_reachedFrom 20 = .ok (.iload 7, 2) := by decide +kernel
theorem dX5_reachedFrom_22 : decode cX5_reachedFrom 22 = .ok (.iconst 1, 1) := by decide +kernel
theorem dX5_reachedFrom_23 : decode cX5_reachedFrom 23 = .ok (.aload_n 0, 1) := by decide +kernel
theorem dX5_reachedFrom_24 : decode cX5_reachedFrom 24 = .ok (.getfield 36, 3) := by decide +kernel
theorem dX5_reachedFrom_27 : decode cX5_reachedFrom 27 = .ok (.ishl, 1) := by decide +kernel
theorem dX5_reachedFrom_28 : decode cX5_reachedFrom 28 = .ok (.if_icmp .ge 62, 3) := by decide +kernel
theorem dX5_reachedFrom_31 : decode cX5_reachedFrom 31 = .ok (.lload 5, 2) := by decide +kernel
theorem dX5_reachedFrom_33 : decode cX5_reachedFrom 33 = .ok (.iload 7, 2) := by decide +kernel
theorem dX5_reachedFrom_35 : decode cX5_reachedFrom 35 = .ok (.lushr, 1) := by decide +kernel
theorem dX5_reachedFrom_36 : decode cX5_reachedFrom 36 = .ok (.lconst 1, 1) := by decide +kernel
theorem dX5_reachedFrom_37 : decode cX5_reachedFrom 37 = .ok (.land, 1) := by decide +kernel
theorem dX5_reachedFrom_38 : decode cX5_reachedFrom 38 = .ok (.lconst 1, 1) := by decide +kernel
theorem dX5_reachedFrom_39 : decode cX5_reachedFrom 39 = .ok (.lcmp, 1) := by decide +kernel
theorem dX5_reachedFrom_40 : decode cX5_reachedFrom 40 = .ok (.ifCond .ne 44, 3) := by decide +kernel
theorem dX5_reachedFrom_43 : decode cX5_reachedFrom 43 = .ok (.aload_n 0, 1) := by decide +kernel
theorem dX5_reachedFrom_44 : decode cX5_reachedFrom 44 = .ok (.getfield 15, 3) := by decide +kernel
theorem dX5_reachedFrom_47 : decode cX5_reachedFrom 47 = .ok (.iload 4, 2) := by decide +kernel
theorem dX5_reachedFrom_49 : decode cX5_reachedFrom 49 = .ok (.invokestatic 73, 3) := by decide +kernel
theorem dX5_reachedFrom_52 : decode cX5_reachedFrom 52 = .ok (.iconst 1, 1) := by decide +kernel
theorem dX5_reachedFrom_53 : decode cX5_reachedFrom 53 = .ok (.iload_n 1, 1) := by decide +kernel
theorem dX5_reachedFrom_54 : decode cX5_reachedFrom 54 = .ok (.ishl, 1) := by decide +kernel
theorem dX5_reachedFrom_55 : decode cX5_reachedFrom 55 = .ok (.ineg, 1) := by decide +kernel
theorem dX5_reachedFrom_56 : decode cX5_reachedFrom 56 = .ok (.iand, 1) := by decide +kernel
theorem dX5_reachedFrom_57 : decode cX5_reachedFrom 57 = .ok (.iload 7, 2) := by decide +kernel
theorem dX5_reachedFrom_59 : decode cX5_reachedFrom 59 = .ok (.iconst (-1), 1) := by decide +kernel
theorem dX5_reachedFrom_60 : decode cX5_reachedFrom 60 = .ok (.ixor, 1) := by decide +kernel
theorem dX5_reachedFrom_61 : decode cX5_reachedFrom 61 = .ok (.iand, 1) := by decide +kernel
theorem dX5_reachedFrom_62 : decode cX5_reachedFrom 62 = .ok (.istore 8, 2) := by decide +kernel
theorem dX5_reachedFrom_64 : decode cX5_reachedFrom 64 = .ok (.lload_n 2, 1) := by decide +kernel
theorem dX5_reachedFrom_65 : decode cX5_reachedFrom 65 = .ok (.aload_n 0, 1) := by decide +kernel
theorem dX5_reachedFrom_66 : decode cX5_reachedFrom 66 = .ok (.iload 7, 2) := by decide +kernel
theorem dX5_reachedFrom_68 : decode cX5_reachedFrom 68 = .ok (.iload 8, 2) := by decide +kernel
theorem dX5_reachedFrom_70 : decode cX5_reachedFrom 70 = .ok (.aload_n 0, 1) := by decide +kernel
theorem dX5_reachedFrom_71 : decode cX5_reachedFrom 71 = .ok (.getfield 18, 3) := by decide +kernel
theorem dX5_reachedFrom_74 : decode cX5_reachedFrom 74 = .ok (.iload 4, 2) := by decide +kernel
theorem dX5_reachedFrom_76 : decode cX5_reachedFrom 76 = .ok (.invokestatic 73, 3) := by decide +kernel
theorem dX5_reachedFrom_79 : decode cX5_reachedFrom 79 = .ok (.invokevirtual 98, 3) := by decide +kernel
theorem dX5_reachedFrom_82 : decode cX5_reachedFrom 82 = .ok (.lor, 1) := by decide +kernel
theorem dX5_reachedFrom_83 : decode cX5_reachedFrom 83 = .ok (.lstore_n 2, 1) := by decide +kernel
theorem dX5_reachedFrom_84 : decode cX5_reachedFrom 84 = .ok (.iinc 7 1, 3) := by decide +kernel
theorem dX5_reachedFrom_87 : decode cX5_reachedFrom 87 = .ok (.goto (-67), 3) := by decide +kernel
theorem dX5_reachedFrom_90 : decode cX5_reachedFrom 90 = .ok (.iinc 4 1, 3) := by decide +kernel
theorem dX5_reachedFrom_93 : decode cX5_reachedFrom 93 = .ok (.goto (-88), 3) := by decide +kernel
theorem dX5_reachedFrom_96 : decode cX5_reachedFrom 96 = .ok (.lload_n 2, 1) := by decide +kernel
theorem dX5_reachedFrom_97 : decode cX5_reachedFrom 97 = .ok (.lreturn, 1) := by decide +kernel
theorem dX5_joined_0 : decode cX5_joined 0 = .ok (.lconst 0, 1) := by decide +kernel
theorem dX5_joined_1 : decode cX5_joined 1 = .ok (.lstore 4, 2) := by decide +kernel
theorem dX5_joined_3 : decode cX5_joined 3 = .ok (.iload_n 2, 1) := by decide +kernel
theorem dX5_joined_4 : decode cX5_joined 4 = .ok (.istore 6, 2) := by decide +kernel
theorem dX5_joined_6 : decode cX5_joined 6 = .ok (.iload 6, 2) := by decide +kernel
theorem dX5_joined_8 : decode cX5_joined 8 = .ok (.ifCond .le 38, 3) := by decide +kernel
theorem dX5_joined_11 : decode cX5_joined 11 = .ok (.aload_n 0, 1) := by decide +kernel
theorem dX5_joined_12 : decode cX5_joined 12 = .ok (.getfield 21, 3) := by decide +kernel
theorem dX5_joined_15 : decode cX5_joined 15 = .ok (.iload 6, 2) := by decide +kernel
theorem dX5_joined_17 : decode cX5_joined 17 = .ok (.invokestatic 73, 3) := by decide +kernel
theorem dX5_joined_20 : decode cX5_joined 20 = .ok (.iload_n 3, 1) := by decide +kernel
theorem dX5_joined_21 : decode cX5_joined 21 = .ok (.if_icmp .gt 14, 3) := by decide +kernel
theorem dX5_joined_24 : decode cX5_joined 24 = .ok (.lload 4, 2) := by decide +kernel
theorem dX5_joined_26 : decode cX5_joined 26 = .ok (.lconst 1, 1) := by decide +kernel
theorem dX5_joined_27 : decode cX5_joined 27 = .ok (.iload_n 1, 1) := by decide +kernel
theorem dX5_joined_28 : decode cX5_joined 28 = .ok (.iload 6, 2) := by decide +kernel
theorem dX5_joined_30 : decode cX5_joined 30 = .ok (.ior, 1) := by decide +kernel
theorem dX5_joined_31 : decode cX5_joined 31 = .ok (.lshl, 1) := by decide +kernel
theorem dX5_joined_32 : decode cX5_joined 32 = .ok (.lor, 1) := by decide +kernel
theorem dX5_joined_33 : decode cX5_joined 33 = .ok (.lstore 4, 2) := by decide +kernel
theorem dX5_joined_35 : decode cX5_joined 35 = .ok (.iload 6, 2) := by decide +kernel
theorem dX5_joined_37 : decode cX5_joined 37 = .ok (.iconst 1, 1) := by decide +kernel
theorem dX5_joined_38 : decode cX5_joined 38 = .ok (.isub, 1) := by decide +kernel
theorem dX5_joined_39 : decode cX5_joined 39 = .ok (.iload_n 2, 1) := by decide +kernel
theorem dX5_joined_40 : decode cX5_joined 40 = .ok (.iand, 1) := by decide +kernel
theorem dX5_joined_41 : decode cX5_joined 41 = .ok (.istore 6, 2) := by decide +kernel
theorem dX5_joined_43 : decode cX5_joined 43 = .ok (.goto (-37), 3) := by decide +kernel
theorem dX5_joined_46 : decode cX5_joined 46 = .ok (.lload 4, 2) := by decide +kernel
theorem dX5_joined_48 : decode cX5_joined 48 = .ok (.lreturn, 1) := by decide +kernel
