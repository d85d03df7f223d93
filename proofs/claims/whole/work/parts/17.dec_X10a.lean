theorem dX10_init_0 : decode cX10_init 0 = .ok (.aload_n 0, 1) := by decide +kernel
theorem dX10_init_1 : decode cX10_init 1 = .ok (.invokespecial 1, 3) := by decide +kernel
theorem dX10_init_4 : decode cX10_init 4 = .ok (.aload_n 0, 1) := by decide +kernel
theorem dX10_init_5 : decode cX10_init 5 = .ok (.new 7, 3) := by decide +kernel
theorem dX10_init_8 : decode cX10_init 8 = .ok (.dup, 1) := by decide +kernel
theorem dX10_init_9 : decode cX10_init 9 = .ok (.invokespecial 9, 3) := by decide +kernel
theorem dX10_init_12 : decode cX10_init 12 = .ok (.putfield 10, 3) := by decide +kernel
theorem dX10_init_15 : decode cX10_init 15 = .ok (.aload_n 0, 1) := by decide +kernel
theorem dX10_init_16 : decode cX10_init 16 = .ok (.new 16, 3) := by decide +kernel
theorem dX10_init_19 : decode cX10_init 19 = .ok (.dup, 1) := by decide +kernel
theorem dX10_init_20 : decode cX10_init 20 = .ok (.invokespecial 18, 3) := by decide +kernel
theorem dX10_init_23 : decode cX10_init 23 = .ok (.putfield 19, 3) := by decide +kernel
theorem dX10_init_26 : decode cX10_init 26 = .ok (.aload_n 0, 1) := by decide +kernel
theorem dX10_init_27 : decode cX10_init 27 = .ok (.new 16, 3) := by decide +kernel
theorem dX10_init_30 : decode cX10_init 30 = .ok (.dup, 1) := by decide +kernel
theorem dX10_init_31 : decode cX10_init 31 = .ok (.invokespecial 18, 3) := by decide +kernel
theorem dX10_init_34 : decode cX10_init 34 = .ok (.putfield 23, 3) := by decide +kernel
theorem dX10_init_37 : decode cX10_init 37 = .ok (.aload_n 0, 1) := by decide +kernel
theorem dX10_init_38 : decode cX10_init 38 = .ok (.new 26, 3) := by decide +kernel
theorem dX10_init_41 : decode cX10_init 41 = .ok (.dup, 1) := by decide +kernel
theorem dX10_init_42 : decode cX10_init 42 = .ok (.invokespecial 28, 3) := by decide +kernel
theorem dX10_init_45 : decode cX10_init 45 = .ok (.putfield 29, 3) := by decide +kernel
theorem dX10_init_48 : decode cX10_init 48 = .ok (.aload_n 0, 1) := by decide +kernel
theorem dX10_init_49 : decode cX10_init 49 = .ok (.new 26, 3) := by decide +kernel
theorem dX10_init_52 : decode cX10_init 52 = .ok (.dup, 1) := by decide +kernel
theorem dX10_init_53 : decode cX10_init 53 = .ok (.invokespecial 28, 3) := by decide +kernel
theorem dX10_init_56 : decode cX10_init 56 = .ok (.putfield 33, 3) := by decide +kernel
theorem dX10_init_59 : decode cX10_init 59 = .ok (.aload_n 0, 1) := by decide +kernel
theorem dX10_init_60 : decode cX10_init 60 = .ok (.new 36, 3) := by decide +kernel
theorem dX10_init_63 : decode cX10_init 63 = .ok (.dup, 1) := by decide +kernel
theorem dX10_init_64 : decode cX10_init 64 = .ok (.invokespecial 38, 3) := by decide +kernel
theorem dX10_init_67 : decode cX10_init 67 = .ok (.putfield 39, 3) := by decide +kernel
theorem dX10_init_70 : decode cX10_init 70 = .ok (.aload_n 0, 1) := by decide +kernel
theorem dX10_init_71 : decode cX10_init 71 = .ok (.new 36, 3) := by decide +kernel
theorem dX10_init_74 : decode cX10_init 74 = .ok (.dup, 1) := by decide +kernel
theorem dX10_init_75 : decode cX10_init 75 = .ok (.invokespecial 38, 3) := by decide +kernel
theorem dX10_init_78 : decode cX10_init 78 = .ok (.putfield 43, 3) := by decide +kernel
theorem dX10_init_81 : decode cX10_init 81 = .ok (.aload_n 0, 1) := by decide +kernel
theorem dX10_init_82 : decode cX10_init 82 = .ok (.new 46, 3) := by decide +kernel
theorem dX10_init_85 : decode cX10_init 85 = .ok (.dup, 1) := by decide +kernel
theorem dX10_init_86 : decode cX10_init 86 = .ok (.invokespecial 48, 3) := by decide +kernel
theorem dX10_init_89 : decode cX10_init 89 = .ok (.putfield 49, 3) := by decide +kernel
theorem dX10_init_92 : decode cX10_init 92 = .ok (.aload_n 0, 1) := by decide +kernel
theorem dX10_init_93 : decode cX10_init 93 = .ok (.new 53, 3) := by decide +kernel
theorem dX10_init_96 : decode cX10_init 96 = .ok (.dup, 1) := by decide +kernel
theorem dX10_init_97 : decode cX10_init 97 = .ok (.aload_n 0, 1) := by decide +kernel
theorem dX10_init_98 : decode cX10_init 98 = .ok (.getfield 19, 3) := by decide +kernel
theorem dX10_init_101 : decode cX10_init 101 = .ok (.aload_n 0, 1) := by decide +kernel
theorem dX10_init_102 : decode cX10_init 102 = .ok (.getfield 29, 3) := by decide +kernel
theorem dX10_init_105 : decode cX10_init 105 = .ok (.invokespecial 55, 3) := by decide +kernel
theorem dX10_init_108 : decode cX10_init 108 = .ok (.putfield 58, 3) := by decide +kernel
theorem dX10_init_111 : decode cX10_init 111 = .ok (.aload_n 0, 1) := by decide +kernel
theorem dX10_init_112 : decode cX10_init 112 = .ok (.new 62, 3) := by decide +kernel
theorem dX10_init_115 : decode cX10_init 115 = .ok (.dup, 1) := by decide +kernel
theorem dX10_init_116 : decode cX10_init 116 = .ok (.invokespecial 64, 3) := by decide +kernel
theorem dX10_init_119 : decode cX10_init 119 = .ok (.putfield 65, 3) := by decide +kernel
theorem dX10_init_122 : decode cX10_init 122 = .ok (.aload_n 0, 1) := by decide +kernel
theorem dX10_init_123 : decode cX10_init 123 = .ok (.iconst 3, 1) := by decide +kernel
theorem dX10_init_124 : decode cX10_init 124 = .ok (.anewarray 62, 3) := by decide +kernel
theorem dX10_init_127 : decode cX10_init 127 = .ok (.putfield 69, 3) := by decide +kernel
theorem dX10_init_130 : decode cX10_init 130 = .ok (.iconst 0, 1) := by decide +kernel
theorem dX10_init_131 : decode cX10_init 131 = .ok (.istore_n 1, 1) := by decide +kernel
theorem dX10_init_132 : decode cX10_init 132 = .ok (.iload_n 1, 1) := by decide +kernel
theorem dX10_init_133 : decode cX10_init 133 = .ok (.aload_n 0, 1) := by decide +kernel
theorem dX10_init_134 : decode cX10_init 134 = .ok (.getfield 69, 3) := by decide +kernel
theorem dX10_init_137 : decode cX10_init 137 = .ok (.arraylength, 1) := by decide +kernel
theorem dX10_init_138 : decode cX10_init 138 = .ok (.if_icmp .ge 22, 3) := by decide +kernel
theorem dX10_init_141 : decode cX10_init 141 = .ok (.aload_n 0, 1) := by decide +kernel
theorem dX10_init_142 : decode cX10_init 142 = .ok (.getfield 69, 3) := by decide +kernel
theorem dX10_init_145 : decode cX10_init 145 = .ok (.iload_n 1, 1) := by decide +kernel
theorem dX10_init_146 : decode cX10_init 146 = .ok (.new 62, 3) := by decide +kernel
theorem dX10_init_149 : decode cX10_init 149 = .ok (.dup, 1) := by decide +kernel
theorem dX10_init_150 : decode cX10_init 150 = .ok (.invokespecial 64, 3) := by decide +kernel
theorem dX10_init_153 : decode cX10_init 153 = .ok (.aastore, 1) := by decide +kernel
theorem dX10_init_154 : decode cX10_init 154 = .ok (.iinc 1 1, 3) := by decide +kernel
theorem dX10_init_157 : decode cX10_init 157 = .ok (.goto (-25), 3) := by decide +kernel
theorem dX10_init_160 : decode cX10_init 160 = .ok (.aload_n 0, 1) := by decide +kernel
theorem dX10_init_161 : decode cX10_init 161 = .ok (.new 73, 3) := by decide +kernel
theorem dX10_init_164 : decode cX10_init 164 = .ok (.dup, 1) := by decide +kernel
theorem dX10_init_165 : decode cX10_init 165 = .ok (.invokespecial 75, 3) := by decide +kernel
theorem dX10_init_168 : decode cX10_init 168 = .ok (.putfield 76, 3) := by decide +kernel
theorem dX10_init_171 : decode cX10_init 171 = .ok (.aload_n 0, 1) := by decide +kernel
theorem dX10_init_172 : decode cX10_init 172 = .ok (.new 80, 3) := by decide +kernel
theorem dX10_init_175 : decode cX10_init 175 = .ok (.dup, 1) := by decide +kernel
theorem dX10_init_176 : decode cX10_init 176 = .ok (.invokespecial 82, 3) := by decide +kernel
theorem dX10_init_179 : decode cX10_init 179 = .ok (.putfield 83, 3) := by decide +kernel
theorem dX10_init_182 : decode cX10_init 182 = .ok (.aload_n 0, 1) := by decide +kernel
theorem dX10_init_183 : decode cX10_init 183 = .ok (.new 87, 3) := by decide +kernel
theorem dX10_init_186 : decode cX10_init 186 = .ok (.dup, 1) := by decide +kernel
theorem dX10_init_187 : decode cX10_init 187 = .ok (.invokespecial 89, 3) := by decide +kernel
theorem dX10_init_190 : decode cX10_init 190 = .ok (.putfield 90, 3) := by decide +kernel
theorem dX10_init_193 : decode cX10_init 193 = .ok (.aload_n 0, 1) := by decide +kernel
theorem dX10_init_194 : decode cX10_init 194 = .ok (.bipush 10, 2) := by decide +kernel
theorem dX10_init_196 : decode cX10_init 196 = .ok (.newarray .int, 2) := by decide +kernel
theorem dX10_init_198 : decode cX10_init 198 = .ok (.putfield 94, 3) := by decide +kernel
theorem dX10_init_201 : decode cX10_init 201 = .ok (.return_, 1) := by decide +kernel
theorem dX10_feed_0 : decode cX10_feed 0 = .ok (.aload_n 0, 1) := by decide +kernel
theorem dX10_feed_1 : decode cX10_feed 1 = .ok (.getfield 10, 3) := by decide +kernel
theorem dX10_feed_4 : decode cX10_feed 4 = .ok (.bipush 20, 2) := by decide +kernel
theorem dX10_feed_6 : decode cX10_feed 6 = .ok (.invokevirtual 98, 3) := by decide +kernel
theorem dX10_feed_9 : decode cX10_feed 9 = .ok (.ifCond .ne 5, 3) := by decide +kernel
theorem dX10_feed_12 : decode cX10_feed 12 = .ok (.iconst (-1), 1) := by decide +kernel
theorem dX10_feed_13 : decode cX10_feed 13 = .ok (.ireturn, 1) := by decide +kernel
theorem dX10_feed_14 : decode cX10_feed 14 = .ok (.aload_n 0, 1) := by decide +kernel
theorem dX10_feed_15 : decode cX10_feed 15 = .ok (.getfield 10, 3) := by decide +kernel
theorem dX10_feed_18 : decode cX10_feed 18 = .ok (.iload_n 1, 1) := by decide +kernel
theorem dX10_feed_19 : decode cX10_feed 19 = .ok (.invokevirtual 102, 3) := by decide +kernel
theorem dX10_feed_22 : decode cX10_feed 22 = .ok (.aload_n 0, 1) := by decide +kernel
theorem dX10_feed_23 : decode cX10_feed 23 = .ok (.getfield 10, 3) := by decide +kernel
theorem dX10_feed_26 : decode cX10_feed 26 = .ok (.iload_n 2, 1) := by decide +kernel
theorem dX10_feed_27 : decode cX10_feed 27 = .ok (.invokevirtual 102, 3) := by decide +kernel
theorem dX10_feed_30 : decode cX10_feed 30 = .ok (.aload_n 0, 1) := by decide +kernel
theorem dX10_feed_31 : decode cX10_feed 31 = .ok (.getfield 10, 3) := by decide +kernel
theorem dX10_feed_34 : decode cX10_feed 34 = .ok (.iload_n 3, 1) := by decide +kernel
theorem dX10_feed_35 : decode cX10_feed 35 = .ok (.invokevirtual 102, 3) := by decide +kernel
theorem dX10_feed_38 : decode cX10_feed 38 = .ok (.aload_n 0, 1) := by decide +kernel
theorem dX10_feed_39 : decode cX10_feed 39 = .ok (.getfield 10, 3) := by decide +kernel
theorem dX10_feed_42 : decode cX10_feed 42 = .ok (.iload 4, 2) := by decide +kernel
theorem dX10_feed_44 : decode cX10_feed 44 = .ok (.invokevirtual 102, 3) := by decide +kernel
theorem dX10_feed_47 : decode cX10_feed 47 = .ok (.aload_n 0, 1) := by decide +kernel
theorem dX10_feed_48 : decode cX10_feed 48 = .ok (.getfield 10, 3) := by decide +kernel
theorem dX10_feed_51 : decode cX10_feed 51 = .ok (.iload 5, 2) := by decide +kernel
theorem dX10_feed_53 : decode cX10_feed 53 = .ok (.invokevirtual 102, 3) := by decide +kernel
theorem dX10_feed_56 : decode cX10_feed 56 = .ok (.aload_n 0, 1) := by decide +kernel
theorem dX10_feed_57 : decode cX10_feed 57 = .ok (.getfield 10, 3) := by decide +kernel
theorem dX10_feed_60 : decode cX10_feed 60 = .ok (.getfield 106, 3) := by decide +kernel
theorem dX10_feed_63 : decode cX10_feed 63 = .ok (.ireturn, 1) := by decide +kernel
theorem dX10_county_0 : decode cX10_county 0 = .ok (.aload_n 0, 1) := by decide +kernel
theorem dX10_county_1 : decode cX10_county 1 = .ok (.iload_n 1, 1) := by decide +kernel
theorem dX10_county_2 : decode cX10_county 2 = .ok (.sipush 600, 3) := by decide +kernel
theorem dX10_county_5 : decode cX10_county 5 = .ok (.invokevirtual 110, 3) := by decide +kernel
theorem dX10_county_8 : decode cX10_county 8 = .ok (.aload_n 0, 1) := by decide +kernel
theorem dX10_county_9 : decode cX10_county 9 = .ok (.getfield 23, 3) := by decide +kernel
theorem dX10_county_12 : decode cX10_county 12 = .ok (.aload_n 0, 1) := by decide +kernel
theorem dX10_county_13 : decode cX10_county 13 = .ok (.getfield 10, 3) := by decide +kernel
theorem dX10_county_16 : decode cX10_county 16 = .ok (.invokevirtual 114, 3) := by decide +kernel
theorem dX10_county_19 : decode cX10_county 19 = .ok (.ifCond .ne 11, 3) := by decide +kernel
theorem dX10_county_22 : decode cX10_county 22 = .ok (.aload_n 0, 1) := by decide +kernel
theorem dX10_county_23 : decode cX10_county 23 = .ok (.getfield 10, 3) := by decide +kernel
theorem dX10_county_26 : decode cX10_county 26 = .ok (.invokevirtual 118, 3) := by decide +kernel
theorem dX10_county_29 : decode cX10_county 29 = .ok (.ireturn, 1) := by decide +kernel
theorem dX10_county_30 : decode cX10_county 30 = .ok (.aload_n 0, 1) := by decide +kernel
theorem dX10_county_31 : decode cX10_county 31 = .ok (.getfield 19, 3) := by decide +kernel
theorem dX10_county_34 : decode cX10_county 34 = .ok (.aload_n 0, 1) := by decide +kernel
theorem dX10_county_35 : decode cX10_county 35 = .ok (.getfield 23, 3) := by decide +kernel
theorem dX10_county_38 : decode cX10_county 38 = .ok (.invokevirtual 122, 3) := by decide +kernel
theorem dX10_county_41 : decode cX10_county 41 = .ok (.aload_n 0, 1) := by decide +kernel
theorem dX10_county_42 : decode cX10_county 42 = .ok (.getfield 29, 3) := by decide +kernel
theorem dX10_county_45 : decode cX10_county 45 = .ok (.invokevirtual 126, 3) := by decide +kernel
theorem dX10_county_48 : decode cX10_county 48 = .ok (.aload_n 0, 1) := by decide +kernel
theorem dX10_county_49 : decode cX10_county 49 = .ok (.getfield 39, 3) := by decide +kernel
theorem dX10_county_52 : decode cX10_county 52 = .ok (.invokevirtual 129, 3) := by decide +kernel
theorem dX10_county_55 : decode cX10_county 55 = .ok (.aload_n 0, 1) := by decide +kernel
theorem dX10_county_56 : decode cX10_county 56 = .ok (.getfield 65, 3) := by decide +kernel
theorem dX10_county_59 : decode cX10_county 59 = .ok (.aload_n 0, 1) := by decide +kernel
theorem dX10_county_60 : decode cX10_county 60 = .ok (.getfield 19, 3) := by decide +kernel
theorem dX10_county_63 : decode cX10_county 63 = .ok (.invokevirtual 132, 3) := by decide +kernel
theorem dX10_county_66 : decode cX10_county 66 = .ok (.aload_n 0, 1) := by decide +kernel
theorem dX10_county_67 : decode cX10_county 67 = .ok (.iconst 0, 1) := by decide +kernel
theorem dX10_county_68 : decode cX10_county 68 = .ok (.putfield 135, 3) := by decide +kernel
theorem dX10_county_71 : decode cX10_county 71 = .ok (.aload_n 0, 1) := by decide +kernel
theorem dX10_county_72 : decode cX10_county 72 = .ok (.iconst 0, 1) := by decide +kernel
theorem dX10_county_73 : decode cX10_county 73 = .ok (.putfield 138, 3) := by decide +kernel
theorem dX10_county_76 : decode cX10_county 76 = .ok (.aload_n 0, 1) := by decide +kernel
theorem dX10_county_77 : decode cX10_county 77 = .ok (.getfield 19, 3) := by decide +kernel
theorem dX10_county_80 : decode cX10_county 80 = .ok (.getfield 141, 3) := by decide +kernel
theorem dX10_county_83 : decode cX10_county 83 = .ok (.ireturn, 1) := by decide +kernel
theorem dX10_law_0 : decode cX10_law 0 = .ok (.aload_n 0, 1) := by decide +kernel
theorem dX10_law_1 : decode cX10_law 1 = .ok (.iload_n 1, 1) := by decide +kernel
theorem dX10_law_2 : decode cX10_law 2 = .ok (.sipush 150, 3) := by decide +kernel
theorem dX10_law_5 : decode cX10_law 5 = .ok (.invokevirtual 110, 3) := by decide +kernel
theorem dX10_law_8 : decode cX10_law 8 = .ok (.aload_n 0, 1) := by decide +kernel
theorem dX10_law_9 : decode cX10_law 9 = .ok (.getfield 33, 3) := by decide +kernel
theorem dX10_law_12 : decode cX10_law 12 = .ok (.aload_n 0, 1) := by decide +kernel
theorem dX10_law_13 : decode cX10_law 13 = .ok (.getfield 10, 3) := by decide +kernel
theorem dX10_law_16 : decode cX10_law 16 = .ok (.invokevirtual 144, 3) := by decide +kernel
theorem dX10_law_19 : decode cX10_law 19 = .ok (.ifCond .ne 11, 3) := by decide +kernel
theorem dX10_law_22 : decode cX10_law 22 = .ok (.aload_n 0, 1) := by decide +kernel
theorem dX10_law_23 : decode cX10_law 23 = .ok (.getfield 10, 3) := by decide +kernel
theorem dX10_law_26 : decode cX10_law 26 = .ok (.invokevirtual 118, 3) := by decide +kernel
theorem dX10_law_29 : decode cX10_law 29 = .ok (.ireturn, 1) := by decide +kernel
theorem dX10_law_30 : decode cX10_law 30 = .ok (.aload_n 0, 1) := by decide +kernel
theorem dX10_law_31 : decode cX10_law 31 = .ok (.getfield 29, 3) := by decide +kernel
theorem dX10_law_34 : decode cX10_law 34 = .ok (.aload_n 0, 1) := by decide +kernel
theorem dX10_law_35 : decode cX10_law 35 = .ok (.getfield 33, 3) := by decide +kernel
theorem dX10_law_38 : decode cX10_law 38 = .ok (.invokevirtual 145, 3) := by decide +kernel
theorem dX10_law_41 : decode cX10_law 41 = .ok (.iconst 1, 1) := by decide +kernel
theorem dX10_law_42 : decode cX10_law 42 = .ok (.ireturn, 1) := by decide +kernel
theorem dX10_work_0 : decode cX10_work 0 = .ok (.aload_n 0, 1) := by decide +kernel
theorem dX10_work_1 : decode cX10_work 1 = .ok (.iload_n 1, 1) := by decide +kernel
theorem dX10_work_2 : decode cX10_work 2 = .ok (.sipush 150, 3) := by decide +kernel
theorem dX10_work_5 : decode cX10_work 5 = .ok (.invokevirtual 110, 3) := by decide +kernel
theorem dX10_work_8 : decode cX10_work 8 = .ok (.aload_n 0, 1) := by decide +kernel
theorem dX10_work_9 : decode cX10_work 9 = .ok (.getfield 65, 3) := by decide +kernel
theorem dX10_work_12 : decode cX10_work 12 = .ok (.getfield 148, 3) := by decide +kernel
theorem dX10_work_15 : decode cX10_work 15 = .ok (.bipush 16, 2) := by decide +kernel
theorem dX10_work_17 : decode cX10_work 17 = .ok (.if_icmp .lt 6, 3) := by decide +kernel
theorem dX10_work_20 : decode cX10_work 20 = .ok (.bipush (-20), 2) := by decide +kernel
theorem dX10_work_22 : decode cX10_work 22 = .ok (.ireturn, 1) := by decide +kernel
theorem dX10_work_23 : decode cX10_work 23 = .ok (.aload_n 0, 1) := by decide +kernel
theorem dX10_work_24 : decode cX10_work 24 = .ok (.getfield 49, 3) := by decide +kernel
theorem dX10_work_27 : decode cX10_work 27 = .ok (.aload_n 0, 1) := by decide +kernel
theorem dX10_work_28 : decode cX10_work 28 = .ok (.getfield 10, 3) := by decide +kernel
theorem dX10_work_31 : decode cX10_work 31 = .ok (.aload_n 0, 1) := by decide +kernel
theorem dX10_work_32 : decode cX10_work 32 = .ok (.getfield 19, 3) := by decide +kernel
theorem dX10_work_35 : decode cX10_work 35 = .ok (.invokevirtual 151, 3) := by decide +kernel
theorem dX10_work_38 : decode cX10_work 38 = .ok (.ifCond .ne 11, 3) := by decide +kernel
theorem dX10_work_41 : decode cX10_work 41 = .ok (.aload_n 0, 1) := by decide +kernel
theorem dX10_work_42 : decode cX10_work 42 = .ok (.getfield 10, 3) := by decide +kernel
theorem dX10_work_45 : decode cX10_work 45 = .ok (.invokevirtual 118, 3) := by decide +kernel
theorem dX10_work_48 : decode cX10_work 48 = .ok (.ireturn, 1) := by decide +kernel
theorem dX10_work_49 : decode cX10_work 49 = .ok (.aload_n 0, 1) := by decide +kernel
theorem dX10_work_50 : decode cX10_work 50 = .ok (.getfield 65, 3) := by decide +kernel
theorem dX10_work_53 : decode cX10_work 53 = .ok (.invokevirtual 154, 3) := by decide +kernel
theorem dX10_work_56 : decode cX10_work 56 = .ok (.aload_n 0, 1) := by decide +kernel
theorem dX10_work_57 : decode cX10_work 57 = .ok (.getfield 49, 3) := by decide +kernel
theorem dX10_work_60 : decode cX10_work 60 = .ok (.aload_n 0, 1) := by decide +kernel
theorem dX10_work_61 : decode cX10_work 61 = .ok (.getfield 58, 3) := by decide +kernel
theorem dX10_work_64 : decode cX10_work 64 = .ok (.aload_n 0, 1) := by decide +kernel
theorem dX10_work_65 : decode cX10_work 65 = .ok (.getfield 65, 3) := by decide +kernel
theorem dX10_work_68 : decode cX10_work 68 = .ok (.getfield 157, 3) := by decide +kernel
theorem dX10_work_71 : decode cX10_work 71 = .ok (.iconst 0, 1) := by decide +kernel
theorem dX10_work_72 : decode cX10_work 72 = .ok (.aload_n 0, 1) := by decide +kernel
theorem dX10_work_73 : decode cX10_work 73 = .ok (.getfield 49, 3) := by decide +kernel
theorem dX10_work_76 : decode cX10_work 76 = .ok (.getfield 160, 3) := by decide +kernel
theorem dX10_work_79 : decode cX10_work 79 = .ok (.iconst 0, 1) := by decide +kernel
theorem dX10_work_80 : decode cX10_work 80 = .ok (.invokevirtual 163, 3) := by decide +kernel
theorem dX10_work_83 : decode cX10_work 83 = .ok (.aload_n 0, 1) := by decide +kernel
theorem dX10_work_84 : decode cX10_work 84 = .ok (.aload_n 0, 1) := by decide +kernel
theorem dX10_work_85 : decode cX10_work 85 = .ok (.getfield 49, 3) := by decide +kernel
theorem dX10_work_88 : decode cX10_work 88 = .ok (.getfield 167, 3) := by decide +kernel
theorem dX10_work_91 : decode cX10_work 91 = .ok (.putfield 138, 3) := by decide +kernel
theorem dX10_work_94 : decode cX10_work 94 = .ok (.aload_n 0, 1) := by decide +kernel
theorem dX10_work_95 : decode cX10_work 95 = .ok (.getfield 49, 3) := by decide +kernel
theorem dX10_work_98 : decode cX10_work 98 = .ok (.getfield 170, 3) := by decide +kernel
theorem dX10_work_101 : decode cX10_work 101 = .ok (.ireturn, 1) := by decide +kernel
theorem dX10_book_0 : decode cX10_book 0 = .ok (.aload_n 0, 1) := by decide +kernel
theorem dX10_book_1 : decode cX10_book 1 = .ok (.iload_n 1, 1) := by decide +kernel
theorem dX10_book_2 : decode cX10_book 2 = .ok (.bipush 60, 2) := by decide +kernel
theorem dX10_book_4 : decode cX10_book 4 = .ok (.invokevirtual 110, 3) := by decide +kernel
theorem dX10_book_7 : decode cX10_book 7 = .ok (.aload_n 0, 1) := by decide +kernel
theorem dX10_book_8 : decode cX10_book 8 = .ok (.getfield 43, 3) := by decide +kernel
theorem dX10_book_11 : decode cX10_book 11 = .ok (.aload_n 0, 1) := by decide +kernel
theorem dX10_book_12 : decode cX10_book 12 = .ok (.getfield 10, 3) := by decide +kernel
theorem dX10_book_15 : decode cX10_book 15 = .ok (.aload_n 0, 1) := by decide +kernel
theorem dX10_book_16 : decode cX10_book 16 = .ok (.getfield 19, 3) := by decide +kernel
theorem dX10_book_19 : decode cX10_book 19 = .ok (.getfield 173, 3) := by decide +kernel
theorem dX10_book_22 : decode cX10_book 22 = .ok (.invokevirtual 176, 3) := by decide +kernel
theorem dX10_book_25 : decode cX10_book 25 = .ok (.ifCond .ne 11, 3) := by decide +kernel
theorem dX10_book_28 : decode cX10_book 28 = .ok (.aload_n 0, 1) := by decide +kernel
theorem dX10_book_29 : decode cX10_book 29 = .ok (.getfield 10, 3) := by decide +kernel
theorem dX10_book_32 : decode cX10_book 32 = .ok (.invokevirtual 118, 3) := by decide +kernel
theorem dX10_book_35 : decode cX10_book 35 = .ok (.ireturn, 1) := by decide +kernel
theorem dX10_book_36 : decode cX10_book 36 = .ok (.aload_n 0, 1) := by decide +kernel
theorem dX10_book_37 : decode cX10_book 37 = .ok (.getfield 39, 3) := by decide +kernel
theorem dX10_book_40 : decode cX10_book 40 = .ok (.aload_n 0, 1) := by decide +kernel
theorem dX10_book_41 : decode cX10_book 41 = .ok (.getfield 43, 3) := by decide +kernel
theorem dX10_book_44 : decode cX10_book 44 = .ok (.invokevirtual 179, 3) := by decide +kernel
theorem dX10_book_47 : decode cX10_book 47 = .ok (.aload_n 0, 1) := by decide +kernel
theorem dX10_book_48 : decode cX10_book 48 = .ok (.getfield 39, 3) := by decide +kernel
theorem dX10_book_51 : decode cX10_book 51 = .ok (.getfield 182, 3) := by decide +kernel
theorem dX10_book_54 : decode cX10_book 54 = .ok (.ireturn, 1) := by decide +kernel
theorem dX10_fault_0 : decode cX10_fault 0 = .ok (.aload_n 0, 1) := by decide +kernel
theorem dX10_fault_1 : decode cX10_fault 1 = .ok (.getfield 10, 3) := by decide +kernel
theorem dX10_fault_4 : decode cX10_fault 4 = .ok (.getfield 185, 3) := by decide +kernel
theorem dX10_fault_7 : decode cX10_fault 7 = .ok (.ireturn, 1) := by decide +kernel
theorem dX10_undo_0 : decode cX10_undo 0 = .ok (.aload_n 0, 1) := by decide +kernel
theorem dX10_undo_1 : decode cX10_undo 1 = .ok (.getfield 65, 3) := by decide +kernel
theorem dX10_undo_4 : decode cX10_undo 4 = .ok (.invokevirtual 188, 3) := by decide +kernel
theorem dX10_undo_7 : decode cX10_undo 7 = .ok (.ifCond .ne 5, 3) := by decide +kernel
theorem dX10_undo_10 : decode cX10_undo 10 = .ok (.iconst (-1), 1) := by decide +kernel
theorem dX10_undo_11 : decode cX10_undo 11 = .ok (.ireturn, 1) := by decide +kernel
theorem dX10_undo_12 : decode cX10_undo 12 = .ok (.aload_n 0, 1) := by decide +kernel
theorem dX10_undo_13 : decode cX10_undo 13 = .ok (.iconst 0, 1) := by decide +kernel
theorem dX10_undo_14 : decode cX10_undo 14 = .ok (.putfield 138, 3) := by decide +kernel
theorem dX10_undo_17 : decode cX10_undo 17 = .ok (.aload_n 0, 1) := by decide +kernel
theorem dX10_undo_18 : decode cX10_undo 18 = .ok (.getfield 65, 3) := by decide +kernel
theorem dX10_undo_21 : decode cX10_undo 21 = .ok (.getfield 148, 3) := by decide +kernel
theorem dX10_undo_24 : decode cX10_undo 24 = .ok (.ireturn, 1) := by decide +kernel
theorem dX10_told_0 : decode cX10_told 0 = .ok (.aload_n 0, 1) := by decide +kernel
theorem dX10_told_1 : decode cX10_told 1 = .ok (.getfield 65, 3) := by decide +kernel
theorem dX10_told_4 : decode cX10_told 4 = .ok (.getfield 157, 3) := by decide +kernel
theorem dX10_told_7 : decode cX10_told 7 = .ok (.astore_n 2, 1) := by decide +kernel
theorem dX10_told_8 : decode cX10_told 8 = .ok (.iload_n 1, 1) := by decide +kernel
theorem dX10_told_9 : decode cX10_told 9 = .ok (.tableswitch 139 0 11 #[63, 71, 79, 84, 89, 94, 100, 110, 115, 121, 129, 134], 63) := by decide +kernel
theorem dX10_told_72 : decode cX10_told 72 = .ok (.aload_n 0, 1) := by decide +kernel
theorem dX10_told_73 : decode cX10_told 73 = .ok (.getfield 19, 3) := by decide +kernel
theorem dX10_told_76 : decode cX10_told 76 = .ok (.getfield 141, 3) := by decide +kernel
theorem dX10_told_79 : decode cX10_told 79 = .ok (.ireturn, 1) := by decide +kernel
theorem dX10_told_80 : decode cX10_told 80 = .ok (.aload_n 0, 1) := by decide +kernel
theorem dX10_told_81 : decode cX10_told 81 = .ok (.getfield 19, 3) := by decide +kernel
theorem dX10_told_84 : decode cX10_told 84 = .ok (.getfield 173, 3) := by decide +kernel
theorem dX10_told_87 : decode cX10_told 87 = .ok (.ireturn, 1) := by decide +kernel
theorem dX10_told_88 : decode cX10_told 88 = .ok (.aload_n 2, 1) := by decide +kernel
theorem dX10_told_89 : decode cX10_told 89 = .ok (.invokevirtual 192, 3) := by decide +kernel
theorem dX10_told_92 : decode cX10_told 92 = .ok (.ireturn, 1) := by decide +kernel
theorem dX10_told_93 : decode cX10_told 93 = .ok (.aload_n 2, 1) := by decide +kernel
theorem dX10_told_94 : decode cX10_told 94 = .ok (.invokevirtual 195, 3) := by decide +kernel
theorem dX10_told_97 : decode cX10_told 97 = .ok (.ireturn, 1) := by decide +kernel
theorem dX10_told_98 : decode cX10_told 98 = .ok (.aload_n 2, 1) := by decide +kernel
theorem dX10_told_99 : decode cX10_told 99 = .ok (.invokevirtual 198, 3) := by decide +kernel
theorem dX10_told_102 : decode cX10_told 102 = .ok (.ireturn, 1) := by decide +kernel
theorem dX10_told_103 : decode cX10_told 103 = .ok (.aload_n 0, 1) := by decide +kernel
theorem dX10_told_104 : decode cX10_told 104 = .ok (.aload_n 2, 1) := by decide +kernel
theorem dX10_told_105 : decode cX10_told 105 = .ok (.invokevirtual 201, 3) := by decide +kernel
theorem dX10_told_108 : decode cX10_told 108 = .ok (.ireturn, 1) := by decide +kernel
theorem dX10_told_109 : decode cX10_told 109 = .ok (.aload_n 0, 1) := by decide +kernel
theorem dX10_told_110 : decode cX10_told 110 = .ok (.getfield 58, 3) := by decide +kernel
theorem dX10_told_113 : decode cX10_told 113 = .ok (.aload_n 2, 1) := by decide +kernel
theorem dX10_told_114 : decode cX10_told 114 = .ok (.iconst (-1), 1) := by decide +kernel
theorem dX10_told_115 : decode cX10_told 115 = .ok (.invokevirtual 205, 3) := by decide +kernel
theorem dX10_told_118 : decode cX10_told 118 = .ok (.ireturn, 1) := by decide +kernel
theorem dX10_told_119 : decode cX10_told 119 = .ok (.aload_n 2, 1) := by decide +kernel
theorem dX10_told_120 : decode cX10_told 120 = .ok (.invokevirtual 209, 3) := by decide +kernel
theorem dX10_told_123 : decode cX10_told 123 = .ok (.ireturn, 1) := by decide +kernel
theorem dX10_told_124 : decode cX10_told 124 = .ok (.aload_n 0, 1) := by decide +kernel
theorem dX10_told_125 : decode cX10_told 125 = .ok (.aload_n 2, 1) := by decide +kernel
theorem dX10_told_126 : decode cX10_told 126 = .ok (.invokevirtual 212, 3) := by decide +kernel
theorem dX10_told_129 : decode cX10_told 129 = .ok (.ireturn, 1) := by decide +kernel
theorem dX10_told_130 : decode cX10_told 130 = .ok (.aload_n 0, 1) := by decide +kernel
theorem dX10_told_131 : decode cX10_told 131 = .ok (.getfield 39, 3) := by decide +kernel
theorem dX10_told_134 : decode cX10_told 134 = .ok (.getfield 182, 3) := by decide +kernel
theorem dX10_told_137 : decode cX10_told 137 = .ok (.ireturn, 1) := by decide +kernel
theorem dX10_told_138 : decode cX10_told 138 = .ok (.aload_n 0, 1) := by decide +kernel
theorem dX10_told_139 : decode cX10_told 139 = .ok (.getfield 138, 3) := by decide +kernel
theorem dX10_told_142 : decode cX10_told 142 = .ok (.ireturn, 1) := by decide +kernel
theorem dX10_told_143 : decode cX10_told 143 = .ok (.aload_n 2, 1) := by decide +kernel
theorem dX10_told_144 : decode cX10_told 144 = .ok (.invokevirtual 215, 3) := by decide +kernel
theorem dX10_told_147 : decode cX10_told 147 = .ok (.ireturn, 1) := by decide +kernel
theorem dX10_told_148 : decode cX10_told 148 = .ok (.aload_n 0, 1) := by decide +kernel
theorem dX10_told_149 : decode cX10_told 149 = .ok (.iconst 0, 1) := by decide +kernel
theorem dX10_told_150 : decode cX10_told 150 = .ok (.invokevirtual 218, 3) := by decide +kernel
theorem dX10_told_153 : decode cX10_told 153 = .ok (.iconst (-1), 1) := by decide +kernel
theorem dX10_told_154 : decode cX10_told 154 = .ok (.ireturn, 1) := by decide +kernel
theorem dX10_slab_0 : decode cX10_slab 0 = .ok (.aload_n 0, 1) := by decide +kernel
theorem dX10_slab_1 : decode cX10_slab 1 = .ok (.iload_n 1, 1) := by decide +kernel
theorem dX10_slab_2 : decode cX10_slab 2 = .ok (.invokevirtual 222, 3) := by decide +kernel
theorem dX10_slab_5 : decode cX10_slab 5 = .ok (.aload_n 0, 1) := by decide +kernel
theorem dX10_slab_6 : decode cX10_slab 6 = .ok (.getfield 65, 3) := by decide +kernel
theorem dX10_slab_9 : decode cX10_slab 9 = .ok (.getfield 157, 3) := by decide +kernel
theorem dX10_slab_12 : decode cX10_slab 12 = .ok (.astore_n 3, 1) := by decide +kernel
theorem dX10_slab_13 : decode cX10_slab 13 = .ok (.iload_n 2, 1) := by decide +kernel
theorem dX10_slab_14 : decode cX10_slab 14 = .ok (.tableswitch 92 0 5 #[38, 47, 53, 62, 76, 83], 38) := by decide +kernel
theorem dX10_slab_52 : decode cX10_slab 52 = .ok (.aload_n 0, 1) := by decide +kernel
theorem dX10_slab_53 : decode cX10_slab 53 = .ok (.getfield 19, 3) := by decide +kernel
theorem dX10_slab_56 : decode cX10_slab 56 = .ok (.iload_n 1, 1) := by decide +kernel
theorem dX10_slab_57 : decode cX10_slab 57 = .ok (.invokevirtual 225, 3) := by decide +kernel
theorem dX10_slab_60 : decode cX10_slab 60 = .ok (.ireturn, 1) := by decide +kernel
theorem dX10_slab_61 : decode cX10_slab 61 = .ok (.aload_n 3, 1) := by decide +kernel
theorem dX10_slab_62 : decode cX10_slab 62 = .ok (.iload_n 1, 1) := by decide +kernel
theorem dX10_slab_63 : decode cX10_slab 63 = .ok (.invokevirtual 229, 3) := by decide +kernel
theorem dX10_slab_66 : decode cX10_slab 66 = .ok (.ireturn, 1) := by decide +kernel
theorem dX10_slab_67 : decode cX10_slab 67 = .ok (.aload_n 0, 1) := by decide +kernel
theorem dX10_slab_68 : decode cX10_slab 68 = .ok (.getfield 19, 3) := by decide +kernel
theorem dX10_slab_71 : decode cX10_slab 71 = .ok (.iload_n 1, 1) := by decide +kernel
theorem dX10_slab_72 : decode cX10_slab 72 = .ok (.invokevirtual 232, 3) := by decide +kernel
theorem dX10_slab_75 : decode cX10_slab 75 = .ok (.ireturn, 1) := by decide +kernel
theorem dX10_slab_76 : decode cX10_slab 76 = .ok (.aload_n 3, 1) := by decide +kernel
theorem dX10_slab_77 : decode cX10_slab 77 = .ok (.iload_n 1, 1) := by decide +kernel
theorem dX10_slab_78 : decode cX10_slab 78 = .ok (.invokevirtual 235, 3) := by decide +kernel
theorem dX10_slab_81 : decode cX10_slab 81 = .ok (.ifCond .eq 7, 3) := by decide +kernel
theorem dX10_slab_84 : decode cX10_slab 84 = .ok (.iconst 1, 1) := by decide +kernel
theorem dX10_slab_85 : decode cX10_slab 85 = .ok (.goto 4, 3) := by decide +kernel
theorem dX10_slab_88 : decode cX10_slab 88 = .ok (.iconst 0, 1) := by decide +kernel
theorem dX10_slab_89 : decode cX10_slab 89 = .ok (.ireturn, 1) := by decide +kernel
theorem dX10_slab_90 : decode cX10_slab 90 = .ok (.aload_n 3, 1) := by decide +kernel
theorem dX10_slab_91 : decode cX10_slab 91 = .ok (.iconst 1, 1) := by decide +kernel
theorem dX10_slab_92 : decode cX10_slab 92 = .ok (.iload_n 1, 1) := by decide +kernel
theorem dX10_slab_93 : decode cX10_slab 93 = .ok (.invokevirtual 238, 3) := by decide +kernel
theorem dX10_slab_96 : decode cX10_slab 96 = .ok (.ireturn, 1) := by decide +kernel
theorem dX10_slab_97 : decode cX10_slab 97 = .ok (.aload_n 0, 1) := by decide +kernel
theorem dX10_slab_98 : decode cX10_slab 98 = .ok (.getfield 19, 3) := by decide +kernel
theorem dX10_slab_101 : decode cX10_slab 101 = .ok (.iload_n 1, 1) := by decide +kernel
theorem dX10_slab_102 : decode cX10_slab 102 = .ok (.invokevirtual 242, 3) := by decide +kernel
theorem dX10_slab_105 : decode cX10_slab 105 = .ok (.ireturn, 1) := by decide +kernel
theorem dX10_slab_106 : decode cX10_slab 106 = .ok (.aload_n 0, 1) := by decide +kernel
theorem dX10_slab_107 : decode cX10_slab 107 = .ok (.iconst 0, 1) := by decide +kernel
theorem dX10_slab_108 : decode cX10_slab 108 = .ok (.invokevirtual 218, 3) := by decide +kernel
theorem dX10_slab_111 : decode cX10_slab 111 = .ok (.iconst (-1), 1) := by decide +kernel
theorem dX10_slab_112 : decode cX10_slab 112 = .ok (.ireturn, 1) := by decide +kernel
theorem dX10_soul_0 : decode cX10_soul 0 = .ok (.aload_n 0, 1) := by decide +kernel
theorem dX10_soul_1 : decode cX10_soul 1 = .ok (.iload_n 1, 1) := by decide +kernel
theorem dX10_soul_2 : decode cX10_soul 2 = .ok (.invokevirtual 245, 3) := by decide +kernel
theorem dX10_soul_5 : decode cX10_soul 5 = .ok (.aload_n 0, 1) := by decide +kernel
theorem dX10_soul_6 : decode cX10_soul 6 = .ok (.getfield 65, 3) := by decide +kernel
theorem dX10_soul_9 : decode cX10_soul 9 = .ok (.getfield 157, 3) := by decide +kernel
theorem dX10_soul_12 : decode cX10_soul 12 = .ok (.astore_n 3, 1) := by decide +kernel
theorem dX10_soul_13 : decode cX10_soul 13 = .ok (.iload_n 2, 1) := by decide +kernel
theorem dX10_soul_14 : decode cX10_soul 14 = .ok (.tableswitch 83 0 5 #[38, 44, 53, 59, 66, 76], 38) := by decide +kernel
theorem dX10_soul_52 : decode cX10_soul 52 = .ok (.aload_n 3, 1) := by decide +kernel
theorem dX10_soul_53 : decode cX10_soul 53 = .ok (.iload_n 1, 1) := by decide +kernel
theorem dX10_soul_54 : decode cX10_soul 54 = .ok (.invokevirtual 248, 3) := by decide +kernel
theorem dX10_soul_57 : decode cX10_soul 57 = .ok (.ireturn, 1) := by decide +kernel
theorem dX10_soul_58 : decode cX10_soul 58 = .ok (.aload_n 0, 1) := by decide +kernel
theorem dX10_soul_59 : decode cX10_soul 59 = .ok (.getfield 19, 3) := by decide +kernel
theorem dX10_soul_62 : decode cX10_soul 62 = .ok (.iload_n 1, 1) := by decide +kernel
theorem dX10_soul_63 : decode cX10_soul 63 = .ok (.invokevirtual 251, 3) := by decide +kernel
theorem dX10_soul_66 : decode cX10_soul 66 = .ok (.ireturn, 1) := by decide +kernel
theorem dX10_soul_67 : decode cX10_soul 67 = .ok (.aload_n 3, 1) := by decide +kernel
theorem dX10_soul_68 : decode cX10_soul 68 = .ok (.iload_n 1, 1) := by decide +kernel
theorem dX10_soul_69 : decode cX10_soul 69 = .ok (.invokevirtual 254, 3) := by decide +kernel
theorem dX10_soul_72 : decode cX10_soul 72 = .ok (.ireturn, 1) := by decide +kernel
theorem dX10_soul_73 : decode cX10_soul 73 = .ok (.aload_n 3, 1) := by decide +kernel
theorem dX10_soul_74 : decode cX10_soul 74 = .ok (.iconst 0, 1) := by decide +kernel
theorem dX10_soul_75 : decode cX10_soul 75 = .ok (.iload_n 1, 1) := by decide +kernel
theorem dX10_soul_76 : decode cX10_soul 76 = .ok (.invokevirtual 238, 3) := by decide +kernel
theorem dX10_soul_79 : decode cX10_soul 79 = .ok (.ireturn, 1) := by decide +kernel
theorem dX10_soul_80 : decode cX10_soul 80 = .ok (.aload_n 0, 1) := by decide +kernel
theorem dX10_soul_81 : decode cX10_soul 81 = .ok (.getfield 58, 3) := by decide +kernel
theorem dX10_soul_84 : decode cX10_soul 84 = .ok (.aload_n 3, 1) := by decide +kernel
theorem dX10_soul_85 : decode cX10_soul 85 = .ok (.iload_n 1, 1) := by decide +kernel
theorem dX10_soul_86 : decode cX10_soul 86 = .ok (.invokevirtual 205, 3) := by decide +kernel
theorem dX10_soul_89 : decode cX10_soul 89 = .ok (.ireturn, 1) := by decide +kernel
theorem dX10_soul_90 : decode cX10_soul 90 = .ok (.aload_n 3, 1) := by decide +kernel
theorem dX10_soul_91 : decode cX10_soul 91 = .ok (.iconst 0, 1) := by decide +kernel
theorem dX10_soul_92 : decode cX10_soul 92 = .ok (.iload_n 1, 1) := by decide +kernel
theorem dX10_soul_93 : decode cX10_soul 93 = .ok (.invokevirtual 257, 3) := by decide +kernel
theorem dX10_soul_96 : decode cX10_soul 96 = .ok (.ireturn, 1) := by decide +kernel
theorem dX10_soul_97 : decode cX10_soul 97 = .ok (.aload_n 0, 1) := by decide +kernel
theorem dX10_soul_98 : decode cX10_soul 98 = .ok (.iconst 0, 1) := by decide +kernel
theorem dX10_soul_99 : decode cX10_soul 99 = .ok (.invokevirtual 218, 3) := by decide +kernel
theorem dX10_soul_102 : decode cX10_soul 102 = .ok (.iconst (-1), 1) := by decide +kernel
theorem dX10_soul_103 : decode cX10_soul 103 = .ok (.ireturn, 1) := by decide +kernel
theorem dX10_loan_0 : decode cX10_loan 0 = .ok (.aload_n 0, 1) := by decide +kernel
theorem dX10_loan_1 : decode cX10_loan 1 = .ok (.aload_n 0, 1) := by decide +kernel
theorem dX10_loan_2 : decode cX10_loan 2 = .ok (.getfield 65, 3) := by decide +kernel
theorem dX10_loan_5 : decode cX10_loan 5 = .ok (.getfield 157, 3) := by decide +kernel
theorem dX10_loan_8 : decode cX10_loan 8 = .ok (.iload_n 1, 1) := by decide +kernel
theorem dX10_loan_9 : decode cX10_loan 9 = .ok (.invokevirtual 260, 3) := by decide +kernel
theorem dX10_loan_12 : decode cX10_loan 12 = .ok (.invokevirtual 263, 3) := by decide +kernel
theorem dX10_loan_15 : decode cX10_loan 15 = .ok (.aload_n 0, 1) := by decide +kernel
theorem dX10_loan_16 : decode cX10_loan 16 = .ok (.iload_n 2, 1) := by decide +kernel
theorem dX10_loan_17 : decode cX10_loan 17 = .ok (.iconst 0, 1) := by decide +kernel
theorem dX10_loan_18 : decode cX10_loan 18 = .ok (.bipush 6, 2) := by decide +kernel
theorem dX10_loan_20 : decode cX10_loan 20 = .ok (.invokevirtual 266, 3) := by decide +kernel
theorem dX10_loan_23 : decode cX10_loan 23 = .ok (.iload_n 2, 1) := by decide +kernel
theorem dX10_loan_24 : decode cX10_loan 24 = .ok (.bipush 6, 2) := by decide +kernel
theorem dX10_loan_26 : decode cX10_loan 26 = .ok (.if_icmp .ne 21, 3) := by decide +kernel
theorem dX10_loan_29 : decode cX10_loan 29 = .ok (.aload_n 0, 1) := by decide +kernel
theorem dX10_loan_30 : decode cX10_loan 30 = .ok (.getfield 58, 3) := by decide +kernel
theorem dX10_loan_33 : decode cX10_loan 33 = .ok (.aload_n 0, 1) := by decide +kernel
theorem dX10_loan_34 : decode cX10_loan 34 = .ok (.getfield 65, 3) := by decide +kernel
theorem dX10_loan_37 : decode cX10_loan 37 = .ok (.getfield 157, 3) := by decide +kernel
theorem dX10_loan_40 : decode cX10_loan 40 = .ok (.iload_n 1, 1) := by decide +kernel
theorem dX10_loan_41 : decode cX10_loan 41 = .ok (.invokevirtual 270, 3) := by decide +kernel
theorem dX10_loan_44 : decode cX10_loan 44 = .ok (.goto 15, 3) := by decide +kernel
theorem dX10_loan_47 : decode cX10_loan 47 = .ok (.aload_n 0, 1) := by decide +kernel
theorem dX10_loan_48 : decode cX10_loan 48 = .ok (.getfield 65, 3) := by decide +kernel
theorem dX10_loan_51 : decode cX10_loan 51 = .ok (.getfield 157, 3) := by decide +kernel
theorem dX10_loan_54 : decode cX10_loan 54 = .ok (.iload_n 1, 1) := by decide +kernel
theorem dX10_loan_55 : decode cX10_loan 55 = .ok (.iload_n 2, 1) := by decide +kernel
theorem dX10_loan_56 : decode cX10_loan 56 = .ok (.invokevirtual 273, 3) := by decide +kernel
theorem dX10_loan_59 : decode cX10_loan 59 = .ok (.ireturn, 1) := by decide +kernel
theorem dX10_would_0 : decode cX10_would 0 = .ok (.aload_n 0, 1) := by decide +kernel
theorem dX10_would_1 : decode cX10_would 1 = .ok (.iload_n 1, 1) := by decide +kernel
theorem dX10_would_2 : decode cX10_would 2 = .ok (.iconst 1, 1) := by decide +kernel
theorem dX10_would_3 : decode cX10_would 3 = .ok (.bipush 60, 2) := by decide +kernel
theorem dX10_would_5 : decode cX10_would 5 = .ok (.invokevirtual 266, 3) := by decide +kernel
theorem dX10_would_8 : decode cX10_would 8 = .ok (.aload_n 0, 1) := by decide +kernel
theorem dX10_would_9 : decode cX10_would 9 = .ok (.iload_n 2, 1) := by decide +kernel
theorem dX10_would_10 : decode cX10_would 10 = .ok (.iconst 0, 1) := by decide +kernel
theorem dX10_would_11 : decode cX10_would 11 = .ok (.sipush 999, 3) := by decide +kernel
theorem dX10_would_14 : decode cX10_would 14 = .ok (.invokevirtual 266, 3) := by decide +kernel
theorem dX10_would_17 : decode cX10_would 17 = .ok (.aload_n 0, 1) := by decide +kernel
theorem dX10_would_18 : decode cX10_would 18 = .ok (.iload_n 3, 1) := by decide +kernel
theorem dX10_would_19 : decode cX10_would 19 = .ok (.iconst 0, 1) := by decide +kernel
theorem dX10_would_20 : decode cX10_would 20 = .ok (.iconst 5, 1) := by decide +kernel
theorem dX10_would_21 : decode cX10_would 21 = .ok (.invokevirtual 266, 3) := by decide +kernel
theorem dX10_would_24 : decode cX10_would 24 = .ok (.aload_n 0, 1) := by decide +kernel
theorem dX10_would_25 : decode cX10_would 25 = .ok (.iload 4, 2) := by decide +kernel
theorem dX10_would_27 : decode cX10_would 27 = .ok (.iconst 0, 1) := by decide +kernel
theorem dX10_would_28 : decode cX10_would 28 = .ok (.iconst 1, 1) := by decide +kernel
theorem dX10_would_29 : decode cX10_would 29 = .ok (.invokevirtual 266, 3) := by decide +kernel
theorem dX10_would_32 : decode cX10_would 32 = .ok (.aload_n 0, 1) := by decide +kernel
theorem dX10_would_33 : decode cX10_would 33 = .ok (.iload 5, 2) := by decide +kernel
theorem dX10_would_35 : decode cX10_would 35 = .ok (.iconst 0, 1) := by decide +kernel
theorem dX10_would_36 : decode cX10_would 36 = .ok (.bipush 9, 2) := by decide +kernel
theorem dX10_would_38 : decode cX10_would 38 = .ok (.invokevirtual 266, 3) := by decide +kernel
theorem dX10_would_41 : decode cX10_would 41 = .ok (.aload_n 0, 1) := by decide +kernel
theorem dX10_would_42 : decode cX10_would 42 = .ok (.iload 6, 2) := by decide +kernel
theorem dX10_would_44 : decode cX10_would 44 = .ok (.iconst 0, 1) := by decide +kernel
theorem dX10_would_45 : decode cX10_would 45 = .ok (.bipush 99, 2) := by decide +kernel
theorem dX10_would_47 : decode cX10_would 47 = .ok (.invokevirtual 266, 3) := by decide +kernel
theorem dX10_would_50 : decode cX10_would 50 = .ok (.aload_n 0, 1) := by decide +kernel
theorem dX10_would_51 : decode cX10_would 51 = .ok (.iload 7, 2) := by decide +kernel
theorem dX10_would_53 : decode cX10_would 53 = .ok (.iconst 0, 1) := by decide +kernel
theorem dX10_would_54 : decode cX10_would 54 = .ok (.sipush 999, 3) := by decide +kernel
theorem dX10_would_57 : decode cX10_would 57 = .ok (.invokevirtual 266, 3) := by decide +kernel
theorem dX10_would_60 : decode cX10_would 60 = .ok (.aload_n 0, 1) := by decide +kernel
theorem dX10_would_61 : decode cX10_would 61 = .ok (.iload 8, 2) := by decide +kernel
theorem dX10_would_63 : decode cX10_would 63 = .ok (.iconst 0, 1) := by decide +kernel
theorem dX10_would_64 : decode cX10_would 64 = .ok (.iconst 5, 1) := by decide +kernel
theorem dX10_would_65 : decode cX10_would 65 = .ok (.invokevirtual 266, 3) := by decide +kernel
theorem dX10_would_68 : decode cX10_would 68 = .ok (.aload_n 0, 1) := by decide +kernel
theorem dX10_would_69 : decode cX10_would 69 = .ok (.getfield 29, 3) := by decide +kernel
theorem dX10_would_72 : decode cX10_would 72 = .ok (.iload_n 1, 1) := by decide +kernel
theorem dX10_would_73 : decode cX10_would 73 = .ok (.iload_n 2, 1) := by decide +kernel
theorem dX10_would_74 : decode cX10_would 74 = .ok (.iload_n 3, 1) := by decide +kernel
theorem dX10_would_75 : decode cX10_would 75 = .ok (.iload 4, 2) := by decide +kernel
theorem dX10_would_77 : decode cX10_would 77 = .ok (.invokevirtual 276, 3) := by decide +kernel
theorem dX10_would_80 : decode cX10_would 80 = .ok (.aload_n 0, 1) := by decide +kernel
theorem dX10_would_81 : decode cX10_would 81 = .ok (.getfield 29, 3) := by decide +kernel
theorem dX10_would_84 : decode cX10_would 84 = .ok (.iload 5, 2) := by decide +kernel
theorem dX10_would_86 : decode cX10_would 86 = .ok (.iload 6, 2) := by decide +kernel
theorem dX10_would_88 : decode cX10_would 88 = .ok (.iload 7, 2) := by decide +kernel
theorem dX10_would_90 : decode cX10_would 90 = .ok (.iload 8, 2) := by decide +kernel
theorem dX10_would_92 : decode cX10_would 92 = .ok (.invokevirtual 280, 3) := by decide +kernel
theorem dX10_would_95 : decode cX10_would 95 = .ok (.aload_n 0, 1) := by decide +kernel
theorem dX10_would_96 : decode cX10_would 96 = .ok (.getfield 29, 3) := by decide +kernel
theorem dX10_would_99 : decode cX10_would 99 = .ok (.invokevirtual 283, 3) := by decide +kernel
theorem dX10_would_102 : decode cX10_would 102 = .ok (.ireturn, 1) := by decide +kernel
theorem dX10_lends_0 : decode cX10_lends 0 = .ok (.aload_n 0, 1) := by decide +kernel
theorem dX10_lends_1 : decode cX10_lends 1 = .ok (.iload_n 1, 1) := by decide +kernel
theorem dX10_lends_2 : decode cX10_lends 2 = .ok (.invokevirtual 245, 3) := by decide +kernel
theorem dX10_lends_5 : decode cX10_lends 5 = .ok (.aload_n 0, 1) := by decide +kernel
theorem dX10_lends_6 : decode cX10_lends 6 = .ok (.iload_n 2, 1) := by decide +kernel
theorem dX10_lends_7 : decode cX10_lends 7 = .ok (.invokevirtual 222, 3) := by decide +kernel
theorem dX10_lends_10 : decode cX10_lends 10 = .ok (.aload_n 0, 1) := by decide +kernel
theorem dX10_lends_11 : decode cX10_lends 11 = .ok (.iload_n 3, 1) := by decide +kernel
theorem dX10_lends_12 : decode cX10_lends 12 = .ok (.iconst 1, 1) := by decide +kernel
theorem dX10_lends_13 : decode cX10_lends 13 = .ok (.bipush 60, 2) := by decide +kernel
theorem dX10_lends_15 : decode cX10_lends 15 = .ok (.invokevirtual 266, 3) := by decide +kernel
theorem dX10_lends_18 : decode cX10_lends 18 = .ok (.aload_n 0, 1) := by decide +kernel
theorem dX10_lends_19 : decode cX10_lends 19 = .ok (.getfield 58, 3) := by decide +kernel
theorem dX10_lends_22 : decode cX10_lends 22 = .ok (.aload_n 0, 1) := by decide +kernel
theorem dX10_lends_23 : decode cX10_lends 23 = .ok (.getfield 65, 3) := by decide +kernel
theorem dX10_lends_26 : decode cX10_lends 26 = .ok (.getfield 157, 3) := by decide +kernel
theorem dX10_lends_29 : decode cX10_lends 29 = .ok (.iload_n 1, 1) := by decide +kernel
theorem dX10_lends_30 : decode cX10_lends 30 = .ok (.iload_n 2, 1) := by decide +kernel
theorem dX10_lends_31 : decode cX10_lends 31 = .ok (.iload_n 3, 1) := by decide +kernel
theorem dX10_lends_32 : decode cX10_lends 32 = .ok (.invokevirtual 285, 3) := by decide +kernel
theorem dX10_lends_35 : decode cX10_lends 35 = .ok (.ireturn, 1) := by decide +kernel
theorem dX10_ahead_0 : decode cX10_ahead 0 = .ok (.aload_n 0, 1) := by decide +kernel
theorem dX10_ahead_1 : decode cX10_ahead 1 = .ok (.iload_n 1, 1) := by decide +kernel
theorem dX10_ahead_2 : decode cX10_ahead 2 = .ok (.iconst 0, 1) := by decide +kernel
theorem dX10_ahead_3 : decode cX10_ahead 3 = .ok (.bipush 99, 2) := by decide +kernel
theorem dX10_ahead_5 : decode cX10_ahead 5 = .ok (.invokevirtual 266, 3) := by decide +kernel
theorem dX10_ahead_8 : decode cX10_ahead 8 = .ok (.aload_n 0, 1) := by decide +kernel
theorem dX10_ahead_9 : decode cX10_ahead 9 = .ok (.iload_n 2, 1) := by decide +kernel
theorem dX10_ahead_10 : decode cX10_ahead 10 = .ok (.iconst 0, 1) := by decide +kernel
theorem dX10_ahead_11 : decode cX10_ahead 11 = .ok (.iconst 2, 1) := by decide +kernel
theorem dX10_ahead_12 : decode cX10_ahead 12 = .ok (.invokevirtual 266, 3) := by decide +kernel
theorem dX10_ahead_15 : decode cX10_ahead 15 = .ok (.aload_n 0, 1) := by decide +kernel
theorem dX10_ahead_16 : decode cX10_ahead 16 = .ok (.getfield 76, 3) := by decide +kernel
theorem dX10_ahead_19 : decode cX10_ahead 19 = .ok (.aload_n 0, 1) := by decide +kernel
theorem dX10_ahead_20 : decode cX10_ahead 20 = .ok (.getfield 65, 3) := by decide +kernel
theorem dX10_ahead_23 : decode cX10_ahead 23 = .ok (.getfield 157, 3) := by decide +kernel
theorem dX10_ahead_26 : decode cX10_ahead 26 = .ok (.invokevirtual 289, 3) := by decide +kernel
theorem dX10_ahead_29 : decode cX10_ahead 29 = .ok (.iconst 0, 1) := by decide +kernel
theorem dX10_ahead_30 : decode cX10_ahead 30 = .ok (.istore_n 3, 1) := by decide +kernel
theorem dX10_ahead_31 : decode cX10_ahead 31 = .ok (.iload_n 3, 1) := by decide +kernel
theorem dX10_ahead_32 : decode cX10_ahead 32 = .ok (.iload_n 1, 1) := by decide +kernel
theorem dX10_ahead_33 : decode cX10_ahead 33 = .ok (.if_icmp .ge 20, 3) := by decide +kernel
theorem dX10_ahead_36 : decode cX10_ahead 36 = .ok (.aload_n 0, 1) := by decide +kernel
theorem dX10_ahead_37 : decode cX10_ahead 37 = .ok (.getfield 58, 3) := by decide +kernel
theorem dX10_ahead_40 : decode cX10_ahead 40 = .ok (.aload_n 0, 1) := by decide +kernel
theorem dX10_ahead_41 : decode cX10_ahead 41 = .ok (.getfield 76, 3) := by decide +kernel
theorem dX10_ahead_44 : decode cX10_ahead 44 = .ok (.invokevirtual 292, 3) := by decide +kernel
theorem dX10_ahead_47 : decode cX10_ahead 47 = .ok (.iinc 3 1, 3) := by decide +kernel
theorem dX10_ahead_50 : decode cX10_ahead 50 = .ok (.goto (-19), 3) := by decide +kernel
theorem dX10_ahead_53 : decode cX10_ahead 53 = .ok (.iload_n 2, 1) := by decide +kernel
theorem dX10_ahead_54 : decode cX10_ahead 54 = .ok (.ifCond .ne 16, 3) := by decide +kernel
theorem dX10_ahead_57 : decode cX10_ahead 57 = .ok (.aload_n 0, 1) := by decide +kernel
theorem dX10_ahead_58 : decode cX10_ahead 58 = .ok (.getfield 58, 3) := by decide +kernel
theorem dX10_ahead_61 : decode cX10_ahead 61 = .ok (.aload_n 0, 1) := by decide +kernel
theorem dX10_ahead_62 : decode cX10_ahead 62 = .ok (.getfield 76, 3) := by decide +kernel
theorem dX10_ahead_65 : decode cX10_ahead 65 = .ok (.iconst (-1), 1) := by decide +kernel
theorem dX10_ahead_66 : decode cX10_ahead 66 = .ok (.invokevirtual 205, 3) := by decide +kernel
theorem dX10_ahead_69 : decode cX10_ahead 69 = .ok (.ireturn, 1) := by decide +kernel
theorem dX10_ahead_70 : decode cX10_ahead 70 = .ok (.iload_n 2, 1) := by decide +kernel
theorem dX10_ahead_71 : decode cX10_ahead 71 = .ok (.iconst 1, 1) := by decide +kernel
theorem dX10_ahead_72 : decode cX10_ahead 72 = .ok (.if_icmp .ne 13, 3) := by decide +kernel
theorem dX10_ahead_75 : decode cX10_ahead 75 = .ok (.aload_n 0, 1) := by decide +kernel
theorem dX10_ahead_76 : decode cX10_ahead 76 = .ok (.getfield 76, 3) := by decide +kernel
theorem dX10_ahead_79 : decode cX10_ahead 79 = .ok (.invokevirtual 198, 3) := by decide +kernel
theorem dX10_ahead_82 : decode cX10_ahead 82 = .ok (.goto 10, 3) := by decide +kernel
theorem dX10_ahead_85 : decode cX10_ahead 85 = .ok (.aload_n 0, 1) := by decide +kernel
theorem dX10_ahead_86 : decode cX10_ahead 86 = .ok (.getfield 76, 3) := by decide +kernel
theorem dX10_ahead_89 : decode cX10_ahead 89 = .ok (.invokevirtual 209, 3) := by decide +kernel
theorem dX10_ahead_92 : decode cX10_ahead 92 = .ok (.ireturn, 1) := by decide +kernel
theorem dX10_cheapest_0 : decode cX10_cheapest 0 = .ok (.aload_n 0, 1) := by decide +kernel
theorem dX10_cheapest_1 : decode cX10_cheapest 1 = .ok (.iload_n 1, 1) := by decide +kernel
theorem dX10_cheapest_2 : decode cX10_cheapest 2 = .ok (.invokevirtual 245, 3) := by decide +kernel
theorem dX10_cheapest_5 : decode cX10_cheapest 5 = .ok (.aload_n 0, 1) := by decide +kernel
theorem dX10_cheapest_6 : decode cX10_cheapest 6 = .ok (.iload_n 2, 1) := by decide +kernel
theorem dX10_cheapest_7 : decode cX10_cheapest 7 = .ok (.iconst 0, 1) := by decide +kernel
theorem dX10_cheapest_8 : decode cX10_cheapest 8 = .ok (.iconst 5, 1) := by decide +kernel
theorem dX10_cheapest_9 : decode cX10_cheapest 9 = .ok (.invokevirtual 266, 3) := by decide +kernel
theorem dX10_cheapest_12 : decode cX10_cheapest 12 = .ok (.aload_n 0, 1) := by decide +kernel
theorem dX10_cheapest_13 : decode cX10_cheapest 13 = .ok (.iload_n 3, 1) := by decide +kernel
theorem dX10_cheapest_14 : decode cX10_cheapest 14 = .ok (.iconst 1, 1) := by decide +kernel
theorem dX10_cheapest_15 : decode cX10_cheapest 15 = .ok (.bipush 60, 2) := by decide +kernel
theorem dX10_cheapest_17 : decode cX10_cheapest 17 = .ok (.invokevirtual 266, 3) := by decide +kernel
theorem dX10_cheapest_20 : decode cX10_cheapest 20 = .ok (.aload_n 0, 1) := by decide +kernel
theorem dX10_cheapest_21 : decode cX10_cheapest 21 = .ok (.iload 4, 2) := by decide +kernel
theorem dX10_cheapest_23 : decode cX10_cheapest 23 = .ok (.iconst 1, 1) := by decide +kernel
theorem dX10_cheapest_24 : decode cX10_cheapest 24 = .ok (.bipush 40, 2) := by decide +kernel
theorem dX10_cheapest_26 : decode cX10_cheapest 26 = .ok (.invokevirtual 266, 3) := by decide +kernel
theorem dX10_cheapest_29 : decode cX10_cheapest 29 = .ok (.iconst (-1), 1) := by decide +kernel
theorem dX10_cheapest_30 : decode cX10_cheapest 30 = .ok (.istore 5, 2) := by decide +kernel
theorem dX10_cheapest_32 : decode cX10_cheapest 32 = .ok (.iconst 0, 1) := by decide +kernel
theorem dX10_cheapest_33 : decode cX10_cheapest 33 = .ok (.istore 6, 2) := by decide +kernel
theorem dX10_cheapest_35 : decode cX10_cheapest 35 = .ok (.iconst 0, 1) := by decide +kernel
theorem dX10_cheapest_36 : decode cX10_cheapest 36 = .ok (.istore 7, 2) := by decide +kernel
theorem dX10_cheapest_38 : decode cX10_cheapest 38 = .ok (.iload 7, 2) := by decide +kernel
theorem dX10_cheapest_40 : decode cX10_cheapest 40 = .ok (.aload_n 0, 1) := by decide +kernel
theorem dX10_cheapest_41 : decode cX10_cheapest 41 = .ok (.getfield 19, 3) := by decide +kernel
theorem dX10_cheapest_44 : decode cX10_cheapest 44 = .ok (.getfield 141, 3) := by decide +kernel
theorem dX10_cheapest_47 : decode cX10_cheapest 47 = .ok (.if_icmp .ge 86, 3) := by decide +kernel
theorem dX10_cheapest_50 : decode cX10_cheapest 50 = .ok (.aload_n 0, 1) := by decide +kernel
theorem dX10_cheapest_51 : decode cX10_cheapest 51 = .ok (.getfield 19, 3) := by decide +kernel
theorem dX10_cheapest_54 : decode cX10_cheapest 54 = .ok (.iload 7, 2) := by decide +kernel
theorem dX10_cheapest_56 : decode cX10_cheapest 56 = .ok (.invokevirtual 225, 3) := by decide +kernel
theorem dX10_cheapest_59 : decode cX10_cheapest 59 = .ok (.iload_n 2, 1) := by decide +kernel
theorem dX10_cheapest_60 : decode cX10_cheapest 60 = .ok (.if_icmp .ne 67, 3) := by decide +kernel
theorem dX10_cheapest_63 : decode cX10_cheapest 63 = .ok (.aload_n 0, 1) := by decide +kernel
theorem dX10_cheapest_64 : decode cX10_cheapest 64 = .ok (.getfield 58, 3) := by decide +kernel
theorem dX10_cheapest_67 : decode cX10_cheapest 67 = .ok (.aload_n 0, 1) := by decide +kernel
theorem dX10_cheapest_68 : decode cX10_cheapest 68 = .ok (.getfield 65, 3) := by decide +kernel
theorem dX10_cheapest_71 : decode cX10_cheapest 71 = .ok (.getfield 157, 3) := by decide +kernel
theorem dX10_cheapest_74 : decode cX10_cheapest 74 = .ok (.iload_n 1, 1) := by decide +kernel
theorem dX10_cheapest_75 : decode cX10_cheapest 75 = .ok (.iload 7, 2) := by decide +kernel
theorem dX10_cheapest_77 : decode cX10_cheapest 77 = .ok (.iload_n 3, 1) := by decide +kernel
theorem dX10_cheapest_78 : decode cX10_cheapest 78 = .ok (.invokevirtual 285, 3) := by decide +kernel
theorem dX10_cheapest_81 : decode cX10_cheapest 81 = .ok (.ifCond .eq 46, 3) := by decide +kernel
theorem dX10_cheapest_84 : decode cX10_cheapest 84 = .ok (.aload_n 0, 1) := by decide +kernel
theorem dX10_cheapest_85 : decode cX10_cheapest 85 = .ok (.getfield 58, 3) := by decide +kernel
theorem dX10_cheapest_88 : decode cX10_cheapest 88 = .ok (.aload_n 0, 1) := by decide +kernel
theorem dX10_cheapest_89 : decode cX10_cheapest 89 = .ok (.getfield 65, 3) := by decide +kernel
theorem dX10_cheapest_92 : decode cX10_cheapest 92 = .ok (.getfield 157, 3) := by decide +kernel
theorem dX10_cheapest_95 : decode cX10_cheapest 95 = .ok (.iload_n 1, 1) := by decide +kernel
theorem dX10_cheapest_96 : decode cX10_cheapest 96 = .ok (.iload 7, 2) := by decide +kernel
theorem dX10_cheapest_98 : decode cX10_cheapest 98 = .ok (.iload_n 3, 1) := by decide +kernel
theorem dX10_cheapest_99 : decode cX10_cheapest 99 = .ok (.iload 4, 2) := by decide +kernel
theorem dX10_cheapest_101 : decode cX10_cheapest 101 = .ok (.invokevirtual 295, 3) := by decide +kernel
theorem dX10_cheapest_104 : decode cX10_cheapest 104 = .ok (.istore 8, 2) := by decide +kernel
theorem dX10_cheapest_106 : decode cX10_cheapest 106 = .ok (.iload 5, 2) := by decide +kernel
theorem dX10_cheapest_108 : decode cX10_cheapest 108 = .ok (.iconst (-1), 1) := by decide +kernel
theorem dX10_cheapest_109 : decode cX10_cheapest 109 = .ok (.if_icmp .eq 10, 3) := by decide +kernel
theorem dX10_cheapest_112 : decode cX10_cheapest 112 = .ok (.iload 8, 2) := by decide +kernel
theorem dX10_cheapest_114 : decode cX10_cheapest 114 = .ok (.iload 6, 2) := by decide +kernel
theorem dX10_cheapest_116 : decode cX10_cheapest 116 = .ok (.if_icmp .ge 11, 3) := by decide +kernel
theorem dX10_cheapest_119 : decode cX10_cheapest 119 = .ok (.iload 7, 2) := by decide +kernel
theorem dX10_cheapest_121 : decode cX10_cheapest 121 = .ok (.istore 5, 2) := by decide +kernel
theorem dX10_cheapest_123 : decode cX10_cheapest 123 = .ok (.iload 8, 2) := by decide +kernel
theorem dX10_cheapest_125 : decode cX10_cheapest 125 = .ok (.istore 6, 2) := by decide +kernel
theorem dX10_cheapest_127 : decode cX10_cheapest 127 = .ok (.iinc 7 1, 3) := by decide +kernel
theorem dX10_cheapest_130 : decode cX10_cheapest 130 = .ok (.goto (-92), 3) := by decide +kernel
theorem dX10_cheapest_133 : decode cX10_cheapest 133 = .ok (.iload 5, 2) := by decide +kernel
theorem dX10_cheapest_135 : decode cX10_cheapest 135 = .ok (.ireturn, 1) := by decide +kernel
theorem dX10_clears_0 : decode cX10_clears 0 = .ok (.aload_n 0, 1) := by decide +kernel
theorem dX10_clears_1 : decode cX10_clears 1 = .ok (.iload_n 1, 1) := by decide +kernel
theorem dX10_clears_2 : decode cX10_clears 2 = .ok (.invokevirtual 245, 3) := by decide +kernel
theorem dX10_clears_5 : decode cX10_clears 5 = .ok (.aload_n 0, 1) := by decide +kernel
theorem dX10_clears_6 : decode cX10_clears 6 = .ok (.invokevirtual 299, 3) := by decide +kernel
theorem dX10_clears_9 : decode cX10_clears 9 = .ok (.aload_n 0, 1) := by decide +kernel
theorem dX10_clears_10 : decode cX10_clears 10 = .ok (.getfield 65, 3) := by decide +kernel
theorem dX10_clears_13 : decode cX10_clears 13 = .ok (.getfield 157, 3) := by decide +kernel
theorem dX10_clears_16 : decode cX10_clears 16 = .ok (.iconst 0, 1) := by decide +kernel
theorem dX10_clears_17 : decode cX10_clears 17 = .ok (.iload_n 1, 1) := by decide +kernel
theorem dX10_clears_18 : decode cX10_clears 18 = .ok (.invokevirtual 238, 3) := by decide +kernel
theorem dX10_clears_21 : decode cX10_clears 21 = .ok (.istore_n 2, 1) := by decide +kernel
theorem dX10_clears_22 : decode cX10_clears 22 = .ok (.aload_n 0, 1) := by decide +kernel
theorem dX10_clears_23 : decode cX10_clears 23 = .ok (.getfield 65, 3) := by decide +kernel
theorem dX10_clears_26 : decode cX10_clears 26 = .ok (.getfield 157, 3) := by decide +kernel
theorem dX10_clears_29 : decode cX10_clears 29 = .ok (.iload_n 1, 1) := by decide +kernel
theorem dX10_clears_30 : decode cX10_clears 30 = .ok (.invokevirtual 254, 3) := by decide +kernel
theorem dX10_clears_33 : decode cX10_clears 33 = .ok (.istore_n 3, 1) := by decide +kernel
theorem dX10_clears_34 : decode cX10_clears 34 = .ok (.iconst 0, 1) := by decide +kernel
theorem dX10_clears_35 : decode cX10_clears 35 = .ok (.istore 4, 2) := by decide +kernel
theorem dX10_clears_37 : decode cX10_clears 37 = .ok (.iconst 1, 1) := by decide +kernel
theorem dX10_clears_38 : decode cX10_clears 38 = .ok (.istore 5, 2) := by decide +kernel
theorem dX10_clears_40 : decode cX10_clears 40 = .ok (.iload 5, 2) := by decide +kernel
theorem dX10_clears_42 : decode cX10_clears 42 = .ok (.iconst 1, 1) := by decide +kernel
theorem dX10_clears_43 : decode cX10_clears 43 = .ok (.aload_n 0, 1) := by decide +kernel
theorem dX10_clears_44 : decode cX10_clears 44 = .ok (.getfield 65, 3) := by decide +kernel
theorem dX10_clears_47 : decode cX10_clears 47 = .ok (.getfield 157, 3) := by decide +kernel
theorem dX10_clears_50 : decode cX10_clears 50 = .ok (.invokevirtual 192, 3) := by decide +kernel
theorem dX10_clears_53 : decode cX10_clears 53 = .ok (.ishl, 1) := by decide +kernel
theorem dX10_clears_54 : decode cX10_clears 54 = .ok (.if_icmp .ge 43, 3) := by decide +kernel
theorem dX10_clears_57 : decode cX10_clears 57 = .ok (.iload 5, 2) := by decide +kernel
theorem dX10_clears_59 : decode cX10_clears 59 = .ok (.iload_n 2, 1) := by decide +kernel
theorem dX10_clears_60 : decode cX10_clears 60 = .ok (.iconst (-1), 1) := by decide +kernel
theorem dX10_clears_61 : decode cX10_clears 61 = .ok (.ixor, 1) := by decide +kernel
theorem dX10_clears_62 : decode cX10_clears 62 = .ok (.iand, 1) := by decide +kernel
theorem dX10_clears_63 : decode cX10_clears 63 = .ok (.ifCond .ne 28, 3) := by decide +kernel
theorem dX10_clears_66 : decode cX10_clears 66 = .ok (.aload_n 0, 1) := by decide +kernel
theorem dX10_clears_67 : decode cX10_clears 67 = .ok (.iload 5, 2) := by decide +kernel
theorem dX10_clears_69 : decode cX10_clears 69 = .ok (.invokevirtual 302, 3) := by decide +kernel
theorem dX10_clears_72 : decode cX10_clears 72 = .ok (.iload_n 3, 1) := by decide +kernel
theorem dX10_clears_73 : decode cX10_clears 73 = .ok (.if_icmp .gt 18, 3) := by decide +kernel
theorem dX10_clears_76 : decode cX10_clears 76 = .ok (.aload_n 0, 1) := by decide +kernel
theorem dX10_clears_77 : decode cX10_clears 77 = .ok (.iload 5, 2) := by decide +kernel
theorem dX10_clears_79 : decode cX10_clears 79 = .ok (.iload 4, 2) := by decide +kernel
theorem dX10_clears_81 : decode cX10_clears 81 = .ok (.invokevirtual 305, 3) := by decide +kernel
theorem dX10_clears_84 : decode cX10_clears 84 = .ok (.ifCond .eq 7, 3) := by decide +kernel
theorem dX10_clears_87 : decode cX10_clears 87 = .ok (.iload 5, 2) := by decide +kernel
theorem dX10_clears_89 : decode cX10_clears 89 = .ok (.istore 4, 2) := by decide +kernel
theorem dX10_clears_91 : decode cX10_clears 91 = .ok (.iinc 5 1, 3) := by decide +kernel
theorem dX10_clears_94 : decode cX10_clears 94 = .ok (.goto (-54), 3) := by decide +kernel
