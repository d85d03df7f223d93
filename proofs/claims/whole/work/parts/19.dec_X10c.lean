theorem dX10_poorest_54 : decode cX10_poorest 54 = .ok (.iload 5, 2) := by decide +kernel
theorem dX10_poorest_56 : decode cX10_poorest 56 = .ok (.istore_n 3, 1) := by decide +kernel
theorem dX10_poorest_57 : decode cX10_poorest 57 = .ok (.iinc 4 1, 3) := by decide +kernel
theorem dX10_poorest_60 : decode cX10_poorest 60 = .ok (.goto (-46), 3) := by decide +kernel
theorem dX10_poorest_63 : decode cX10_poorest 63 = .ok (.iload_n 1, 1) := by decide +kernel
theorem dX10_poorest_64 : decode cX10_poorest 64 = .ok (.ifCond .ne 7, 3) := by decide +kernel
theorem dX10_poorest_67 : decode cX10_poorest 67 = .ok (.iload_n 2, 1) := by decide +kernel
theorem dX10_poorest_68 : decode cX10_poorest 68 = .ok (.goto 4, 3) := by decide +kernel
theorem dX10_poorest_71 : decode cX10_poorest 71 = .ok (.iload_n 3, 1) := by decide +kernel
theorem dX10_poorest_72 : decode cX10_poorest 72 = .ok (.ireturn, 1) := by decide +kernel
theorem dX10_winter_0 : decode cX10_winter 0 = .ok (.aload_n 0, 1) := by decide +kernel
theorem dX10_winter_1 : decode cX10_winter 1 = .ok (.iload_n 2, 1) := by decide +kernel
theorem dX10_winter_2 : decode cX10_winter 2 = .ok (.iconst 0, 1) := by decide +kernel
theorem dX10_winter_3 : decode cX10_winter 3 = .ok (.bipush 16, 2) := by decide +kernel
theorem dX10_winter_5 : decode cX10_winter 5 = .ok (.invokevirtual 266, 3) := by decide +kernel
theorem dX10_winter_8 : decode cX10_winter 8 = .ok (.aload_n 0, 1) := by decide +kernel
theorem dX10_winter_9 : decode cX10_winter 9 = .ok (.iload_n 3, 1) := by decide +kernel
theorem dX10_winter_10 : decode cX10_winter 10 = .ok (.iconst 1, 1) := by decide +kernel
theorem dX10_winter_11 : decode cX10_winter 11 = .ok (.bipush 96, 2) := by decide +kernel
theorem dX10_winter_13 : decode cX10_winter 13 = .ok (.invokevirtual 266, 3) := by decide +kernel
theorem dX10_winter_16 : decode cX10_winter 16 = .ok (.aload_n 0, 1) := by decide +kernel
theorem dX10_winter_17 : decode cX10_winter 17 = .ok (.iload 4, 2) := by decide +kernel
theorem dX10_winter_19 : decode cX10_winter 19 = .ok (.iconst 0, 1) := by decide +kernel
theorem dX10_winter_20 : decode cX10_winter 20 = .ok (.iconst 3, 1) := by decide +kernel
theorem dX10_winter_21 : decode cX10_winter 21 = .ok (.invokevirtual 266, 3) := by decide +kernel
theorem dX10_winter_24 : decode cX10_winter 24 = .ok (.aload_n 0, 1) := by decide +kernel
theorem dX10_winter_25 : decode cX10_winter 25 = .ok (.iload_n 1, 1) := by decide +kernel
theorem dX10_winter_26 : decode cX10_winter 26 = .ok (.iload_n 2, 1) := by decide +kernel
theorem dX10_winter_27 : decode cX10_winter 27 = .ok (.iload_n 3, 1) := by decide +kernel
theorem dX10_winter_28 : decode cX10_winter 28 = .ok (.invokevirtual 353, 3) := by decide +kernel
theorem dX10_winter_31 : decode cX10_winter 31 = .ok (.iload 4, 2) := by decide +kernel
theorem dX10_winter_33 : decode cX10_winter 33 = .ok (.tableswitch 52 0 2 #[27, 35, 44], 27) := by decide +kernel
theorem dX10_winter_60 : decode cX10_winter 60 = .ok (.aload_n 0, 1) := by decide +kernel
theorem dX10_winter_61 : decode cX10_winter 61 = .ok (.getfield 76, 3) := by decide +kernel
theorem dX10_winter_64 : decode cX10_winter 64 = .ok (.invokevirtual 192, 3) := by decide +kernel
theorem dX10_winter_67 : decode cX10_winter 67 = .ok (.ireturn, 1) := by decide +kernel
theorem dX10_winter_68 : decode cX10_winter 68 = .ok (.aload_n 0, 1) := by decide +kernel
theorem dX10_winter_69 : decode cX10_winter 69 = .ok (.aload_n 0, 1) := by decide +kernel
theorem dX10_winter_70 : decode cX10_winter 70 = .ok (.getfield 76, 3) := by decide +kernel
theorem dX10_winter_73 : decode cX10_winter 73 = .ok (.invokevirtual 201, 3) := by decide +kernel
theorem dX10_winter_76 : decode cX10_winter 76 = .ok (.ireturn, 1) := by decide +kernel
theorem dX10_winter_77 : decode cX10_winter 77 = .ok (.aload_n 0, 1) := by decide +kernel
theorem dX10_winter_78 : decode cX10_winter 78 = .ok (.getfield 76, 3) := by decide +kernel
theorem dX10_winter_81 : decode cX10_winter 81 = .ok (.invokevirtual 198, 3) := by decide +kernel
theorem dX10_winter_84 : decode cX10_winter 84 = .ok (.ireturn, 1) := by decide +kernel
theorem dX10_winter_85 : decode cX10_winter 85 = .ok (.aload_n 0, 1) := by decide +kernel
theorem dX10_winter_86 : decode cX10_winter 86 = .ok (.getfield 76, 3) := by decide +kernel
theorem dX10_winter_89 : decode cX10_winter 89 = .ok (.invokevirtual 215, 3) := by decide +kernel
theorem dX10_winter_92 : decode cX10_winter 92 = .ok (.aload_n 0, 1) := by decide +kernel
theorem dX10_winter_93 : decode cX10_winter 93 = .ok (.getfield 65, 3) := by decide +kernel
theorem dX10_winter_96 : decode cX10_winter 96 = .ok (.getfield 157, 3) := by decide +kernel
theorem dX10_winter_99 : decode cX10_winter 99 = .ok (.invokevirtual 215, 3) := by decide +kernel
theorem dX10_winter_102 : decode cX10_winter 102 = .ok (.isub, 1) := by decide +kernel
theorem dX10_winter_103 : decode cX10_winter 103 = .ok (.ireturn, 1) := by decide +kernel
theorem dX10_span_0 : decode cX10_span 0 = .ok (.aload_n 0, 1) := by decide +kernel
theorem dX10_span_1 : decode cX10_span 1 = .ok (.iload_n 2, 1) := by decide +kernel
theorem dX10_span_2 : decode cX10_span 2 = .ok (.iconst 1, 1) := by decide +kernel
theorem dX10_span_3 : decode cX10_span 3 = .ok (.bipush 20, 2) := by decide +kernel
theorem dX10_span_5 : decode cX10_span 5 = .ok (.invokevirtual 266, 3) := by decide +kernel
theorem dX10_span_8 : decode cX10_span 8 = .ok (.aload_n 0, 1) := by decide +kernel
theorem dX10_span_9 : decode cX10_span 9 = .ok (.iload_n 3, 1) := by decide +kernel
theorem dX10_span_10 : decode cX10_span 10 = .ok (.iconst 0, 1) := by decide +kernel
theorem dX10_span_11 : decode cX10_span 11 = .ok (.bipush 16, 2) := by decide +kernel
theorem dX10_span_13 : decode cX10_span 13 = .ok (.invokevirtual 266, 3) := by decide +kernel
theorem dX10_span_16 : decode cX10_span 16 = .ok (.aload_n 0, 1) := by decide +kernel
theorem dX10_span_17 : decode cX10_span 17 = .ok (.iload 4, 2) := by decide +kernel
theorem dX10_span_19 : decode cX10_span 19 = .ok (.iconst 1, 1) := by decide +kernel
theorem dX10_span_20 : decode cX10_span 20 = .ok (.bipush 96, 2) := by decide +kernel
theorem dX10_span_22 : decode cX10_span 22 = .ok (.invokevirtual 266, 3) := by decide +kernel
theorem dX10_span_25 : decode cX10_span 25 = .ok (.aload_n 0, 1) := by decide +kernel
theorem dX10_span_26 : decode cX10_span 26 = .ok (.iload 5, 2) := by decide +kernel
theorem dX10_span_28 : decode cX10_span 28 = .ok (.iconst 0, 1) := by decide +kernel
theorem dX10_span_29 : decode cX10_span 29 = .ok (.iconst 2, 1) := by decide +kernel
theorem dX10_span_30 : decode cX10_span 30 = .ok (.invokevirtual 266, 3) := by decide +kernel
theorem dX10_span_33 : decode cX10_span 33 = .ok (.aload_n 0, 1) := by decide +kernel
theorem dX10_span_34 : decode cX10_span 34 = .ok (.iload 6, 2) := by decide +kernel
theorem dX10_span_36 : decode cX10_span 36 = .ok (.ifCond .lt 19, 3) := by decide +kernel
theorem dX10_span_39 : decode cX10_span 39 = .ok (.iload 6, 2) := by decide +kernel
theorem dX10_span_41 : decode cX10_span 41 = .ok (.aload_n 0, 1) := by decide +kernel
theorem dX10_span_42 : decode cX10_span 42 = .ok (.getfield 19, 3) := by decide +kernel
theorem dX10_span_45 : decode cX10_span 45 = .ok (.getfield 173, 3) := by decide +kernel
theorem dX10_span_48 : decode cX10_span 48 = .ok (.if_icmp .ge 7, 3) := by decide +kernel
theorem dX10_span_51 : decode cX10_span 51 = .ok (.iconst 1, 1) := by decide +kernel
theorem dX10_span_52 : decode cX10_span 52 = .ok (.goto 4, 3) := by decide +kernel
theorem dX10_span_55 : decode cX10_span 55 = .ok (.iconst 0, 1) := by decide +kernel
theorem dX10_span_56 : decode cX10_span 56 = .ok (.invokevirtual 218, 3) := by decide +kernel
theorem dX10_span_59 : decode cX10_span 59 = .ok (.iconst (-1), 1) := by decide +kernel
theorem dX10_span_60 : decode cX10_span 60 = .ok (.istore 7, 2) := by decide +kernel
theorem dX10_span_62 : decode cX10_span 62 = .ok (.iconst (-1), 1) := by decide +kernel
theorem dX10_span_63 : decode cX10_span 63 = .ok (.istore 8, 2) := by decide +kernel
theorem dX10_span_65 : decode cX10_span 65 = .ok (.iconst 0, 1) := by decide +kernel
theorem dX10_span_66 : decode cX10_span 66 = .ok (.istore 9, 2) := by decide +kernel
theorem dX10_span_68 : decode cX10_span 68 = .ok (.iconst 0, 1) := by decide +kernel
theorem dX10_span_69 : decode cX10_span 69 = .ok (.istore 10, 2) := by decide +kernel
theorem dX10_span_71 : decode cX10_span 71 = .ok (.iload 10, 2) := by decide +kernel
theorem dX10_span_73 : decode cX10_span 73 = .ok (.iload_n 2, 1) := by decide +kernel
theorem dX10_span_74 : decode cX10_span 74 = .ok (.if_icmp .ge 81, 3) := by decide +kernel
theorem dX10_span_77 : decode cX10_span 77 = .ok (.aload_n 0, 1) := by decide +kernel
theorem dX10_span_78 : decode cX10_span 78 = .ok (.iload_n 1, 1) := by decide +kernel
theorem dX10_span_79 : decode cX10_span 79 = .ok (.iload 10, 2) := by decide +kernel
theorem dX10_span_81 : decode cX10_span 81 = .ok (.iadd, 1) := by decide +kernel
theorem dX10_span_82 : decode cX10_span 82 = .ok (.iload_n 3, 1) := by decide +kernel
theorem dX10_span_83 : decode cX10_span 83 = .ok (.iload 4, 2) := by decide +kernel
theorem dX10_span_85 : decode cX10_span 85 = .ok (.invokevirtual 353, 3) := by decide +kernel
theorem dX10_span_88 : decode cX10_span 88 = .ok (.aload_n 0, 1) := by decide +kernel
theorem dX10_span_89 : decode cX10_span 89 = .ok (.aload_n 0, 1) := by decide +kernel
theorem dX10_span_90 : decode cX10_span 90 = .ok (.getfield 76, 3) := by decide +kernel
theorem dX10_span_93 : decode cX10_span 93 = .ok (.invokevirtual 201, 3) := by decide +kernel
theorem dX10_span_96 : decode cX10_span 96 = .ok (.istore 11, 2) := by decide +kernel
theorem dX10_span_98 : decode cX10_span 98 = .ok (.iload 7, 2) := by decide +kernel
theorem dX10_span_100 : decode cX10_span 100 = .ok (.iconst (-1), 1) := by decide +kernel
theorem dX10_span_101 : decode cX10_span 101 = .ok (.if_icmp .ne 8, 3) := by decide +kernel
theorem dX10_span_104 : decode cX10_span 104 = .ok (.iload 11, 2) := by decide +kernel
theorem dX10_span_106 : decode cX10_span 106 = .ok (.goto 10, 3) := by decide +kernel
theorem dX10_span_109 : decode cX10_span 109 = .ok (.iload 7, 2) := by decide +kernel
theorem dX10_span_111 : decode cX10_span 111 = .ok (.iload 11, 2) := by decide +kernel
theorem dX10_span_113 : decode cX10_span 113 = .ok (.invokestatic 342, 3) := by decide +kernel
theorem dX10_span_116 : decode cX10_span 116 = .ok (.istore 7, 2) := by decide +kernel
theorem dX10_span_118 : decode cX10_span 118 = .ok (.iload 8, 2) := by decide +kernel
theorem dX10_span_120 : decode cX10_span 120 = .ok (.iload 11, 2) := by decide +kernel
theorem dX10_span_122 : decode cX10_span 122 = .ok (.invokestatic 356, 3) := by decide +kernel
theorem dX10_span_125 : decode cX10_span 125 = .ok (.istore 8, 2) := by decide +kernel
theorem dX10_span_127 : decode cX10_span 127 = .ok (.iload 9, 2) := by decide +kernel
theorem dX10_span_129 : decode cX10_span 129 = .ok (.aload_n 0, 1) := by decide +kernel
theorem dX10_span_130 : decode cX10_span 130 = .ok (.getfield 76, 3) := by decide +kernel
theorem dX10_span_133 : decode cX10_span 133 = .ok (.iload 6, 2) := by decide +kernel
theorem dX10_span_135 : decode cX10_span 135 = .ok (.invokevirtual 248, 3) := by decide +kernel
theorem dX10_span_138 : decode cX10_span 138 = .ok (.ifCond .ne 7, 3) := by decide +kernel
theorem dX10_span_141 : decode cX10_span 141 = .ok (.iconst 1, 1) := by decide +kernel
theorem dX10_span_142 : decode cX10_span 142 = .ok (.goto 4, 3) := by decide +kernel
theorem dX10_span_145 : decode cX10_span 145 = .ok (.iconst 0, 1) := by decide +kernel
theorem dX10_span_146 : decode cX10_span 146 = .ok (.iadd, 1) := by decide +kernel
theorem dX10_span_147 : decode cX10_span 147 = .ok (.istore 9, 2) := by decide +kernel
theorem dX10_span_149 : decode cX10_span 149 = .ok (.iinc 10 1, 3) := by decide +kernel
theorem dX10_span_152 : decode cX10_span 152 = .ok (.goto (-81), 3) := by decide +kernel
theorem dX10_span_155 : decode cX10_span 155 = .ok (.iload 5, 2) := by decide +kernel
theorem dX10_span_157 : decode cX10_span 157 = .ok (.ifCond .ne 6, 3) := by decide +kernel
theorem dX10_span_160 : decode cX10_span 160 = .ok (.iload 7, 2) := by decide +kernel
theorem dX10_span_162 : decode cX10_span 162 = .ok (.ireturn, 1) := by decide +kernel
theorem dX10_span_163 : decode cX10_span 163 = .ok (.iload 5, 2) := by decide +kernel
theorem dX10_span_165 : decode cX10_span 165 = .ok (.iconst 1, 1) := by decide +kernel
theorem dX10_span_166 : decode cX10_span 166 = .ok (.if_icmp .ne 8, 3) := by decide +kernel
theorem dX10_span_169 : decode cX10_span 169 = .ok (.iload 8, 2) := by decide +kernel
theorem dX10_span_171 : decode cX10_span 171 = .ok (.goto 5, 3) := by decide +kernel
theorem dX10_span_174 : decode cX10_span 174 = .ok (.iload 9, 2) := by decide +kernel
theorem dX10_span_176 : decode cX10_span 176 = .ok (.ireturn, 1) := by decide +kernel
theorem dX10_image_0 : decode cX10_image 0 = .ok (.aload_n 0, 1) := by decide +kernel
theorem dX10_image_1 : decode cX10_image 1 = .ok (.getfield 135, 3) := by decide +kernel
theorem dX10_image_4 : decode cX10_image 4 = .ok (.ifCond .lt 15, 3) := by decide +kernel
theorem dX10_image_7 : decode cX10_image 7 = .ok (.aload_n 0, 1) := by decide +kernel
theorem dX10_image_8 : decode cX10_image 8 = .ok (.getfield 135, 3) := by decide +kernel
theorem dX10_image_11 : decode cX10_image 11 = .ok (.aload_n 0, 1) := by decide +kernel
theorem dX10_image_12 : decode cX10_image 12 = .ok (.getfield 69, 3) := by decide +kernel
theorem dX10_image_15 : decode cX10_image 15 = .ok (.arraylength, 1) := by decide +kernel
theorem dX10_image_16 : decode cX10_image 16 = .ok (.if_icmp .lt 5, 3) := by decide +kernel
theorem dX10_image_19 : decode cX10_image 19 = .ok (.iconst (-1), 1) := by decide +kernel
theorem dX10_image_20 : decode cX10_image 20 = .ok (.ireturn, 1) := by decide +kernel
theorem dX10_image_21 : decode cX10_image 21 = .ok (.aload_n 0, 1) := by decide +kernel
theorem dX10_image_22 : decode cX10_image 22 = .ok (.getfield 69, 3) := by decide +kernel
theorem dX10_image_25 : decode cX10_image 25 = .ok (.aload_n 0, 1) := by decide +kernel
theorem dX10_image_26 : decode cX10_image 26 = .ok (.getfield 135, 3) := by decide +kernel
theorem dX10_image_29 : decode cX10_image 29 = .ok (.aaload, 1) := by decide +kernel
theorem dX10_image_30 : decode cX10_image 30 = .ok (.aload_n 0, 1) := by decide +kernel
theorem dX10_image_31 : decode cX10_image 31 = .ok (.getfield 65, 3) := by decide +kernel
theorem dX10_image_34 : decode cX10_image 34 = .ok (.invokevirtual 359, 3) := by decide +kernel
theorem dX10_image_37 : decode cX10_image 37 = .ok (.aload_n 0, 1) := by decide +kernel
theorem dX10_image_38 : decode cX10_image 38 = .ok (.dup, 1) := by decide +kernel
theorem dX10_image_39 : decode cX10_image 39 = .ok (.getfield 135, 3) := by decide +kernel
theorem dX10_image_42 : decode cX10_image 42 = .ok (.iconst 1, 1) := by decide +kernel
theorem dX10_image_43 : decode cX10_image 43 = .ok (.iadd, 1) := by decide +kernel
theorem dX10_image_44 : decode cX10_image 44 = .ok (.putfield 135, 3) := by decide +kernel
theorem dX10_image_47 : decode cX10_image 47 = .ok (.aload_n 0, 1) := by decide +kernel
theorem dX10_image_48 : decode cX10_image 48 = .ok (.getfield 135, 3) := by decide +kernel
theorem dX10_image_51 : decode cX10_image 51 = .ok (.ireturn, 1) := by decide +kernel
theorem dX10_restore_0 : decode cX10_restore 0 = .ok (.aload_n 0, 1) := by decide +kernel
theorem dX10_restore_1 : decode cX10_restore 1 = .ok (.getfield 135, 3) := by decide +kernel
theorem dX10_restore_4 : decode cX10_restore 4 = .ok (.ifCond .le 15, 3) := by decide +kernel
theorem dX10_restore_7 : decode cX10_restore 7 = .ok (.aload_n 0, 1) := by decide +kernel
theorem dX10_restore_8 : decode cX10_restore 8 = .ok (.getfield 135, 3) := by decide +kernel
theorem dX10_restore_11 : decode cX10_restore 11 = .ok (.aload_n 0, 1) := by decide +kernel
theorem dX10_restore_12 : decode cX10_restore 12 = .ok (.getfield 69, 3) := by decide +kernel
theorem dX10_restore_15 : decode cX10_restore 15 = .ok (.arraylength, 1) := by decide +kernel
theorem dX10_restore_16 : decode cX10_restore 16 = .ok (.if_icmp .le 5, 3) := by decide +kernel
theorem dX10_restore_19 : decode cX10_restore 19 = .ok (.iconst (-1), 1) := by decide +kernel
theorem dX10_restore_20 : decode cX10_restore 20 = .ok (.ireturn, 1) := by decide +kernel
theorem dX10_restore_21 : decode cX10_restore 21 = .ok (.aload_n 0, 1) := by decide +kernel
theorem dX10_restore_22 : decode cX10_restore 22 = .ok (.dup, 1) := by decide +kernel
theorem dX10_restore_23 : decode cX10_restore 23 = .ok (.getfield 135, 3) := by decide +kernel
theorem dX10_restore_26 : decode cX10_restore 26 = .ok (.iconst 1, 1) := by decide +kernel
theorem dX10_restore_27 : decode cX10_restore 27 = .ok (.isub, 1) := by decide +kernel
theorem dX10_restore_28 : decode cX10_restore 28 = .ok (.putfield 135, 3) := by decide +kernel
theorem dX10_restore_31 : decode cX10_restore 31 = .ok (.aload_n 0, 1) := by decide +kernel
theorem dX10_restore_32 : decode cX10_restore 32 = .ok (.getfield 65, 3) := by decide +kernel
theorem dX10_restore_35 : decode cX10_restore 35 = .ok (.aload_n 0, 1) := by decide +kernel
theorem dX10_restore_36 : decode cX10_restore 36 = .ok (.getfield 69, 3) := by decide +kernel
theorem dX10_restore_39 : decode cX10_restore 39 = .ok (.aload_n 0, 1) := by decide +kernel
theorem dX10_restore_40 : decode cX10_restore 40 = .ok (.getfield 135, 3) := by decide +kernel
theorem dX10_restore_43 : decode cX10_restore 43 = .ok (.aaload, 1) := by decide +kernel
theorem dX10_restore_44 : decode cX10_restore 44 = .ok (.invokevirtual 359, 3) := by decide +kernel
theorem dX10_restore_47 : decode cX10_restore 47 = .ok (.aload_n 0, 1) := by decide +kernel
theorem dX10_restore_48 : decode cX10_restore 48 = .ok (.iconst 0, 1) := by decide +kernel
theorem dX10_restore_49 : decode cX10_restore 49 = .ok (.putfield 138, 3) := by decide +kernel
theorem dX10_restore_52 : decode cX10_restore 52 = .ok (.aload_n 0, 1) := by decide +kernel
theorem dX10_restore_53 : decode cX10_restore 53 = .ok (.getfield 135, 3) := by decide +kernel
theorem dX10_restore_56 : decode cX10_restore 56 = .ok (.ireturn, 1) := by decide +kernel
theorem dX10_status_0 : decode cX10_status 0 = .ok (.iload_n 1, 1) := by decide +kernel
theorem dX10_status_1 : decode cX10_status 1 = .ok (.ifCond .ne 8, 3) := by decide +kernel
theorem dX10_status_4 : decode cX10_status 4 = .ok (.aload_n 0, 1) := by decide +kernel
theorem dX10_status_5 : decode cX10_status 5 = .ok (.getfield 362, 3) := by decide +kernel
theorem dX10_status_8 : decode cX10_status 8 = .ok (.ireturn, 1) := by decide +kernel
theorem dX10_status_9 : decode cX10_status 9 = .ok (.iload_n 1, 1) := by decide +kernel
theorem dX10_status_10 : decode cX10_status 10 = .ok (.iconst 1, 1) := by decide +kernel
theorem dX10_status_11 : decode cX10_status 11 = .ok (.if_icmp .ne 10, 3) := by decide +kernel
theorem dX10_status_14 : decode cX10_status 14 = .ok (.aload_n 0, 1) := by decide +kernel
theorem dX10_status_15 : decode cX10_status 15 = .ok (.getfield 365, 3) := by decide +kernel
theorem dX10_status_18 : decode cX10_status 18 = .ok (.goto 4, 3) := by decide +kernel
theorem dX10_status_21 : decode cX10_status 21 = .ok (.iconst (-1), 1) := by decide +kernel
theorem dX10_status_22 : decode cX10_status 22 = .ok (.ireturn, 1) := by decide +kernel
theorem dX10_count_0 : decode cX10_count 0 = .ok (.iload_n 1, 1) := by decide +kernel
theorem dX10_count_1 : decode cX10_count 1 = .ok (.tableswitch 48 0 2 #[27, 32, 40], 27) := by decide +kernel
theorem dX10_count_28 : decode cX10_count 28 = .ok (.aload_n 0, 1) := by decide +kernel
theorem dX10_count_29 : decode cX10_count 29 = .ok (.getfield 135, 3) := by decide +kernel
theorem dX10_count_32 : decode cX10_count 32 = .ok (.ireturn, 1) := by decide +kernel
theorem dX10_count_33 : decode cX10_count 33 = .ok (.aload_n 0, 1) := by decide +kernel
theorem dX10_count_34 : decode cX10_count 34 = .ok (.getfield 10, 3) := by decide +kernel
theorem dX10_count_37 : decode cX10_count 37 = .ok (.getfield 106, 3) := by decide +kernel
theorem dX10_count_40 : decode cX10_count 40 = .ok (.ireturn, 1) := by decide +kernel
theorem dX10_count_41 : decode cX10_count 41 = .ok (.aload_n 0, 1) := by decide +kernel
theorem dX10_count_42 : decode cX10_count 42 = .ok (.getfield 65, 3) := by decide +kernel
theorem dX10_count_45 : decode cX10_count 45 = .ok (.getfield 148, 3) := by decide +kernel
theorem dX10_count_48 : decode cX10_count 48 = .ok (.ireturn, 1) := by decide +kernel
theorem dX10_count_49 : decode cX10_count 49 = .ok (.iconst (-1), 1) := by decide +kernel
theorem dX10_count_50 : decode cX10_count 50 = .ok (.ireturn, 1) := by decide +kernel
theorem dX10_needElement_0 : decode cX10_needElement 0 = .ok (.iload_n 1, 1) := by decide +kernel
theorem dX10_needElement_1 : decode cX10_needElement 1 = .ok (.ifCond .ne 24, 3) := by decide +kernel
theorem dX10_needElement_4 : decode cX10_needElement 4 = .ok (.aload_n 0, 1) := by decide +kernel
theorem dX10_needElement_5 : decode cX10_needElement 5 = .ok (.dup, 1) := by decide +kernel
theorem dX10_needElement_6 : decode cX10_needElement 6 = .ok (.getfield 362, 3) := by decide +kernel
theorem dX10_needElement_9 : decode cX10_needElement 9 = .ok (.iconst 1, 1) := by decide +kernel
theorem dX10_needElement_10 : decode cX10_needElement 10 = .ok (.iadd, 1) := by decide +kernel
theorem dX10_needElement_11 : decode cX10_needElement 11 = .ok (.putfield 362, 3) := by decide +kernel
theorem dX10_needElement_14 : decode cX10_needElement 14 = .ok (.new 368, 3) := by decide +kernel
theorem dX10_needElement_17 : decode cX10_needElement 17 = .ok (.dup, 1) := by decide +kernel
theorem dX10_needElement_18 : decode cX10_needElement 18 = .ok (.ldc_w 370, 3) := by decide +kernel
theorem dX10_needElement_21 : decode cX10_needElement 21 = .ok (.invokespecial 372, 3) := by decide +kernel
theorem dX10_needElement_24 : decode cX10_needElement 24 = .ok (.athrow, 1) := by decide +kernel
theorem dX10_needElement_25 : decode cX10_needElement 25 = .ok (.return_, 1) := by decide +kernel
theorem dX10_needSlab_0 : decode cX10_needSlab 0 = .ok (.aload_n 0, 1) := by decide +kernel
theorem dX10_needSlab_1 : decode cX10_needSlab 1 = .ok (.iload_n 1, 1) := by decide +kernel
theorem dX10_needSlab_2 : decode cX10_needSlab 2 = .ok (.ifCond .lt 18, 3) := by decide +kernel
theorem dX10_needSlab_5 : decode cX10_needSlab 5 = .ok (.iload_n 1, 1) := by decide +kernel
theorem dX10_needSlab_6 : decode cX10_needSlab 6 = .ok (.aload_n 0, 1) := by decide +kernel
theorem dX10_needSlab_7 : decode cX10_needSlab 7 = .ok (.getfield 19, 3) := by decide +kernel
theorem dX10_needSlab_10 : decode cX10_needSlab 10 = .ok (.getfield 141, 3) := by decide +kernel
theorem dX10_needSlab_13 : decode cX10_needSlab 13 = .ok (.if_icmp .ge 7, 3) := by decide +kernel
theorem dX10_needSlab_16 : decode cX10_needSlab 16 = .ok (.iconst 1, 1) := by decide +kernel
theorem dX10_needSlab_17 : decode cX10_needSlab 17 = .ok (.goto 4, 3) := by decide +kernel
theorem dX10_needSlab_20 : decode cX10_needSlab 20 = .ok (.iconst 0, 1) := by decide +kernel
theorem dX10_needSlab_21 : decode cX10_needSlab 21 = .ok (.invokevirtual 263, 3) := by decide +kernel
theorem dX10_needSlab_24 : decode cX10_needSlab 24 = .ok (.return_, 1) := by decide +kernel
theorem dX10_needSoul_0 : decode cX10_needSoul 0 = .ok (.aload_n 0, 1) := by decide +kernel
theorem dX10_needSoul_1 : decode cX10_needSoul 1 = .ok (.iload_n 1, 1) := by decide +kernel
theorem dX10_needSoul_2 : decode cX10_needSoul 2 = .ok (.ifCond .lt 18, 3) := by decide +kernel
theorem dX10_needSoul_5 : decode cX10_needSoul 5 = .ok (.iload_n 1, 1) := by decide +kernel
theorem dX10_needSoul_6 : decode cX10_needSoul 6 = .ok (.aload_n 0, 1) := by decide +kernel
theorem dX10_needSoul_7 : decode cX10_needSoul 7 = .ok (.getfield 19, 3) := by decide +kernel
theorem dX10_needSoul_10 : decode cX10_needSoul 10 = .ok (.getfield 173, 3) := by decide +kernel
theorem dX10_needSoul_13 : decode cX10_needSoul 13 = .ok (.if_icmp .ge 7, 3) := by decide +kernel
theorem dX10_needSoul_16 : decode cX10_needSoul 16 = .ok (.iconst 1, 1) := by decide +kernel
theorem dX10_needSoul_17 : decode cX10_needSoul 17 = .ok (.goto 4, 3) := by decide +kernel
theorem dX10_needSoul_20 : decode cX10_needSoul 20 = .ok (.iconst 0, 1) := by decide +kernel
theorem dX10_needSoul_21 : decode cX10_needSoul 21 = .ok (.invokevirtual 263, 3) := by decide +kernel
theorem dX10_needSoul_24 : decode cX10_needSoul 24 = .ok (.return_, 1) := by decide +kernel
theorem dX10_needArgument_0 : decode cX10_needArgument 0 = .ok (.iload_n 1, 1) := by decide +kernel
theorem dX10_needArgument_1 : decode cX10_needArgument 1 = .ok (.ifCond .ne 24, 3) := by decide +kernel
theorem dX10_needArgument_4 : decode cX10_needArgument 4 = .ok (.aload_n 0, 1) := by decide +kernel
theorem dX10_needArgument_5 : decode cX10_needArgument 5 = .ok (.dup, 1) := by decide +kernel
theorem dX10_needArgument_6 : decode cX10_needArgument 6 = .ok (.getfield 365, 3) := by decide +kernel
theorem dX10_needArgument_9 : decode cX10_needArgument 9 = .ok (.iconst 1, 1) := by decide +kernel
theorem dX10_needArgument_10 : decode cX10_needArgument 10 = .ok (.iadd, 1) := by decide +kernel
theorem dX10_needArgument_11 : decode cX10_needArgument 11 = .ok (.putfield 365, 3) := by decide +kernel
theorem dX10_needArgument_14 : decode cX10_needArgument 14 = .ok (.new 375, 3) := by decide +kernel
theorem dX10_needArgument_17 : decode cX10_needArgument 17 = .ok (.dup, 1) := by decide +kernel
theorem dX10_needArgument_18 : decode cX10_needArgument 18 = .ok (.ldc_w 377, 3) := by decide +kernel
theorem dX10_needArgument_21 : decode cX10_needArgument 21 = .ok (.invokespecial 379, 3) := by decide +kernel
theorem dX10_needArgument_24 : decode cX10_needArgument 24 = .ok (.athrow, 1) := by decide +kernel
theorem dX10_needArgument_25 : decode cX10_needArgument 25 = .ok (.return_, 1) := by decide +kernel
theorem dX10_needRange_0 : decode cX10_needRange 0 = .ok (.aload_n 0, 1) := by decide +kernel
theorem dX10_needRange_1 : decode cX10_needRange 1 = .ok (.iload_n 1, 1) := by decide +kernel
theorem dX10_needRange_2 : decode cX10_needRange 2 = .ok (.iload_n 2, 1) := by decide +kernel
theorem dX10_needRange_3 : decode cX10_needRange 3 = .ok (.if_icmp .lt 12, 3) := by decide +kernel
theorem dX10_needRange_6 : decode cX10_needRange 6 = .ok (.iload_n 1, 1) := by decide +kernel
theorem dX10_needRange_7 : decode cX10_needRange 7 = .ok (.iload_n 3, 1) := by decide +kernel
theorem dX10_needRange_8 : decode cX10_needRange 8 = .ok (.if_icmp .gt 7, 3) := by decide +kernel
theorem dX10_needRange_11 : decode cX10_needRange 11 = .ok (.iconst 1, 1) := by decide +kernel
theorem dX10_needRange_12 : decode cX10_needRange 12 = .ok (.goto 4, 3) := by decide +kernel
theorem dX10_needRange_15 : decode cX10_needRange 15 = .ok (.iconst 0, 1) := by decide +kernel
theorem dX10_needRange_16 : decode cX10_needRange 16 = .ok (.invokevirtual 218, 3) := by decide +kernel
theorem dX10_needRange_19 : decode cX10_needRange 19 = .ok (.return_, 1) := by decide +kernel
theorem dX10_beginText_0 : decode cX10_beginText 0 = .ok (.aload_n 0, 1) := by decide +kernel
theorem dX10_beginText_1 : decode cX10_beginText 1 = .ok (.iload_n 1, 1) := by decide +kernel
theorem dX10_beginText_2 : decode cX10_beginText 2 = .ok (.iconst 0, 1) := by decide +kernel
theorem dX10_beginText_3 : decode cX10_beginText 3 = .ok (.iload_n 2, 1) := by decide +kernel
theorem dX10_beginText_4 : decode cX10_beginText 4 = .ok (.aload_n 0, 1) := by decide +kernel
theorem dX10_beginText_5 : decode cX10_beginText 5 = .ok (.getfield 10, 3) := by decide +kernel
theorem dX10_beginText_8 : decode cX10_beginText 8 = .ok (.getfield 106, 3) := by decide +kernel
theorem dX10_beginText_11 : decode cX10_beginText 11 = .ok (.invokestatic 342, 3) := by decide +kernel
theorem dX10_beginText_14 : decode cX10_beginText 14 = .ok (.invokevirtual 266, 3) := by decide +kernel
theorem dX10_beginText_17 : decode cX10_beginText 17 = .ok (.aload_n 0, 1) := by decide +kernel
theorem dX10_beginText_18 : decode cX10_beginText 18 = .ok (.getfield 10, 3) := by decide +kernel
theorem dX10_beginText_21 : decode cX10_beginText 21 = .ok (.iload_n 1, 1) := by decide +kernel
theorem dX10_beginText_22 : decode cX10_beginText 22 = .ok (.invokevirtual 380, 3) := by decide +kernel
theorem dX10_beginText_25 : decode cX10_beginText 25 = .ok (.return_, 1) := by decide +kernel
theorem dX10_underAll_0 : decode cX10_underAll 0 = .ok (.iconst 0, 1) := by decide +kernel
theorem dX10_underAll_1 : decode cX10_underAll 1 = .ok (.istore_n 2, 1) := by decide +kernel
theorem dX10_underAll_2 : decode cX10_underAll 2 = .ok (.iconst 0, 1) := by decide +kernel
theorem dX10_underAll_3 : decode cX10_underAll 3 = .ok (.istore_n 3, 1) := by decide +kernel
theorem dX10_underAll_4 : decode cX10_underAll 4 = .ok (.iload_n 3, 1) := by decide +kernel
theorem dX10_underAll_5 : decode cX10_underAll 5 = .ok (.aload_n 0, 1) := by decide +kernel
theorem dX10_underAll_6 : decode cX10_underAll 6 = .ok (.getfield 19, 3) := by decide +kernel
theorem dX10_underAll_9 : decode cX10_underAll 9 = .ok (.getfield 141, 3) := by decide +kernel
theorem dX10_underAll_12 : decode cX10_underAll 12 = .ok (.if_icmp .ge 17, 3) := by decide +kernel
theorem dX10_underAll_15 : decode cX10_underAll 15 = .ok (.iload_n 2, 1) := by decide +kernel
theorem dX10_underAll_16 : decode cX10_underAll 16 = .ok (.aload_n 1, 1) := by decide +kernel
theorem dX10_underAll_17 : decode cX10_underAll 17 = .ok (.iload_n 3, 1) := by decide +kernel
theorem dX10_underAll_18 : decode cX10_underAll 18 = .ok (.invokevirtual 229, 3) := by decide +kernel
theorem dX10_underAll_21 : decode cX10_underAll 21 = .ok (.iadd, 1) := by decide +kernel
theorem dX10_underAll_22 : decode cX10_underAll 22 = .ok (.istore_n 2, 1) := by decide +kernel
theorem dX10_underAll_23 : decode cX10_underAll 23 = .ok (.iinc 3 1, 3) := by decide +kernel
theorem dX10_underAll_26 : decode cX10_underAll 26 = .ok (.goto (-22), 3) := by decide +kernel
theorem dX10_underAll_29 : decode cX10_underAll 29 = .ok (.iload_n 2, 1) := by decide +kernel
theorem dX10_underAll_30 : decode cX10_underAll 30 = .ok (.ireturn, 1) := by decide +kernel
theorem dX10_inAllPurses_0 : decode cX10_inAllPurses 0 = .ok (.iconst 0, 1) := by decide +kernel
theorem dX10_inAllPurses_1 : decode cX10_inAllPurses 1 = .ok (.istore_n 2, 1) := by decide +kernel
theorem dX10_inAllPurses_2 : decode cX10_inAllPurses 2 = .ok (.iconst 0, 1) := by decide +kernel
theorem dX10_inAllPurses_3 : decode cX10_inAllPurses 3 = .ok (.istore_n 3, 1) := by decide +kernel
theorem dX10_inAllPurses_4 : decode cX10_inAllPurses 4 = .ok (.iload_n 3, 1) := by decide +kernel
theorem dX10_inAllPurses_5 : decode cX10_inAllPurses 5 = .ok (.aload_n 0, 1) := by decide +kernel
theorem dX10_inAllPurses_6 : decode cX10_inAllPurses 6 = .ok (.getfield 19, 3) := by decide +kernel
theorem dX10_inAllPurses_9 : decode cX10_inAllPurses 9 = .ok (.getfield 173, 3) := by decide +kernel
theorem dX10_inAllPurses_12 : decode cX10_inAllPurses 12 = .ok (.if_icmp .ge 17, 3) := by decide +kernel
theorem dX10_inAllPurses_15 : decode cX10_inAllPurses 15 = .ok (.iload_n 2, 1) := by decide +kernel
theorem dX10_inAllPurses_16 : decode cX10_inAllPurses 16 = .ok (.aload_n 1, 1) := by decide +kernel
theorem dX10_inAllPurses_17 : decode cX10_inAllPurses 17 = .ok (.iload_n 3, 1) := by decide +kernel
theorem dX10_inAllPurses_18 : decode cX10_inAllPurses 18 = .ok (.invokevirtual 254, 3) := by decide +kernel
theorem dX10_inAllPurses_21 : decode cX10_inAllPurses 21 = .ok (.iadd, 1) := by decide +kernel
theorem dX10_inAllPurses_22 : decode cX10_inAllPurses 22 = .ok (.istore_n 2, 1) := by decide +kernel
theorem dX10_inAllPurses_23 : decode cX10_inAllPurses 23 = .ok (.iinc 3 1, 3) := by decide +kernel
theorem dX10_inAllPurses_26 : decode cX10_inAllPurses 26 = .ok (.goto (-22), 3) := by decide +kernel
theorem dX10_inAllPurses_29 : decode cX10_inAllPurses 29 = .ok (.iload_n 2, 1) := by decide +kernel
theorem dX10_inAllPurses_30 : decode cX10_inAllPurses 30 = .ok (.ireturn, 1) := by decide +kernel
theorem dX10_isLentByAny_0 : decode cX10_isLentByAny 0 = .ok (.iconst 0, 1) := by decide +kernel
theorem dX10_isLentByAny_1 : decode cX10_isLentByAny 1 = .ok (.istore_n 2, 1) := by decide +kernel
theorem dX10_isLentByAny_2 : decode cX10_isLentByAny 2 = .ok (.iload_n 2, 1) := by decide +kernel
theorem dX10_isLentByAny_3 : decode cX10_isLentByAny 3 = .ok (.aload_n 0, 1) := by decide +kernel
theorem dX10_isLentByAny_4 : decode cX10_isLentByAny 4 = .ok (.getfield 19, 3) := by decide +kernel
theorem dX10_isLentByAny_7 : decode cX10_isLentByAny 7 = .ok (.getfield 141, 3) := by decide +kernel
theorem dX10_isLentByAny_10 : decode cX10_isLentByAny 10 = .ok (.if_icmp .ge 31, 3) := by decide +kernel
theorem dX10_isLentByAny_13 : decode cX10_isLentByAny 13 = .ok (.aload_n 0, 1) := by decide +kernel
theorem dX10_isLentByAny_14 : decode cX10_isLentByAny 14 = .ok (.getfield 58, 3) := by decide +kernel
theorem dX10_isLentByAny_17 : decode cX10_isLentByAny 17 = .ok (.aload_n 0, 1) := by decide +kernel
theorem dX10_isLentByAny_18 : decode cX10_isLentByAny 18 = .ok (.getfield 65, 3) := by decide +kernel
theorem dX10_isLentByAny_21 : decode cX10_isLentByAny 21 = .ok (.getfield 157, 3) := by decide +kernel
theorem dX10_isLentByAny_24 : decode cX10_isLentByAny 24 = .ok (.iload_n 1, 1) := by decide +kernel
theorem dX10_isLentByAny_25 : decode cX10_isLentByAny 25 = .ok (.iload_n 2, 1) := by decide +kernel
theorem dX10_isLentByAny_26 : decode cX10_isLentByAny 26 = .ok (.iconst 1, 1) := by decide +kernel
theorem dX10_isLentByAny_27 : decode cX10_isLentByAny 27 = .ok (.invokevirtual 285, 3) := by decide +kernel
theorem dX10_isLentByAny_30 : decode cX10_isLentByAny 30 = .ok (.ifCond .eq 5, 3) := by decide +kernel
theorem dX10_isLentByAny_33 : decode cX10_isLentByAny 33 = .ok (.iconst 1, 1) := by decide +kernel
theorem dX10_isLentByAny_34 : decode cX10_isLentByAny 34 = .ok (.ireturn, 1) := by decide +kernel
theorem dX10_isLentByAny_35 : decode cX10_isLentByAny 35 = .ok (.iinc 2 1, 3) := by decide +kernel
theorem dX10_isLentByAny_38 : decode cX10_isLentByAny 38 = .ok (.goto (-36), 3) := by decide +kernel
theorem dX10_isLentByAny_41 : decode cX10_isLentByAny 41 = .ok (.iconst 0, 1) := by decide +kernel
theorem dX10_isLentByAny_42 : decode cX10_isLentByAny 42 = .ok (.ireturn, 1) := by decide +kernel
theorem dX10_fillOwed_0 : decode cX10_fillOwed 0 = .ok (.iconst 0, 1) := by decide +kernel
theorem dX10_fillOwed_1 : decode cX10_fillOwed 1 = .ok (.istore_n 1, 1) := by decide +kernel
theorem dX10_fillOwed_2 : decode cX10_fillOwed 2 = .ok (.iload_n 1, 1) := by decide +kernel
theorem dX10_fillOwed_3 : decode cX10_fillOwed 3 = .ok (.aload_n 0, 1) := by decide +kernel
theorem dX10_fillOwed_4 : decode cX10_fillOwed 4 = .ok (.getfield 94, 3) := by decide +kernel
theorem dX10_fillOwed_7 : decode cX10_fillOwed 7 = .ok (.arraylength, 1) := by decide +kernel
theorem dX10_fillOwed_8 : decode cX10_fillOwed 8 = .ok (.if_icmp .ge 48, 3) := by decide +kernel
theorem dX10_fillOwed_11 : decode cX10_fillOwed 11 = .ok (.aload_n 0, 1) := by decide +kernel
theorem dX10_fillOwed_12 : decode cX10_fillOwed 12 = .ok (.getfield 94, 3) := by decide +kernel
theorem dX10_fillOwed_15 : decode cX10_fillOwed 15 = .ok (.iload_n 1, 1) := by decide +kernel
theorem dX10_fillOwed_16 : decode cX10_fillOwed 16 = .ok (.aload_n 0, 1) := by decide +kernel
theorem dX10_fillOwed_17 : decode cX10_fillOwed 17 = .ok (.getfield 65, 3) := by decide +kernel
theorem dX10_fillOwed_20 : decode cX10_fillOwed 20 = .ok (.getfield 157, 3) := by decide +kernel
theorem dX10_fillOwed_23 : decode cX10_fillOwed 23 = .ok (.iload_n 1, 1) := by decide +kernel
theorem dX10_fillOwed_24 : decode cX10_fillOwed 24 = .ok (.invokevirtual 260, 3) := by decide +kernel
theorem dX10_fillOwed_27 : decode cX10_fillOwed 27 = .ok (.ifCond .eq 21, 3) := by decide +kernel
theorem dX10_fillOwed_30 : decode cX10_fillOwed 30 = .ok (.aload_n 0, 1) := by decide +kernel
theorem dX10_fillOwed_31 : decode cX10_fillOwed 31 = .ok (.getfield 58, 3) := by decide +kernel
theorem dX10_fillOwed_34 : decode cX10_fillOwed 34 = .ok (.aload_n 0, 1) := by decide +kernel
theorem dX10_fillOwed_35 : decode cX10_fillOwed 35 = .ok (.getfield 65, 3) := by decide +kernel
theorem dX10_fillOwed_38 : decode cX10_fillOwed 38 = .ok (.getfield 157, 3) := by decide +kernel
theorem dX10_fillOwed_41 : decode cX10_fillOwed 41 = .ok (.iload_n 1, 1) := by decide +kernel
theorem dX10_fillOwed_42 : decode cX10_fillOwed 42 = .ok (.invokevirtual 270, 3) := by decide +kernel
theorem dX10_fillOwed_45 : decode cX10_fillOwed 45 = .ok (.goto 4, 3) := by decide +kernel
theorem dX10_fillOwed_48 : decode cX10_fillOwed 48 = .ok (.iconst 0, 1) := by decide +kernel
theorem dX10_fillOwed_49 : decode cX10_fillOwed 49 = .ok (.iastore, 1) := by decide +kernel
theorem dX10_fillOwed_50 : decode cX10_fillOwed 50 = .ok (.iinc 1 1, 3) := by decide +kernel
theorem dX10_fillOwed_53 : decode cX10_fillOwed 53 = .ok (.goto (-51), 3) := by decide +kernel
theorem dX10_fillOwed_56 : decode cX10_fillOwed 56 = .ok (.return_, 1) := by decide +kernel
theorem dX10_owedBy_0 : decode cX10_owedBy 0 = .ok (.iconst 0, 1) := by decide +kernel
theorem dX10_owedBy_1 : decode cX10_owedBy 1 = .ok (.istore_n 2, 1) := by decide +kernel
theorem dX10_owedBy_2 : decode cX10_owedBy 2 = .ok (.iconst 0, 1) := by decide +kernel
theorem dX10_owedBy_3 : decode cX10_owedBy 3 = .ok (.istore_n 3, 1) := by decide +kernel
theorem dX10_owedBy_4 : decode cX10_owedBy 4 = .ok (.iload_n 3, 1) := by decide +kernel
theorem dX10_owedBy_5 : decode cX10_owedBy 5 = .ok (.aload_n 0, 1) := by decide +kernel
theorem dX10_owedBy_6 : decode cX10_owedBy 6 = .ok (.getfield 94, 3) := by decide +kernel
theorem dX10_owedBy_9 : decode cX10_owedBy 9 = .ok (.arraylength, 1) := by decide +kernel
theorem dX10_owedBy_10 : decode cX10_owedBy 10 = .ok (.if_icmp .ge 27, 3) := by decide +kernel
theorem dX10_owedBy_13 : decode cX10_owedBy 13 = .ok (.iload_n 1, 1) := by decide +kernel
theorem dX10_owedBy_14 : decode cX10_owedBy 14 = .ok (.iload_n 3, 1) := by decide +kernel
theorem dX10_owedBy_15 : decode cX10_owedBy 15 = .ok (.ishr, 1) := by decide +kernel
theorem dX10_owedBy_16 : decode cX10_owedBy 16 = .ok (.iconst 1, 1) := by decide +kernel
theorem dX10_owedBy_17 : decode cX10_owedBy 17 = .ok (.iand, 1) := by decide +kernel
theorem dX10_owedBy_18 : decode cX10_owedBy 18 = .ok (.iconst 1, 1) := by decide +kernel
theorem dX10_owedBy_19 : decode cX10_owedBy 19 = .ok (.if_icmp .ne 12, 3) := by decide +kernel
theorem dX10_owedBy_22 : decode cX10_owedBy 22 = .ok (.iload_n 2, 1) := by decide +kernel
theorem dX10_owedBy_23 : decode cX10_owedBy 23 = .ok (.aload_n 0, 1) := by decide +kernel
theorem dX10_owedBy_24 : decode cX10_owedBy 24 = .ok (.getfield 94, 3) := by decide +kernel
theorem dX10_owedBy_27 : decode cX10_owedBy 27 = .ok (.iload_n 3, 1) := by decide +kernel
theorem dX10_owedBy_28 : decode cX10_owedBy 28 = .ok (.iaload, 1) := by decide +kernel
theorem dX10_owedBy_29 : decode cX10_owedBy 29 = .ok (.iadd, 1) := by decide +kernel
theorem dX10_owedBy_30 : decode cX10_owedBy 30 = .ok (.istore_n 2, 1) := by decide +kernel
theorem dX10_owedBy_31 : decode cX10_owedBy 31 = .ok (.iinc 3 1, 3) := by decide +kernel
theorem dX10_owedBy_34 : decode cX10_owedBy 34 = .ok (.goto (-30), 3) := by decide +kernel
theorem dX10_owedBy_37 : decode cX10_owedBy 37 = .ok (.iload_n 2, 1) := by decide +kernel
theorem dX10_owedBy_38 : decode cX10_owedBy 38 = .ok (.ireturn, 1) := by decide +kernel
theorem dX10_clearsMore_0 : decode cX10_clearsMore 0 = .ok (.iload_n 1, 1) := by decide +kernel
theorem dX10_clearsMore_1 : decode cX10_clearsMore 1 = .ok (.invokestatic 382, 3) := by decide +kernel
theorem dX10_clearsMore_4 : decode cX10_clearsMore 4 = .ok (.iload_n 2, 1) := by decide +kernel
theorem dX10_clearsMore_5 : decode cX10_clearsMore 5 = .ok (.invokestatic 382, 3) := by decide +kernel
theorem dX10_clearsMore_8 : decode cX10_clearsMore 8 = .ok (.isub, 1) := by decide +kernel
theorem dX10_clearsMore_9 : decode cX10_clearsMore 9 = .ok (.istore_n 3, 1) := by decide +kernel
theorem dX10_clearsMore_10 : decode cX10_clearsMore 10 = .ok (.iload_n 3, 1) := by decide +kernel
theorem dX10_clearsMore_11 : decode cX10_clearsMore 11 = .ok (.ifCond .gt 20, 3) := by decide +kernel
theorem dX10_clearsMore_14 : decode cX10_clearsMore 14 = .ok (.iload_n 3, 1) := by decide +kernel
theorem dX10_clearsMore_15 : decode cX10_clearsMore 15 = .ok (.ifCond .ne 20, 3) := by decide +kernel
theorem dX10_clearsMore_18 : decode cX10_clearsMore 18 = .ok (.aload_n 0, 1) := by decide +kernel
theorem dX10_clearsMore_19 : decode cX10_clearsMore 19 = .ok (.iload_n 1, 1) := by decide +kernel
theorem dX10_clearsMore_20 : decode cX10_clearsMore 20 = .ok (.invokevirtual 302, 3) := by decide +kernel
theorem dX10_clearsMore_23 : decode cX10_clearsMore 23 = .ok (.aload_n 0, 1) := by decide +kernel
theorem dX10_clearsMore_24 : decode cX10_clearsMore 24 = .ok (.iload_n 2, 1) := by decide +kernel
theorem dX10_clearsMore_25 : decode cX10_clearsMore 25 = .ok (.invokevirtual 302, 3) := by decide +kernel
theorem dX10_clearsMore_28 : decode cX10_clearsMore 28 = .ok (.if_icmp .ge 7, 3) := by decide +kernel
theorem dX10_clearsMore_31 : decode cX10_clearsMore 31 = .ok (.iconst 1, 1) := by decide +kernel
theorem dX10_clearsMore_32 : decode cX10_clearsMore 32 = .ok (.goto 4, 3) := by decide +kernel
theorem dX10_clearsMore_35 : decode cX10_clearsMore 35 = .ok (.iconst 0, 1) := by decide +kernel
theorem dX10_clearsMore_36 : decode cX10_clearsMore 36 = .ok (.ireturn, 1) := by decide +kernel
theorem dX10_ordersWithNothing_0 : decode cX10_ordersWithNothing 0 = .ok (.iconst 0, 1) := by decide +kernel
theorem dX10_ordersWithNothing_1 : decode cX10_ordersWithNothing 1 = .ok (.istore 5, 2) := by decide +kernel
theorem dX10_ordersWithNothing_3 : decode cX10_ordersWithNothing 3 = .ok (.iload 4, 2) := by decide +kernel
theorem dX10_ordersWithNothing_5 : decode cX10_ordersWithNothing 5 = .ok (.ifCond .gt 6, 3) := by decide +kernel
theorem dX10_ordersWithNothing_8 : decode cX10_ordersWithNothing 8 = .ok (.iload 5, 2) := by decide +kernel
theorem dX10_ordersWithNothing_10 : decode cX10_ordersWithNothing 10 = .ok (.ireturn, 1) := by decide +kernel
theorem dX10_ordersWithNothing_11 : decode cX10_ordersWithNothing 11 = .ok (.iconst 0, 1) := by decide +kernel
theorem dX10_ordersWithNothing_12 : decode cX10_ordersWithNothing 12 = .ok (.istore 6, 2) := by decide +kernel
theorem dX10_ordersWithNothing_14 : decode cX10_ordersWithNothing 14 = .ok (.iload 6, 2) := by decide +kernel
theorem dX10_ordersWithNothing_16 : decode cX10_ordersWithNothing 16 = .ok (.aload_n 0, 1) := by decide +kernel
theorem dX10_ordersWithNothing_17 : decode cX10_ordersWithNothing 17 = .ok (.getfield 19, 3) := by decide +kernel
theorem dX10_ordersWithNothing_20 : decode cX10_ordersWithNothing 20 = .ok (.getfield 173, 3) := by decide +kernel
theorem dX10_ordersWithNothing_23 : decode cX10_ordersWithNothing 23 = .ok (.if_icmp .ge 103, 3) := by decide +kernel
theorem dX10_ordersWithNothing_26 : decode cX10_ordersWithNothing 26 = .ok (.iload_n 3, 1) := by decide +kernel
theorem dX10_ordersWithNothing_27 : decode cX10_ordersWithNothing 27 = .ok (.iload 6, 2) := by decide +kernel
theorem dX10_ordersWithNothing_29 : decode cX10_ordersWithNothing 29 = .ok (.ishr, 1) := by decide +kernel
theorem dX10_ordersWithNothing_30 : decode cX10_ordersWithNothing 30 = .ok (.iconst 1, 1) := by decide +kernel
theorem dX10_ordersWithNothing_31 : decode cX10_ordersWithNothing 31 = .ok (.iand, 1) := by decide +kernel
theorem dX10_ordersWithNothing_32 : decode cX10_ordersWithNothing 32 = .ok (.ifCond .ne 88, 3) := by decide +kernel
theorem dX10_ordersWithNothing_35 : decode cX10_ordersWithNothing 35 = .ok (.iconst 1, 1) := by decide +kernel
theorem dX10_ordersWithNothing_36 : decode cX10_ordersWithNothing 36 = .ok (.aload_n 0, 1) := by decide +kernel
theorem dX10_ordersWithNothing_37 : decode cX10_ordersWithNothing 37 = .ok (.getfield 65, 3) := by decide +kernel
theorem dX10_ordersWithNothing_40 : decode cX10_ordersWithNothing 40 = .ok (.getfield 157, 3) := by decide +kernel
theorem dX10_ordersWithNothing_43 : decode cX10_ordersWithNothing 43 = .ok (.iload 6, 2) := by decide +kernel
theorem dX10_ordersWithNothing_45 : decode cX10_ordersWithNothing 45 = .ok (.invokevirtual 254, 3) := by decide +kernel
theorem dX10_ordersWithNothing_48 : decode cX10_ordersWithNothing 48 = .ok (.iconst 2, 1) := by decide +kernel
theorem dX10_ordersWithNothing_49 : decode cX10_ordersWithNothing 49 = .ok (.idiv, 1) := by decide +kernel
theorem dX10_ordersWithNothing_50 : decode cX10_ordersWithNothing 50 = .ok (.invokestatic 356, 3) := by decide +kernel
theorem dX10_ordersWithNothing_53 : decode cX10_ordersWithNothing 53 = .ok (.istore 7, 2) := by decide +kernel
theorem dX10_ordersWithNothing_55 : decode cX10_ordersWithNothing 55 = .ok (.iload 7, 2) := by decide +kernel
theorem dX10_ordersWithNothing_57 : decode cX10_ordersWithNothing 57 = .ok (.iload_n 2, 1) := by decide +kernel
theorem dX10_ordersWithNothing_58 : decode cX10_ordersWithNothing 58 = .ok (.if_icmp .gt 10, 3) := by decide +kernel
theorem dX10_ordersWithNothing_61 : decode cX10_ordersWithNothing 61 = .ok (.iload_n 2, 1) := by decide +kernel
theorem dX10_ordersWithNothing_62 : decode cX10_ordersWithNothing 62 = .ok (.iload 7, 2) := by decide +kernel
theorem dX10_ordersWithNothing_64 : decode cX10_ordersWithNothing 64 = .ok (.isub, 1) := by decide +kernel
theorem dX10_ordersWithNothing_65 : decode cX10_ordersWithNothing 65 = .ok (.goto 4, 3) := by decide +kernel
theorem dX10_ordersWithNothing_68 : decode cX10_ordersWithNothing 68 = .ok (.iload_n 2, 1) := by decide +kernel
theorem dX10_ordersWithNothing_69 : decode cX10_ordersWithNothing 69 = .ok (.istore 8, 2) := by decide +kernel
theorem dX10_ordersWithNothing_71 : decode cX10_ordersWithNothing 71 = .ok (.iload 6, 2) := by decide +kernel
theorem dX10_ordersWithNothing_73 : decode cX10_ordersWithNothing 73 = .ok (.iload_n 1, 1) := by decide +kernel
theorem dX10_ordersWithNothing_74 : decode cX10_ordersWithNothing 74 = .ok (.if_icmp .eq 28, 3) := by decide +kernel
theorem dX10_ordersWithNothing_77 : decode cX10_ordersWithNothing 77 = .ok (.iload 5, 2) := by decide +kernel
theorem dX10_ordersWithNothing_79 : decode cX10_ordersWithNothing 79 = .ok (.aload_n 0, 1) := by decide +kernel
theorem dX10_ordersWithNothing_80 : decode cX10_ordersWithNothing 80 = .ok (.iload_n 1, 1) := by decide +kernel
theorem dX10_ordersWithNothing_81 : decode cX10_ordersWithNothing 81 = .ok (.iload 8, 2) := by decide +kernel
theorem dX10_ordersWithNothing_83 : decode cX10_ordersWithNothing 83 = .ok (.iload_n 3, 1) := by decide +kernel
theorem dX10_ordersWithNothing_84 : decode cX10_ordersWithNothing 84 = .ok (.iconst 1, 1) := by decide +kernel
theorem dX10_ordersWithNothing_85 : decode cX10_ordersWithNothing 85 = .ok (.iload 6, 2) := by decide +kernel
theorem dX10_ordersWithNothing_87 : decode cX10_ordersWithNothing 87 = .ok (.ishl, 1) := by decide +kernel
theorem dX10_ordersWithNothing_88 : decode cX10_ordersWithNothing 88 = .ok (.ior, 1) := by decide +kernel
theorem dX10_ordersWithNothing_89 : decode cX10_ordersWithNothing 89 = .ok (.iload 4, 2) := by decide +kernel
theorem dX10_ordersWithNothing_91 : decode cX10_ordersWithNothing 91 = .ok (.iconst 1, 1) := by decide +kernel
theorem dX10_ordersWithNothing_92 : decode cX10_ordersWithNothing 92 = .ok (.isub, 1) := by decide +kernel
theorem dX10_ordersWithNothing_93 : decode cX10_ordersWithNothing 93 = .ok (.invokevirtual 325, 3) := by decide +kernel
theorem dX10_ordersWithNothing_96 : decode cX10_ordersWithNothing 96 = .ok (.iadd, 1) := by decide +kernel
theorem dX10_ordersWithNothing_97 : decode cX10_ordersWithNothing 97 = .ok (.istore 5, 2) := by decide +kernel
theorem dX10_ordersWithNothing_99 : decode cX10_ordersWithNothing 99 = .ok (.goto 21, 3) := by decide +kernel
theorem dX10_ordersWithNothing_102 : decode cX10_ordersWithNothing 102 = .ok (.iload 7, 2) := by decide +kernel
theorem dX10_ordersWithNothing_104 : decode cX10_ordersWithNothing 104 = .ok (.iload_n 2, 1) := by decide +kernel
theorem dX10_ordersWithNothing_105 : decode cX10_ordersWithNothing 105 = .ok (.if_icmp .le 15, 3) := by decide +kernel
theorem dX10_ordersWithNothing_108 : decode cX10_ordersWithNothing 108 = .ok (.iload 5, 2) := by decide +kernel
theorem dX10_ordersWithNothing_110 : decode cX10_ordersWithNothing 110 = .ok (.iload 4, 2) := by decide +kernel
theorem dX10_ordersWithNothing_112 : decode cX10_ordersWithNothing 112 = .ok (.iconst 1, 1) := by decide +kernel
theorem dX10_ordersWithNothing_113 : decode cX10_ordersWithNothing 113 = .ok (.isub, 1) := by decide +kernel
theorem dX10_ordersWithNothing_114 : decode cX10_ordersWithNothing 114 = .ok (.invokestatic 387, 3) := by decide +kernel
theorem dX10_ordersWithNothing_117 : decode cX10_ordersWithNothing 117 = .ok (.iadd, 1) := by decide +kernel
theorem dX10_ordersWithNothing_118 : decode cX10_ordersWithNothing 118 = .ok (.istore 5, 2) := by decide +kernel
theorem dX10_ordersWithNothing_120 : decode cX10_ordersWithNothing 120 = .ok (.iinc 6 1, 3) := by decide +kernel
theorem dX10_ordersWithNothing_123 : decode cX10_ordersWithNothing 123 = .ok (.goto (-109), 3) := by decide +kernel
theorem dX10_ordersWithNothing_126 : decode cX10_ordersWithNothing 126 = .ok (.iload 5, 2) := by decide +kernel
theorem dX10_ordersWithNothing_128 : decode cX10_ordersWithNothing 128 = .ok (.ireturn, 1) := by decide +kernel
theorem dX10_givenUpTo_0 : decode cX10_givenUpTo 0 = .ok (.iconst 0, 1) := by decide +kernel
theorem dX10_givenUpTo_1 : decode cX10_givenUpTo 1 = .ok (.istore_n 3, 1) := by decide +kernel
theorem dX10_givenUpTo_2 : decode cX10_givenUpTo 2 = .ok (.iconst 0, 1) := by decide +kernel
theorem dX10_givenUpTo_3 : decode cX10_givenUpTo 3 = .ok (.istore 4, 2) := by decide +kernel
theorem dX10_givenUpTo_5 : decode cX10_givenUpTo 5 = .ok (.iload 4, 2) := by decide +kernel
theorem dX10_givenUpTo_7 : decode cX10_givenUpTo 7 = .ok (.aload_n 0, 1) := by decide +kernel
theorem dX10_givenUpTo_8 : decode cX10_givenUpTo 8 = .ok (.getfield 19, 3) := by decide +kernel
theorem dX10_givenUpTo_11 : decode cX10_givenUpTo 11 = .ok (.getfield 173, 3) := by decide +kernel
theorem dX10_givenUpTo_14 : decode cX10_givenUpTo 14 = .ok (.if_icmp .ge 38, 3) := by decide +kernel
theorem dX10_givenUpTo_17 : decode cX10_givenUpTo 17 = .ok (.iload_n 2, 1) := by decide +kernel
theorem dX10_givenUpTo_18 : decode cX10_givenUpTo 18 = .ok (.iload 4, 2) := by decide +kernel
theorem dX10_givenUpTo_20 : decode cX10_givenUpTo 20 = .ok (.ishr, 1) := by decide +kernel
theorem dX10_givenUpTo_21 : decode cX10_givenUpTo 21 = .ok (.iconst 1, 1) := by decide +kernel
theorem dX10_givenUpTo_22 : decode cX10_givenUpTo 22 = .ok (.iand, 1) := by decide +kernel
theorem dX10_givenUpTo_23 : decode cX10_givenUpTo 23 = .ok (.iconst 1, 1) := by decide +kernel
theorem dX10_givenUpTo_24 : decode cX10_givenUpTo 24 = .ok (.if_icmp .ne 22, 3) := by decide +kernel
theorem dX10_givenUpTo_27 : decode cX10_givenUpTo 27 = .ok (.iload_n 3, 1) := by decide +kernel
theorem dX10_givenUpTo_28 : decode cX10_givenUpTo 28 = .ok (.aload_n 0, 1) := by decide +kernel
theorem dX10_givenUpTo_29 : decode cX10_givenUpTo 29 = .ok (.getfield 65, 3) := by decide +kernel
theorem dX10_givenUpTo_32 : decode cX10_givenUpTo 32 = .ok (.getfield 157, 3) := by decide +kernel
theorem dX10_givenUpTo_35 : decode cX10_givenUpTo 35 = .ok (.iload 4, 2) := by decide +kernel
theorem dX10_givenUpTo_37 : decode cX10_givenUpTo 37 = .ok (.invokevirtual 254, 3) := by decide +kernel
theorem dX10_givenUpTo_40 : decode cX10_givenUpTo 40 = .ok (.iload_n 1, 1) := by decide +kernel
theorem dX10_givenUpTo_41 : decode cX10_givenUpTo 41 = .ok (.invokestatic 342, 3) := by decide +kernel
theorem dX10_givenUpTo_44 : decode cX10_givenUpTo 44 = .ok (.iadd, 1) := by decide +kernel
theorem dX10_givenUpTo_45 : decode cX10_givenUpTo 45 = .ok (.istore_n 3, 1) := by decide +kernel
theorem dX10_givenUpTo_46 : decode cX10_givenUpTo 46 = .ok (.iinc 4 1, 3) := by decide +kernel
theorem dX10_givenUpTo_49 : decode cX10_givenUpTo 49 = .ok (.goto (-44), 3) := by decide +kernel
theorem dX10_givenUpTo_52 : decode cX10_givenUpTo 52 = .ok (.iload_n 3, 1) := by decide +kernel
theorem dX10_givenUpTo_53 : decode cX10_givenUpTo 53 = .ok (.ireturn, 1) := by decide +kernel
theorem dX10_dreamWinter_0 : decode cX10_dreamWinter 0 = .ok (.aload_n 0, 1) := by decide +kernel
theorem dX10_dreamWinter_1 : decode cX10_dreamWinter 1 = .ok (.getfield 76, 3) := by decide +kernel
theorem dX10_dreamWinter_4 : decode cX10_dreamWinter 4 = .ok (.aload_n 0, 1) := by decide +kernel
theorem dX10_dreamWinter_5 : decode cX10_dreamWinter 5 = .ok (.getfield 65, 3) := by decide +kernel
theorem dX10_dreamWinter_8 : decode cX10_dreamWinter 8 = .ok (.getfield 157, 3) := by decide +kernel
theorem dX10_dreamWinter_11 : decode cX10_dreamWinter 11 = .ok (.invokevirtual 289, 3) := by decide +kernel
theorem dX10_dreamWinter_14 : decode cX10_dreamWinter 14 = .ok (.aload_n 0, 1) := by decide +kernel
theorem dX10_dreamWinter_15 : decode cX10_dreamWinter 15 = .ok (.getfield 90, 3) := by decide +kernel
theorem dX10_dreamWinter_18 : decode cX10_dreamWinter 18 = .ok (.aload_n 0, 1) := by decide +kernel
theorem dX10_dreamWinter_19 : decode cX10_dreamWinter 19 = .ok (.getfield 58, 3) := by decide +kernel
theorem dX10_dreamWinter_22 : decode cX10_dreamWinter 22 = .ok (.aload_n 0, 1) := by decide +kernel
theorem dX10_dreamWinter_23 : decode cX10_dreamWinter 23 = .ok (.getfield 76, 3) := by decide +kernel
theorem dX10_dreamWinter_26 : decode cX10_dreamWinter 26 = .ok (.iload_n 1, 1) := by decide +kernel
theorem dX10_dreamWinter_27 : decode cX10_dreamWinter 27 = .ok (.iload_n 2, 1) := by decide +kernel
theorem dX10_dreamWinter_28 : decode cX10_dreamWinter 28 = .ok (.iload_n 3, 1) := by decide +kernel
theorem dX10_dreamWinter_29 : decode cX10_dreamWinter 29 = .ok (.invokevirtual 390, 3) := by decide +kernel
theorem dX10_dreamWinter_32 : decode cX10_dreamWinter 32 = .ok (.return_, 1) := by decide +kernel
theorem dX10_factorial_0 : decode cX10_factorial 0 = .ok (.iconst 1, 1) := by decide +kernel
theorem dX10_factorial_1 : decode cX10_factorial 1 = .ok (.istore_n 1, 1) := by decide +kernel
theorem dX10_factorial_2 : decode cX10_factorial 2 = .ok (.iconst 2, 1) := by decide +kernel
theorem dX10_factorial_3 : decode cX10_factorial 3 = .ok (.istore_n 2, 1) := by decide +kernel
theorem dX10_factorial_4 : decode cX10_factorial 4 = .ok (.iload_n 2, 1) := by decide +kernel
theorem dX10_factorial_5 : decode cX10_factorial 5 = .ok (.iload_n 0, 1) := by decide +kernel
theorem dX10_factorial_6 : decode cX10_factorial 6 = .ok (.if_icmp .gt 13, 3) := by decide +kernel
theorem dX10_factorial_9 : decode cX10_factorial 9 = .ok (.iload_n 1, 1) := by decide +kernel
theorem dX10_factorial_10 : decode cX10_factorial 10 = .ok (.iload_n 2, 1) := by decide +kernel
theorem dX10_factorial_11 : decode cX10_factorial 11 = .ok (.imul, 1) := by decide +kernel
theorem dX10_factorial_12 : decode cX10_factorial 12 = .ok (.istore_n 1, 1) := by decide +kernel
theorem dX10_factorial_13 : decode cX10_factorial 13 = .ok (.iinc 2 1, 3) := by decide +kernel
theorem dX10_factorial_16 : decode cX10_factorial 16 = .ok (.goto (-12), 3) := by decide +kernel
theorem dX10_factorial_19 : decode cX10_factorial 19 = .ok (.iload_n 1, 1) := by decide +kernel
theorem dX10_factorial_20 : decode cX10_factorial 20 = .ok (.ireturn, 1) := by decide +kernel
theorem dX10_choices_0 : decode cX10_choices 0 = .ok (.lconst 1, 1) := by decide +kernel
theorem dX10_choices_1 : decode cX10_choices 1 = .ok (.lstore_n 2, 1) := by decide +kernel
theorem dX10_choices_2 : decode cX10_choices 2 = .ok (.iconst 1, 1) := by decide +kernel
theorem dX10_choices_3 : decode cX10_choices 3 = .ok (.istore 4, 2) := by decide +kernel
theorem dX10_choices_5 : decode cX10_choices 5 = .ok (.iload 4, 2) := by decide +kernel
theorem dX10_choices_7 : decode cX10_choices 7 = .ok (.iload_n 1, 1) := by decide +kernel
theorem dX10_choices_8 : decode cX10_choices 8 = .ok (.if_icmp .gt 23, 3) := by decide +kernel
theorem dX10_choices_11 : decode cX10_choices 11 = .ok (.lload_n 2, 1) := by decide +kernel
theorem dX10_choices_12 : decode cX10_choices 12 = .ok (.iload_n 0, 1) := by decide +kernel
theorem dX10_choices_13 : decode cX10_choices 13 = .ok (.iload 4, 2) := by decide +kernel
theorem dX10_choices_15 : decode cX10_choices 15 = .ok (.isub, 1) := by decide +kernel
theorem dX10_choices_16 : decode cX10_choices 16 = .ok (.iconst 1, 1) := by decide +kernel
theorem dX10_choices_17 : decode cX10_choices 17 = .ok (.iadd, 1) := by decide +kernel
theorem dX10_choices_18 : decode cX10_choices 18 = .ok (.i2l, 1) := by decide +kernel
theorem dX10_choices_19 : decode cX10_choices 19 = .ok (.lmul, 1) := by decide +kernel
theorem dX10_choices_20 : decode cX10_choices 20 = .ok (.iload 4, 2) := by decide +kernel
theorem dX10_choices_22 : decode cX10_choices 22 = .ok (.i2l, 1) := by decide +kernel
theorem dX10_choices_23 : decode cX10_choices 23 = .ok (.ldiv, 1) := by decide +kernel
theorem dX10_choices_24 : decode cX10_choices 24 = .ok (.lstore_n 2, 1) := by decide +kernel
theorem dX10_choices_25 : decode cX10_choices 25 = .ok (.iinc 4 1, 3) := by decide +kernel
theorem dX10_choices_28 : decode cX10_choices 28 = .ok (.goto (-23), 3) := by decide +kernel
theorem dX10_choices_31 : decode cX10_choices 31 = .ok (.lload_n 2, 1) := by decide +kernel
theorem dX10_choices_32 : decode cX10_choices 32 = .ok (.lreturn, 1) := by decide +kernel
theorem dX10_power_0 : decode cX10_power 0 = .ok (.lconst 1, 1) := by decide +kernel
theorem dX10_power_1 : decode cX10_power 1 = .ok (.lstore_n 2, 1) := by decide +kernel
theorem dX10_power_2 : decode cX10_power 2 = .ok (.iconst 0, 1) := by decide +kernel
theorem dX10_power_3 : decode cX10_power 3 = .ok (.istore 4, 2) := by decide +kernel
theorem dX10_power_5 : decode cX10_power 5 = .ok (.iload 4, 2) := by decide +kernel
theorem dX10_power_7 : decode cX10_power 7 = .ok (.iload_n 1, 1) := by decide +kernel
theorem dX10_power_8 : decode cX10_power 8 = .ok (.if_icmp .ge 14, 3) := by decide +kernel
theorem dX10_power_11 : decode cX10_power 11 = .ok (.lload_n 2, 1) := by decide +kernel
theorem dX10_power_12 : decode cX10_power 12 = .ok (.iload_n 0, 1) := by decide +kernel
theorem dX10_power_13 : decode cX10_power 13 = .ok (.i2l, 1) := by decide +kernel
theorem dX10_power_14 : decode cX10_power 14 = .ok (.lmul, 1) := by decide +kernel
theorem dX10_power_15 : decode cX10_power 15 = .ok (.lstore_n 2, 1) := by decide +kernel
theorem dX10_power_16 : decode cX10_power 16 = .ok (.iinc 4 1, 3) := by decide +kernel
theorem dX10_power_19 : decode cX10_power 19 = .ok (.goto (-14), 3) := by decide +kernel
theorem dX10_power_22 : decode cX10_power 22 = .ok (.lload_n 2, 1) := by decide +kernel
theorem dX10_power_23 : decode cX10_power 23 = .ok (.lreturn, 1) := by decide +kernel
theorem dX10_has_0 : decode cX10_has 0 = .ok (.iload_n 2, 1) := by decide +kernel
theorem dX10_has_1 : decode cX10_has 1 = .ok (.ifCond .ne 13, 3) := by decide +kernel
theorem dX10_has_4 : decode cX10_has 4 = .ok (.iload_n 3, 1) := by decide +kernel
theorem dX10_has_5 : decode cX10_has 5 = .ok (.ifCond .ne 7, 3) := by decide +kernel
theorem dX10_has_8 : decode cX10_has 8 = .ok (.iload_n 0, 1) := by decide +kernel
theorem dX10_has_9 : decode cX10_has 9 = .ok (.goto 4, 3) := by decide +kernel
theorem dX10_has_12 : decode cX10_has 12 = .ok (.iconst 0, 1) := by decide +kernel
theorem dX10_has_13 : decode cX10_has 13 = .ok (.ireturn, 1) := by decide +kernel
theorem dX10_has_14 : decode cX10_has 14 = .ok (.iload_n 3, 1) := by decide +kernel
theorem dX10_has_15 : decode cX10_has 15 = .ok (.ifCond .ne 9, 3) := by decide +kernel
theorem dX10_has_18 : decode cX10_has 18 = .ok (.iload_n 0, 1) := by decide +kernel
theorem dX10_has_19 : decode cX10_has 19 = .ok (.iload_n 1, 1) := by decide +kernel
theorem dX10_has_20 : decode cX10_has 20 = .ok (.iadd, 1) := by decide +kernel
theorem dX10_has_21 : decode cX10_has 21 = .ok (.goto 4, 3) := by decide +kernel
theorem dX10_has_24 : decode cX10_has 24 = .ok (.iload_n 1, 1) := by decide +kernel
theorem dX10_has_25 : decode cX10_has 25 = .ok (.ireturn, 1) := by decide +kernel
theorem dX10_isLetter_0 : decode cX10_isLetter 0 = .ok (.iload_n 0, 1) := by decide +kernel
theorem dX10_isLetter_1 : decode cX10_isLetter 1 = .ok (.bipush 97, 2) := by decide +kernel
theorem dX10_isLetter_3 : decode cX10_isLetter 3 = .ok (.if_icmp .lt 13, 3) := by decide +kernel
theorem dX10_isLetter_6 : decode cX10_isLetter 6 = .ok (.iload_n 0, 1) := by decide +kernel
theorem dX10_isLetter_7 : decode cX10_isLetter 7 = .ok (.bipush 122, 2) := by decide +kernel
theorem dX10_isLetter_9 : decode cX10_isLetter 9 = .ok (.if_icmp .gt 7, 3) := by decide +kernel
theorem dX10_isLetter_12 : decode cX10_isLetter 12 = .ok (.iconst 1, 1) := by decide +kernel
theorem dX10_isLetter_13 : decode cX10_isLetter 13 = .ok (.goto 4, 3) := by decide +kernel
theorem dX10_isLetter_16 : decode cX10_isLetter 16 = .ok (.iconst 0, 1) := by decide +kernel
theorem dX10_isLetter_17 : decode cX10_isLetter 17 = .ok (.ireturn, 1) := by decide +kernel
theorem dX10_isDigit_0 : decode cX10_isDigit 0 = .ok (.iload_n 0, 1) := by decide +kernel
theorem dX10_isDigit_1 : decode cX10_isDigit 1 = .ok (.bipush 48, 2) := by decide +kernel
theorem dX10_isDigit_3 : decode cX10_isDigit 3 = .ok (.if_icmp .lt 13, 3) := by decide +kernel
theorem dX10_isDigit_6 : decode cX10_isDigit 6 = .ok (.iload_n 0, 1) := by decide +kernel
theorem dX10_isDigit_7 : decode cX10_isDigit 7 = .ok (.bipush 57, 2) := by decide +kernel
theorem dX10_isDigit_9 : decode cX10_isDigit 9 = .ok (.if_icmp .gt 7, 3) := by decide +kernel
theorem dX10_isDigit_12 : decode cX10_isDigit 12 = .ok (.iconst 1, 1) := by decide +kernel
theorem dX10_isDigit_13 : decode cX10_isDigit 13 = .ok (.goto 4, 3) := by decide +kernel
theorem dX10_isDigit_16 : decode cX10_isDigit 16 = .ok (.iconst 0, 1) := by decide +kernel
theorem dX10_isDigit_17 : decode cX10_isDigit 17 = .ok (.ireturn, 1) := by decide +kernel
theorem dX10_entry_0 : decode cX10_entry 0 = .ok (.iload_n 1, 1) := by decide +kernel
theorem dX10_entry_1 : decode cX10_entry 1 = .ok (.ifCond .lt 15, 3) := by decide +kernel
theorem dX10_entry_4 : decode cX10_entry 4 = .ok (.iload_n 1, 1) := by decide +kernel
theorem dX10_entry_5 : decode cX10_entry 5 = .ok (.aload_n 0, 1) := by decide +kernel
theorem dX10_entry_6 : decode cX10_entry 6 = .ok (.arraylength, 1) := by decide +kernel
theorem dX10_entry_7 : decode cX10_entry 7 = .ok (.if_icmp .ge 9, 3) := by decide +kernel
theorem dX10_entry_10 : decode cX10_entry 10 = .ok (.aload_n 0, 1) := by decide +kernel
theorem dX10_entry_11 : decode cX10_entry 11 = .ok (.iload_n 1, 1) := by decide +kernel
theorem dX10_entry_12 : decode cX10_entry 12 = .ok (.iaload, 1) := by decide +kernel
theorem dX10_entry_13 : decode cX10_entry 13 = .ok (.goto 4, 3) := by decide +kernel
theorem dX10_entry_16 : decode cX10_entry 16 = .ok (.iconst 0, 1) := by decide +kernel
theorem dX10_entry_17 : decode cX10_entry 17 = .ok (.ireturn, 1) := by decide +kernel
theorem dX10_setEntry_0 : decode cX10_setEntry 0 = .ok (.iload_n 1, 1) := by decide +kernel
theorem dX10_setEntry_1 : decode cX10_setEntry 1 = .ok (.ifCond .lt 13, 3) := by decide +kernel
theorem dX10_setEntry_4 : decode cX10_setEntry 4 = .ok (.iload_n 1, 1) := by decide +kernel
theorem dX10_setEntry_5 : decode cX10_setEntry 5 = .ok (.aload_n 0, 1) := by decide +kernel
theorem dX10_setEntry_6 : decode cX10_setEntry 6 = .ok (.arraylength, 1) := by decide +kernel
theorem dX10_setEntry_7 : decode cX10_setEntry 7 = .ok (.if_icmp .ge 7, 3) := by decide +kernel
theorem dX10_setEntry_10 : decode cX10_setEntry 10 = .ok (.aload_n 0, 1) := by decide +kernel
theorem dX10_setEntry_11 : decode cX10_setEntry 11 = .ok (.iload_n 1, 1) := by decide +kernel
theorem dX10_setEntry_12 : decode cX10_setEntry 12 = .ok (.iload_n 2, 1) := by decide +kernel
theorem dX10_setEntry_13 : decode cX10_setEntry 13 = .ok (.iastore, 1) := by decide +kernel
theorem dX10_setEntry_14 : decode cX10_setEntry 14 = .ok (.return_, 1) := by decide +kernel
theorem dX10_copyRow_0 : decode cX10_copyRow 0 = .ok (.aload_n 0, 1) := by decide +kernel
theorem dX10_copyRow_1 : decode cX10_copyRow 1 = .ok (.iconst 0, 1) := by decide +kernel
theorem dX10_copyRow_2 : decode cX10_copyRow 2 = .ok (.aload_n 1, 1) := by decide +kernel
theorem dX10_copyRow_3 : decode cX10_copyRow 3 = .ok (.iconst 0, 1) := by decide +kernel
theorem dX10_copyRow_4 : decode cX10_copyRow 4 = .ok (.aload_n 0, 1) := by decide +kernel
theorem dX10_copyRow_5 : decode cX10_copyRow 5 = .ok (.arraylength, 1) := by decide +kernel
theorem dX10_copyRow_6 : decode cX10_copyRow 6 = .ok (.aload_n 1, 1) := by decide +kernel
theorem dX10_copyRow_7 : decode cX10_copyRow 7 = .ok (.arraylength, 1) := by decide +kernel
theorem dX10_copyRow_8 : decode cX10_copyRow 8 = .ok (.invokestatic 342, 3) := by decide +kernel
theorem dX10_copyRow_11 : decode cX10_copyRow 11 = .ok (.invokestatic 393, 3) := by decide +kernel
theorem dX10_copyRow_14 : decode cX10_copyRow 14 = .ok (.return_, 1) := by decide +kernel
