theorem dX11_draws_28 : decode cX11_draws 28 = .ok (.irem, 1) := by decide +kernel
theorem dX11_draws_29 : decode cX11_draws 29 = .ok (.ireturn, 1) := by decide +kernel
theorem dX11_winterGoes_0 : decode cX11_winterGoes 0 = .ok (.aload_n 0, 1) := by decide +kernel
theorem dX11_winterGoes_1 : decode cX11_winterGoes 1 = .ok (.invokevirtual 293, 3) := by decide +kernel
theorem dX11_winterGoes_4 : decode cX11_winterGoes 4 = .ok (.aload_n 0, 1) := by decide +kernel
theorem dX11_winterGoes_5 : decode cX11_winterGoes 5 = .ok (.iload_n 1, 1) := by decide +kernel
theorem dX11_winterGoes_6 : decode cX11_winterGoes 6 = .ok (.putfield 412, 3) := by decide +kernel
theorem dX11_winterGoes_9 : decode cX11_winterGoes 9 = .ok (.iconst 0, 1) := by decide +kernel
theorem dX11_winterGoes_10 : decode cX11_winterGoes 10 = .ok (.istore 4, 2) := by decide +kernel
theorem dX11_winterGoes_12 : decode cX11_winterGoes 12 = .ok (.iload 4, 2) := by decide +kernel
theorem dX11_winterGoes_14 : decode cX11_winterGoes 14 = .ok (.iload_n 3, 1) := by decide +kernel
theorem dX11_winterGoes_15 : decode cX11_winterGoes 15 = .ok (.if_icmp .ge 92, 3) := by decide +kernel
theorem dX11_winterGoes_18 : decode cX11_winterGoes 18 = .ok (.aload_n 0, 1) := by decide +kernel
theorem dX11_winterGoes_19 : decode cX11_winterGoes 19 = .ok (.getfield 157, 3) := by decide +kernel
theorem dX11_winterGoes_22 : decode cX11_winterGoes 22 = .ok (.ifCond .le 75, 3) := by decide +kernel
theorem dX11_winterGoes_25 : decode cX11_winterGoes 25 = .ok (.aload_n 0, 1) := by decide +kernel
theorem dX11_winterGoes_26 : decode cX11_winterGoes 26 = .ok (.getfield 154, 3) := by decide +kernel
theorem dX11_winterGoes_29 : decode cX11_winterGoes 29 = .ok (.ifCond .le 68, 3) := by decide +kernel
theorem dX11_winterGoes_32 : decode cX11_winterGoes 32 = .ok (.aload_n 0, 1) := by decide +kernel
theorem dX11_winterGoes_33 : decode cX11_winterGoes 33 = .ok (.aload_n 0, 1) := by decide +kernel
theorem dX11_winterGoes_34 : decode cX11_winterGoes 34 = .ok (.getfield 157, 3) := by decide +kernel
theorem dX11_winterGoes_37 : decode cX11_winterGoes 37 = .ok (.invokevirtual 416, 3) := by decide +kernel
theorem dX11_winterGoes_40 : decode cX11_winterGoes 40 = .ok (.istore 5, 2) := by decide +kernel
theorem dX11_winterGoes_42 : decode cX11_winterGoes 42 = .ok (.aload_n 0, 1) := by decide +kernel
theorem dX11_winterGoes_43 : decode cX11_winterGoes 43 = .ok (.aload_n 0, 1) := by decide +kernel
theorem dX11_winterGoes_44 : decode cX11_winterGoes 44 = .ok (.getfield 154, 3) := by decide +kernel
theorem dX11_winterGoes_47 : decode cX11_winterGoes 47 = .ok (.invokevirtual 416, 3) := by decide +kernel
theorem dX11_winterGoes_50 : decode cX11_winterGoes 50 = .ok (.istore 6, 2) := by decide +kernel
theorem dX11_winterGoes_52 : decode cX11_winterGoes 52 = .ok (.iconst 1, 1) := by decide +kernel
theorem dX11_winterGoes_53 : decode cX11_winterGoes 53 = .ok (.aload_n 0, 1) := by decide +kernel
theorem dX11_winterGoes_54 : decode cX11_winterGoes 54 = .ok (.bipush 20, 2) := by decide +kernel
theorem dX11_winterGoes_56 : decode cX11_winterGoes 56 = .ok (.invokevirtual 416, 3) := by decide +kernel
theorem dX11_winterGoes_59 : decode cX11_winterGoes 59 = .ok (.iadd, 1) := by decide +kernel
theorem dX11_winterGoes_60 : decode cX11_winterGoes 60 = .ok (.istore 7, 2) := by decide +kernel
theorem dX11_winterGoes_62 : decode cX11_winterGoes 62 = .ok (.aload_n 0, 1) := by decide +kernel
theorem dX11_winterGoes_63 : decode cX11_winterGoes 63 = .ok (.iload 5, 2) := by decide +kernel
theorem dX11_winterGoes_65 : decode cX11_winterGoes 65 = .ok (.iload 6, 2) := by decide +kernel
theorem dX11_winterGoes_67 : decode cX11_winterGoes 67 = .ok (.iload 7, 2) := by decide +kernel
theorem dX11_winterGoes_69 : decode cX11_winterGoes 69 = .ok (.iconst 1, 1) := by decide +kernel
theorem dX11_winterGoes_70 : decode cX11_winterGoes 70 = .ok (.aload_n 0, 1) := by decide +kernel
theorem dX11_winterGoes_71 : decode cX11_winterGoes 71 = .ok (.bipush 9, 2) := by decide +kernel
theorem dX11_winterGoes_73 : decode cX11_winterGoes 73 = .ok (.invokevirtual 416, 3) := by decide +kernel
theorem dX11_winterGoes_76 : decode cX11_winterGoes 76 = .ok (.iadd, 1) := by decide +kernel
theorem dX11_winterGoes_77 : decode cX11_winterGoes 77 = .ok (.invokevirtual 334, 3) := by decide +kernel
theorem dX11_winterGoes_80 : decode cX11_winterGoes 80 = .ok (.pop, 1) := by decide +kernel
theorem dX11_winterGoes_81 : decode cX11_winterGoes 81 = .ok (.aload_n 0, 1) := by decide +kernel
theorem dX11_winterGoes_82 : decode cX11_winterGoes 82 = .ok (.bipush 16, 2) := by decide +kernel
theorem dX11_winterGoes_84 : decode cX11_winterGoes 84 = .ok (.invokevirtual 416, 3) := by decide +kernel
theorem dX11_winterGoes_87 : decode cX11_winterGoes 87 = .ok (.iload_n 2, 1) := by decide +kernel
theorem dX11_winterGoes_88 : decode cX11_winterGoes 88 = .ok (.if_icmp .ge 9, 3) := by decide +kernel
theorem dX11_winterGoes_91 : decode cX11_winterGoes 91 = .ok (.aload_n 0, 1) := by decide +kernel
theorem dX11_winterGoes_92 : decode cX11_winterGoes 92 = .ok (.iconst 0, 1) := by decide +kernel
theorem dX11_winterGoes_93 : decode cX11_winterGoes 93 = .ok (.invokevirtual 338, 3) := by decide +kernel
theorem dX11_winterGoes_96 : decode cX11_winterGoes 96 = .ok (.pop, 1) := by decide +kernel
theorem dX11_winterGoes_97 : decode cX11_winterGoes 97 = .ok (.aload_n 0, 1) := by decide +kernel
theorem dX11_winterGoes_98 : decode cX11_winterGoes 98 = .ok (.invokevirtual 345, 3) := by decide +kernel
theorem dX11_winterGoes_101 : decode cX11_winterGoes 101 = .ok (.iinc 4 1, 3) := by decide +kernel
theorem dX11_winterGoes_104 : decode cX11_winterGoes 104 = .ok (.goto (-92), 3) := by decide +kernel
theorem dX11_winterGoes_107 : decode cX11_winterGoes 107 = .ok (.return_, 1) := by decide +kernel
theorem dX11_isWinter_0 : decode cX11_isWinter 0 = .ok (.iload_n 0, 1) := by decide +kernel
theorem dX11_isWinter_1 : decode cX11_isWinter 1 = .ok (.ifCond .lt 24, 3) := by decide +kernel
theorem dX11_isWinter_4 : decode cX11_isWinter 4 = .ok (.iload_n 0, 1) := by decide +kernel
theorem dX11_isWinter_5 : decode cX11_isWinter 5 = .ok (.bipush 16, 2) := by decide +kernel
theorem dX11_isWinter_7 : decode cX11_isWinter 7 = .ok (.if_icmp .gt 18, 3) := by decide +kernel
theorem dX11_isWinter_10 : decode cX11_isWinter 10 = .ok (.iload_n 1, 1) := by decide +kernel
theorem dX11_isWinter_11 : decode cX11_isWinter 11 = .ok (.iconst 1, 1) := by decide +kernel
theorem dX11_isWinter_12 : decode cX11_isWinter 12 = .ok (.if_icmp .lt 13, 3) := by decide +kernel
theorem dX11_isWinter_15 : decode cX11_isWinter 15 = .ok (.iload_n 1, 1) := by decide +kernel
theorem dX11_isWinter_16 : decode cX11_isWinter 16 = .ok (.bipush 96, 2) := by decide +kernel
theorem dX11_isWinter_18 : decode cX11_isWinter 18 = .ok (.if_icmp .gt 7, 3) := by decide +kernel
theorem dX11_isWinter_21 : decode cX11_isWinter 21 = .ok (.iconst 1, 1) := by decide +kernel
theorem dX11_isWinter_22 : decode cX11_isWinter 22 = .ok (.goto 4, 3) := by decide +kernel
theorem dX11_isWinter_25 : decode cX11_isWinter 25 = .ok (.iconst 0, 1) := by decide +kernel
theorem dX11_isWinter_26 : decode cX11_isWinter 26 = .ok (.ireturn, 1) := by decide +kernel
theorem dX11_winter_0 : decode cX11_winter 0 = .ok (.aload_n 0, 1) := by decide +kernel
theorem dX11_winter_1 : decode cX11_winter 1 = .ok (.iconst 0, 1) := by decide +kernel
theorem dX11_winter_2 : decode cX11_winter 2 = .ok (.putfield 3, 3) := by decide +kernel
theorem dX11_winter_5 : decode cX11_winter 5 = .ok (.aload_n 0, 1) := by decide +kernel
theorem dX11_winter_6 : decode cX11_winter 6 = .ok (.iload_n 2, 1) := by decide +kernel
theorem dX11_winter_7 : decode cX11_winter 7 = .ok (.iload_n 3, 1) := by decide +kernel
theorem dX11_winter_8 : decode cX11_winter 8 = .ok (.invokestatic 419, 3) := by decide +kernel
theorem dX11_winter_11 : decode cX11_winter 11 = .ok (.ifCond .eq 17, 3) := by decide +kernel
theorem dX11_winter_14 : decode cX11_winter 14 = .ok (.iload 4, 2) := by decide +kernel
theorem dX11_winter_16 : decode cX11_winter 16 = .ok (.iconst 0, 1) := by decide +kernel
theorem dX11_winter_17 : decode cX11_winter 17 = .ok (.iconst 3, 1) := by decide +kernel
theorem dX11_winter_18 : decode cX11_winter 18 = .ok (.invokestatic 348, 3) := by decide +kernel
theorem dX11_winter_21 : decode cX11_winter 21 = .ok (.ifCond .eq 7, 3) := by decide +kernel
theorem dX11_winter_24 : decode cX11_winter 24 = .ok (.iconst 1, 1) := by decide +kernel
theorem dX11_winter_25 : decode cX11_winter 25 = .ok (.goto 4, 3) := by decide +kernel
theorem dX11_winter_28 : decode cX11_winter 28 = .ok (.iconst 0, 1) := by decide +kernel
theorem dX11_winter_29 : decode cX11_winter 29 = .ok (.iconst 1, 1) := by decide +kernel
theorem dX11_winter_30 : decode cX11_winter 30 = .ok (.iconst 1, 1) := by decide +kernel
theorem dX11_winter_31 : decode cX11_winter 31 = .ok (.invokevirtual 190, 3) := by decide +kernel
theorem dX11_winter_34 : decode cX11_winter 34 = .ok (.ifCond .ne 5, 3) := by decide +kernel
theorem dX11_winter_37 : decode cX11_winter 37 = .ok (.iconst 0, 1) := by decide +kernel
theorem dX11_winter_38 : decode cX11_winter 38 = .ok (.ireturn, 1) := by decide +kernel
theorem dX11_winter_39 : decode cX11_winter 39 = .ok (.aload_n 0, 1) := by decide +kernel
theorem dX11_winter_40 : decode cX11_winter 40 = .ok (.iload_n 1, 1) := by decide +kernel
theorem dX11_winter_41 : decode cX11_winter 41 = .ok (.iload_n 2, 1) := by decide +kernel
theorem dX11_winter_42 : decode cX11_winter 42 = .ok (.iload_n 3, 1) := by decide +kernel
theorem dX11_winter_43 : decode cX11_winter 43 = .ok (.invokevirtual 422, 3) := by decide +kernel
theorem dX11_winter_46 : decode cX11_winter 46 = .ok (.iload 4, 2) := by decide +kernel
theorem dX11_winter_48 : decode cX11_winter 48 = .ok (.ifCond .ne 13, 3) := by decide +kernel
theorem dX11_winter_51 : decode cX11_winter 51 = .ok (.aload_n 0, 1) := by decide +kernel
theorem dX11_winter_52 : decode cX11_winter 52 = .ok (.getfield 68, 3) := by decide +kernel
theorem dX11_winter_55 : decode cX11_winter 55 = .ok (.bipush 88, 2) := by decide +kernel
theorem dX11_winter_57 : decode cX11_winter 57 = .ok (.iaload, 1) := by decide +kernel
theorem dX11_winter_58 : decode cX11_winter 58 = .ok (.goto 49, 3) := by decide +kernel
theorem dX11_winter_61 : decode cX11_winter 61 = .ok (.iload 4, 2) := by decide +kernel
theorem dX11_winter_63 : decode cX11_winter 63 = .ok (.iconst 1, 1) := by decide +kernel
theorem dX11_winter_64 : decode cX11_winter 64 = .ok (.if_icmp .ne 15, 3) := by decide +kernel
theorem dX11_winter_67 : decode cX11_winter 67 = .ok (.aload_n 0, 1) := by decide +kernel
theorem dX11_winter_68 : decode cX11_winter 68 = .ok (.iconst 0, 1) := by decide +kernel
theorem dX11_winter_69 : decode cX11_winter 69 = .ok (.aload_n 0, 1) := by decide +kernel
theorem dX11_winter_70 : decode cX11_winter 70 = .ok (.getfield 154, 3) := by decide +kernel
theorem dX11_winter_73 : decode cX11_winter 73 = .ok (.invokevirtual 354, 3) := by decide +kernel
theorem dX11_winter_76 : decode cX11_winter 76 = .ok (.goto 31, 3) := by decide +kernel
theorem dX11_winter_79 : decode cX11_winter 79 = .ok (.iload 4, 2) := by decide +kernel
theorem dX11_winter_81 : decode cX11_winter 81 = .ok (.iconst 2, 1) := by decide +kernel
theorem dX11_winter_82 : decode cX11_winter 82 = .ok (.if_icmp .ne 10, 3) := by decide +kernel
theorem dX11_winter_85 : decode cX11_winter 85 = .ok (.aload_n 0, 1) := by decide +kernel
theorem dX11_winter_86 : decode cX11_winter 86 = .ok (.invokevirtual 351, 3) := by decide +kernel
theorem dX11_winter_89 : decode cX11_winter 89 = .ok (.goto 18, 3) := by decide +kernel
theorem dX11_winter_92 : decode cX11_winter 92 = .ok (.aload_n 0, 1) := by decide +kernel
theorem dX11_winter_93 : decode cX11_winter 93 = .ok (.getfield 68, 3) := by decide +kernel
theorem dX11_winter_96 : decode cX11_winter 96 = .ok (.bipush 89, 2) := by decide +kernel
theorem dX11_winter_98 : decode cX11_winter 98 = .ok (.iaload, 1) := by decide +kernel
theorem dX11_winter_99 : decode cX11_winter 99 = .ok (.aload_n 0, 1) := by decide +kernel
theorem dX11_winter_100 : decode cX11_winter 100 = .ok (.getfield 65, 3) := by decide +kernel
theorem dX11_winter_103 : decode cX11_winter 103 = .ok (.bipush 89, 2) := by decide +kernel
theorem dX11_winter_105 : decode cX11_winter 105 = .ok (.iaload, 1) := by decide +kernel
theorem dX11_winter_106 : decode cX11_winter 106 = .ok (.isub, 1) := by decide +kernel
theorem dX11_winter_107 : decode cX11_winter 107 = .ok (.ireturn, 1) := by decide +kernel
theorem dX11_span_0 : decode cX11_span 0 = .ok (.aload_n 0, 1) := by decide +kernel
theorem dX11_span_1 : decode cX11_span 1 = .ok (.iconst 0, 1) := by decide +kernel
theorem dX11_span_2 : decode cX11_span 2 = .ok (.putfield 3, 3) := by decide +kernel
theorem dX11_span_5 : decode cX11_span 5 = .ok (.aload_n 0, 1) := by decide +kernel
theorem dX11_span_6 : decode cX11_span 6 = .ok (.iload_n 2, 1) := by decide +kernel
theorem dX11_span_7 : decode cX11_span 7 = .ok (.iconst 1, 1) := by decide +kernel
theorem dX11_span_8 : decode cX11_span 8 = .ok (.bipush 20, 2) := by decide +kernel
theorem dX11_span_10 : decode cX11_span 10 = .ok (.invokestatic 348, 3) := by decide +kernel
theorem dX11_span_13 : decode cX11_span 13 = .ok (.ifCond .eq 41, 3) := by decide +kernel
theorem dX11_span_16 : decode cX11_span 16 = .ok (.iload_n 3, 1) := by decide +kernel
theorem dX11_span_17 : decode cX11_span 17 = .ok (.iload 4, 2) := by decide +kernel
theorem dX11_span_19 : decode cX11_span 19 = .ok (.invokestatic 419, 3) := by decide +kernel
theorem dX11_span_22 : decode cX11_span 22 = .ok (.ifCond .eq 32, 3) := by decide +kernel
theorem dX11_span_25 : decode cX11_span 25 = .ok (.iload 5, 2) := by decide +kernel
theorem dX11_span_27 : decode cX11_span 27 = .ok (.iconst 0, 1) := by decide +kernel
theorem dX11_span_28 : decode cX11_span 28 = .ok (.iconst 2, 1) := by decide +kernel
theorem dX11_span_29 : decode cX11_span 29 = .ok (.invokestatic 348, 3) := by decide +kernel
theorem dX11_span_32 : decode cX11_span 32 = .ok (.ifCond .eq 22, 3) := by decide +kernel
theorem dX11_span_35 : decode cX11_span 35 = .ok (.iload 6, 2) := by decide +kernel
theorem dX11_span_37 : decode cX11_span 37 = .ok (.iconst 0, 1) := by decide +kernel
theorem dX11_span_38 : decode cX11_span 38 = .ok (.aload_n 0, 1) := by decide +kernel
theorem dX11_span_39 : decode cX11_span 39 = .ok (.getfield 157, 3) := by decide +kernel
theorem dX11_span_42 : decode cX11_span 42 = .ok (.iconst 1, 1) := by decide +kernel
theorem dX11_span_43 : decode cX11_span 43 = .ok (.isub, 1) := by decide +kernel
theorem dX11_span_44 : decode cX11_span 44 = .ok (.invokestatic 348, 3) := by decide +kernel
theorem dX11_span_47 : decode cX11_span 47 = .ok (.ifCond .eq 7, 3) := by decide +kernel
theorem dX11_span_50 : decode cX11_span 50 = .ok (.iconst 1, 1) := by decide +kernel
theorem dX11_span_51 : decode cX11_span 51 = .ok (.goto 4, 3) := by decide +kernel
theorem dX11_span_54 : decode cX11_span 54 = .ok (.iconst 0, 1) := by decide +kernel
theorem dX11_span_55 : decode cX11_span 55 = .ok (.iconst 1, 1) := by decide +kernel
theorem dX11_span_56 : decode cX11_span 56 = .ok (.iconst 1, 1) := by decide +kernel
theorem dX11_span_57 : decode cX11_span 57 = .ok (.invokevirtual 190, 3) := by decide +kernel
theorem dX11_span_60 : decode cX11_span 60 = .ok (.ifCond .ne 5, 3) := by decide +kernel
theorem dX11_span_63 : decode cX11_span 63 = .ok (.iconst 0, 1) := by decide +kernel
theorem dX11_span_64 : decode cX11_span 64 = .ok (.ireturn, 1) := by decide +kernel
theorem dX11_span_65 : decode cX11_span 65 = .ok (.iconst (-1), 1) := by decide +kernel
theorem dX11_span_66 : decode cX11_span 66 = .ok (.istore 7, 2) := by decide +kernel
theorem dX11_span_68 : decode cX11_span 68 = .ok (.iconst 0, 1) := by decide +kernel
theorem dX11_span_69 : decode cX11_span 69 = .ok (.istore 8, 2) := by decide +kernel
theorem dX11_span_71 : decode cX11_span 71 = .ok (.iconst 0, 1) := by decide +kernel
theorem dX11_span_72 : decode cX11_span 72 = .ok (.istore 9, 2) := by decide +kernel
theorem dX11_span_74 : decode cX11_span 74 = .ok (.iconst 0, 1) := by decide +kernel
theorem dX11_span_75 : decode cX11_span 75 = .ok (.istore 10, 2) := by decide +kernel
theorem dX11_span_77 : decode cX11_span 77 = .ok (.iload 10, 2) := by decide +kernel
theorem dX11_span_79 : decode cX11_span 79 = .ok (.iload_n 2, 1) := by decide +kernel
theorem dX11_span_80 : decode cX11_span 80 = .ok (.if_icmp .ge 92, 3) := by decide +kernel
theorem dX11_span_83 : decode cX11_span 83 = .ok (.aload_n 0, 1) := by decide +kernel
theorem dX11_span_84 : decode cX11_span 84 = .ok (.iload_n 1, 1) := by decide +kernel
theorem dX11_span_85 : decode cX11_span 85 = .ok (.iload 10, 2) := by decide +kernel
theorem dX11_span_87 : decode cX11_span 87 = .ok (.iadd, 1) := by decide +kernel
theorem dX11_span_88 : decode cX11_span 88 = .ok (.iload_n 3, 1) := by decide +kernel
theorem dX11_span_89 : decode cX11_span 89 = .ok (.iload 4, 2) := by decide +kernel
theorem dX11_span_91 : decode cX11_span 91 = .ok (.invokevirtual 422, 3) := by decide +kernel
theorem dX11_span_94 : decode cX11_span 94 = .ok (.aload_n 0, 1) := by decide +kernel
theorem dX11_span_95 : decode cX11_span 95 = .ok (.iconst 0, 1) := by decide +kernel
theorem dX11_span_96 : decode cX11_span 96 = .ok (.aload_n 0, 1) := by decide +kernel
theorem dX11_span_97 : decode cX11_span 97 = .ok (.getfield 154, 3) := by decide +kernel
theorem dX11_span_100 : decode cX11_span 100 = .ok (.invokevirtual 354, 3) := by decide +kernel
theorem dX11_span_103 : decode cX11_span 103 = .ok (.istore 11, 2) := by decide +kernel
theorem dX11_span_105 : decode cX11_span 105 = .ok (.iload 7, 2) := by decide +kernel
theorem dX11_span_107 : decode cX11_span 107 = .ok (.iconst (-1), 1) := by decide +kernel
theorem dX11_span_108 : decode cX11_span 108 = .ok (.if_icmp .eq 10, 3) := by decide +kernel
theorem dX11_span_111 : decode cX11_span 111 = .ok (.iload 11, 2) := by decide +kernel
theorem dX11_span_113 : decode cX11_span 113 = .ok (.iload 7, 2) := by decide +kernel
theorem dX11_span_115 : decode cX11_span 115 = .ok (.if_icmp .ge 8, 3) := by decide +kernel
theorem dX11_span_118 : decode cX11_span 118 = .ok (.iload 11, 2) := by decide +kernel
theorem dX11_span_120 : decode cX11_span 120 = .ok (.goto 5, 3) := by decide +kernel
theorem dX11_span_123 : decode cX11_span 123 = .ok (.iload 7, 2) := by decide +kernel
theorem dX11_span_125 : decode cX11_span 125 = .ok (.istore 7, 2) := by decide +kernel
theorem dX11_span_127 : decode cX11_span 127 = .ok (.iload 11, 2) := by decide +kernel
theorem dX11_span_129 : decode cX11_span 129 = .ok (.iload 8, 2) := by decide +kernel
theorem dX11_span_131 : decode cX11_span 131 = .ok (.if_icmp .le 8, 3) := by decide +kernel
theorem dX11_span_134 : decode cX11_span 134 = .ok (.iload 11, 2) := by decide +kernel
theorem dX11_span_136 : decode cX11_span 136 = .ok (.goto 5, 3) := by decide +kernel
theorem dX11_span_139 : decode cX11_span 139 = .ok (.iload 8, 2) := by decide +kernel
theorem dX11_span_141 : decode cX11_span 141 = .ok (.istore 8, 2) := by decide +kernel
theorem dX11_span_143 : decode cX11_span 143 = .ok (.iload 9, 2) := by decide +kernel
theorem dX11_span_145 : decode cX11_span 145 = .ok (.aload_n 0, 1) := by decide +kernel
theorem dX11_span_146 : decode cX11_span 146 = .ok (.getfield 68, 3) := by decide +kernel
theorem dX11_span_149 : decode cX11_span 149 = .ok (.bipush 16, 2) := by decide +kernel
theorem dX11_span_151 : decode cX11_span 151 = .ok (.iload 6, 2) := by decide +kernel
theorem dX11_span_153 : decode cX11_span 153 = .ok (.iadd, 1) := by decide +kernel
theorem dX11_span_154 : decode cX11_span 154 = .ok (.iaload, 1) := by decide +kernel
theorem dX11_span_155 : decode cX11_span 155 = .ok (.ifCond .ne 7, 3) := by decide +kernel
theorem dX11_span_158 : decode cX11_span 158 = .ok (.iconst 1, 1) := by decide +kernel
theorem dX11_span_159 : decode cX11_span 159 = .ok (.goto 4, 3) := by decide +kernel
theorem dX11_span_162 : decode cX11_span 162 = .ok (.iconst 0, 1) := by decide +kernel
theorem dX11_span_163 : decode cX11_span 163 = .ok (.iadd, 1) := by decide +kernel
theorem dX11_span_164 : decode cX11_span 164 = .ok (.istore 9, 2) := by decide +kernel
theorem dX11_span_166 : decode cX11_span 166 = .ok (.iinc 10 1, 3) := by decide +kernel
theorem dX11_span_169 : decode cX11_span 169 = .ok (.goto (-92), 3) := by decide +kernel
theorem dX11_span_172 : decode cX11_span 172 = .ok (.iload 5, 2) := by decide +kernel
theorem dX11_span_174 : decode cX11_span 174 = .ok (.ifCond .ne 8, 3) := by decide +kernel
theorem dX11_span_177 : decode cX11_span 177 = .ok (.iload 7, 2) := by decide +kernel
theorem dX11_span_179 : decode cX11_span 179 = .ok (.goto 16, 3) := by decide +kernel
theorem dX11_span_182 : decode cX11_span 182 = .ok (.iload 5, 2) := by decide +kernel
theorem dX11_span_184 : decode cX11_span 184 = .ok (.iconst 1, 1) := by decide +kernel
theorem dX11_span_185 : decode cX11_span 185 = .ok (.if_icmp .ne 8, 3) := by decide +kernel
theorem dX11_span_188 : decode cX11_span 188 = .ok (.iload 8, 2) := by decide +kernel
theorem dX11_span_190 : decode cX11_span 190 = .ok (.goto 5, 3) := by decide +kernel
theorem dX11_span_193 : decode cX11_span 193 = .ok (.iload 9, 2) := by decide +kernel
theorem dX11_span_195 : decode cX11_span 195 = .ok (.ireturn, 1) := by decide +kernel
theorem dX11_keepsRow_0 : decode cX11_keepsRow 0 = .ok (.iconst 0, 1) := by decide +kernel
theorem dX11_keepsRow_1 : decode cX11_keepsRow 1 = .ok (.istore 5, 2) := by decide +kernel
theorem dX11_keepsRow_3 : decode cX11_keepsRow 3 = .ok (.iload 5, 2) := by decide +kernel
theorem dX11_keepsRow_5 : decode cX11_keepsRow 5 = .ok (.iload_n 3, 1) := by decide +kernel
theorem dX11_keepsRow_6 : decode cX11_keepsRow 6 = .ok (.if_icmp .ge 43, 3) := by decide +kernel
theorem dX11_keepsRow_9 : decode cX11_keepsRow 9 = .ok (.iload 4, 2) := by decide +kernel
theorem dX11_keepsRow_11 : decode cX11_keepsRow 11 = .ok (.ifCond .eq 19, 3) := by decide +kernel
theorem dX11_keepsRow_14 : decode cX11_keepsRow 14 = .ok (.aload_n 0, 1) := by decide +kernel
theorem dX11_keepsRow_15 : decode cX11_keepsRow 15 = .ok (.getfield 93, 3) := by decide +kernel
theorem dX11_keepsRow_18 : decode cX11_keepsRow 18 = .ok (.iload_n 1, 1) := by decide +kernel
theorem dX11_keepsRow_19 : decode cX11_keepsRow 19 = .ok (.iload 5, 2) := by decide +kernel
theorem dX11_keepsRow_21 : decode cX11_keepsRow 21 = .ok (.iadd, 1) := by decide +kernel
theorem dX11_keepsRow_22 : decode cX11_keepsRow 22 = .ok (.aload_n 2, 1) := by decide +kernel
theorem dX11_keepsRow_23 : decode cX11_keepsRow 23 = .ok (.iload 5, 2) := by decide +kernel
theorem dX11_keepsRow_25 : decode cX11_keepsRow 25 = .ok (.iaload, 1) := by decide +kernel
theorem dX11_keepsRow_26 : decode cX11_keepsRow 26 = .ok (.iastore, 1) := by decide +kernel
theorem dX11_keepsRow_27 : decode cX11_keepsRow 27 = .ok (.goto 16, 3) := by decide +kernel
theorem dX11_keepsRow_30 : decode cX11_keepsRow 30 = .ok (.aload_n 2, 1) := by decide +kernel
theorem dX11_keepsRow_31 : decode cX11_keepsRow 31 = .ok (.iload 5, 2) := by decide +kernel
theorem dX11_keepsRow_33 : decode cX11_keepsRow 33 = .ok (.aload_n 0, 1) := by decide +kernel
theorem dX11_keepsRow_34 : decode cX11_keepsRow 34 = .ok (.getfield 93, 3) := by decide +kernel
theorem dX11_keepsRow_37 : decode cX11_keepsRow 37 = .ok (.iload_n 1, 1) := by decide +kernel
theorem dX11_keepsRow_38 : decode cX11_keepsRow 38 = .ok (.iload 5, 2) := by decide +kernel
theorem dX11_keepsRow_40 : decode cX11_keepsRow 40 = .ok (.iadd, 1) := by decide +kernel
theorem dX11_keepsRow_41 : decode cX11_keepsRow 41 = .ok (.iaload, 1) := by decide +kernel
theorem dX11_keepsRow_42 : decode cX11_keepsRow 42 = .ok (.iastore, 1) := by decide +kernel
theorem dX11_keepsRow_43 : decode cX11_keepsRow 43 = .ok (.iinc 5 1, 3) := by decide +kernel
theorem dX11_keepsRow_46 : decode cX11_keepsRow 46 = .ok (.goto (-43), 3) := by decide +kernel
theorem dX11_keepsRow_49 : decode cX11_keepsRow 49 = .ok (.iload_n 1, 1) := by decide +kernel
theorem dX11_keepsRow_50 : decode cX11_keepsRow 50 = .ok (.iload_n 3, 1) := by decide +kernel
theorem dX11_keepsRow_51 : decode cX11_keepsRow 51 = .ok (.iadd, 1) := by decide +kernel
theorem dX11_keepsRow_52 : decode cX11_keepsRow 52 = .ok (.ireturn, 1) := by decide +kernel
theorem dX11_keepsAll_0 : decode cX11_keepsAll 0 = .ok (.aload_n 0, 1) := by decide +kernel
theorem dX11_keepsAll_1 : decode cX11_keepsAll 1 = .ok (.sipush 1548, 3) := by decide +kernel
theorem dX11_keepsAll_4 : decode cX11_keepsAll 4 = .ok (.iload_n 1, 1) := by decide +kernel
theorem dX11_keepsAll_5 : decode cX11_keepsAll 5 = .ok (.imul, 1) := by decide +kernel
theorem dX11_keepsAll_6 : decode cX11_keepsAll 6 = .ok (.aload_n 0, 1) := by decide +kernel
theorem dX11_keepsAll_7 : decode cX11_keepsAll 7 = .ok (.getfield 65, 3) := by decide +kernel
theorem dX11_keepsAll_10 : decode cX11_keepsAll 10 = .ok (.bipush 91, 2) := by decide +kernel
theorem dX11_keepsAll_12 : decode cX11_keepsAll 12 = .ok (.iload_n 2, 1) := by decide +kernel
theorem dX11_keepsAll_13 : decode cX11_keepsAll 13 = .ok (.invokevirtual 425, 3) := by decide +kernel
theorem dX11_keepsAll_16 : decode cX11_keepsAll 16 = .ok (.istore_n 3, 1) := by decide +kernel
theorem dX11_keepsAll_17 : decode cX11_keepsAll 17 = .ok (.aload_n 0, 1) := by decide +kernel
theorem dX11_keepsAll_18 : decode cX11_keepsAll 18 = .ok (.iload_n 3, 1) := by decide +kernel
theorem dX11_keepsAll_19 : decode cX11_keepsAll 19 = .ok (.aload_n 0, 1) := by decide +kernel
theorem dX11_keepsAll_20 : decode cX11_keepsAll 20 = .ok (.getfield 71, 3) := by decide +kernel
theorem dX11_keepsAll_23 : decode cX11_keepsAll 23 = .ok (.sipush 1456, 3) := by decide +kernel
theorem dX11_keepsAll_26 : decode cX11_keepsAll 26 = .ok (.iload_n 2, 1) := by decide +kernel
theorem dX11_keepsAll_27 : decode cX11_keepsAll 27 = .ok (.invokevirtual 425, 3) := by decide +kernel
theorem dX11_keepsAll_30 : decode cX11_keepsAll 30 = .ok (.istore_n 3, 1) := by decide +kernel
theorem dX11_keepsAll_31 : decode cX11_keepsAll 31 = .ok (.iload_n 2, 1) := by decide +kernel
theorem dX11_keepsAll_32 : decode cX11_keepsAll 32 = .ok (.ifCond .eq 16, 3) := by decide +kernel
theorem dX11_keepsAll_35 : decode cX11_keepsAll 35 = .ok (.aload_n 0, 1) := by decide +kernel
theorem dX11_keepsAll_36 : decode cX11_keepsAll 36 = .ok (.getfield 93, 3) := by decide +kernel
theorem dX11_keepsAll_39 : decode cX11_keepsAll 39 = .ok (.iload_n 3, 1) := by decide +kernel
theorem dX11_keepsAll_40 : decode cX11_keepsAll 40 = .ok (.aload_n 0, 1) := by decide +kernel
theorem dX11_keepsAll_41 : decode cX11_keepsAll 41 = .ok (.getfield 170, 3) := by decide +kernel
theorem dX11_keepsAll_44 : decode cX11_keepsAll 44 = .ok (.iastore, 1) := by decide +kernel
theorem dX11_keepsAll_45 : decode cX11_keepsAll 45 = .ok (.goto 13, 3) := by decide +kernel
theorem dX11_keepsAll_48 : decode cX11_keepsAll 48 = .ok (.aload_n 0, 1) := by decide +kernel
theorem dX11_keepsAll_49 : decode cX11_keepsAll 49 = .ok (.aload_n 0, 1) := by decide +kernel
theorem dX11_keepsAll_50 : decode cX11_keepsAll 50 = .ok (.getfield 93, 3) := by decide +kernel
theorem dX11_keepsAll_53 : decode cX11_keepsAll 53 = .ok (.iload_n 3, 1) := by decide +kernel
theorem dX11_keepsAll_54 : decode cX11_keepsAll 54 = .ok (.iaload, 1) := by decide +kernel
theorem dX11_keepsAll_55 : decode cX11_keepsAll 55 = .ok (.putfield 170, 3) := by decide +kernel
theorem dX11_keepsAll_58 : decode cX11_keepsAll 58 = .ok (.return_, 1) := by decide +kernel
theorem dX11_image_0 : decode cX11_image 0 = .ok (.aload_n 0, 1) := by decide +kernel
theorem dX11_image_1 : decode cX11_image 1 = .ok (.iconst 0, 1) := by decide +kernel
theorem dX11_image_2 : decode cX11_image 2 = .ok (.putfield 3, 3) := by decide +kernel
theorem dX11_image_5 : decode cX11_image 5 = .ok (.aload_n 0, 1) := by decide +kernel
theorem dX11_image_6 : decode cX11_image 6 = .ok (.getfield 173, 3) := by decide +kernel
theorem dX11_image_9 : decode cX11_image 9 = .ok (.iconst 3, 1) := by decide +kernel
theorem dX11_image_10 : decode cX11_image 10 = .ok (.if_icmp .ne 5, 3) := by decide +kernel
theorem dX11_image_13 : decode cX11_image 13 = .ok (.iconst (-1), 1) := by decide +kernel
theorem dX11_image_14 : decode cX11_image 14 = .ok (.ireturn, 1) := by decide +kernel
theorem dX11_image_15 : decode cX11_image 15 = .ok (.aload_n 0, 1) := by decide +kernel
theorem dX11_image_16 : decode cX11_image 16 = .ok (.aload_n 0, 1) := by decide +kernel
theorem dX11_image_17 : decode cX11_image 17 = .ok (.getfield 173, 3) := by decide +kernel
theorem dX11_image_20 : decode cX11_image 20 = .ok (.iconst 1, 1) := by decide +kernel
theorem dX11_image_21 : decode cX11_image 21 = .ok (.invokevirtual 429, 3) := by decide +kernel
theorem dX11_image_24 : decode cX11_image 24 = .ok (.aload_n 0, 1) := by decide +kernel
theorem dX11_image_25 : decode cX11_image 25 = .ok (.dup, 1) := by decide +kernel
theorem dX11_image_26 : decode cX11_image 26 = .ok (.getfield 173, 3) := by decide +kernel
theorem dX11_image_29 : decode cX11_image 29 = .ok (.iconst 1, 1) := by decide +kernel
theorem dX11_image_30 : decode cX11_image 30 = .ok (.iadd, 1) := by decide +kernel
theorem dX11_image_31 : decode cX11_image 31 = .ok (.putfield 173, 3) := by decide +kernel
theorem dX11_image_34 : decode cX11_image 34 = .ok (.aload_n 0, 1) := by decide +kernel
theorem dX11_image_35 : decode cX11_image 35 = .ok (.getfield 173, 3) := by decide +kernel
theorem dX11_image_38 : decode cX11_image 38 = .ok (.ireturn, 1) := by decide +kernel
theorem dX11_restore_0 : decode cX11_restore 0 = .ok (.aload_n 0, 1) := by decide +kernel
theorem dX11_restore_1 : decode cX11_restore 1 = .ok (.iconst 0, 1) := by decide +kernel
theorem dX11_restore_2 : decode cX11_restore 2 = .ok (.putfield 3, 3) := by decide +kernel
theorem dX11_restore_5 : decode cX11_restore 5 = .ok (.aload_n 0, 1) := by decide +kernel
theorem dX11_restore_6 : decode cX11_restore 6 = .ok (.getfield 173, 3) := by decide +kernel
theorem dX11_restore_9 : decode cX11_restore 9 = .ok (.ifCond .ne 5, 3) := by decide +kernel
theorem dX11_restore_12 : decode cX11_restore 12 = .ok (.iconst (-1), 1) := by decide +kernel
theorem dX11_restore_13 : decode cX11_restore 13 = .ok (.ireturn, 1) := by decide +kernel
theorem dX11_restore_14 : decode cX11_restore 14 = .ok (.aload_n 0, 1) := by decide +kernel
theorem dX11_restore_15 : decode cX11_restore 15 = .ok (.dup, 1) := by decide +kernel
theorem dX11_restore_16 : decode cX11_restore 16 = .ok (.getfield 173, 3) := by decide +kernel
theorem dX11_restore_19 : decode cX11_restore 19 = .ok (.iconst 1, 1) := by decide +kernel
theorem dX11_restore_20 : decode cX11_restore 20 = .ok (.isub, 1) := by decide +kernel
theorem dX11_restore_21 : decode cX11_restore 21 = .ok (.putfield 173, 3) := by decide +kernel
theorem dX11_restore_24 : decode cX11_restore 24 = .ok (.aload_n 0, 1) := by decide +kernel
theorem dX11_restore_25 : decode cX11_restore 25 = .ok (.aload_n 0, 1) := by decide +kernel
theorem dX11_restore_26 : decode cX11_restore 26 = .ok (.getfield 173, 3) := by decide +kernel
theorem dX11_restore_29 : decode cX11_restore 29 = .ok (.iconst 0, 1) := by decide +kernel
theorem dX11_restore_30 : decode cX11_restore 30 = .ok (.invokevirtual 429, 3) := by decide +kernel
theorem dX11_restore_33 : decode cX11_restore 33 = .ok (.aload_n 0, 1) := by decide +kernel
theorem dX11_restore_34 : decode cX11_restore 34 = .ok (.iconst 0, 1) := by decide +kernel
theorem dX11_restore_35 : decode cX11_restore 35 = .ok (.putfield 176, 3) := by decide +kernel
theorem dX11_restore_38 : decode cX11_restore 38 = .ok (.aload_n 0, 1) := by decide +kernel
theorem dX11_restore_39 : decode cX11_restore 39 = .ok (.getfield 173, 3) := by decide +kernel
theorem dX11_restore_42 : decode cX11_restore 42 = .ok (.ireturn, 1) := by decide +kernel
theorem dX11_status_0 : decode cX11_status 0 = .ok (.aload_n 0, 1) := by decide +kernel
theorem dX11_status_1 : decode cX11_status 1 = .ok (.iconst 0, 1) := by decide +kernel
theorem dX11_status_2 : decode cX11_status 2 = .ok (.putfield 3, 3) := by decide +kernel
theorem dX11_status_5 : decode cX11_status 5 = .ok (.iload_n 1, 1) := by decide +kernel
theorem dX11_status_6 : decode cX11_status 6 = .ok (.iconst 0, 1) := by decide +kernel
theorem dX11_status_7 : decode cX11_status 7 = .ok (.iconst 1, 1) := by decide +kernel
theorem dX11_status_8 : decode cX11_status 8 = .ok (.invokestatic 348, 3) := by decide +kernel
theorem dX11_status_11 : decode cX11_status 11 = .ok (.ifCond .eq 12, 3) := by decide +kernel
theorem dX11_status_14 : decode cX11_status 14 = .ok (.aload_n 0, 1) := by decide +kernel
theorem dX11_status_15 : decode cX11_status 15 = .ok (.getfield 7, 3) := by decide +kernel
theorem dX11_status_18 : decode cX11_status 18 = .ok (.iload_n 1, 1) := by decide +kernel
theorem dX11_status_19 : decode cX11_status 19 = .ok (.iaload, 1) := by decide +kernel
theorem dX11_status_20 : decode cX11_status 20 = .ok (.goto 4, 3) := by decide +kernel
theorem dX11_status_23 : decode cX11_status 23 = .ok (.iconst (-1), 1) := by decide +kernel
theorem dX11_status_24 : decode cX11_status 24 = .ok (.ireturn, 1) := by decide +kernel
theorem dX11_count_0 : decode cX11_count 0 = .ok (.aload_n 0, 1) := by decide +kernel
theorem dX11_count_1 : decode cX11_count 1 = .ok (.iconst 0, 1) := by decide +kernel
theorem dX11_count_2 : decode cX11_count 2 = .ok (.putfield 3, 3) := by decide +kernel
theorem dX11_count_5 : decode cX11_count 5 = .ok (.iload_n 1, 1) := by decide +kernel
theorem dX11_count_6 : decode cX11_count 6 = .ok (.ifCond .ne 10, 3) := by decide +kernel
theorem dX11_count_9 : decode cX11_count 9 = .ok (.aload_n 0, 1) := by decide +kernel
theorem dX11_count_10 : decode cX11_count 10 = .ok (.getfield 173, 3) := by decide +kernel
theorem dX11_count_13 : decode cX11_count 13 = .ok (.goto 28, 3) := by decide +kernel
theorem dX11_count_16 : decode cX11_count 16 = .ok (.iload_n 1, 1) := by decide +kernel
theorem dX11_count_17 : decode cX11_count 17 = .ok (.iconst 1, 1) := by decide +kernel
theorem dX11_count_18 : decode cX11_count 18 = .ok (.if_icmp .ne 10, 3) := by decide +kernel
theorem dX11_count_21 : decode cX11_count 21 = .ok (.aload_n 0, 1) := by decide +kernel
theorem dX11_count_22 : decode cX11_count 22 = .ok (.getfield 102, 3) := by decide +kernel
theorem dX11_count_25 : decode cX11_count 25 = .ok (.goto 16, 3) := by decide +kernel
theorem dX11_count_28 : decode cX11_count 28 = .ok (.iload_n 1, 1) := by decide +kernel
theorem dX11_count_29 : decode cX11_count 29 = .ok (.iconst 2, 1) := by decide +kernel
theorem dX11_count_30 : decode cX11_count 30 = .ok (.if_icmp .ne 10, 3) := by decide +kernel
theorem dX11_count_33 : decode cX11_count 33 = .ok (.aload_n 0, 1) := by decide +kernel
theorem dX11_count_34 : decode cX11_count 34 = .ok (.getfield 170, 3) := by decide +kernel
theorem dX11_count_37 : decode cX11_count 37 = .ok (.goto 4, 3) := by decide +kernel
theorem dX11_count_40 : decode cX11_count 40 = .ok (.iconst (-1), 1) := by decide +kernel
theorem dX11_count_41 : decode cX11_count 41 = .ok (.ireturn, 1) := by decide +kernel
