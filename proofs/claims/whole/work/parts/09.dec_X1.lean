theorem dX1_init_0 : decode cX1_init 0 = .ok (.aload_n 0, 1) := by decide +kernel
theorem dX1_init_1 : decode cX1_init 1 = .ok (.invokespecial 3, 3) := by decide +kernel
theorem dX1_init_4 : decode cX1_init 4 = .ok (.aload_n 0, 1) := by decide +kernel
theorem dX1_init_5 : decode cX1_init 5 = .ok (.bipush 8, 2) := by decide +kernel
theorem dX1_init_7 : decode cX1_init 7 = .ok (.newarray .int, 2) := by decide +kernel
theorem dX1_init_9 : decode cX1_init 9 = .ok (.putfield 9, 3) := by decide +kernel
theorem dX1_init_12 : decode cX1_init 12 = .ok (.aload_n 0, 1) := by decide +kernel
theorem dX1_init_13 : decode cX1_init 13 = .ok (.bipush 8, 2) := by decide +kernel
theorem dX1_init_15 : decode cX1_init 15 = .ok (.newarray .int, 2) := by decide +kernel
theorem dX1_init_17 : decode cX1_init 17 = .ok (.putfield 15, 3) := by decide +kernel
theorem dX1_init_20 : decode cX1_init 20 = .ok (.aload_n 0, 1) := by decide +kernel
theorem dX1_init_21 : decode cX1_init 21 = .ok (.bipush 8, 2) := by decide +kernel
theorem dX1_init_23 : decode cX1_init 23 = .ok (.newarray .int, 2) := by decide +kernel
theorem dX1_init_25 : decode cX1_init 25 = .ok (.putfield 18, 3) := by decide +kernel
theorem dX1_init_28 : decode cX1_init 28 = .ok (.aload_n 0, 1) := by decide +kernel
theorem dX1_init_29 : decode cX1_init 29 = .ok (.bipush 6, 2) := by decide +kernel
theorem dX1_init_31 : decode cX1_init 31 = .ok (.newarray .int, 2) := by decide +kernel
theorem dX1_init_33 : decode cX1_init 33 = .ok (.putfield 21, 3) := by decide +kernel
theorem dX1_init_36 : decode cX1_init 36 = .ok (.aload_n 0, 1) := by decide +kernel
theorem dX1_init_37 : decode cX1_init 37 = .ok (.bipush 6, 2) := by decide +kernel
theorem dX1_init_39 : decode cX1_init 39 = .ok (.newarray .int, 2) := by decide +kernel
theorem dX1_init_41 : decode cX1_init 41 = .ok (.putfield 24, 3) := by decide +kernel
theorem dX1_init_44 : decode cX1_init 44 = .ok (.return_, 1) := by decide +kernel
theorem dX1_copyFrom_0 : decode cX1_copyFrom 0 = .ok (.aload_n 0, 1) := by decide +kernel
theorem dX1_copyFrom_1 : decode cX1_copyFrom 1 = .ok (.aload_n 1, 1) := by decide +kernel
theorem dX1_copyFrom_2 : decode cX1_copyFrom 2 = .ok (.getfield 27, 3) := by decide +kernel
theorem dX1_copyFrom_5 : decode cX1_copyFrom 5 = .ok (.putfield 27, 3) := by decide +kernel
theorem dX1_copyFrom_8 : decode cX1_copyFrom 8 = .ok (.aload_n 0, 1) := by decide +kernel
theorem dX1_copyFrom_9 : decode cX1_copyFrom 9 = .ok (.aload_n 1, 1) := by decide +kernel
theorem dX1_copyFrom_10 : decode cX1_copyFrom 10 = .ok (.getfield 31, 3) := by decide +kernel
theorem dX1_copyFrom_13 : decode cX1_copyFrom 13 = .ok (.putfield 31, 3) := by decide +kernel
theorem dX1_copyFrom_16 : decode cX1_copyFrom 16 = .ok (.aload_n 1, 1) := by decide +kernel
theorem dX1_copyFrom_17 : decode cX1_copyFrom 17 = .ok (.getfield 9, 3) := by decide +kernel
theorem dX1_copyFrom_20 : decode cX1_copyFrom 20 = .ok (.aload_n 0, 1) := by decide +kernel
theorem dX1_copyFrom_21 : decode cX1_copyFrom 21 = .ok (.getfield 9, 3) := by decide +kernel
theorem dX1_copyFrom_24 : decode cX1_copyFrom 24 = .ok (.invokestatic 34, 3) := by decide +kernel
theorem dX1_copyFrom_27 : decode cX1_copyFrom 27 = .ok (.aload_n 1, 1) := by decide +kernel
theorem dX1_copyFrom_28 : decode cX1_copyFrom 28 = .ok (.getfield 15, 3) := by decide +kernel
theorem dX1_copyFrom_31 : decode cX1_copyFrom 31 = .ok (.aload_n 0, 1) := by decide +kernel
theorem dX1_copyFrom_32 : decode cX1_copyFrom 32 = .ok (.getfield 15, 3) := by decide +kernel
theorem dX1_copyFrom_35 : decode cX1_copyFrom 35 = .ok (.invokestatic 34, 3) := by decide +kernel
theorem dX1_copyFrom_38 : decode cX1_copyFrom 38 = .ok (.aload_n 1, 1) := by decide +kernel
theorem dX1_copyFrom_39 : decode cX1_copyFrom 39 = .ok (.getfield 18, 3) := by decide +kernel
theorem dX1_copyFrom_42 : decode cX1_copyFrom 42 = .ok (.aload_n 0, 1) := by decide +kernel
theorem dX1_copyFrom_43 : decode cX1_copyFrom 43 = .ok (.getfield 18, 3) := by decide +kernel
theorem dX1_copyFrom_46 : decode cX1_copyFrom 46 = .ok (.invokestatic 34, 3) := by decide +kernel
theorem dX1_copyFrom_49 : decode cX1_copyFrom 49 = .ok (.aload_n 1, 1) := by decide +kernel
theorem dX1_copyFrom_50 : decode cX1_copyFrom 50 = .ok (.getfield 21, 3) := by decide +kernel
theorem dX1_copyFrom_53 : decode cX1_copyFrom 53 = .ok (.aload_n 0, 1) := by decide +kernel
theorem dX1_copyFrom_54 : decode cX1_copyFrom 54 = .ok (.getfield 21, 3) := by decide +kernel
theorem dX1_copyFrom_57 : decode cX1_copyFrom 57 = .ok (.invokestatic 34, 3) := by decide +kernel
theorem dX1_copyFrom_60 : decode cX1_copyFrom 60 = .ok (.aload_n 1, 1) := by decide +kernel
theorem dX1_copyFrom_61 : decode cX1_copyFrom 61 = .ok (.getfield 24, 3) := by decide +kernel
theorem dX1_copyFrom_64 : decode cX1_copyFrom 64 = .ok (.aload_n 0, 1) := by decide +kernel
theorem dX1_copyFrom_65 : decode cX1_copyFrom 65 = .ok (.getfield 24, 3) := by decide +kernel
theorem dX1_copyFrom_68 : decode cX1_copyFrom 68 = .ok (.invokestatic 34, 3) := by decide +kernel
theorem dX1_copyFrom_71 : decode cX1_copyFrom 71 = .ok (.return_, 1) := by decide +kernel
theorem dX1_kindOf_0 : decode cX1_kindOf 0 = .ok (.aload_n 0, 1) := by decide +kernel
theorem dX1_kindOf_1 : decode cX1_kindOf 1 = .ok (.getfield 9, 3) := by decide +kernel
theorem dX1_kindOf_4 : decode cX1_kindOf 4 = .ok (.iload_n 1, 1) := by decide +kernel
theorem dX1_kindOf_5 : decode cX1_kindOf 5 = .ok (.invokestatic 38, 3) := by decide +kernel
theorem dX1_kindOf_8 : decode cX1_kindOf 8 = .ok (.ireturn, 1) := by decide +kernel
theorem dX1_toldUnder_0 : decode cX1_toldUnder 0 = .ok (.aload_n 0, 1) := by decide +kernel
theorem dX1_toldUnder_1 : decode cX1_toldUnder 1 = .ok (.getfield 15, 3) := by decide +kernel
theorem dX1_toldUnder_4 : decode cX1_toldUnder 4 = .ok (.iload_n 1, 1) := by decide +kernel
theorem dX1_toldUnder_5 : decode cX1_toldUnder 5 = .ok (.invokestatic 38, 3) := by decide +kernel
theorem dX1_toldUnder_8 : decode cX1_toldUnder 8 = .ok (.ireturn, 1) := by decide +kernel
theorem dX1_kinOf_0 : decode cX1_kinOf 0 = .ok (.aload_n 0, 1) := by decide +kernel
theorem dX1_kinOf_1 : decode cX1_kinOf 1 = .ok (.getfield 18, 3) := by decide +kernel
theorem dX1_kinOf_4 : decode cX1_kinOf 4 = .ok (.iload_n 1, 1) := by decide +kernel
theorem dX1_kinOf_5 : decode cX1_kinOf 5 = .ok (.invokestatic 38, 3) := by decide +kernel
theorem dX1_kinOf_8 : decode cX1_kinOf 8 = .ok (.ireturn, 1) := by decide +kernel
theorem dX1_isKin_0 : decode cX1_isKin 0 = .ok (.aload_n 0, 1) := by decide +kernel
theorem dX1_isKin_1 : decode cX1_isKin 1 = .ok (.getfield 18, 3) := by decide +kernel
theorem dX1_isKin_4 : decode cX1_isKin 4 = .ok (.iload_n 2, 1) := by decide +kernel
theorem dX1_isKin_5 : decode cX1_isKin 5 = .ok (.invokestatic 38, 3) := by decide +kernel
theorem dX1_isKin_8 : decode cX1_isKin 8 = .ok (.iload_n 1, 1) := by decide +kernel
theorem dX1_isKin_9 : decode cX1_isKin 9 = .ok (.ishr, 1) := by decide +kernel
theorem dX1_isKin_10 : decode cX1_isKin 10 = .ok (.iconst 1, 1) := by decide +kernel
theorem dX1_isKin_11 : decode cX1_isKin 11 = .ok (.iand, 1) := by decide +kernel
theorem dX1_isKin_12 : decode cX1_isKin 12 = .ok (.iconst 1, 1) := by decide +kernel
theorem dX1_isKin_13 : decode cX1_isKin 13 = .ok (.if_icmp .ne 7, 3) := by decide +kernel
theorem dX1_isKin_16 : decode cX1_isKin 16 = .ok (.iconst 1, 1) := by decide +kernel
theorem dX1_isKin_17 : decode cX1_isKin 17 = .ok (.goto 4, 3) := by decide +kernel
theorem dX1_isKin_20 : decode cX1_isKin 20 = .ok (.iconst 0, 1) := by decide +kernel
theorem dX1_isKin_21 : decode cX1_isKin 21 = .ok (.ireturn, 1) := by decide +kernel
theorem dX1_toldStanding_0 : decode cX1_toldStanding 0 = .ok (.aload_n 0, 1) := by decide +kernel
theorem dX1_toldStanding_1 : decode cX1_toldStanding 1 = .ok (.getfield 21, 3) := by decide +kernel
theorem dX1_toldStanding_4 : decode cX1_toldStanding 4 = .ok (.iload_n 1, 1) := by decide +kernel
theorem dX1_toldStanding_5 : decode cX1_toldStanding 5 = .ok (.invokestatic 38, 3) := by decide +kernel
theorem dX1_toldStanding_8 : decode cX1_toldStanding 8 = .ok (.ireturn, 1) := by decide +kernel
theorem dX1_toldPurse_0 : decode cX1_toldPurse 0 = .ok (.aload_n 0, 1) := by decide +kernel
theorem dX1_toldPurse_1 : decode cX1_toldPurse 1 = .ok (.getfield 24, 3) := by decide +kernel
theorem dX1_toldPurse_4 : decode cX1_toldPurse 4 = .ok (.iload_n 1, 1) := by decide +kernel
theorem dX1_toldPurse_5 : decode cX1_toldPurse 5 = .ok (.invokestatic 38, 3) := by decide +kernel
theorem dX1_toldPurse_8 : decode cX1_toldPurse 8 = .ok (.ireturn, 1) := by decide +kernel
theorem dX1_read_0 : decode cX1_read 0 = .ok (.aload_n 0, 1) := by decide +kernel
theorem dX1_read_1 : decode cX1_read 1 = .ok (.iconst 0, 1) := by decide +kernel
theorem dX1_read_2 : decode cX1_read 2 = .ok (.putfield 27, 3) := by decide +kernel
theorem dX1_read_5 : decode cX1_read 5 = .ok (.aload_n 0, 1) := by decide +kernel
theorem dX1_read_6 : decode cX1_read 6 = .ok (.iconst 0, 1) := by decide +kernel
theorem dX1_read_7 : decode cX1_read 7 = .ok (.putfield 31, 3) := by decide +kernel
theorem dX1_read_10 : decode cX1_read 10 = .ok (.iconst 0, 1) := by decide +kernel
theorem dX1_read_11 : decode cX1_read 11 = .ok (.istore_n 2, 1) := by decide +kernel
theorem dX1_read_12 : decode cX1_read 12 = .ok (.iload_n 2, 1) := by decide +kernel
theorem dX1_read_13 : decode cX1_read 13 = .ok (.bipush 60, 2) := by decide +kernel
theorem dX1_read_15 : decode cX1_read 15 = .ok (.if_icmp .gt 47, 3) := by decide +kernel
theorem dX1_read_18 : decode cX1_read 18 = .ok (.aload_n 1, 1) := by decide +kernel
theorem dX1_read_19 : decode cX1_read 19 = .ok (.invokevirtual 42, 3) := by decide +kernel
theorem dX1_read_22 : decode cX1_read 22 = .ok (.iconst (-1), 1) := by decide +kernel
theorem dX1_read_23 : decode cX1_read 23 = .ok (.if_icmp .eq 39, 3) := by decide +kernel
theorem dX1_read_26 : decode cX1_read 26 = .ok (.aload_n 0, 1) := by decide +kernel
theorem dX1_read_27 : decode cX1_read 27 = .ok (.aload_n 1, 1) := by decide +kernel
theorem dX1_read_28 : decode cX1_read 28 = .ok (.iload_n 2, 1) := by decide +kernel
theorem dX1_read_29 : decode cX1_read 29 = .ok (.bipush 60, 2) := by decide +kernel
theorem dX1_read_31 : decode cX1_read 31 = .ok (.if_icmp .lt 7, 3) := by decide +kernel
theorem dX1_read_34 : decode cX1_read 34 = .ok (.iconst 1, 1) := by decide +kernel
theorem dX1_read_35 : decode cX1_read 35 = .ok (.goto 4, 3) := by decide +kernel
theorem dX1_read_38 : decode cX1_read 38 = .ok (.iconst 0, 1) := by decide +kernel
theorem dX1_read_39 : decode cX1_read 39 = .ok (.invokevirtual 48, 3) := by decide +kernel
theorem dX1_read_42 : decode cX1_read 42 = .ok (.ifCond .eq 12, 3) := by decide +kernel
theorem dX1_read_45 : decode cX1_read 45 = .ok (.aload_n 1, 1) := by decide +kernel
theorem dX1_read_46 : decode cX1_read 46 = .ok (.bipush 59, 2) := by decide +kernel
theorem dX1_read_48 : decode cX1_read 48 = .ok (.invokevirtual 52, 3) := by decide +kernel
theorem dX1_read_51 : decode cX1_read 51 = .ok (.ifCond .ne 5, 3) := by decide +kernel
theorem dX1_read_54 : decode cX1_read 54 = .ok (.iconst 0, 1) := by decide +kernel
theorem dX1_read_55 : decode cX1_read 55 = .ok (.ireturn, 1) := by decide +kernel
theorem dX1_read_56 : decode cX1_read 56 = .ok (.iinc 2 1, 3) := by decide +kernel
theorem dX1_read_59 : decode cX1_read 59 = .ok (.goto (-47), 3) := by decide +kernel
theorem dX1_read_62 : decode cX1_read 62 = .ok (.iconst 1, 1) := by decide +kernel
theorem dX1_read_63 : decode cX1_read 63 = .ok (.ireturn, 1) := by decide +kernel
theorem dX1_readClause_0 : decode cX1_readClause 0 = .ok (.aload_n 1, 1) := by decide +kernel
theorem dX1_readClause_1 : decode cX1_readClause 1 = .ok (.invokevirtual 56, 3) := by decide +kernel
theorem dX1_readClause_4 : decode cX1_readClause 4 = .ok (.ifCond .ne 5, 3) := by decide +kernel
theorem dX1_readClause_7 : decode cX1_readClause 7 = .ok (.iconst 0, 1) := by decide +kernel
theorem dX1_readClause_8 : decode cX1_readClause 8 = .ok (.ireturn, 1) := by decide +kernel
theorem dX1_readClause_9 : decode cX1_readClause 9 = .ok (.aload_n 1, 1) := by decide +kernel
theorem dX1_readClause_10 : decode cX1_readClause 10 = .ok (.ldc 60, 2) := by decide +kernel
theorem dX1_readClause_12 : decode cX1_readClause 12 = .ok (.invokevirtual 62, 3) := by decide +kernel
theorem dX1_readClause_15 : decode cX1_readClause 15 = .ok (.ifCond .eq 30, 3) := by decide +kernel
theorem dX1_readClause_18 : decode cX1_readClause 18 = .ok (.iload_n 2, 1) := by decide +kernel
theorem dX1_readClause_19 : decode cX1_readClause 19 = .ok (.ifCond .ne 12, 3) := by decide +kernel
theorem dX1_readClause_22 : decode cX1_readClause 22 = .ok (.aload_n 0, 1) := by decide +kernel
theorem dX1_readClause_23 : decode cX1_readClause 23 = .ok (.getfield 27, 3) := by decide +kernel
theorem dX1_readClause_26 : decode cX1_readClause 26 = .ok (.bipush 8, 2) := by decide +kernel
theorem dX1_readClause_28 : decode cX1_readClause 28 = .ok (.if_icmp .lt 11, 3) := by decide +kernel
theorem dX1_readClause_31 : decode cX1_readClause 31 = .ok (.aload_n 1, 1) := by decide +kernel
theorem dX1_readClause_32 : decode cX1_readClause 32 = .ok (.iconst 3, 1) := by decide +kernel
theorem dX1_readClause_33 : decode cX1_readClause 33 = .ok (.invokevirtual 66, 3) := by decide +kernel
theorem dX1_readClause_36 : decode cX1_readClause 36 = .ok (.goto 8, 3) := by decide +kernel
theorem dX1_readClause_39 : decode cX1_readClause 39 = .ok (.aload_n 0, 1) := by decide +kernel
theorem dX1_readClause_40 : decode cX1_readClause 40 = .ok (.aload_n 1, 1) := by decide +kernel
theorem dX1_readClause_41 : decode cX1_readClause 41 = .ok (.invokevirtual 69, 3) := by decide +kernel
theorem dX1_readClause_44 : decode cX1_readClause 44 = .ok (.ireturn, 1) := by decide +kernel
theorem dX1_readClause_45 : decode cX1_readClause 45 = .ok (.aload_n 1, 1) := by decide +kernel
theorem dX1_readClause_46 : decode cX1_readClause 46 = .ok (.ldc 73, 2) := by decide +kernel
theorem dX1_readClause_48 : decode cX1_readClause 48 = .ok (.invokevirtual 62, 3) := by decide +kernel
theorem dX1_readClause_51 : decode cX1_readClause 51 = .ok (.ifCond .eq 30, 3) := by decide +kernel
theorem dX1_readClause_54 : decode cX1_readClause 54 = .ok (.iload_n 2, 1) := by decide +kernel
theorem dX1_readClause_55 : decode cX1_readClause 55 = .ok (.ifCond .ne 12, 3) := by decide +kernel
theorem dX1_readClause_58 : decode cX1_readClause 58 = .ok (.aload_n 0, 1) := by decide +kernel
theorem dX1_readClause_59 : decode cX1_readClause 59 = .ok (.getfield 31, 3) := by decide +kernel
theorem dX1_readClause_62 : decode cX1_readClause 62 = .ok (.bipush 6, 2) := by decide +kernel
theorem dX1_readClause_64 : decode cX1_readClause 64 = .ok (.if_icmp .lt 11, 3) := by decide +kernel
theorem dX1_readClause_67 : decode cX1_readClause 67 = .ok (.aload_n 1, 1) := by decide +kernel
theorem dX1_readClause_68 : decode cX1_readClause 68 = .ok (.iconst 3, 1) := by decide +kernel
theorem dX1_readClause_69 : decode cX1_readClause 69 = .ok (.invokevirtual 66, 3) := by decide +kernel
theorem dX1_readClause_72 : decode cX1_readClause 72 = .ok (.goto 8, 3) := by decide +kernel
theorem dX1_readClause_75 : decode cX1_readClause 75 = .ok (.aload_n 0, 1) := by decide +kernel
theorem dX1_readClause_76 : decode cX1_readClause 76 = .ok (.aload_n 1, 1) := by decide +kernel
theorem dX1_readClause_77 : decode cX1_readClause 77 = .ok (.invokevirtual 75, 3) := by decide +kernel
theorem dX1_readClause_80 : decode cX1_readClause 80 = .ok (.ireturn, 1) := by decide +kernel
theorem dX1_readClause_81 : decode cX1_readClause 81 = .ok (.aload_n 1, 1) := by decide +kernel
theorem dX1_readClause_82 : decode cX1_readClause 82 = .ok (.ldc 78, 2) := by decide +kernel
theorem dX1_readClause_84 : decode cX1_readClause 84 = .ok (.invokevirtual 62, 3) := by decide +kernel
theorem dX1_readClause_87 : decode cX1_readClause 87 = .ok (.ifCond .eq 21, 3) := by decide +kernel
theorem dX1_readClause_90 : decode cX1_readClause 90 = .ok (.iload_n 2, 1) := by decide +kernel
theorem dX1_readClause_91 : decode cX1_readClause 91 = .ok (.ifCond .eq 11, 3) := by decide +kernel
theorem dX1_readClause_94 : decode cX1_readClause 94 = .ok (.aload_n 1, 1) := by decide +kernel
theorem dX1_readClause_95 : decode cX1_readClause 95 = .ok (.iconst 3, 1) := by decide +kernel
theorem dX1_readClause_96 : decode cX1_readClause 96 = .ok (.invokevirtual 66, 3) := by decide +kernel
theorem dX1_readClause_99 : decode cX1_readClause 99 = .ok (.goto 8, 3) := by decide +kernel
theorem dX1_readClause_102 : decode cX1_readClause 102 = .ok (.aload_n 0, 1) := by decide +kernel
theorem dX1_readClause_103 : decode cX1_readClause 103 = .ok (.aload_n 1, 1) := by decide +kernel
theorem dX1_readClause_104 : decode cX1_readClause 104 = .ok (.invokevirtual 79, 3) := by decide +kernel
theorem dX1_readClause_107 : decode cX1_readClause 107 = .ok (.ireturn, 1) := by decide +kernel
theorem dX1_readClause_108 : decode cX1_readClause 108 = .ok (.aload_n 1, 1) := by decide +kernel
theorem dX1_readClause_109 : decode cX1_readClause 109 = .ok (.iconst 1, 1) := by decide +kernel
theorem dX1_readClause_110 : decode cX1_readClause 110 = .ok (.invokevirtual 66, 3) := by decide +kernel
theorem dX1_readClause_113 : decode cX1_readClause 113 = .ok (.ireturn, 1) := by decide +kernel
theorem dX1_readSlab_0 : decode cX1_readSlab 0 = .ok (.aload_n 1, 1) := by decide +kernel
theorem dX1_readSlab_1 : decode cX1_readSlab 1 = .ok (.iconst 0, 1) := by decide +kernel
theorem dX1_readSlab_2 : decode cX1_readSlab 2 = .ok (.iconst 5, 1) := by decide +kernel
theorem dX1_readSlab_3 : decode cX1_readSlab 3 = .ok (.invokevirtual 82, 3) := by decide +kernel
theorem dX1_readSlab_6 : decode cX1_readSlab 6 = .ok (.istore_n 2, 1) := by decide +kernel
theorem dX1_readSlab_7 : decode cX1_readSlab 7 = .ok (.iload_n 2, 1) := by decide +kernel
theorem dX1_readSlab_8 : decode cX1_readSlab 8 = .ok (.iconst (-1), 1) := by decide +kernel
theorem dX1_readSlab_9 : decode cX1_readSlab 9 = .ok (.if_icmp .ne 5, 3) := by decide +kernel
theorem dX1_readSlab_12 : decode cX1_readSlab 12 = .ok (.iconst 0, 1) := by decide +kernel
theorem dX1_readSlab_13 : decode cX1_readSlab 13 = .ok (.ireturn, 1) := by decide +kernel
theorem dX1_readSlab_14 : decode cX1_readSlab 14 = .ok (.aload_n 1, 1) := by decide +kernel
theorem dX1_readSlab_15 : decode cX1_readSlab 15 = .ok (.iconst 0, 1) := by decide +kernel
theorem dX1_readSlab_16 : decode cX1_readSlab 16 = .ok (.bipush 60, 2) := by decide +kernel
theorem dX1_readSlab_18 : decode cX1_readSlab 18 = .ok (.invokevirtual 82, 3) := by decide +kernel
theorem dX1_readSlab_21 : decode cX1_readSlab 21 = .ok (.istore_n 3, 1) := by decide +kernel
theorem dX1_readSlab_22 : decode cX1_readSlab 22 = .ok (.iload_n 3, 1) := by decide +kernel
theorem dX1_readSlab_23 : decode cX1_readSlab 23 = .ok (.iconst (-1), 1) := by decide +kernel
theorem dX1_readSlab_24 : decode cX1_readSlab 24 = .ok (.if_icmp .ne 5, 3) := by decide +kernel
theorem dX1_readSlab_27 : decode cX1_readSlab 27 = .ok (.iconst 0, 1) := by decide +kernel
theorem dX1_readSlab_28 : decode cX1_readSlab 28 = .ok (.ireturn, 1) := by decide +kernel
theorem dX1_readSlab_29 : decode cX1_readSlab 29 = .ok (.aload_n 0, 1) := by decide +kernel
theorem dX1_readSlab_30 : decode cX1_readSlab 30 = .ok (.getfield 9, 3) := by decide +kernel
theorem dX1_readSlab_33 : decode cX1_readSlab 33 = .ok (.aload_n 0, 1) := by decide +kernel
theorem dX1_readSlab_34 : decode cX1_readSlab 34 = .ok (.getfield 27, 3) := by decide +kernel
theorem dX1_readSlab_37 : decode cX1_readSlab 37 = .ok (.iload_n 2, 1) := by decide +kernel
theorem dX1_readSlab_38 : decode cX1_readSlab 38 = .ok (.invokestatic 86, 3) := by decide +kernel
theorem dX1_readSlab_41 : decode cX1_readSlab 41 = .ok (.aload_n 0, 1) := by decide +kernel
theorem dX1_readSlab_42 : decode cX1_readSlab 42 = .ok (.getfield 15, 3) := by decide +kernel
theorem dX1_readSlab_45 : decode cX1_readSlab 45 = .ok (.aload_n 0, 1) := by decide +kernel
theorem dX1_readSlab_46 : decode cX1_readSlab 46 = .ok (.getfield 27, 3) := by decide +kernel
theorem dX1_readSlab_49 : decode cX1_readSlab 49 = .ok (.iload_n 3, 1) := by decide +kernel
theorem dX1_readSlab_50 : decode cX1_readSlab 50 = .ok (.invokestatic 86, 3) := by decide +kernel
theorem dX1_readSlab_53 : decode cX1_readSlab 53 = .ok (.aload_n 0, 1) := by decide +kernel
theorem dX1_readSlab_54 : decode cX1_readSlab 54 = .ok (.getfield 18, 3) := by decide +kernel
theorem dX1_readSlab_57 : decode cX1_readSlab 57 = .ok (.aload_n 0, 1) := by decide +kernel
theorem dX1_readSlab_58 : decode cX1_readSlab 58 = .ok (.getfield 27, 3) := by decide +kernel
theorem dX1_readSlab_61 : decode cX1_readSlab 61 = .ok (.iconst 0, 1) := by decide +kernel
theorem dX1_readSlab_62 : decode cX1_readSlab 62 = .ok (.invokestatic 86, 3) := by decide +kernel
theorem dX1_readSlab_65 : decode cX1_readSlab 65 = .ok (.aload_n 0, 1) := by decide +kernel
theorem dX1_readSlab_66 : decode cX1_readSlab 66 = .ok (.dup, 1) := by decide +kernel
theorem dX1_readSlab_67 : decode cX1_readSlab 67 = .ok (.getfield 27, 3) := by decide +kernel
theorem dX1_readSlab_70 : decode cX1_readSlab 70 = .ok (.iconst 1, 1) := by decide +kernel
theorem dX1_readSlab_71 : decode cX1_readSlab 71 = .ok (.iadd, 1) := by decide +kernel
theorem dX1_readSlab_72 : decode cX1_readSlab 72 = .ok (.putfield 27, 3) := by decide +kernel
theorem dX1_readSlab_75 : decode cX1_readSlab 75 = .ok (.iconst 1, 1) := by decide +kernel
theorem dX1_readSlab_76 : decode cX1_readSlab 76 = .ok (.ireturn, 1) := by decide +kernel
theorem dX1_readSoul_0 : decode cX1_readSoul 0 = .ok (.aload_n 1, 1) := by decide +kernel
theorem dX1_readSoul_1 : decode cX1_readSoul 1 = .ok (.iconst 0, 1) := by decide +kernel
theorem dX1_readSoul_2 : decode cX1_readSoul 2 = .ok (.bipush 9, 2) := by decide +kernel
theorem dX1_readSoul_4 : decode cX1_readSoul 4 = .ok (.invokevirtual 82, 3) := by decide +kernel
theorem dX1_readSoul_7 : decode cX1_readSoul 7 = .ok (.istore_n 2, 1) := by decide +kernel
theorem dX1_readSoul_8 : decode cX1_readSoul 8 = .ok (.iload_n 2, 1) := by decide +kernel
theorem dX1_readSoul_9 : decode cX1_readSoul 9 = .ok (.iconst (-1), 1) := by decide +kernel
theorem dX1_readSoul_10 : decode cX1_readSoul 10 = .ok (.if_icmp .ne 5, 3) := by decide +kernel
theorem dX1_readSoul_13 : decode cX1_readSoul 13 = .ok (.iconst 0, 1) := by decide +kernel
theorem dX1_readSoul_14 : decode cX1_readSoul 14 = .ok (.ireturn, 1) := by decide +kernel
theorem dX1_readSoul_15 : decode cX1_readSoul 15 = .ok (.aload_n 1, 1) := by decide +kernel
theorem dX1_readSoul_16 : decode cX1_readSoul 16 = .ok (.iconst 0, 1) := by decide +kernel
theorem dX1_readSoul_17 : decode cX1_readSoul 17 = .ok (.bipush 99, 2) := by decide +kernel
theorem dX1_readSoul_19 : decode cX1_readSoul 19 = .ok (.invokevirtual 82, 3) := by decide +kernel
theorem dX1_readSoul_22 : decode cX1_readSoul 22 = .ok (.istore_n 3, 1) := by decide +kernel
theorem dX1_readSoul_23 : decode cX1_readSoul 23 = .ok (.iload_n 3, 1) := by decide +kernel
theorem dX1_readSoul_24 : decode cX1_readSoul 24 = .ok (.iconst (-1), 1) := by decide +kernel
theorem dX1_readSoul_25 : decode cX1_readSoul 25 = .ok (.if_icmp .ne 5, 3) := by decide +kernel
theorem dX1_readSoul_28 : decode cX1_readSoul 28 = .ok (.iconst 0, 1) := by decide +kernel
theorem dX1_readSoul_29 : decode cX1_readSoul 29 = .ok (.ireturn, 1) := by decide +kernel
theorem dX1_readSoul_30 : decode cX1_readSoul 30 = .ok (.aload_n 0, 1) := by decide +kernel
theorem dX1_readSoul_31 : decode cX1_readSoul 31 = .ok (.getfield 21, 3) := by decide +kernel
theorem dX1_readSoul_34 : decode cX1_readSoul 34 = .ok (.aload_n 0, 1) := by decide +kernel
theorem dX1_readSoul_35 : decode cX1_readSoul 35 = .ok (.getfield 31, 3) := by decide +kernel
theorem dX1_readSoul_38 : decode cX1_readSoul 38 = .ok (.iload_n 2, 1) := by decide +kernel
theorem dX1_readSoul_39 : decode cX1_readSoul 39 = .ok (.invokestatic 86, 3) := by decide +kernel
theorem dX1_readSoul_42 : decode cX1_readSoul 42 = .ok (.aload_n 0, 1) := by decide +kernel
theorem dX1_readSoul_43 : decode cX1_readSoul 43 = .ok (.getfield 24, 3) := by decide +kernel
theorem dX1_readSoul_46 : decode cX1_readSoul 46 = .ok (.aload_n 0, 1) := by decide +kernel
theorem dX1_readSoul_47 : decode cX1_readSoul 47 = .ok (.getfield 31, 3) := by decide +kernel
theorem dX1_readSoul_50 : decode cX1_readSoul 50 = .ok (.iload_n 3, 1) := by decide +kernel
theorem dX1_readSoul_51 : decode cX1_readSoul 51 = .ok (.invokestatic 86, 3) := by decide +kernel
theorem dX1_readSoul_54 : decode cX1_readSoul 54 = .ok (.aload_n 0, 1) := by decide +kernel
theorem dX1_readSoul_55 : decode cX1_readSoul 55 = .ok (.dup, 1) := by decide +kernel
theorem dX1_readSoul_56 : decode cX1_readSoul 56 = .ok (.getfield 31, 3) := by decide +kernel
theorem dX1_readSoul_59 : decode cX1_readSoul 59 = .ok (.iconst 1, 1) := by decide +kernel
theorem dX1_readSoul_60 : decode cX1_readSoul 60 = .ok (.iadd, 1) := by decide +kernel
theorem dX1_readSoul_61 : decode cX1_readSoul 61 = .ok (.putfield 31, 3) := by decide +kernel
theorem dX1_readSoul_64 : decode cX1_readSoul 64 = .ok (.iconst 1, 1) := by decide +kernel
theorem dX1_readSoul_65 : decode cX1_readSoul 65 = .ok (.ireturn, 1) := by decide +kernel
theorem dX1_readKin_0 : decode cX1_readKin 0 = .ok (.aload_n 1, 1) := by decide +kernel
theorem dX1_readKin_1 : decode cX1_readKin 1 = .ok (.iconst 0, 1) := by decide +kernel
theorem dX1_readKin_2 : decode cX1_readKin 2 = .ok (.aload_n 0, 1) := by decide +kernel
theorem dX1_readKin_3 : decode cX1_readKin 3 = .ok (.getfield 31, 3) := by decide +kernel
theorem dX1_readKin_6 : decode cX1_readKin 6 = .ok (.iconst 1, 1) := by decide +kernel
theorem dX1_readKin_7 : decode cX1_readKin 7 = .ok (.isub, 1) := by decide +kernel
theorem dX1_readKin_8 : decode cX1_readKin 8 = .ok (.invokevirtual 82, 3) := by decide +kernel
theorem dX1_readKin_11 : decode cX1_readKin 11 = .ok (.istore_n 2, 1) := by decide +kernel
theorem dX1_readKin_12 : decode cX1_readKin 12 = .ok (.iload_n 2, 1) := by decide +kernel
theorem dX1_readKin_13 : decode cX1_readKin 13 = .ok (.iconst (-1), 1) := by decide +kernel
theorem dX1_readKin_14 : decode cX1_readKin 14 = .ok (.if_icmp .ne 5, 3) := by decide +kernel
theorem dX1_readKin_17 : decode cX1_readKin 17 = .ok (.iconst 0, 1) := by decide +kernel
theorem dX1_readKin_18 : decode cX1_readKin 18 = .ok (.ireturn, 1) := by decide +kernel
theorem dX1_readKin_19 : decode cX1_readKin 19 = .ok (.aload_n 1, 1) := by decide +kernel
theorem dX1_readKin_20 : decode cX1_readKin 20 = .ok (.iconst 0, 1) := by decide +kernel
theorem dX1_readKin_21 : decode cX1_readKin 21 = .ok (.aload_n 0, 1) := by decide +kernel
theorem dX1_readKin_22 : decode cX1_readKin 22 = .ok (.getfield 27, 3) := by decide +kernel
theorem dX1_readKin_25 : decode cX1_readKin 25 = .ok (.iconst 1, 1) := by decide +kernel
theorem dX1_readKin_26 : decode cX1_readKin 26 = .ok (.isub, 1) := by decide +kernel
theorem dX1_readKin_27 : decode cX1_readKin 27 = .ok (.invokevirtual 82, 3) := by decide +kernel
theorem dX1_readKin_30 : decode cX1_readKin 30 = .ok (.istore_n 3, 1) := by decide +kernel
theorem dX1_readKin_31 : decode cX1_readKin 31 = .ok (.iload_n 3, 1) := by decide +kernel
theorem dX1_readKin_32 : decode cX1_readKin 32 = .ok (.iconst (-1), 1) := by decide +kernel
theorem dX1_readKin_33 : decode cX1_readKin 33 = .ok (.if_icmp .ne 5, 3) := by decide +kernel
theorem dX1_readKin_36 : decode cX1_readKin 36 = .ok (.iconst 0, 1) := by decide +kernel
theorem dX1_readKin_37 : decode cX1_readKin 37 = .ok (.ireturn, 1) := by decide +kernel
theorem dX1_readKin_38 : decode cX1_readKin 38 = .ok (.aload_n 0, 1) := by decide +kernel
theorem dX1_readKin_39 : decode cX1_readKin 39 = .ok (.getfield 18, 3) := by decide +kernel
theorem dX1_readKin_42 : decode cX1_readKin 42 = .ok (.iload_n 3, 1) := by decide +kernel
theorem dX1_readKin_43 : decode cX1_readKin 43 = .ok (.aload_n 0, 1) := by decide +kernel
theorem dX1_readKin_44 : decode cX1_readKin 44 = .ok (.iload_n 3, 1) := by decide +kernel
theorem dX1_readKin_45 : decode cX1_readKin 45 = .ok (.invokevirtual 90, 3) := by decide +kernel
theorem dX1_readKin_48 : decode cX1_readKin 48 = .ok (.iconst 1, 1) := by decide +kernel
theorem dX1_readKin_49 : decode cX1_readKin 49 = .ok (.iload_n 2, 1) := by decide +kernel
theorem dX1_readKin_50 : decode cX1_readKin 50 = .ok (.ishl, 1) := by decide +kernel
theorem dX1_readKin_51 : decode cX1_readKin 51 = .ok (.ior, 1) := by decide +kernel
theorem dX1_readKin_52 : decode cX1_readKin 52 = .ok (.invokestatic 86, 3) := by decide +kernel
theorem dX1_readKin_55 : decode cX1_readKin 55 = .ok (.iconst 1, 1) := by decide +kernel
theorem dX1_readKin_56 : decode cX1_readKin 56 = .ok (.ireturn, 1) := by decide +kernel
