theorem dX6_init_0 : decode cX6_init 0 = .ok (.aload_n 0, 1) := by decide +kernel
theorem dX6_init_1 : decode cX6_init 1 = .ok (.invokespecial 5, 3) := by decide +kernel
theorem dX6_init_4 : decode cX6_init 4 = .ok (.aload_n 0, 1) := by decide +kernel
theorem dX6_init_5 : decode cX6_init 5 = .ok (.bipush 84, 2) := by decide +kernel
theorem dX6_init_7 : decode cX6_init 7 = .ok (.newarray .int, 2) := by decide +kernel
theorem dX6_init_9 : decode cX6_init 9 = .ok (.putfield 11, 3) := by decide +kernel
theorem dX6_init_12 : decode cX6_init 12 = .ok (.return_, 1) := by decide +kernel
theorem dX6_begin_0 : decode cX6_begin 0 = .ok (.iconst 0, 1) := by decide +kernel
theorem dX6_begin_1 : decode cX6_begin 1 = .ok (.istore_n 2, 1) := by decide +kernel
theorem dX6_begin_2 : decode cX6_begin 2 = .ok (.iload_n 2, 1) := by decide +kernel
theorem dX6_begin_3 : decode cX6_begin 3 = .ok (.aload_n 0, 1) := by decide +kernel
theorem dX6_begin_4 : decode cX6_begin 4 = .ok (.getfield 11, 3) := by decide +kernel
theorem dX6_begin_7 : decode cX6_begin 7 = .ok (.arraylength, 1) := by decide +kernel
theorem dX6_begin_8 : decode cX6_begin 8 = .ok (.if_icmp .ge 16, 3) := by decide +kernel
theorem dX6_begin_11 : decode cX6_begin 11 = .ok (.aload_n 0, 1) := by decide +kernel
theorem dX6_begin_12 : decode cX6_begin 12 = .ok (.getfield 11, 3) := by decide +kernel
theorem dX6_begin_15 : decode cX6_begin 15 = .ok (.iload_n 2, 1) := by decide +kernel
theorem dX6_begin_16 : decode cX6_begin 16 = .ok (.iconst 0, 1) := by decide +kernel
theorem dX6_begin_17 : decode cX6_begin 17 = .ok (.iastore, 1) := by decide +kernel
theorem dX6_begin_18 : decode cX6_begin 18 = .ok (.iinc 2 1, 3) := by decide +kernel
theorem dX6_begin_21 : decode cX6_begin 21 = .ok (.goto (-19), 3) := by decide +kernel
theorem dX6_begin_24 : decode cX6_begin 24 = .ok (.iconst 0, 1) := by decide +kernel
theorem dX6_begin_25 : decode cX6_begin 25 = .ok (.istore_n 2, 1) := by decide +kernel
theorem dX6_begin_26 : decode cX6_begin 26 = .ok (.iload_n 2, 1) := by decide +kernel
theorem dX6_begin_27 : decode cX6_begin 27 = .ok (.aload_n 1, 1) := by decide +kernel
theorem dX6_begin_28 : decode cX6_begin 28 = .ok (.getfield 15, 3) := by decide +kernel
theorem dX6_begin_31 : decode cX6_begin 31 = .ok (.if_icmp .ge 19, 3) := by decide +kernel
theorem dX6_begin_34 : decode cX6_begin 34 = .ok (.aload_n 0, 1) := by decide +kernel
theorem dX6_begin_35 : decode cX6_begin 35 = .ok (.iload_n 2, 1) := by decide +kernel
theorem dX6_begin_36 : decode cX6_begin 36 = .ok (.aload_n 1, 1) := by decide +kernel
theorem dX6_begin_37 : decode cX6_begin 37 = .ok (.iload_n 2, 1) := by decide +kernel
theorem dX6_begin_38 : decode cX6_begin 38 = .ok (.invokevirtual 21, 3) := by decide +kernel
theorem dX6_begin_41 : decode cX6_begin 41 = .ok (.invokevirtual 25, 3) := by decide +kernel
theorem dX6_begin_44 : decode cX6_begin 44 = .ok (.iinc 2 1, 3) := by decide +kernel
theorem dX6_begin_47 : decode cX6_begin 47 = .ok (.goto (-21), 3) := by decide +kernel
theorem dX6_begin_50 : decode cX6_begin 50 = .ok (.iconst 0, 1) := by decide +kernel
theorem dX6_begin_51 : decode cX6_begin 51 = .ok (.istore_n 2, 1) := by decide +kernel
theorem dX6_begin_52 : decode cX6_begin 52 = .ok (.iload_n 2, 1) := by decide +kernel
theorem dX6_begin_53 : decode cX6_begin 53 = .ok (.aload_n 1, 1) := by decide +kernel
theorem dX6_begin_54 : decode cX6_begin 54 = .ok (.getfield 29, 3) := by decide +kernel
theorem dX6_begin_57 : decode cX6_begin 57 = .ok (.if_icmp .ge 29, 3) := by decide +kernel
theorem dX6_begin_60 : decode cX6_begin 60 = .ok (.aload_n 0, 1) := by decide +kernel
theorem dX6_begin_61 : decode cX6_begin 61 = .ok (.iload_n 2, 1) := by decide +kernel
theorem dX6_begin_62 : decode cX6_begin 62 = .ok (.aload_n 1, 1) := by decide +kernel
theorem dX6_begin_63 : decode cX6_begin 63 = .ok (.iload_n 2, 1) := by decide +kernel
theorem dX6_begin_64 : decode cX6_begin 64 = .ok (.invokevirtual 32, 3) := by decide +kernel
theorem dX6_begin_67 : decode cX6_begin 67 = .ok (.invokevirtual 35, 3) := by decide +kernel
theorem dX6_begin_70 : decode cX6_begin 70 = .ok (.aload_n 0, 1) := by decide +kernel
theorem dX6_begin_71 : decode cX6_begin 71 = .ok (.iload_n 2, 1) := by decide +kernel
theorem dX6_begin_72 : decode cX6_begin 72 = .ok (.aload_n 1, 1) := by decide +kernel
theorem dX6_begin_73 : decode cX6_begin 73 = .ok (.iload_n 2, 1) := by decide +kernel
theorem dX6_begin_74 : decode cX6_begin 74 = .ok (.invokevirtual 38, 3) := by decide +kernel
theorem dX6_begin_77 : decode cX6_begin 77 = .ok (.invokevirtual 41, 3) := by decide +kernel
theorem dX6_begin_80 : decode cX6_begin 80 = .ok (.iinc 2 1, 3) := by decide +kernel
theorem dX6_begin_83 : decode cX6_begin 83 = .ok (.goto (-31), 3) := by decide +kernel
theorem dX6_begin_86 : decode cX6_begin 86 = .ok (.return_, 1) := by decide +kernel
theorem dX6_copyFrom_0 : decode cX6_copyFrom 0 = .ok (.aload_n 1, 1) := by decide +kernel
theorem dX6_copyFrom_1 : decode cX6_copyFrom 1 = .ok (.getfield 11, 3) := by decide +kernel
theorem dX6_copyFrom_4 : decode cX6_copyFrom 4 = .ok (.aload_n 0, 1) := by decide +kernel
theorem dX6_copyFrom_5 : decode cX6_copyFrom 5 = .ok (.getfield 11, 3) := by decide +kernel
theorem dX6_copyFrom_8 : decode cX6_copyFrom 8 = .ok (.invokestatic 44, 3) := by decide +kernel
theorem dX6_copyFrom_11 : decode cX6_copyFrom 11 = .ok (.return_, 1) := by decide +kernel
theorem dX6_night_0 : decode cX6_night 0 = .ok (.aload_n 0, 1) := by decide +kernel
theorem dX6_night_1 : decode cX6_night 1 = .ok (.getfield 11, 3) := by decide +kernel
theorem dX6_night_4 : decode cX6_night 4 = .ok (.iconst 0, 1) := by decide +kernel
theorem dX6_night_5 : decode cX6_night 5 = .ok (.iaload, 1) := by decide +kernel
theorem dX6_night_6 : decode cX6_night 6 = .ok (.ireturn, 1) := by decide +kernel
theorem dX6_addNight_0 : decode cX6_addNight 0 = .ok (.aload_n 0, 1) := by decide +kernel
theorem dX6_addNight_1 : decode cX6_addNight 1 = .ok (.getfield 11, 3) := by decide +kernel
theorem dX6_addNight_4 : decode cX6_addNight 4 = .ok (.iconst 0, 1) := by decide +kernel
theorem dX6_addNight_5 : decode cX6_addNight 5 = .ok (.dup2, 1) := by decide +kernel
theorem dX6_addNight_6 : decode cX6_addNight 6 = .ok (.iaload, 1) := by decide +kernel
theorem dX6_addNight_7 : decode cX6_addNight 7 = .ok (.iconst 1, 1) := by decide +kernel
theorem dX6_addNight_8 : decode cX6_addNight 8 = .ok (.iadd, 1) := by decide +kernel
theorem dX6_addNight_9 : decode cX6_addNight 9 = .ok (.iastore, 1) := by decide +kernel
theorem dX6_addNight_10 : decode cX6_addNight 10 = .ok (.return_, 1) := by decide +kernel
theorem dX6_sealedSlabs_0 : decode cX6_sealedSlabs 0 = .ok (.aload_n 0, 1) := by decide +kernel
theorem dX6_sealedSlabs_1 : decode cX6_sealedSlabs 1 = .ok (.getfield 11, 3) := by decide +kernel
theorem dX6_sealedSlabs_4 : decode cX6_sealedSlabs 4 = .ok (.iconst 1, 1) := by decide +kernel
theorem dX6_sealedSlabs_5 : decode cX6_sealedSlabs 5 = .ok (.iaload, 1) := by decide +kernel
theorem dX6_sealedSlabs_6 : decode cX6_sealedSlabs 6 = .ok (.ireturn, 1) := by decide +kernel
theorem dX6_isSealed_0 : decode cX6_isSealed 0 = .ok (.aload_n 0, 1) := by decide +kernel
theorem dX6_isSealed_1 : decode cX6_isSealed 1 = .ok (.getfield 11, 3) := by decide +kernel
theorem dX6_isSealed_4 : decode cX6_isSealed 4 = .ok (.iconst 1, 1) := by decide +kernel
theorem dX6_isSealed_5 : decode cX6_isSealed 5 = .ok (.iaload, 1) := by decide +kernel
theorem dX6_isSealed_6 : decode cX6_isSealed 6 = .ok (.iload_n 1, 1) := by decide +kernel
theorem dX6_isSealed_7 : decode cX6_isSealed 7 = .ok (.ishr, 1) := by decide +kernel
theorem dX6_isSealed_8 : decode cX6_isSealed 8 = .ok (.iconst 1, 1) := by decide +kernel
theorem dX6_isSealed_9 : decode cX6_isSealed 9 = .ok (.iand, 1) := by decide +kernel
theorem dX6_isSealed_10 : decode cX6_isSealed 10 = .ok (.iconst 1, 1) := by decide +kernel
theorem dX6_isSealed_11 : decode cX6_isSealed 11 = .ok (.if_icmp .ne 7, 3) := by decide +kernel
theorem dX6_isSealed_14 : decode cX6_isSealed 14 = .ok (.iconst 1, 1) := by decide +kernel
theorem dX6_isSealed_15 : decode cX6_isSealed 15 = .ok (.goto 4, 3) := by decide +kernel
theorem dX6_isSealed_18 : decode cX6_isSealed 18 = .ok (.iconst 0, 1) := by decide +kernel
theorem dX6_isSealed_19 : decode cX6_isSealed 19 = .ok (.ireturn, 1) := by decide +kernel
theorem dX6_setSealed_0 : decode cX6_setSealed 0 = .ok (.aload_n 0, 1) := by decide +kernel
theorem dX6_setSealed_1 : decode cX6_setSealed 1 = .ok (.getfield 11, 3) := by decide +kernel
theorem dX6_setSealed_4 : decode cX6_setSealed 4 = .ok (.iconst 1, 1) := by decide +kernel
theorem dX6_setSealed_5 : decode cX6_setSealed 5 = .ok (.iaload, 1) := by decide +kernel
theorem dX6_setSealed_6 : decode cX6_setSealed 6 = .ok (.iconst 1, 1) := by decide +kernel
theorem dX6_setSealed_7 : decode cX6_setSealed 7 = .ok (.iload_n 1, 1) := by decide +kernel
theorem dX6_setSealed_8 : decode cX6_setSealed 8 = .ok (.ishl, 1) := by decide +kernel
theorem dX6_setSealed_9 : decode cX6_setSealed 9 = .ok (.iconst (-1), 1) := by decide +kernel
theorem dX6_setSealed_10 : decode cX6_setSealed 10 = .ok (.ixor, 1) := by decide +kernel
theorem dX6_setSealed_11 : decode cX6_setSealed 11 = .ok (.iand, 1) := by decide +kernel
theorem dX6_setSealed_12 : decode cX6_setSealed 12 = .ok (.istore_n 3, 1) := by decide +kernel
theorem dX6_setSealed_13 : decode cX6_setSealed 13 = .ok (.aload_n 0, 1) := by decide +kernel
theorem dX6_setSealed_14 : decode cX6_setSealed 14 = .ok (.getfield 11, 3) := by decide +kernel
theorem dX6_setSealed_17 : decode cX6_setSealed 17 = .ok (.iconst 1, 1) := by decide +kernel
theorem dX6_setSealed_18 : decode cX6_setSealed 18 = .ok (.iload_n 2, 1) := by decide +kernel
theorem dX6_setSealed_19 : decode cX6_setSealed 19 = .ok (.ifCond .eq 11, 3) := by decide +kernel
theorem dX6_setSealed_22 : decode cX6_setSealed 22 = .ok (.iload_n 3, 1) := by decide +kernel
theorem dX6_setSealed_23 : decode cX6_setSealed 23 = .ok (.iconst 1, 1) := by decide +kernel
theorem dX6_setSealed_24 : decode cX6_setSealed 24 = .ok (.iload_n 1, 1) := by decide +kernel
theorem dX6_setSealed_25 : decode cX6_setSealed 25 = .ok (.ishl, 1) := by decide +kernel
theorem dX6_setSealed_26 : decode cX6_setSealed 26 = .ok (.ior, 1) := by decide +kernel
theorem dX6_setSealed_27 : decode cX6_setSealed 27 = .ok (.goto 4, 3) := by decide +kernel
theorem dX6_setSealed_30 : decode cX6_setSealed 30 = .ok (.iload_n 3, 1) := by decide +kernel
theorem dX6_setSealed_31 : decode cX6_setSealed 31 = .ok (.iastore, 1) := by decide +kernel
theorem dX6_setSealed_32 : decode cX6_setSealed 32 = .ok (.return_, 1) := by decide +kernel
theorem dX6_paid_0 : decode cX6_paid 0 = .ok (.aload_n 0, 1) := by decide +kernel
theorem dX6_paid_1 : decode cX6_paid 1 = .ok (.getfield 11, 3) := by decide +kernel
theorem dX6_paid_4 : decode cX6_paid 4 = .ok (.iconst 2, 1) := by decide +kernel
theorem dX6_paid_5 : decode cX6_paid 5 = .ok (.iaload, 1) := by decide +kernel
theorem dX6_paid_6 : decode cX6_paid 6 = .ok (.ireturn, 1) := by decide +kernel
theorem dX6_loans_0 : decode cX6_loans 0 = .ok (.aload_n 0, 1) := by decide +kernel
theorem dX6_loans_1 : decode cX6_loans 1 = .ok (.getfield 11, 3) := by decide +kernel
theorem dX6_loans_4 : decode cX6_loans 4 = .ok (.iconst 3, 1) := by decide +kernel
theorem dX6_loans_5 : decode cX6_loans 5 = .ok (.iaload, 1) := by decide +kernel
theorem dX6_loans_6 : decode cX6_loans 6 = .ok (.ireturn, 1) := by decide +kernel
theorem dX6_hasLoan_0 : decode cX6_hasLoan 0 = .ok (.iload_n 1, 1) := by decide +kernel
theorem dX6_hasLoan_1 : decode cX6_hasLoan 1 = .ok (.ifCond .lt 17, 3) := by decide +kernel
theorem dX6_hasLoan_4 : decode cX6_hasLoan 4 = .ok (.iload_n 1, 1) := by decide +kernel
theorem dX6_hasLoan_5 : decode cX6_hasLoan 5 = .ok (.aload_n 0, 1) := by decide +kernel
theorem dX6_hasLoan_6 : decode cX6_hasLoan 6 = .ok (.getfield 11, 3) := by decide +kernel
theorem dX6_hasLoan_9 : decode cX6_hasLoan 9 = .ok (.iconst 3, 1) := by decide +kernel
theorem dX6_hasLoan_10 : decode cX6_hasLoan 10 = .ok (.iaload, 1) := by decide +kernel
theorem dX6_hasLoan_11 : decode cX6_hasLoan 11 = .ok (.if_icmp .ge 7, 3) := by decide +kernel
theorem dX6_hasLoan_14 : decode cX6_hasLoan 14 = .ok (.iconst 1, 1) := by decide +kernel
theorem dX6_hasLoan_15 : decode cX6_hasLoan 15 = .ok (.goto 4, 3) := by decide +kernel
theorem dX6_hasLoan_18 : decode cX6_hasLoan 18 = .ok (.iconst 0, 1) := by decide +kernel
theorem dX6_hasLoan_19 : decode cX6_hasLoan 19 = .ok (.ireturn, 1) := by decide +kernel
theorem dX6_under_0 : decode cX6_under 0 = .ok (.aload_n 0, 1) := by decide +kernel
theorem dX6_under_1 : decode cX6_under 1 = .ok (.getfield 11, 3) := by decide +kernel
theorem dX6_under_4 : decode cX6_under 4 = .ok (.iconst 4, 1) := by decide +kernel
theorem dX6_under_5 : decode cX6_under 5 = .ok (.iload_n 1, 1) := by decide +kernel
theorem dX6_under_6 : decode cX6_under 6 = .ok (.iadd, 1) := by decide +kernel
theorem dX6_under_7 : decode cX6_under 7 = .ok (.invokestatic 48, 3) := by decide +kernel
theorem dX6_under_10 : decode cX6_under 10 = .ok (.ireturn, 1) := by decide +kernel
theorem dX6_setUnder_0 : decode cX6_setUnder 0 = .ok (.aload_n 0, 1) := by decide +kernel
theorem dX6_setUnder_1 : decode cX6_setUnder 1 = .ok (.getfield 11, 3) := by decide +kernel
theorem dX6_setUnder_4 : decode cX6_setUnder 4 = .ok (.iconst 4, 1) := by decide +kernel
theorem dX6_setUnder_5 : decode cX6_setUnder 5 = .ok (.iload_n 1, 1) := by decide +kernel
theorem dX6_setUnder_6 : decode cX6_setUnder 6 = .ok (.iadd, 1) := by decide +kernel
theorem dX6_setUnder_7 : decode cX6_setUnder 7 = .ok (.iload_n 2, 1) := by decide +kernel
theorem dX6_setUnder_8 : decode cX6_setUnder 8 = .ok (.invokestatic 52, 3) := by decide +kernel
theorem dX6_setUnder_11 : decode cX6_setUnder 11 = .ok (.return_, 1) := by decide +kernel
theorem dX6_standing_0 : decode cX6_standing 0 = .ok (.aload_n 0, 1) := by decide +kernel
theorem dX6_standing_1 : decode cX6_standing 1 = .ok (.getfield 11, 3) := by decide +kernel
theorem dX6_standing_4 : decode cX6_standing 4 = .ok (.bipush 12, 2) := by decide +kernel
theorem dX6_standing_6 : decode cX6_standing 6 = .ok (.iload_n 1, 1) := by decide +kernel
theorem dX6_standing_7 : decode cX6_standing 7 = .ok (.iadd, 1) := by decide +kernel
theorem dX6_standing_8 : decode cX6_standing 8 = .ok (.invokestatic 48, 3) := by decide +kernel
theorem dX6_standing_11 : decode cX6_standing 11 = .ok (.ireturn, 1) := by decide +kernel
theorem dX6_setStanding_0 : decode cX6_setStanding 0 = .ok (.aload_n 0, 1) := by decide +kernel
theorem dX6_setStanding_1 : decode cX6_setStanding 1 = .ok (.getfield 11, 3) := by decide +kernel
theorem dX6_setStanding_4 : decode cX6_setStanding 4 = .ok (.bipush 12, 2) := by decide +kernel
theorem dX6_setStanding_6 : decode cX6_setStanding 6 = .ok (.iload_n 1, 1) := by decide +kernel
theorem dX6_setStanding_7 : decode cX6_setStanding 7 = .ok (.iadd, 1) := by decide +kernel
theorem dX6_setStanding_8 : decode cX6_setStanding 8 = .ok (.iload_n 2, 1) := by decide +kernel
theorem dX6_setStanding_9 : decode cX6_setStanding 9 = .ok (.invokestatic 52, 3) := by decide +kernel
theorem dX6_setStanding_12 : decode cX6_setStanding 12 = .ok (.return_, 1) := by decide +kernel
theorem dX6_purse_0 : decode cX6_purse 0 = .ok (.aload_n 0, 1) := by decide +kernel
theorem dX6_purse_1 : decode cX6_purse 1 = .ok (.getfield 11, 3) := by decide +kernel
theorem dX6_purse_4 : decode cX6_purse 4 = .ok (.bipush 18, 2) := by decide +kernel
theorem dX6_purse_6 : decode cX6_purse 6 = .ok (.iload_n 1, 1) := by decide +kernel
theorem dX6_purse_7 : decode cX6_purse 7 = .ok (.iadd, 1) := by decide +kernel
theorem dX6_purse_8 : decode cX6_purse 8 = .ok (.invokestatic 48, 3) := by decide +kernel
theorem dX6_purse_11 : decode cX6_purse 11 = .ok (.ireturn, 1) := by decide +kernel
theorem dX6_setPurse_0 : decode cX6_setPurse 0 = .ok (.aload_n 0, 1) := by decide +kernel
theorem dX6_setPurse_1 : decode cX6_setPurse 1 = .ok (.getfield 11, 3) := by decide +kernel
theorem dX6_setPurse_4 : decode cX6_setPurse 4 = .ok (.bipush 18, 2) := by decide +kernel
theorem dX6_setPurse_6 : decode cX6_setPurse 6 = .ok (.iload_n 1, 1) := by decide +kernel
theorem dX6_setPurse_7 : decode cX6_setPurse 7 = .ok (.iadd, 1) := by decide +kernel
theorem dX6_setPurse_8 : decode cX6_setPurse 8 = .ok (.iload_n 2, 1) := by decide +kernel
theorem dX6_setPurse_9 : decode cX6_setPurse 9 = .ok (.invokestatic 52, 3) := by decide +kernel
theorem dX6_setPurse_12 : decode cX6_setPurse 12 = .ok (.return_, 1) := by decide +kernel
theorem dX6_ofLoan_0 : decode cX6_ofLoan 0 = .ok (.aload_n 0, 1) := by decide +kernel
theorem dX6_ofLoan_1 : decode cX6_ofLoan 1 = .ok (.getfield 11, 3) := by decide +kernel
theorem dX6_ofLoan_4 : decode cX6_ofLoan 4 = .ok (.bipush 24, 2) := by decide +kernel
theorem dX6_ofLoan_6 : decode cX6_ofLoan 6 = .ok (.iload_n 1, 1) := by decide +kernel
theorem dX6_ofLoan_7 : decode cX6_ofLoan 7 = .ok (.bipush 6, 2) := by decide +kernel
theorem dX6_ofLoan_9 : decode cX6_ofLoan 9 = .ok (.imul, 1) := by decide +kernel
theorem dX6_ofLoan_10 : decode cX6_ofLoan 10 = .ok (.iadd, 1) := by decide +kernel
theorem dX6_ofLoan_11 : decode cX6_ofLoan 11 = .ok (.iload_n 2, 1) := by decide +kernel
theorem dX6_ofLoan_12 : decode cX6_ofLoan 12 = .ok (.iadd, 1) := by decide +kernel
theorem dX6_ofLoan_13 : decode cX6_ofLoan 13 = .ok (.invokestatic 48, 3) := by decide +kernel
theorem dX6_ofLoan_16 : decode cX6_ofLoan 16 = .ok (.ireturn, 1) := by decide +kernel
theorem dX6_setOfLoan_0 : decode cX6_setOfLoan 0 = .ok (.aload_n 0, 1) := by decide +kernel
theorem dX6_setOfLoan_1 : decode cX6_setOfLoan 1 = .ok (.getfield 11, 3) := by decide +kernel
theorem dX6_setOfLoan_4 : decode cX6_setOfLoan 4 = .ok (.bipush 24, 2) := by decide +kernel
theorem dX6_setOfLoan_6 : decode cX6_setOfLoan 6 = .ok (.iload_n 1, 1) := by decide +kernel
theorem dX6_setOfLoan_7 : decode cX6_setOfLoan 7 = .ok (.bipush 6, 2) := by decide +kernel
theorem dX6_setOfLoan_9 : decode cX6_setOfLoan 9 = .ok (.imul, 1) := by decide +kernel
theorem dX6_setOfLoan_10 : decode cX6_setOfLoan 10 = .ok (.iadd, 1) := by decide +kernel
theorem dX6_setOfLoan_11 : decode cX6_setOfLoan 11 = .ok (.iload_n 2, 1) := by decide +kernel
theorem dX6_setOfLoan_12 : decode cX6_setOfLoan 12 = .ok (.iadd, 1) := by decide +kernel
theorem dX6_setOfLoan_13 : decode cX6_setOfLoan 13 = .ok (.iload_n 3, 1) := by decide +kernel
theorem dX6_setOfLoan_14 : decode cX6_setOfLoan 14 = .ok (.invokestatic 52, 3) := by decide +kernel
theorem dX6_setOfLoan_17 : decode cX6_setOfLoan 17 = .ok (.return_, 1) := by decide +kernel
theorem dX6_isOverdue_0 : decode cX6_isOverdue 0 = .ok (.aload_n 0, 1) := by decide +kernel
theorem dX6_isOverdue_1 : decode cX6_isOverdue 1 = .ok (.iload_n 1, 1) := by decide +kernel
theorem dX6_isOverdue_2 : decode cX6_isOverdue 2 = .ok (.iconst 5, 1) := by decide +kernel
theorem dX6_isOverdue_3 : decode cX6_isOverdue 3 = .ok (.invokevirtual 56, 3) := by decide +kernel
theorem dX6_isOverdue_6 : decode cX6_isOverdue 6 = .ok (.iconst 1, 1) := by decide +kernel
theorem dX6_isOverdue_7 : decode cX6_isOverdue 7 = .ok (.if_icmp .ne 7, 3) := by decide +kernel
theorem dX6_isOverdue_10 : decode cX6_isOverdue 10 = .ok (.iconst 1, 1) := by decide +kernel
theorem dX6_isOverdue_11 : decode cX6_isOverdue 11 = .ok (.goto 4, 3) := by decide +kernel
theorem dX6_isOverdue_14 : decode cX6_isOverdue 14 = .ok (.iconst 0, 1) := by decide +kernel
theorem dX6_isOverdue_15 : decode cX6_isOverdue 15 = .ok (.ireturn, 1) := by decide +kernel
theorem dX6_setOverdue_0 : decode cX6_setOverdue 0 = .ok (.aload_n 0, 1) := by decide +kernel
theorem dX6_setOverdue_1 : decode cX6_setOverdue 1 = .ok (.iload_n 1, 1) := by decide +kernel
theorem dX6_setOverdue_2 : decode cX6_setOverdue 2 = .ok (.iconst 5, 1) := by decide +kernel
theorem dX6_setOverdue_3 : decode cX6_setOverdue 3 = .ok (.iconst 1, 1) := by decide +kernel
theorem dX6_setOverdue_4 : decode cX6_setOverdue 4 = .ok (.invokevirtual 60, 3) := by decide +kernel
theorem dX6_setOverdue_7 : decode cX6_setOverdue 7 = .ok (.return_, 1) := by decide +kernel
theorem dX6_addLoan_0 : decode cX6_addLoan 0 = .ok (.aload_n 0, 1) := by decide +kernel
theorem dX6_addLoan_1 : decode cX6_addLoan 1 = .ok (.getfield 11, 3) := by decide +kernel
theorem dX6_addLoan_4 : decode cX6_addLoan 4 = .ok (.iconst 3, 1) := by decide +kernel
theorem dX6_addLoan_5 : decode cX6_addLoan 5 = .ok (.iaload, 1) := by decide +kernel
theorem dX6_addLoan_6 : decode cX6_addLoan 6 = .ok (.istore 5, 2) := by decide +kernel
theorem dX6_addLoan_8 : decode cX6_addLoan 8 = .ok (.iload 5, 2) := by decide +kernel
theorem dX6_addLoan_10 : decode cX6_addLoan 10 = .ok (.bipush 10, 2) := by decide +kernel
theorem dX6_addLoan_12 : decode cX6_addLoan 12 = .ok (.if_icmp .ge 70, 3) := by decide +kernel
theorem dX6_addLoan_15 : decode cX6_addLoan 15 = .ok (.aload_n 0, 1) := by decide +kernel
theorem dX6_addLoan_16 : decode cX6_addLoan 16 = .ok (.iload 5, 2) := by decide +kernel
theorem dX6_addLoan_18 : decode cX6_addLoan 18 = .ok (.iconst 0, 1) := by decide +kernel
theorem dX6_addLoan_19 : decode cX6_addLoan 19 = .ok (.iload_n 1, 1) := by decide +kernel
theorem dX6_addLoan_20 : decode cX6_addLoan 20 = .ok (.invokevirtual 60, 3) := by decide +kernel
theorem dX6_addLoan_23 : decode cX6_addLoan 23 = .ok (.aload_n 0, 1) := by decide +kernel
theorem dX6_addLoan_24 : decode cX6_addLoan 24 = .ok (.iload 5, 2) := by decide +kernel
theorem dX6_addLoan_26 : decode cX6_addLoan 26 = .ok (.iconst 1, 1) := by decide +kernel
theorem dX6_addLoan_27 : decode cX6_addLoan 27 = .ok (.iload_n 2, 1) := by decide +kernel
theorem dX6_addLoan_28 : decode cX6_addLoan 28 = .ok (.invokevirtual 60, 3) := by decide +kernel
theorem dX6_addLoan_31 : decode cX6_addLoan 31 = .ok (.aload_n 0, 1) := by decide +kernel
theorem dX6_addLoan_32 : decode cX6_addLoan 32 = .ok (.iload 5, 2) := by decide +kernel
theorem dX6_addLoan_34 : decode cX6_addLoan 34 = .ok (.iconst 2, 1) := by decide +kernel
theorem dX6_addLoan_35 : decode cX6_addLoan 35 = .ok (.iload_n 3, 1) := by decide +kernel
theorem dX6_addLoan_36 : decode cX6_addLoan 36 = .ok (.invokevirtual 60, 3) := by decide +kernel
theorem dX6_addLoan_39 : decode cX6_addLoan 39 = .ok (.aload_n 0, 1) := by decide +kernel
theorem dX6_addLoan_40 : decode cX6_addLoan 40 = .ok (.iload 5, 2) := by decide +kernel
theorem dX6_addLoan_42 : decode cX6_addLoan 42 = .ok (.iconst 3, 1) := by decide +kernel
theorem dX6_addLoan_43 : decode cX6_addLoan 43 = .ok (.aload_n 0, 1) := by decide +kernel
theorem dX6_addLoan_44 : decode cX6_addLoan 44 = .ok (.invokevirtual 64, 3) := by decide +kernel
theorem dX6_addLoan_47 : decode cX6_addLoan 47 = .ok (.invokevirtual 60, 3) := by decide +kernel
theorem dX6_addLoan_50 : decode cX6_addLoan 50 = .ok (.aload_n 0, 1) := by decide +kernel
theorem dX6_addLoan_51 : decode cX6_addLoan 51 = .ok (.iload 5, 2) := by decide +kernel
theorem dX6_addLoan_53 : decode cX6_addLoan 53 = .ok (.iconst 4, 1) := by decide +kernel
theorem dX6_addLoan_54 : decode cX6_addLoan 54 = .ok (.aload_n 0, 1) := by decide +kernel
theorem dX6_addLoan_55 : decode cX6_addLoan 55 = .ok (.invokevirtual 64, 3) := by decide +kernel
theorem dX6_addLoan_58 : decode cX6_addLoan 58 = .ok (.iload 4, 2) := by decide +kernel
theorem dX6_addLoan_60 : decode cX6_addLoan 60 = .ok (.iadd, 1) := by decide +kernel
theorem dX6_addLoan_61 : decode cX6_addLoan 61 = .ok (.invokevirtual 60, 3) := by decide +kernel
theorem dX6_addLoan_64 : decode cX6_addLoan 64 = .ok (.aload_n 0, 1) := by decide +kernel
theorem dX6_addLoan_65 : decode cX6_addLoan 65 = .ok (.iload 5, 2) := by decide +kernel
theorem dX6_addLoan_67 : decode cX6_addLoan 67 = .ok (.iconst 5, 1) := by decide +kernel
theorem dX6_addLoan_68 : decode cX6_addLoan 68 = .ok (.iconst 0, 1) := by decide +kernel
theorem dX6_addLoan_69 : decode cX6_addLoan 69 = .ok (.invokevirtual 60, 3) := by decide +kernel
theorem dX6_addLoan_72 : decode cX6_addLoan 72 = .ok (.aload_n 0, 1) := by decide +kernel
theorem dX6_addLoan_73 : decode cX6_addLoan 73 = .ok (.getfield 11, 3) := by decide +kernel
theorem dX6_addLoan_76 : decode cX6_addLoan 76 = .ok (.iconst 3, 1) := by decide +kernel
theorem dX6_addLoan_77 : decode cX6_addLoan 77 = .ok (.iload 5, 2) := by decide +kernel
theorem dX6_addLoan_79 : decode cX6_addLoan 79 = .ok (.iconst 1, 1) := by decide +kernel
theorem dX6_addLoan_80 : decode cX6_addLoan 80 = .ok (.iadd, 1) := by decide +kernel
theorem dX6_addLoan_81 : decode cX6_addLoan 81 = .ok (.iastore, 1) := by decide +kernel
theorem dX6_addLoan_82 : decode cX6_addLoan 82 = .ok (.return_, 1) := by decide +kernel
theorem dX6_endLoan_0 : decode cX6_endLoan 0 = .ok (.aload_n 0, 1) := by decide +kernel
theorem dX6_endLoan_1 : decode cX6_endLoan 1 = .ok (.iload_n 1, 1) := by decide +kernel
theorem dX6_endLoan_2 : decode cX6_endLoan 2 = .ok (.invokevirtual 68, 3) := by decide +kernel
theorem dX6_endLoan_5 : decode cX6_endLoan 5 = .ok (.ifCond .eq 64, 3) := by decide +kernel
theorem dX6_endLoan_8 : decode cX6_endLoan 8 = .ok (.bipush 24, 2) := by decide +kernel
theorem dX6_endLoan_10 : decode cX6_endLoan 10 = .ok (.iload_n 1, 1) := by decide +kernel
theorem dX6_endLoan_11 : decode cX6_endLoan 11 = .ok (.bipush 6, 2) := by decide +kernel
theorem dX6_endLoan_13 : decode cX6_endLoan 13 = .ok (.imul, 1) := by decide +kernel
theorem dX6_endLoan_14 : decode cX6_endLoan 14 = .ok (.iadd, 1) := by decide +kernel
theorem dX6_endLoan_15 : decode cX6_endLoan 15 = .ok (.istore_n 2, 1) := by decide +kernel
theorem dX6_endLoan_16 : decode cX6_endLoan 16 = .ok (.iload_n 2, 1) := by decide +kernel
theorem dX6_endLoan_17 : decode cX6_endLoan 17 = .ok (.bipush 6, 2) := by decide +kernel
theorem dX6_endLoan_19 : decode cX6_endLoan 19 = .ok (.iadd, 1) := by decide +kernel
theorem dX6_endLoan_20 : decode cX6_endLoan 20 = .ok (.aload_n 0, 1) := by decide +kernel
theorem dX6_endLoan_21 : decode cX6_endLoan 21 = .ok (.getfield 11, 3) := by decide +kernel
theorem dX6_endLoan_24 : decode cX6_endLoan 24 = .ok (.arraylength, 1) := by decide +kernel
theorem dX6_endLoan_25 : decode cX6_endLoan 25 = .ok (.if_icmp .ge 24, 3) := by decide +kernel
theorem dX6_endLoan_28 : decode cX6_endLoan 28 = .ok (.aload_n 0, 1) := by decide +kernel
theorem dX6_endLoan_29 : decode cX6_endLoan 29 = .ok (.getfield 11, 3) := by decide +kernel
theorem dX6_endLoan_32 : decode cX6_endLoan 32 = .ok (.iload_n 2, 1) := by decide +kernel
theorem dX6_endLoan_33 : decode cX6_endLoan 33 = .ok (.aload_n 0, 1) := by decide +kernel
theorem dX6_endLoan_34 : decode cX6_endLoan 34 = .ok (.getfield 11, 3) := by decide +kernel
theorem dX6_endLoan_37 : decode cX6_endLoan 37 = .ok (.iload_n 2, 1) := by decide +kernel
theorem dX6_endLoan_38 : decode cX6_endLoan 38 = .ok (.bipush 6, 2) := by decide +kernel
theorem dX6_endLoan_40 : decode cX6_endLoan 40 = .ok (.iadd, 1) := by decide +kernel
theorem dX6_endLoan_41 : decode cX6_endLoan 41 = .ok (.iaload, 1) := by decide +kernel
theorem dX6_endLoan_42 : decode cX6_endLoan 42 = .ok (.iastore, 1) := by decide +kernel
theorem dX6_endLoan_43 : decode cX6_endLoan 43 = .ok (.iinc 2 1, 3) := by decide +kernel
theorem dX6_endLoan_46 : decode cX6_endLoan 46 = .ok (.goto (-30), 3) := by decide +kernel
theorem dX6_endLoan_49 : decode cX6_endLoan 49 = .ok (.aload_n 0, 1) := by decide +kernel
theorem dX6_endLoan_50 : decode cX6_endLoan 50 = .ok (.getfield 11, 3) := by decide +kernel
theorem dX6_endLoan_53 : decode cX6_endLoan 53 = .ok (.iconst 3, 1) := by decide +kernel
theorem dX6_endLoan_54 : decode cX6_endLoan 54 = .ok (.dup2, 1) := by decide +kernel
theorem dX6_endLoan_55 : decode cX6_endLoan 55 = .ok (.iaload, 1) := by decide +kernel
theorem dX6_endLoan_56 : decode cX6_endLoan 56 = .ok (.iconst 1, 1) := by decide +kernel
theorem dX6_endLoan_57 : decode cX6_endLoan 57 = .ok (.isub, 1) := by decide +kernel
theorem dX6_endLoan_58 : decode cX6_endLoan 58 = .ok (.iastore, 1) := by decide +kernel
theorem dX6_endLoan_59 : decode cX6_endLoan 59 = .ok (.aload_n 0, 1) := by decide +kernel
theorem dX6_endLoan_60 : decode cX6_endLoan 60 = .ok (.getfield 11, 3) := by decide +kernel
theorem dX6_endLoan_63 : decode cX6_endLoan 63 = .ok (.iconst 2, 1) := by decide +kernel
theorem dX6_endLoan_64 : decode cX6_endLoan 64 = .ok (.dup2, 1) := by decide +kernel
theorem dX6_endLoan_65 : decode cX6_endLoan 65 = .ok (.iaload, 1) := by decide +kernel
theorem dX6_endLoan_66 : decode cX6_endLoan 66 = .ok (.iconst 1, 1) := by decide +kernel
theorem dX6_endLoan_67 : decode cX6_endLoan 67 = .ok (.iadd, 1) := by decide +kernel
theorem dX6_endLoan_68 : decode cX6_endLoan 68 = .ok (.iastore, 1) := by decide +kernel
theorem dX6_endLoan_69 : decode cX6_endLoan 69 = .ok (.return_, 1) := by decide +kernel
theorem dX6_loansWhere_0 : decode cX6_loansWhere 0 = .ok (.iconst 0, 1) := by decide +kernel
theorem dX6_loansWhere_1 : decode cX6_loansWhere 1 = .ok (.istore_n 3, 1) := by decide +kernel
theorem dX6_loansWhere_2 : decode cX6_loansWhere 2 = .ok (.iconst 0, 1) := by decide +kernel
theorem dX6_loansWhere_3 : decode cX6_loansWhere 3 = .ok (.istore 4, 2) := by decide +kernel
theorem dX6_loansWhere_5 : decode cX6_loansWhere 5 = .ok (.iload 4, 2) := by decide +kernel
theorem dX6_loansWhere_7 : decode cX6_loansWhere 7 = .ok (.aload_n 0, 1) := by decide +kernel
theorem dX6_loansWhere_8 : decode cX6_loansWhere 8 = .ok (.invokevirtual 72, 3) := by decide +kernel
theorem dX6_loansWhere_11 : decode cX6_loansWhere 11 = .ok (.if_icmp .ge 27, 3) := by decide +kernel
theorem dX6_loansWhere_14 : decode cX6_loansWhere 14 = .ok (.aload_n 0, 1) := by decide +kernel
theorem dX6_loansWhere_15 : decode cX6_loansWhere 15 = .ok (.iload 4, 2) := by decide +kernel
theorem dX6_loansWhere_17 : decode cX6_loansWhere 17 = .ok (.iload_n 1, 1) := by decide +kernel
theorem dX6_loansWhere_18 : decode cX6_loansWhere 18 = .ok (.invokevirtual 56, 3) := by decide +kernel
theorem dX6_loansWhere_21 : decode cX6_loansWhere 21 = .ok (.iload_n 2, 1) := by decide +kernel
theorem dX6_loansWhere_22 : decode cX6_loansWhere 22 = .ok (.if_icmp .ne 10, 3) := by decide +kernel
theorem dX6_loansWhere_25 : decode cX6_loansWhere 25 = .ok (.iload_n 3, 1) := by decide +kernel
theorem dX6_loansWhere_26 : decode cX6_loansWhere 26 = .ok (.iconst 1, 1) := by decide +kernel
theorem dX6_loansWhere_27 : decode cX6_loansWhere 27 = .ok (.iload 4, 2) := by decide +kernel
theorem dX6_loansWhere_29 : decode cX6_loansWhere 29 = .ok (.ishl, 1) := by decide +kernel
theorem dX6_loansWhere_30 : decode cX6_loansWhere 30 = .ok (.ior, 1) := by decide +kernel
theorem dX6_loansWhere_31 : decode cX6_loansWhere 31 = .ok (.istore_n 3, 1) := by decide +kernel
theorem dX6_loansWhere_32 : decode cX6_loansWhere 32 = .ok (.iinc 4 1, 3) := by decide +kernel
theorem dX6_loansWhere_35 : decode cX6_loansWhere 35 = .ok (.goto (-30), 3) := by decide +kernel
theorem dX6_loansWhere_38 : decode cX6_loansWhere 38 = .ok (.iload_n 3, 1) := by decide +kernel
theorem dX6_loansWhere_39 : decode cX6_loansWhere 39 = .ok (.ireturn, 1) := by decide +kernel
theorem dX6_overdue_0 : decode cX6_overdue 0 = .ok (.aload_n 0, 1) := by decide +kernel
theorem dX6_overdue_1 : decode cX6_overdue 1 = .ok (.iconst 5, 1) := by decide +kernel
theorem dX6_overdue_2 : decode cX6_overdue 2 = .ok (.iconst 1, 1) := by decide +kernel
theorem dX6_overdue_3 : decode cX6_overdue 3 = .ok (.invokevirtual 75, 3) := by decide +kernel
theorem dX6_overdue_6 : decode cX6_overdue 6 = .ok (.ireturn, 1) := by decide +kernel
theorem dX6_lentWhere_0 : decode cX6_lentWhere 0 = .ok (.iconst 0, 1) := by decide +kernel
theorem dX6_lentWhere_1 : decode cX6_lentWhere 1 = .ok (.istore_n 3, 1) := by decide +kernel
theorem dX6_lentWhere_2 : decode cX6_lentWhere 2 = .ok (.iconst 0, 1) := by decide +kernel
theorem dX6_lentWhere_3 : decode cX6_lentWhere 3 = .ok (.istore 4, 2) := by decide +kernel
theorem dX6_lentWhere_5 : decode cX6_lentWhere 5 = .ok (.iload 4, 2) := by decide +kernel
theorem dX6_lentWhere_7 : decode cX6_lentWhere 7 = .ok (.aload_n 0, 1) := by decide +kernel
theorem dX6_lentWhere_8 : decode cX6_lentWhere 8 = .ok (.invokevirtual 72, 3) := by decide +kernel
theorem dX6_lentWhere_11 : decode cX6_lentWhere 11 = .ok (.if_icmp .ge 30, 3) := by decide +kernel
theorem dX6_lentWhere_14 : decode cX6_lentWhere 14 = .ok (.aload_n 0, 1) := by decide +kernel
theorem dX6_lentWhere_15 : decode cX6_lentWhere 15 = .ok (.iload 4, 2) := by decide +kernel
theorem dX6_lentWhere_17 : decode cX6_lentWhere 17 = .ok (.iload_n 1, 1) := by decide +kernel
theorem dX6_lentWhere_18 : decode cX6_lentWhere 18 = .ok (.invokevirtual 56, 3) := by decide +kernel
theorem dX6_lentWhere_21 : decode cX6_lentWhere 21 = .ok (.iload_n 2, 1) := by decide +kernel
theorem dX6_lentWhere_22 : decode cX6_lentWhere 22 = .ok (.if_icmp .ne 13, 3) := by decide +kernel
theorem dX6_lentWhere_25 : decode cX6_lentWhere 25 = .ok (.iload_n 3, 1) := by decide +kernel
theorem dX6_lentWhere_26 : decode cX6_lentWhere 26 = .ok (.aload_n 0, 1) := by decide +kernel
theorem dX6_lentWhere_27 : decode cX6_lentWhere 27 = .ok (.iload 4, 2) := by decide +kernel
theorem dX6_lentWhere_29 : decode cX6_lentWhere 29 = .ok (.iconst 2, 1) := by decide +kernel
theorem dX6_lentWhere_30 : decode cX6_lentWhere 30 = .ok (.invokevirtual 56, 3) := by decide +kernel
theorem dX6_lentWhere_33 : decode cX6_lentWhere 33 = .ok (.iadd, 1) := by decide +kernel
theorem dX6_lentWhere_34 : decode cX6_lentWhere 34 = .ok (.istore_n 3, 1) := by decide +kernel
theorem dX6_lentWhere_35 : decode cX6_lentWhere 35 = .ok (.iinc 4 1, 3) := by decide +kernel
theorem dX6_lentWhere_38 : decode cX6_lentWhere 38 = .ok (.goto (-33), 3) := by decide +kernel
theorem dX6_lentWhere_41 : decode cX6_lentWhere 41 = .ok (.iload_n 3, 1) := by decide +kernel
theorem dX6_lentWhere_42 : decode cX6_lentWhere 42 = .ok (.ireturn, 1) := by decide +kernel
