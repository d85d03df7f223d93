theorem dX7_init_0 : decode cX7_init 0 = .ok (.aload_n 0, 1) := by decide +kernel
theorem dX7_init_1 : decode cX7_init 1 = .ok (.invokespecial 3, 3) := by decide +kernel
theorem dX7_init_4 : decode cX7_init 4 = .ok (.aload_n 0, 1) := by decide +kernel
theorem dX7_init_5 : decode cX7_init 5 = .ok (.sipush 600, 3) := by decide +kernel
theorem dX7_init_8 : decode cX7_init 8 = .ok (.newarray .byte, 2) := by decide +kernel
theorem dX7_init_10 : decode cX7_init 10 = .ok (.putfield 9, 3) := by decide +kernel
theorem dX7_init_13 : decode cX7_init 13 = .ok (.aload_n 0, 1) := by decide +kernel
theorem dX7_init_14 : decode cX7_init 14 = .ok (.iconst (-1), 1) := by decide +kernel
theorem dX7_init_15 : decode cX7_init 15 = .ok (.putfield 15, 3) := by decide +kernel
theorem dX7_init_18 : decode cX7_init 18 = .ok (.return_, 1) := by decide +kernel
theorem dX7_hasRoomFor_0 : decode cX7_hasRoomFor 0 = .ok (.aload_n 0, 1) := by decide +kernel
theorem dX7_hasRoomFor_1 : decode cX7_hasRoomFor 1 = .ok (.getfield 19, 3) := by decide +kernel
theorem dX7_hasRoomFor_4 : decode cX7_hasRoomFor 4 = .ok (.iload_n 1, 1) := by decide +kernel
theorem dX7_hasRoomFor_5 : decode cX7_hasRoomFor 5 = .ok (.iadd, 1) := by decide +kernel
theorem dX7_hasRoomFor_6 : decode cX7_hasRoomFor 6 = .ok (.aload_n 0, 1) := by decide +kernel
theorem dX7_hasRoomFor_7 : decode cX7_hasRoomFor 7 = .ok (.getfield 9, 3) := by decide +kernel
theorem dX7_hasRoomFor_10 : decode cX7_hasRoomFor 10 = .ok (.arraylength, 1) := by decide +kernel
theorem dX7_hasRoomFor_11 : decode cX7_hasRoomFor 11 = .ok (.if_icmp .gt 7, 3) := by decide +kernel
theorem dX7_hasRoomFor_14 : decode cX7_hasRoomFor 14 = .ok (.iconst 1, 1) := by decide +kernel
theorem dX7_hasRoomFor_15 : decode cX7_hasRoomFor 15 = .ok (.goto 4, 3) := by decide +kernel
theorem dX7_hasRoomFor_18 : decode cX7_hasRoomFor 18 = .ok (.iconst 0, 1) := by decide +kernel
theorem dX7_hasRoomFor_19 : decode cX7_hasRoomFor 19 = .ok (.ireturn, 1) := by decide +kernel
theorem dX7_add_0 : decode cX7_add 0 = .ok (.bipush 24, 2) := by decide +kernel
theorem dX7_add_2 : decode cX7_add 2 = .ok (.istore_n 2, 1) := by decide +kernel
theorem dX7_add_3 : decode cX7_add 3 = .ok (.iload_n 2, 1) := by decide +kernel
theorem dX7_add_4 : decode cX7_add 4 = .ok (.ifCond .lt 51, 3) := by decide +kernel
theorem dX7_add_7 : decode cX7_add 7 = .ok (.aload_n 0, 1) := by decide +kernel
theorem dX7_add_8 : decode cX7_add 8 = .ok (.getfield 19, 3) := by decide +kernel
theorem dX7_add_11 : decode cX7_add 11 = .ok (.ifCond .lt 38, 3) := by decide +kernel
theorem dX7_add_14 : decode cX7_add 14 = .ok (.aload_n 0, 1) := by decide +kernel
theorem dX7_add_15 : decode cX7_add 15 = .ok (.getfield 19, 3) := by decide +kernel
theorem dX7_add_18 : decode cX7_add 18 = .ok (.aload_n 0, 1) := by decide +kernel
theorem dX7_add_19 : decode cX7_add 19 = .ok (.getfield 9, 3) := by decide +kernel
theorem dX7_add_22 : decode cX7_add 22 = .ok (.arraylength, 1) := by decide +kernel
theorem dX7_add_23 : decode cX7_add 23 = .ok (.if_icmp .ge 26, 3) := by decide +kernel
theorem dX7_add_26 : decode cX7_add 26 = .ok (.aload_n 0, 1) := by decide +kernel
theorem dX7_add_27 : decode cX7_add 27 = .ok (.getfield 9, 3) := by decide +kernel
theorem dX7_add_30 : decode cX7_add 30 = .ok (.aload_n 0, 1) := by decide +kernel
theorem dX7_add_31 : decode cX7_add 31 = .ok (.getfield 19, 3) := by decide +kernel
theorem dX7_add_34 : decode cX7_add 34 = .ok (.iload_n 1, 1) := by decide +kernel
theorem dX7_add_35 : decode cX7_add 35 = .ok (.iload_n 2, 1) := by decide +kernel
theorem dX7_add_36 : decode cX7_add 36 = .ok (.ishr, 1) := by decide +kernel
theorem dX7_add_37 : decode cX7_add 37 = .ok (.i2b, 1) := by decide +kernel
theorem dX7_add_38 : decode cX7_add 38 = .ok (.bastore, 1) := by decide +kernel
theorem dX7_add_39 : decode cX7_add 39 = .ok (.aload_n 0, 1) := by decide +kernel
theorem dX7_add_40 : decode cX7_add 40 = .ok (.dup, 1) := by decide +kernel
theorem dX7_add_41 : decode cX7_add 41 = .ok (.getfield 19, 3) := by decide +kernel
theorem dX7_add_44 : decode cX7_add 44 = .ok (.iconst 1, 1) := by decide +kernel
theorem dX7_add_45 : decode cX7_add 45 = .ok (.iadd, 1) := by decide +kernel
theorem dX7_add_46 : decode cX7_add 46 = .ok (.putfield 19, 3) := by decide +kernel
theorem dX7_add_49 : decode cX7_add 49 = .ok (.iinc 2 (-8), 3) := by decide +kernel
theorem dX7_add_52 : decode cX7_add 52 = .ok (.goto (-49), 3) := by decide +kernel
theorem dX7_add_55 : decode cX7_add 55 = .ok (.return_, 1) := by decide +kernel
theorem dX7_begin_0 : decode cX7_begin 0 = .ok (.aload_n 0, 1) := by decide +kernel
theorem dX7_begin_1 : decode cX7_begin 1 = .ok (.iconst 0, 1) := by decide +kernel
theorem dX7_begin_2 : decode cX7_begin 2 = .ok (.putfield 19, 3) := by decide +kernel
theorem dX7_begin_5 : decode cX7_begin 5 = .ok (.aload_n 0, 1) := by decide +kernel
theorem dX7_begin_6 : decode cX7_begin 6 = .ok (.iload_n 1, 1) := by decide +kernel
theorem dX7_begin_7 : decode cX7_begin 7 = .ok (.aload_n 0, 1) := by decide +kernel
theorem dX7_begin_8 : decode cX7_begin 8 = .ok (.getfield 9, 3) := by decide +kernel
theorem dX7_begin_11 : decode cX7_begin 11 = .ok (.arraylength, 1) := by decide +kernel
theorem dX7_begin_12 : decode cX7_begin 12 = .ok (.invokestatic 22, 3) := by decide +kernel
theorem dX7_begin_15 : decode cX7_begin 15 = .ok (.putfield 28, 3) := by decide +kernel
theorem dX7_begin_18 : decode cX7_begin 18 = .ok (.aload_n 0, 1) := by decide +kernel
theorem dX7_begin_19 : decode cX7_begin 19 = .ok (.iconst 0, 1) := by decide +kernel
theorem dX7_begin_20 : decode cX7_begin 20 = .ok (.putfield 31, 3) := by decide +kernel
theorem dX7_begin_23 : decode cX7_begin 23 = .ok (.aload_n 0, 1) := by decide +kernel
theorem dX7_begin_24 : decode cX7_begin 24 = .ok (.iconst 0, 1) := by decide +kernel
theorem dX7_begin_25 : decode cX7_begin 25 = .ok (.putfield 34, 3) := by decide +kernel
theorem dX7_begin_28 : decode cX7_begin 28 = .ok (.aload_n 0, 1) := by decide +kernel
theorem dX7_begin_29 : decode cX7_begin 29 = .ok (.iconst 0, 1) := by decide +kernel
theorem dX7_begin_30 : decode cX7_begin 30 = .ok (.putfield 37, 3) := by decide +kernel
theorem dX7_begin_33 : decode cX7_begin 33 = .ok (.aload_n 0, 1) := by decide +kernel
theorem dX7_begin_34 : decode cX7_begin 34 = .ok (.iconst (-1), 1) := by decide +kernel
theorem dX7_begin_35 : decode cX7_begin 35 = .ok (.putfield 15, 3) := by decide +kernel
theorem dX7_begin_38 : decode cX7_begin 38 = .ok (.return_, 1) := by decide +kernel
theorem dX7_faultAnswer_0 : decode cX7_faultAnswer 0 = .ok (.aload_n 0, 1) := by decide +kernel
theorem dX7_faultAnswer_1 : decode cX7_faultAnswer 1 = .ok (.getfield 37, 3) := by decide +kernel
theorem dX7_faultAnswer_4 : decode cX7_faultAnswer 4 = .ok (.bipush 10, 2) := by decide +kernel
theorem dX7_faultAnswer_6 : decode cX7_faultAnswer 6 = .ok (.isub, 1) := by decide +kernel
theorem dX7_faultAnswer_7 : decode cX7_faultAnswer 7 = .ok (.ireturn, 1) := by decide +kernel
theorem dX7_failHere_0 : decode cX7_failHere 0 = .ok (.aload_n 0, 1) := by decide +kernel
theorem dX7_failHere_1 : decode cX7_failHere 1 = .ok (.iload_n 1, 1) := by decide +kernel
theorem dX7_failHere_2 : decode cX7_failHere 2 = .ok (.putfield 37, 3) := by decide +kernel
theorem dX7_failHere_5 : decode cX7_failHere 5 = .ok (.aload_n 0, 1) := by decide +kernel
theorem dX7_failHere_6 : decode cX7_failHere 6 = .ok (.aload_n 0, 1) := by decide +kernel
theorem dX7_failHere_7 : decode cX7_failHere 7 = .ok (.getfield 31, 3) := by decide +kernel
theorem dX7_failHere_10 : decode cX7_failHere 10 = .ok (.putfield 15, 3) := by decide +kernel
theorem dX7_failHere_13 : decode cX7_failHere 13 = .ok (.iconst 0, 1) := by decide +kernel
theorem dX7_failHere_14 : decode cX7_failHere 14 = .ok (.ireturn, 1) := by decide +kernel
theorem dX7_failAtStart_0 : decode cX7_failAtStart 0 = .ok (.aload_n 0, 1) := by decide +kernel
theorem dX7_failAtStart_1 : decode cX7_failAtStart 1 = .ok (.iload_n 1, 1) := by decide +kernel
theorem dX7_failAtStart_2 : decode cX7_failAtStart 2 = .ok (.putfield 37, 3) := by decide +kernel
theorem dX7_failAtStart_5 : decode cX7_failAtStart 5 = .ok (.aload_n 0, 1) := by decide +kernel
theorem dX7_failAtStart_6 : decode cX7_failAtStart 6 = .ok (.aload_n 0, 1) := by decide +kernel
theorem dX7_failAtStart_7 : decode cX7_failAtStart 7 = .ok (.getfield 34, 3) := by decide +kernel
theorem dX7_failAtStart_10 : decode cX7_failAtStart 10 = .ok (.putfield 15, 3) := by decide +kernel
theorem dX7_failAtStart_13 : decode cX7_failAtStart 13 = .ok (.iconst 0, 1) := by decide +kernel
theorem dX7_failAtStart_14 : decode cX7_failAtStart 14 = .ok (.ireturn, 1) := by decide +kernel
theorem dX7_peek_0 : decode cX7_peek 0 = .ok (.aload_n 0, 1) := by decide +kernel
theorem dX7_peek_1 : decode cX7_peek 1 = .ok (.getfield 31, 3) := by decide +kernel
theorem dX7_peek_4 : decode cX7_peek 4 = .ok (.aload_n 0, 1) := by decide +kernel
theorem dX7_peek_5 : decode cX7_peek 5 = .ok (.getfield 28, 3) := by decide +kernel
theorem dX7_peek_8 : decode cX7_peek 8 = .ok (.if_icmp .ge 30, 3) := by decide +kernel
theorem dX7_peek_11 : decode cX7_peek 11 = .ok (.aload_n 0, 1) := by decide +kernel
theorem dX7_peek_12 : decode cX7_peek 12 = .ok (.getfield 9, 3) := by decide +kernel
theorem dX7_peek_15 : decode cX7_peek 15 = .ok (.aload_n 0, 1) := by decide +kernel
theorem dX7_peek_16 : decode cX7_peek 16 = .ok (.getfield 31, 3) := by decide +kernel
theorem dX7_peek_19 : decode cX7_peek 19 = .ok (.baload, 1) := by decide +kernel
theorem dX7_peek_20 : decode cX7_peek 20 = .ok (.bipush 32, 2) := by decide +kernel
theorem dX7_peek_22 : decode cX7_peek 22 = .ok (.if_icmp .ne 16, 3) := by decide +kernel
theorem dX7_peek_25 : decode cX7_peek 25 = .ok (.aload_n 0, 1) := by decide +kernel
theorem dX7_peek_26 : decode cX7_peek 26 = .ok (.dup, 1) := by decide +kernel
theorem dX7_peek_27 : decode cX7_peek 27 = .ok (.getfield 31, 3) := by decide +kernel
theorem dX7_peek_30 : decode cX7_peek 30 = .ok (.iconst 1, 1) := by decide +kernel
theorem dX7_peek_31 : decode cX7_peek 31 = .ok (.iadd, 1) := by decide +kernel
theorem dX7_peek_32 : decode cX7_peek 32 = .ok (.putfield 31, 3) := by decide +kernel
theorem dX7_peek_35 : decode cX7_peek 35 = .ok (.goto (-35), 3) := by decide +kernel
theorem dX7_peek_38 : decode cX7_peek 38 = .ok (.aload_n 0, 1) := by decide +kernel
theorem dX7_peek_39 : decode cX7_peek 39 = .ok (.getfield 31, 3) := by decide +kernel
theorem dX7_peek_42 : decode cX7_peek 42 = .ok (.aload_n 0, 1) := by decide +kernel
theorem dX7_peek_43 : decode cX7_peek 43 = .ok (.getfield 28, 3) := by decide +kernel
theorem dX7_peek_46 : decode cX7_peek 46 = .ok (.if_icmp .ge 19, 3) := by decide +kernel
theorem dX7_peek_49 : decode cX7_peek 49 = .ok (.aload_n 0, 1) := by decide +kernel
theorem dX7_peek_50 : decode cX7_peek 50 = .ok (.getfield 9, 3) := by decide +kernel
theorem dX7_peek_53 : decode cX7_peek 53 = .ok (.aload_n 0, 1) := by decide +kernel
theorem dX7_peek_54 : decode cX7_peek 54 = .ok (.getfield 31, 3) := by decide +kernel
theorem dX7_peek_57 : decode cX7_peek 57 = .ok (.baload, 1) := by decide +kernel
theorem dX7_peek_58 : decode cX7_peek 58 = .ok (.sipush 255, 3) := by decide +kernel
theorem dX7_peek_61 : decode cX7_peek 61 = .ok (.iand, 1) := by decide +kernel
theorem dX7_peek_62 : decode cX7_peek 62 = .ok (.goto 4, 3) := by decide +kernel
theorem dX7_peek_65 : decode cX7_peek 65 = .ok (.iconst (-1), 1) := by decide +kernel
theorem dX7_peek_66 : decode cX7_peek 66 = .ok (.ireturn, 1) := by decide +kernel
theorem dX7_takeEnd_0 : decode cX7_takeEnd 0 = .ok (.aload_n 0, 1) := by decide +kernel
theorem dX7_takeEnd_1 : decode cX7_takeEnd 1 = .ok (.invokevirtual 40, 3) := by decide +kernel
theorem dX7_takeEnd_4 : decode cX7_takeEnd 4 = .ok (.iconst (-1), 1) := by decide +kernel
theorem dX7_takeEnd_5 : decode cX7_takeEnd 5 = .ok (.if_icmp .eq 11, 3) := by decide +kernel
theorem dX7_takeEnd_8 : decode cX7_takeEnd 8 = .ok (.aload_n 0, 1) := by decide +kernel
theorem dX7_takeEnd_9 : decode cX7_takeEnd 9 = .ok (.iconst 1, 1) := by decide +kernel
theorem dX7_takeEnd_10 : decode cX7_takeEnd 10 = .ok (.invokevirtual 44, 3) := by decide +kernel
theorem dX7_takeEnd_13 : decode cX7_takeEnd 13 = .ok (.ifCond .eq 7, 3) := by decide +kernel
theorem dX7_takeEnd_16 : decode cX7_takeEnd 16 = .ok (.iconst 1, 1) := by decide +kernel
theorem dX7_takeEnd_17 : decode cX7_takeEnd 17 = .ok (.goto 4, 3) := by decide +kernel
theorem dX7_takeEnd_20 : decode cX7_takeEnd 20 = .ok (.iconst 0, 1) := by decide +kernel
theorem dX7_takeEnd_21 : decode cX7_takeEnd 21 = .ok (.ireturn, 1) := by decide +kernel
theorem dX7_takeSign_0 : decode cX7_takeSign 0 = .ok (.aload_n 0, 1) := by decide +kernel
theorem dX7_takeSign_1 : decode cX7_takeSign 1 = .ok (.invokevirtual 40, 3) := by decide +kernel
theorem dX7_takeSign_4 : decode cX7_takeSign 4 = .ok (.iload_n 1, 1) := by decide +kernel
theorem dX7_takeSign_5 : decode cX7_takeSign 5 = .ok (.if_icmp .eq 9, 3) := by decide +kernel
theorem dX7_takeSign_8 : decode cX7_takeSign 8 = .ok (.aload_n 0, 1) := by decide +kernel
theorem dX7_takeSign_9 : decode cX7_takeSign 9 = .ok (.iconst 1, 1) := by decide +kernel
theorem dX7_takeSign_10 : decode cX7_takeSign 10 = .ok (.invokevirtual 44, 3) := by decide +kernel
theorem dX7_takeSign_13 : decode cX7_takeSign 13 = .ok (.ireturn, 1) := by decide +kernel
theorem dX7_takeSign_14 : decode cX7_takeSign 14 = .ok (.aload_n 0, 1) := by decide +kernel
theorem dX7_takeSign_15 : decode cX7_takeSign 15 = .ok (.dup, 1) := by decide +kernel
theorem dX7_takeSign_16 : decode cX7_takeSign 16 = .ok (.getfield 31, 3) := by decide +kernel
theorem dX7_takeSign_19 : decode cX7_takeSign 19 = .ok (.iconst 1, 1) := by decide +kernel
theorem dX7_takeSign_20 : decode cX7_takeSign 20 = .ok (.iadd, 1) := by decide +kernel
theorem dX7_takeSign_21 : decode cX7_takeSign 21 = .ok (.putfield 31, 3) := by decide +kernel
theorem dX7_takeSign_24 : decode cX7_takeSign 24 = .ok (.iconst 1, 1) := by decide +kernel
theorem dX7_takeSign_25 : decode cX7_takeSign 25 = .ok (.ireturn, 1) := by decide +kernel
theorem dX7_takeWord_0 : decode cX7_takeWord 0 = .ok (.aload_n 0, 1) := by decide +kernel
theorem dX7_takeWord_1 : decode cX7_takeWord 1 = .ok (.invokevirtual 40, 3) := by decide +kernel
theorem dX7_takeWord_4 : decode cX7_takeWord 4 = .ok (.invokestatic 48, 3) := by decide +kernel
theorem dX7_takeWord_7 : decode cX7_takeWord 7 = .ok (.ifCond .ne 9, 3) := by decide +kernel
theorem dX7_takeWord_10 : decode cX7_takeWord 10 = .ok (.aload_n 0, 1) := by decide +kernel
theorem dX7_takeWord_11 : decode cX7_takeWord 11 = .ok (.iconst 1, 1) := by decide +kernel
theorem dX7_takeWord_12 : decode cX7_takeWord 12 = .ok (.invokevirtual 44, 3) := by decide +kernel
theorem dX7_takeWord_15 : decode cX7_takeWord 15 = .ok (.ireturn, 1) := by decide +kernel
theorem dX7_takeWord_16 : decode cX7_takeWord 16 = .ok (.aload_n 0, 1) := by decide +kernel
theorem dX7_takeWord_17 : decode cX7_takeWord 17 = .ok (.aload_n 0, 1) := by decide +kernel
theorem dX7_takeWord_18 : decode cX7_takeWord 18 = .ok (.getfield 31, 3) := by decide +kernel
theorem dX7_takeWord_21 : decode cX7_takeWord 21 = .ok (.putfield 34, 3) := by decide +kernel
theorem dX7_takeWord_24 : decode cX7_takeWord 24 = .ok (.aload_n 0, 1) := by decide +kernel
theorem dX7_takeWord_25 : decode cX7_takeWord 25 = .ok (.getfield 31, 3) := by decide +kernel
theorem dX7_takeWord_28 : decode cX7_takeWord 28 = .ok (.aload_n 0, 1) := by decide +kernel
theorem dX7_takeWord_29 : decode cX7_takeWord 29 = .ok (.getfield 28, 3) := by decide +kernel
theorem dX7_takeWord_32 : decode cX7_takeWord 32 = .ok (.if_icmp .ge 31, 3) := by decide +kernel
theorem dX7_takeWord_35 : decode cX7_takeWord 35 = .ok (.aload_n 0, 1) := by decide +kernel
theorem dX7_takeWord_36 : decode cX7_takeWord 36 = .ok (.getfield 9, 3) := by decide +kernel
theorem dX7_takeWord_39 : decode cX7_takeWord 39 = .ok (.aload_n 0, 1) := by decide +kernel
theorem dX7_takeWord_40 : decode cX7_takeWord 40 = .ok (.getfield 31, 3) := by decide +kernel
theorem dX7_takeWord_43 : decode cX7_takeWord 43 = .ok (.baload, 1) := by decide +kernel
theorem dX7_takeWord_44 : decode cX7_takeWord 44 = .ok (.invokestatic 48, 3) := by decide +kernel
theorem dX7_takeWord_47 : decode cX7_takeWord 47 = .ok (.ifCond .eq 16, 3) := by decide +kernel
theorem dX7_takeWord_50 : decode cX7_takeWord 50 = .ok (.aload_n 0, 1) := by decide +kernel
theorem dX7_takeWord_51 : decode cX7_takeWord 51 = .ok (.dup, 1) := by decide +kernel
theorem dX7_takeWord_52 : decode cX7_takeWord 52 = .ok (.getfield 31, 3) := by decide +kernel
theorem dX7_takeWord_55 : decode cX7_takeWord 55 = .ok (.iconst 1, 1) := by decide +kernel
theorem dX7_takeWord_56 : decode cX7_takeWord 56 = .ok (.iadd, 1) := by decide +kernel
theorem dX7_takeWord_57 : decode cX7_takeWord 57 = .ok (.putfield 31, 3) := by decide +kernel
theorem dX7_takeWord_60 : decode cX7_takeWord 60 = .ok (.goto (-36), 3) := by decide +kernel
theorem dX7_takeWord_63 : decode cX7_takeWord 63 = .ok (.iconst 1, 1) := by decide +kernel
theorem dX7_takeWord_64 : decode cX7_takeWord 64 = .ok (.ireturn, 1) := by decide +kernel
theorem dX7_wordIs_0 : decode cX7_wordIs 0 = .ok (.aload_n 0, 1) := by decide +kernel
theorem dX7_wordIs_1 : decode cX7_wordIs 1 = .ok (.getfield 31, 3) := by decide +kernel
theorem dX7_wordIs_4 : decode cX7_wordIs 4 = .ok (.aload_n 0, 1) := by decide +kernel
theorem dX7_wordIs_5 : decode cX7_wordIs 5 = .ok (.getfield 34, 3) := by decide +kernel
theorem dX7_wordIs_8 : decode cX7_wordIs 8 = .ok (.isub, 1) := by decide +kernel
theorem dX7_wordIs_9 : decode cX7_wordIs 9 = .ok (.aload_n 1, 1) := by decide +kernel
theorem dX7_wordIs_10 : decode cX7_wordIs 10 = .ok (.invokevirtual 51, 3) := by decide +kernel
theorem dX7_wordIs_13 : decode cX7_wordIs 13 = .ok (.if_icmp .ne 22, 3) := by decide +kernel
theorem dX7_wordIs_16 : decode cX7_wordIs 16 = .ok (.aload_n 0, 1) := by decide +kernel
theorem dX7_wordIs_17 : decode cX7_wordIs 17 = .ok (.getfield 34, 3) := by decide +kernel
theorem dX7_wordIs_20 : decode cX7_wordIs 20 = .ok (.ifCond .lt 15, 3) := by decide +kernel
theorem dX7_wordIs_23 : decode cX7_wordIs 23 = .ok (.aload_n 0, 1) := by decide +kernel
theorem dX7_wordIs_24 : decode cX7_wordIs 24 = .ok (.getfield 31, 3) := by decide +kernel
theorem dX7_wordIs_27 : decode cX7_wordIs 27 = .ok (.aload_n 0, 1) := by decide +kernel
theorem dX7_wordIs_28 : decode cX7_wordIs 28 = .ok (.getfield 9, 3) := by decide +kernel
theorem dX7_wordIs_31 : decode cX7_wordIs 31 = .ok (.arraylength, 1) := by decide +kernel
theorem dX7_wordIs_32 : decode cX7_wordIs 32 = .ok (.if_icmp .le 5, 3) := by decide +kernel
theorem dX7_wordIs_35 : decode cX7_wordIs 35 = .ok (.iconst 0, 1) := by decide +kernel
theorem dX7_wordIs_36 : decode cX7_wordIs 36 = .ok (.ireturn, 1) := by decide +kernel
theorem dX7_wordIs_37 : decode cX7_wordIs 37 = .ok (.iconst 0, 1) := by decide +kernel
theorem dX7_wordIs_38 : decode cX7_wordIs 38 = .ok (.istore_n 2, 1) := by decide +kernel
theorem dX7_wordIs_39 : decode cX7_wordIs 39 = .ok (.iload_n 2, 1) := by decide +kernel
theorem dX7_wordIs_40 : decode cX7_wordIs 40 = .ok (.aload_n 1, 1) := by decide +kernel
theorem dX7_wordIs_41 : decode cX7_wordIs 41 = .ok (.invokevirtual 51, 3) := by decide +kernel
theorem dX7_wordIs_44 : decode cX7_wordIs 44 = .ok (.if_icmp .ge 30, 3) := by decide +kernel
theorem dX7_wordIs_47 : decode cX7_wordIs 47 = .ok (.aload_n 0, 1) := by decide +kernel
theorem dX7_wordIs_48 : decode cX7_wordIs 48 = .ok (.getfield 9, 3) := by decide +kernel
theorem dX7_wordIs_51 : decode cX7_wordIs 51 = .ok (.aload_n 0, 1) := by decide +kernel
theorem dX7_wordIs_52 : decode cX7_wordIs 52 = .ok (.getfield 34, 3) := by decide +kernel
theorem dX7_wordIs_55 : decode cX7_wordIs 55 = .ok (.iload_n 2, 1) := by decide +kernel
theorem dX7_wordIs_56 : decode cX7_wordIs 56 = .ok (.iadd, 1) := by decide +kernel
theorem dX7_wordIs_57 : decode cX7_wordIs 57 = .ok (.baload, 1) := by decide +kernel
theorem dX7_wordIs_58 : decode cX7_wordIs 58 = .ok (.aload_n 1, 1) := by decide +kernel
theorem dX7_wordIs_59 : decode cX7_wordIs 59 = .ok (.iload_n 2, 1) := by decide +kernel
theorem dX7_wordIs_60 : decode cX7_wordIs 60 = .ok (.invokevirtual 56, 3) := by decide +kernel
theorem dX7_wordIs_63 : decode cX7_wordIs 63 = .ok (.if_icmp .eq 5, 3) := by decide +kernel
theorem dX7_wordIs_66 : decode cX7_wordIs 66 = .ok (.iconst 0, 1) := by decide +kernel
theorem dX7_wordIs_67 : decode cX7_wordIs 67 = .ok (.ireturn, 1) := by decide +kernel
theorem dX7_wordIs_68 : decode cX7_wordIs 68 = .ok (.iinc 2 1, 3) := by decide +kernel
theorem dX7_wordIs_71 : decode cX7_wordIs 71 = .ok (.goto (-32), 3) := by decide +kernel
theorem dX7_wordIs_74 : decode cX7_wordIs 74 = .ok (.iconst 1, 1) := by decide +kernel
theorem dX7_wordIs_75 : decode cX7_wordIs 75 = .ok (.ireturn, 1) := by decide +kernel
theorem dX7_takeNumber_0 : decode cX7_takeNumber 0 = .ok (.aload_n 0, 1) := by decide +kernel
theorem dX7_takeNumber_1 : decode cX7_takeNumber 1 = .ok (.invokevirtual 40, 3) := by decide +kernel
theorem dX7_takeNumber_4 : decode cX7_takeNumber 4 = .ok (.invokestatic 60, 3) := by decide +kernel
theorem dX7_takeNumber_7 : decode cX7_takeNumber 7 = .ok (.ifCond .ne 11, 3) := by decide +kernel
theorem dX7_takeNumber_10 : decode cX7_takeNumber 10 = .ok (.aload_n 0, 1) := by decide +kernel
theorem dX7_takeNumber_11 : decode cX7_takeNumber 11 = .ok (.iconst 1, 1) := by decide +kernel
theorem dX7_takeNumber_12 : decode cX7_takeNumber 12 = .ok (.invokevirtual 44, 3) := by decide +kernel
theorem dX7_takeNumber_15 : decode cX7_takeNumber 15 = .ok (.pop, 1) := by decide +kernel
theorem dX7_takeNumber_16 : decode cX7_takeNumber 16 = .ok (.iconst (-1), 1) := by decide +kernel
theorem dX7_takeNumber_17 : decode cX7_takeNumber 17 = .ok (.ireturn, 1) := by decide +kernel
theorem dX7_takeNumber_18 : decode cX7_takeNumber 18 = .ok (.aload_n 0, 1) := by decide +kernel
theorem dX7_takeNumber_19 : decode cX7_takeNumber 19 = .ok (.aload_n 0, 1) := by decide +kernel
theorem dX7_takeNumber_20 : decode cX7_takeNumber 20 = .ok (.getfield 31, 3) := by decide +kernel
theorem dX7_takeNumber_23 : decode cX7_takeNumber 23 = .ok (.putfield 34, 3) := by decide +kernel
theorem dX7_takeNumber_26 : decode cX7_takeNumber 26 = .ok (.iconst 0, 1) := by decide +kernel
theorem dX7_takeNumber_27 : decode cX7_takeNumber 27 = .ok (.istore_n 3, 1) := by decide +kernel
theorem dX7_takeNumber_28 : decode cX7_takeNumber 28 = .ok (.aload_n 0, 1) := by decide +kernel
theorem dX7_takeNumber_29 : decode cX7_takeNumber 29 = .ok (.getfield 31, 3) := by decide +kernel
theorem dX7_takeNumber_32 : decode cX7_takeNumber 32 = .ok (.aload_n 0, 1) := by decide +kernel
theorem dX7_takeNumber_33 : decode cX7_takeNumber 33 = .ok (.getfield 28, 3) := by decide +kernel
theorem dX7_takeNumber_36 : decode cX7_takeNumber 36 = .ok (.if_icmp .ge 54, 3) := by decide +kernel
theorem dX7_takeNumber_39 : decode cX7_takeNumber 39 = .ok (.aload_n 0, 1) := by decide +kernel
theorem dX7_takeNumber_40 : decode cX7_takeNumber 40 = .ok (.getfield 9, 3) := by decide +kernel
theorem dX7_takeNumber_43 : decode cX7_takeNumber 43 = .ok (.aload_n 0, 1) := by decide +kernel
theorem dX7_takeNumber_44 : decode cX7_takeNumber 44 = .ok (.getfield 31, 3) := by decide +kernel
theorem dX7_takeNumber_47 : decode cX7_takeNumber 47 = .ok (.baload, 1) := by decide +kernel
theorem dX7_takeNumber_48 : decode cX7_takeNumber 48 = .ok (.invokestatic 60, 3) := by decide +kernel
theorem dX7_takeNumber_51 : decode cX7_takeNumber 51 = .ok (.ifCond .eq 39, 3) := by decide +kernel
theorem dX7_takeNumber_54 : decode cX7_takeNumber 54 = .ok (.ldc 63, 2) := by decide +kernel
theorem dX7_takeNumber_56 : decode cX7_takeNumber 56 = .ok (.iload_n 3, 1) := by decide +kernel
theorem dX7_takeNumber_57 : decode cX7_takeNumber 57 = .ok (.bipush 10, 2) := by decide +kernel
theorem dX7_takeNumber_59 : decode cX7_takeNumber 59 = .ok (.imul, 1) := by decide +kernel
theorem dX7_takeNumber_60 : decode cX7_takeNumber 60 = .ok (.aload_n 0, 1) := by decide +kernel
theorem dX7_takeNumber_61 : decode cX7_takeNumber 61 = .ok (.getfield 9, 3) := by decide +kernel
theorem dX7_takeNumber_64 : decode cX7_takeNumber 64 = .ok (.aload_n 0, 1) := by decide +kernel
theorem dX7_takeNumber_65 : decode cX7_takeNumber 65 = .ok (.getfield 31, 3) := by decide +kernel
theorem dX7_takeNumber_68 : decode cX7_takeNumber 68 = .ok (.baload, 1) := by decide +kernel
theorem dX7_takeNumber_69 : decode cX7_takeNumber 69 = .ok (.iadd, 1) := by decide +kernel
theorem dX7_takeNumber_70 : decode cX7_takeNumber 70 = .ok (.bipush 48, 2) := by decide +kernel
theorem dX7_takeNumber_72 : decode cX7_takeNumber 72 = .ok (.isub, 1) := by decide +kernel
theorem dX7_takeNumber_73 : decode cX7_takeNumber 73 = .ok (.invokestatic 22, 3) := by decide +kernel
theorem dX7_takeNumber_76 : decode cX7_takeNumber 76 = .ok (.istore_n 3, 1) := by decide +kernel
theorem dX7_takeNumber_77 : decode cX7_takeNumber 77 = .ok (.aload_n 0, 1) := by decide +kernel
theorem dX7_takeNumber_78 : decode cX7_takeNumber 78 = .ok (.dup, 1) := by decide +kernel
theorem dX7_takeNumber_79 : decode cX7_takeNumber 79 = .ok (.getfield 31, 3) := by decide +kernel
theorem dX7_takeNumber_82 : decode cX7_takeNumber 82 = .ok (.iconst 1, 1) := by decide +kernel
theorem dX7_takeNumber_83 : decode cX7_takeNumber 83 = .ok (.iadd, 1) := by decide +kernel
theorem dX7_takeNumber_84 : decode cX7_takeNumber 84 = .ok (.putfield 31, 3) := by decide +kernel
theorem dX7_takeNumber_87 : decode cX7_takeNumber 87 = .ok (.goto (-59), 3) := by decide +kernel
theorem dX7_takeNumber_90 : decode cX7_takeNumber 90 = .ok (.iload_n 3, 1) := by decide +kernel
theorem dX7_takeNumber_91 : decode cX7_takeNumber 91 = .ok (.iload_n 1, 1) := by decide +kernel
theorem dX7_takeNumber_92 : decode cX7_takeNumber 92 = .ok (.if_icmp .lt 8, 3) := by decide +kernel
theorem dX7_takeNumber_95 : decode cX7_takeNumber 95 = .ok (.iload_n 3, 1) := by decide +kernel
theorem dX7_takeNumber_96 : decode cX7_takeNumber 96 = .ok (.iload_n 2, 1) := by decide +kernel
theorem dX7_takeNumber_97 : decode cX7_takeNumber 97 = .ok (.if_icmp .le 11, 3) := by decide +kernel
theorem dX7_takeNumber_100 : decode cX7_takeNumber 100 = .ok (.aload_n 0, 1) := by decide +kernel
theorem dX7_takeNumber_101 : decode cX7_takeNumber 101 = .ok (.iconst 2, 1) := by decide +kernel
theorem dX7_takeNumber_102 : decode cX7_takeNumber 102 = .ok (.invokevirtual 64, 3) := by decide +kernel
theorem dX7_takeNumber_105 : decode cX7_takeNumber 105 = .ok (.pop, 1) := by decide +kernel
theorem dX7_takeNumber_106 : decode cX7_takeNumber 106 = .ok (.iconst (-1), 1) := by decide +kernel
theorem dX7_takeNumber_107 : decode cX7_takeNumber 107 = .ok (.ireturn, 1) := by decide +kernel
theorem dX7_takeNumber_108 : decode cX7_takeNumber 108 = .ok (.iload_n 3, 1) := by decide +kernel
theorem dX7_takeNumber_109 : decode cX7_takeNumber 109 = .ok (.ireturn, 1) := by decide +kernel
