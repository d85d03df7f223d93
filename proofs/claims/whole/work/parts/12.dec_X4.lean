theorem dX4_init_0 : decode cX4_init 0 = .ok (.aload_n 0, 1) := by decide +kernel
theorem dX4_init_1 : decode cX4_init 1 = .ok (.invokespecial 3, 3) := by decide +kernel
theorem dX4_init_4 : decode cX4_init 4 = .ok (.aload_n 0, 1) := by decide +kernel
theorem dX4_init_5 : decode cX4_init 5 = .ok (.aload_n 1, 1) := by decide +kernel
theorem dX4_init_6 : decode cX4_init 6 = .ok (.putfield 9, 3) := by decide +kernel
theorem dX4_init_9 : decode cX4_init 9 = .ok (.aload_n 0, 1) := by decide +kernel
theorem dX4_init_10 : decode cX4_init 10 = .ok (.aload_n 2, 1) := by decide +kernel
theorem dX4_init_11 : decode cX4_init 11 = .ok (.putfield 15, 3) := by decide +kernel
theorem dX4_init_14 : decode cX4_init 14 = .ok (.return_, 1) := by decide +kernel
theorem dX4_isOpenTo_0 : decode cX4_isOpenTo 0 = .ok (.aload_n 1, 1) := by decide +kernel
theorem dX4_isOpenTo_1 : decode cX4_isOpenTo 1 = .ok (.iload_n 3, 1) := by decide +kernel
theorem dX4_isOpenTo_2 : decode cX4_isOpenTo 2 = .ok (.invokevirtual 19, 3) := by decide +kernel
theorem dX4_isOpenTo_5 : decode cX4_isOpenTo 5 = .ok (.ifCond .ne 37, 3) := by decide +kernel
theorem dX4_isOpenTo_8 : decode cX4_isOpenTo 8 = .ok (.aload_n 1, 1) := by decide +kernel
theorem dX4_isOpenTo_9 : decode cX4_isOpenTo 9 = .ok (.iload_n 3, 1) := by decide +kernel
theorem dX4_isOpenTo_10 : decode cX4_isOpenTo 10 = .ok (.invokevirtual 25, 3) := by decide +kernel
theorem dX4_isOpenTo_13 : decode cX4_isOpenTo 13 = .ok (.iload 4, 2) := by decide +kernel
theorem dX4_isOpenTo_15 : decode cX4_isOpenTo 15 = .ok (.if_icmp .lt 27, 3) := by decide +kernel
theorem dX4_isOpenTo_18 : decode cX4_isOpenTo 18 = .ok (.aload_n 1, 1) := by decide +kernel
theorem dX4_isOpenTo_19 : decode cX4_isOpenTo 19 = .ok (.iload_n 2, 1) := by decide +kernel
theorem dX4_isOpenTo_20 : decode cX4_isOpenTo 20 = .ok (.invokevirtual 29, 3) := by decide +kernel
theorem dX4_isOpenTo_23 : decode cX4_isOpenTo 23 = .ok (.ifCond .gt 15, 3) := by decide +kernel
theorem dX4_isOpenTo_26 : decode cX4_isOpenTo 26 = .ok (.aload_n 0, 1) := by decide +kernel
theorem dX4_isOpenTo_27 : decode cX4_isOpenTo 27 = .ok (.getfield 9, 3) := by decide +kernel
theorem dX4_isOpenTo_30 : decode cX4_isOpenTo 30 = .ok (.iload_n 2, 1) := by decide +kernel
theorem dX4_isOpenTo_31 : decode cX4_isOpenTo 31 = .ok (.iload_n 3, 1) := by decide +kernel
theorem dX4_isOpenTo_32 : decode cX4_isOpenTo 32 = .ok (.invokevirtual 32, 3) := by decide +kernel
theorem dX4_isOpenTo_35 : decode cX4_isOpenTo 35 = .ok (.ifCond .eq 7, 3) := by decide +kernel
theorem dX4_isOpenTo_38 : decode cX4_isOpenTo 38 = .ok (.iconst 1, 1) := by decide +kernel
theorem dX4_isOpenTo_39 : decode cX4_isOpenTo 39 = .ok (.goto 4, 3) := by decide +kernel
theorem dX4_isOpenTo_42 : decode cX4_isOpenTo 42 = .ok (.iconst 0, 1) := by decide +kernel
theorem dX4_isOpenTo_43 : decode cX4_isOpenTo 43 = .ok (.ireturn, 1) := by decide +kernel
theorem dX4_wouldLend_0 : decode cX4_wouldLend 0 = .ok (.aload_n 1, 1) := by decide +kernel
theorem dX4_wouldLend_1 : decode cX4_wouldLend 1 = .ok (.invokevirtual 38, 3) := by decide +kernel
theorem dX4_wouldLend_4 : decode cX4_wouldLend 4 = .ok (.bipush 10, 2) := by decide +kernel
theorem dX4_wouldLend_6 : decode cX4_wouldLend 6 = .ok (.if_icmp .ge 19, 3) := by decide +kernel
theorem dX4_wouldLend_9 : decode cX4_wouldLend 9 = .ok (.aload_n 0, 1) := by decide +kernel
theorem dX4_wouldLend_10 : decode cX4_wouldLend 10 = .ok (.aload_n 1, 1) := by decide +kernel
theorem dX4_wouldLend_11 : decode cX4_wouldLend 11 = .ok (.iload_n 2, 1) := by decide +kernel
theorem dX4_wouldLend_12 : decode cX4_wouldLend 12 = .ok (.iload_n 3, 1) := by decide +kernel
theorem dX4_wouldLend_13 : decode cX4_wouldLend 13 = .ok (.iload 4, 2) := by decide +kernel
theorem dX4_wouldLend_15 : decode cX4_wouldLend 15 = .ok (.invokevirtual 42, 3) := by decide +kernel
theorem dX4_wouldLend_18 : decode cX4_wouldLend 18 = .ok (.ifCond .eq 7, 3) := by decide +kernel
theorem dX4_wouldLend_21 : decode cX4_wouldLend 21 = .ok (.iconst 1, 1) := by decide +kernel
theorem dX4_wouldLend_22 : decode cX4_wouldLend 22 = .ok (.goto 4, 3) := by decide +kernel
theorem dX4_wouldLend_25 : decode cX4_wouldLend 25 = .ok (.iconst 0, 1) := by decide +kernel
theorem dX4_wouldLend_26 : decode cX4_wouldLend 26 = .ok (.ireturn, 1) := by decide +kernel
theorem dX4_owes_0 : decode cX4_owes 0 = .ok (.aload_n 1, 1) := by decide +kernel
theorem dX4_owes_1 : decode cX4_owes 1 = .ok (.iload_n 2, 1) := by decide +kernel
theorem dX4_owes_2 : decode cX4_owes 2 = .ok (.iconst 0, 1) := by decide +kernel
theorem dX4_owes_3 : decode cX4_owes 3 = .ok (.invokevirtual 46, 3) := by decide +kernel
theorem dX4_owes_6 : decode cX4_owes 6 = .ok (.istore_n 3, 1) := by decide +kernel
theorem dX4_owes_7 : decode cX4_owes 7 = .ok (.aload_n 1, 1) := by decide +kernel
theorem dX4_owes_8 : decode cX4_owes 8 = .ok (.iload_n 2, 1) := by decide +kernel
theorem dX4_owes_9 : decode cX4_owes 9 = .ok (.iconst 1, 1) := by decide +kernel
theorem dX4_owes_10 : decode cX4_owes 10 = .ok (.invokevirtual 46, 3) := by decide +kernel
theorem dX4_owes_13 : decode cX4_owes 13 = .ok (.istore 4, 2) := by decide +kernel
theorem dX4_owes_15 : decode cX4_owes 15 = .ok (.aload_n 1, 1) := by decide +kernel
theorem dX4_owes_16 : decode cX4_owes 16 = .ok (.invokevirtual 50, 3) := by decide +kernel
theorem dX4_owes_19 : decode cX4_owes 19 = .ok (.aload_n 1, 1) := by decide +kernel
theorem dX4_owes_20 : decode cX4_owes 20 = .ok (.iload_n 2, 1) := by decide +kernel
theorem dX4_owes_21 : decode cX4_owes 21 = .ok (.iconst 3, 1) := by decide +kernel
theorem dX4_owes_22 : decode cX4_owes 22 = .ok (.invokevirtual 46, 3) := by decide +kernel
theorem dX4_owes_25 : decode cX4_owes 25 = .ok (.isub, 1) := by decide +kernel
theorem dX4_owes_26 : decode cX4_owes 26 = .ok (.istore 5, 2) := by decide +kernel
theorem dX4_owes_28 : decode cX4_owes 28 = .ok (.aload_n 0, 1) := by decide +kernel
theorem dX4_owes_29 : decode cX4_owes 29 = .ok (.getfield 15, 3) := by decide +kernel
theorem dX4_owes_32 : decode cX4_owes 32 = .ok (.aload_n 1, 1) := by decide +kernel
theorem dX4_owes_33 : decode cX4_owes 33 = .ok (.iload_n 2, 1) := by decide +kernel
theorem dX4_owes_34 : decode cX4_owes 34 = .ok (.iconst 2, 1) := by decide +kernel
theorem dX4_owes_35 : decode cX4_owes 35 = .ok (.invokevirtual 46, 3) := by decide +kernel
theorem dX4_owes_38 : decode cX4_owes 38 = .ok (.iload 5, 2) := by decide +kernel
theorem dX4_owes_40 : decode cX4_owes 40 = .ok (.aload_n 0, 1) := by decide +kernel
theorem dX4_owes_41 : decode cX4_owes 41 = .ok (.getfield 9, 3) := by decide +kernel
theorem dX4_owes_44 : decode cX4_owes 44 = .ok (.iload 4, 2) := by decide +kernel
theorem dX4_owes_46 : decode cX4_owes 46 = .ok (.invokevirtual 53, 3) := by decide +kernel
theorem dX4_owes_49 : decode cX4_owes 49 = .ok (.aload_n 0, 1) := by decide +kernel
theorem dX4_owes_50 : decode cX4_owes 50 = .ok (.iload_n 3, 1) := by decide +kernel
theorem dX4_owes_51 : decode cX4_owes 51 = .ok (.iload 4, 2) := by decide +kernel
theorem dX4_owes_53 : decode cX4_owes 53 = .ok (.invokevirtual 56, 3) := by decide +kernel
theorem dX4_owes_56 : decode cX4_owes 56 = .ok (.invokevirtual 59, 3) := by decide +kernel
theorem dX4_owes_59 : decode cX4_owes 59 = .ok (.aload_n 0, 1) := by decide +kernel
theorem dX4_owes_60 : decode cX4_owes 60 = .ok (.getfield 15, 3) := by decide +kernel
theorem dX4_owes_63 : decode cX4_owes 63 = .ok (.aload_n 1, 1) := by decide +kernel
theorem dX4_owes_64 : decode cX4_owes 64 = .ok (.iload_n 3, 1) := by decide +kernel
theorem dX4_owes_65 : decode cX4_owes 65 = .ok (.invokevirtual 29, 3) := by decide +kernel
theorem dX4_owes_68 : decode cX4_owes 68 = .ok (.aload_n 1, 1) := by decide +kernel
theorem dX4_owes_69 : decode cX4_owes 69 = .ok (.iload 4, 2) := by decide +kernel
theorem dX4_owes_71 : decode cX4_owes 71 = .ok (.invokevirtual 25, 3) := by decide +kernel
theorem dX4_owes_74 : decode cX4_owes 74 = .ok (.aload_n 1, 1) := by decide +kernel
theorem dX4_owes_75 : decode cX4_owes 75 = .ok (.invokevirtual 50, 3) := by decide +kernel
theorem dX4_owes_78 : decode cX4_owes 78 = .ok (.iload_n 3, 1) := by decide +kernel
theorem dX4_owes_79 : decode cX4_owes 79 = .ok (.invokevirtual 65, 3) := by decide +kernel
theorem dX4_owes_82 : decode cX4_owes 82 = .ok (.aload_n 0, 1) := by decide +kernel
theorem dX4_owes_83 : decode cX4_owes 83 = .ok (.getfield 15, 3) := by decide +kernel
theorem dX4_owes_86 : decode cX4_owes 86 = .ok (.invokevirtual 68, 3) := by decide +kernel
theorem dX4_owes_89 : decode cX4_owes 89 = .ok (.ireturn, 1) := by decide +kernel
theorem dX4_wouldOwe_0 : decode cX4_wouldOwe 0 = .ok (.aload_n 0, 1) := by decide +kernel
theorem dX4_wouldOwe_1 : decode cX4_wouldOwe 1 = .ok (.getfield 15, 3) := by decide +kernel
theorem dX4_wouldOwe_4 : decode cX4_wouldOwe 4 = .ok (.iload 4, 2) := by decide +kernel
theorem dX4_wouldOwe_6 : decode cX4_wouldOwe 6 = .ok (.iload 5, 2) := by decide +kernel
theorem dX4_wouldOwe_8 : decode cX4_wouldOwe 8 = .ok (.aload_n 0, 1) := by decide +kernel
theorem dX4_wouldOwe_9 : decode cX4_wouldOwe 9 = .ok (.getfield 9, 3) := by decide +kernel
theorem dX4_wouldOwe_12 : decode cX4_wouldOwe 12 = .ok (.iload_n 3, 1) := by decide +kernel
theorem dX4_wouldOwe_13 : decode cX4_wouldOwe 13 = .ok (.invokevirtual 53, 3) := by decide +kernel
theorem dX4_wouldOwe_16 : decode cX4_wouldOwe 16 = .ok (.aload_n 0, 1) := by decide +kernel
theorem dX4_wouldOwe_17 : decode cX4_wouldOwe 17 = .ok (.iload_n 2, 1) := by decide +kernel
theorem dX4_wouldOwe_18 : decode cX4_wouldOwe 18 = .ok (.iload_n 3, 1) := by decide +kernel
theorem dX4_wouldOwe_19 : decode cX4_wouldOwe 19 = .ok (.invokevirtual 56, 3) := by decide +kernel
theorem dX4_wouldOwe_22 : decode cX4_wouldOwe 22 = .ok (.invokevirtual 59, 3) := by decide +kernel
theorem dX4_wouldOwe_25 : decode cX4_wouldOwe 25 = .ok (.aload_n 0, 1) := by decide +kernel
theorem dX4_wouldOwe_26 : decode cX4_wouldOwe 26 = .ok (.getfield 15, 3) := by decide +kernel
theorem dX4_wouldOwe_29 : decode cX4_wouldOwe 29 = .ok (.aload_n 1, 1) := by decide +kernel
theorem dX4_wouldOwe_30 : decode cX4_wouldOwe 30 = .ok (.iload_n 2, 1) := by decide +kernel
theorem dX4_wouldOwe_31 : decode cX4_wouldOwe 31 = .ok (.invokevirtual 29, 3) := by decide +kernel
theorem dX4_wouldOwe_34 : decode cX4_wouldOwe 34 = .ok (.aload_n 1, 1) := by decide +kernel
theorem dX4_wouldOwe_35 : decode cX4_wouldOwe 35 = .ok (.iload_n 3, 1) := by decide +kernel
theorem dX4_wouldOwe_36 : decode cX4_wouldOwe 36 = .ok (.invokevirtual 25, 3) := by decide +kernel
theorem dX4_wouldOwe_39 : decode cX4_wouldOwe 39 = .ok (.iload 4, 2) := by decide +kernel
theorem dX4_wouldOwe_41 : decode cX4_wouldOwe 41 = .ok (.isub, 1) := by decide +kernel
theorem dX4_wouldOwe_42 : decode cX4_wouldOwe 42 = .ok (.aload_n 1, 1) := by decide +kernel
theorem dX4_wouldOwe_43 : decode cX4_wouldOwe 43 = .ok (.invokevirtual 50, 3) := by decide +kernel
theorem dX4_wouldOwe_46 : decode cX4_wouldOwe 46 = .ok (.iload 5, 2) := by decide +kernel
theorem dX4_wouldOwe_48 : decode cX4_wouldOwe 48 = .ok (.iadd, 1) := by decide +kernel
theorem dX4_wouldOwe_49 : decode cX4_wouldOwe 49 = .ok (.iload_n 2, 1) := by decide +kernel
theorem dX4_wouldOwe_50 : decode cX4_wouldOwe 50 = .ok (.invokevirtual 65, 3) := by decide +kernel
theorem dX4_wouldOwe_53 : decode cX4_wouldOwe 53 = .ok (.aload_n 0, 1) := by decide +kernel
theorem dX4_wouldOwe_54 : decode cX4_wouldOwe 54 = .ok (.getfield 15, 3) := by decide +kernel
theorem dX4_wouldOwe_57 : decode cX4_wouldOwe 57 = .ok (.invokevirtual 68, 3) := by decide +kernel
theorem dX4_wouldOwe_60 : decode cX4_wouldOwe 60 = .ok (.ireturn, 1) := by decide +kernel
theorem dX4_kinAsNumber_0 : decode cX4_kinAsNumber 0 = .ok (.aload_n 0, 1) := by decide +kernel
theorem dX4_kinAsNumber_1 : decode cX4_kinAsNumber 1 = .ok (.getfield 9, 3) := by decide +kernel
theorem dX4_kinAsNumber_4 : decode cX4_kinAsNumber 4 = .ok (.iload_n 1, 1) := by decide +kernel
theorem dX4_kinAsNumber_5 : decode cX4_kinAsNumber 5 = .ok (.iload_n 2, 1) := by decide +kernel
theorem dX4_kinAsNumber_6 : decode cX4_kinAsNumber 6 = .ok (.invokevirtual 32, 3) := by decide +kernel
theorem dX4_kinAsNumber_9 : decode cX4_kinAsNumber 9 = .ok (.ifCond .eq 7, 3) := by decide +kernel
theorem dX4_kinAsNumber_12 : decode cX4_kinAsNumber 12 = .ok (.iconst 1, 1) := by decide +kernel
theorem dX4_kinAsNumber_13 : decode cX4_kinAsNumber 13 = .ok (.goto 4, 3) := by decide +kernel
theorem dX4_kinAsNumber_16 : decode cX4_kinAsNumber 16 = .ok (.iconst 0, 1) := by decide +kernel
theorem dX4_kinAsNumber_17 : decode cX4_kinAsNumber 17 = .ok (.ireturn, 1) := by decide +kernel
theorem dX4_owesInAll_0 : decode cX4_owesInAll 0 = .ok (.iconst 0, 1) := by decide +kernel
theorem dX4_owesInAll_1 : decode cX4_owesInAll 1 = .ok (.istore_n 3, 1) := by decide +kernel
theorem dX4_owesInAll_2 : decode cX4_owesInAll 2 = .ok (.iconst 0, 1) := by decide +kernel
theorem dX4_owesInAll_3 : decode cX4_owesInAll 3 = .ok (.istore 4, 2) := by decide +kernel
theorem dX4_owesInAll_5 : decode cX4_owesInAll 5 = .ok (.iload 4, 2) := by decide +kernel
theorem dX4_owesInAll_7 : decode cX4_owesInAll 7 = .ok (.aload_n 1, 1) := by decide +kernel
theorem dX4_owesInAll_8 : decode cX4_owesInAll 8 = .ok (.invokevirtual 38, 3) := by decide +kernel
theorem dX4_owesInAll_11 : decode cX4_owesInAll 11 = .ok (.if_icmp .ge 35, 3) := by decide +kernel
theorem dX4_owesInAll_14 : decode cX4_owesInAll 14 = .ok (.iload_n 2, 1) := by decide +kernel
theorem dX4_owesInAll_15 : decode cX4_owesInAll 15 = .ok (.iconst (-1), 1) := by decide +kernel
theorem dX4_owesInAll_16 : decode cX4_owesInAll 16 = .ok (.if_icmp .eq 14, 3) := by decide +kernel
theorem dX4_owesInAll_19 : decode cX4_owesInAll 19 = .ok (.aload_n 1, 1) := by decide +kernel
theorem dX4_owesInAll_20 : decode cX4_owesInAll 20 = .ok (.iload 4, 2) := by decide +kernel
theorem dX4_owesInAll_22 : decode cX4_owesInAll 22 = .ok (.iconst 0, 1) := by decide +kernel
theorem dX4_owesInAll_23 : decode cX4_owesInAll 23 = .ok (.invokevirtual 46, 3) := by decide +kernel
theorem dX4_owesInAll_26 : decode cX4_owesInAll 26 = .ok (.iload_n 2, 1) := by decide +kernel
theorem dX4_owesInAll_27 : decode cX4_owesInAll 27 = .ok (.if_icmp .ne 13, 3) := by decide +kernel
theorem dX4_owesInAll_30 : decode cX4_owesInAll 30 = .ok (.iload_n 3, 1) := by decide +kernel
theorem dX4_owesInAll_31 : decode cX4_owesInAll 31 = .ok (.aload_n 0, 1) := by decide +kernel
theorem dX4_owesInAll_32 : decode cX4_owesInAll 32 = .ok (.aload_n 1, 1) := by decide +kernel
theorem dX4_owesInAll_33 : decode cX4_owesInAll 33 = .ok (.iload 4, 2) := by decide +kernel
theorem dX4_owesInAll_35 : decode cX4_owesInAll 35 = .ok (.invokevirtual 71, 3) := by decide +kernel
theorem dX4_owesInAll_38 : decode cX4_owesInAll 38 = .ok (.iadd, 1) := by decide +kernel
theorem dX4_owesInAll_39 : decode cX4_owesInAll 39 = .ok (.istore_n 3, 1) := by decide +kernel
theorem dX4_owesInAll_40 : decode cX4_owesInAll 40 = .ok (.iinc 4 1, 3) := by decide +kernel
theorem dX4_owesInAll_43 : decode cX4_owesInAll 43 = .ok (.goto (-38), 3) := by decide +kernel
theorem dX4_owesInAll_46 : decode cX4_owesInAll 46 = .ok (.iload_n 3, 1) := by decide +kernel
theorem dX4_owesInAll_47 : decode cX4_owesInAll 47 = .ok (.ireturn, 1) := by decide +kernel
theorem dX4_lend_0 : decode cX4_lend 0 = .ok (.aload_n 0, 1) := by decide +kernel
theorem dX4_lend_1 : decode cX4_lend 1 = .ok (.aload_n 1, 1) := by decide +kernel
theorem dX4_lend_2 : decode cX4_lend 2 = .ok (.iload_n 2, 1) := by decide +kernel
theorem dX4_lend_3 : decode cX4_lend 3 = .ok (.iload_n 3, 1) := by decide +kernel
theorem dX4_lend_4 : decode cX4_lend 4 = .ok (.iload 4, 2) := by decide +kernel
theorem dX4_lend_6 : decode cX4_lend 6 = .ok (.invokevirtual 74, 3) := by decide +kernel
theorem dX4_lend_9 : decode cX4_lend 9 = .ok (.ifCond .ne 5, 3) := by decide +kernel
theorem dX4_lend_12 : decode cX4_lend 12 = .ok (.iconst 0, 1) := by decide +kernel
theorem dX4_lend_13 : decode cX4_lend 13 = .ok (.ireturn, 1) := by decide +kernel
theorem dX4_lend_14 : decode cX4_lend 14 = .ok (.aload_n 1, 1) := by decide +kernel
theorem dX4_lend_15 : decode cX4_lend 15 = .ok (.iload_n 3, 1) := by decide +kernel
theorem dX4_lend_16 : decode cX4_lend 16 = .ok (.aload_n 1, 1) := by decide +kernel
theorem dX4_lend_17 : decode cX4_lend 17 = .ok (.iload_n 3, 1) := by decide +kernel
theorem dX4_lend_18 : decode cX4_lend 18 = .ok (.invokevirtual 25, 3) := by decide +kernel
theorem dX4_lend_21 : decode cX4_lend 21 = .ok (.iload 4, 2) := by decide +kernel
theorem dX4_lend_23 : decode cX4_lend 23 = .ok (.isub, 1) := by decide +kernel
theorem dX4_lend_24 : decode cX4_lend 24 = .ok (.invokevirtual 77, 3) := by decide +kernel
theorem dX4_lend_27 : decode cX4_lend 27 = .ok (.aload_n 1, 1) := by decide +kernel
theorem dX4_lend_28 : decode cX4_lend 28 = .ok (.iload_n 2, 1) := by decide +kernel
theorem dX4_lend_29 : decode cX4_lend 29 = .ok (.iload_n 3, 1) := by decide +kernel
theorem dX4_lend_30 : decode cX4_lend 30 = .ok (.iload 4, 2) := by decide +kernel
theorem dX4_lend_32 : decode cX4_lend 32 = .ok (.iload 5, 2) := by decide +kernel
theorem dX4_lend_34 : decode cX4_lend 34 = .ok (.invokevirtual 81, 3) := by decide +kernel
theorem dX4_lend_37 : decode cX4_lend 37 = .ok (.iconst 1, 1) := by decide +kernel
theorem dX4_lend_38 : decode cX4_lend 38 = .ok (.ireturn, 1) := by decide +kernel
theorem dX4_pay_0 : decode cX4_pay 0 = .ok (.aload_n 1, 1) := by decide +kernel
theorem dX4_pay_1 : decode cX4_pay 1 = .ok (.iload_n 2, 1) := by decide +kernel
theorem dX4_pay_2 : decode cX4_pay 2 = .ok (.invokevirtual 84, 3) := by decide +kernel
theorem dX4_pay_5 : decode cX4_pay 5 = .ok (.ifCond .ne 5, 3) := by decide +kernel
theorem dX4_pay_8 : decode cX4_pay 8 = .ok (.iconst 0, 1) := by decide +kernel
theorem dX4_pay_9 : decode cX4_pay 9 = .ok (.ireturn, 1) := by decide +kernel
theorem dX4_pay_10 : decode cX4_pay 10 = .ok (.aload_n 1, 1) := by decide +kernel
theorem dX4_pay_11 : decode cX4_pay 11 = .ok (.iload_n 2, 1) := by decide +kernel
theorem dX4_pay_12 : decode cX4_pay 12 = .ok (.iconst 0, 1) := by decide +kernel
theorem dX4_pay_13 : decode cX4_pay 13 = .ok (.invokevirtual 46, 3) := by decide +kernel
theorem dX4_pay_16 : decode cX4_pay 16 = .ok (.istore_n 3, 1) := by decide +kernel
theorem dX4_pay_17 : decode cX4_pay 17 = .ok (.aload_n 1, 1) := by decide +kernel
theorem dX4_pay_18 : decode cX4_pay 18 = .ok (.iload_n 2, 1) := by decide +kernel
theorem dX4_pay_19 : decode cX4_pay 19 = .ok (.iconst 1, 1) := by decide +kernel
theorem dX4_pay_20 : decode cX4_pay 20 = .ok (.invokevirtual 46, 3) := by decide +kernel
theorem dX4_pay_23 : decode cX4_pay 23 = .ok (.istore 4, 2) := by decide +kernel
theorem dX4_pay_25 : decode cX4_pay 25 = .ok (.aload_n 0, 1) := by decide +kernel
theorem dX4_pay_26 : decode cX4_pay 26 = .ok (.aload_n 1, 1) := by decide +kernel
theorem dX4_pay_27 : decode cX4_pay 27 = .ok (.iload_n 2, 1) := by decide +kernel
theorem dX4_pay_28 : decode cX4_pay 28 = .ok (.invokevirtual 71, 3) := by decide +kernel
theorem dX4_pay_31 : decode cX4_pay 31 = .ok (.istore 5, 2) := by decide +kernel
theorem dX4_pay_33 : decode cX4_pay 33 = .ok (.iload 5, 2) := by decide +kernel
theorem dX4_pay_35 : decode cX4_pay 35 = .ok (.aload_n 1, 1) := by decide +kernel
theorem dX4_pay_36 : decode cX4_pay 36 = .ok (.iload_n 3, 1) := by decide +kernel
theorem dX4_pay_37 : decode cX4_pay 37 = .ok (.invokevirtual 87, 3) := by decide +kernel
theorem dX4_pay_40 : decode cX4_pay 40 = .ok (.if_icmp .le 5, 3) := by decide +kernel
theorem dX4_pay_43 : decode cX4_pay 43 = .ok (.iconst 0, 1) := by decide +kernel
theorem dX4_pay_44 : decode cX4_pay 44 = .ok (.ireturn, 1) := by decide +kernel
theorem dX4_pay_45 : decode cX4_pay 45 = .ok (.aload_n 1, 1) := by decide +kernel
theorem dX4_pay_46 : decode cX4_pay 46 = .ok (.iload_n 3, 1) := by decide +kernel
theorem dX4_pay_47 : decode cX4_pay 47 = .ok (.aload_n 1, 1) := by decide +kernel
theorem dX4_pay_48 : decode cX4_pay 48 = .ok (.iload_n 3, 1) := by decide +kernel
theorem dX4_pay_49 : decode cX4_pay 49 = .ok (.invokevirtual 87, 3) := by decide +kernel
theorem dX4_pay_52 : decode cX4_pay 52 = .ok (.iload 5, 2) := by decide +kernel
theorem dX4_pay_54 : decode cX4_pay 54 = .ok (.isub, 1) := by decide +kernel
theorem dX4_pay_55 : decode cX4_pay 55 = .ok (.invokevirtual 90, 3) := by decide +kernel
theorem dX4_pay_58 : decode cX4_pay 58 = .ok (.aload_n 1, 1) := by decide +kernel
theorem dX4_pay_59 : decode cX4_pay 59 = .ok (.iload 4, 2) := by decide +kernel
theorem dX4_pay_61 : decode cX4_pay 61 = .ok (.bipush 99, 2) := by decide +kernel
theorem dX4_pay_63 : decode cX4_pay 63 = .ok (.aload_n 1, 1) := by decide +kernel
theorem dX4_pay_64 : decode cX4_pay 64 = .ok (.iload 4, 2) := by decide +kernel
theorem dX4_pay_66 : decode cX4_pay 66 = .ok (.invokevirtual 25, 3) := by decide +kernel
theorem dX4_pay_69 : decode cX4_pay 69 = .ok (.iload 5, 2) := by decide +kernel
theorem dX4_pay_71 : decode cX4_pay 71 = .ok (.iadd, 1) := by decide +kernel
theorem dX4_pay_72 : decode cX4_pay 72 = .ok (.invokestatic 93, 3) := by decide +kernel
theorem dX4_pay_75 : decode cX4_pay 75 = .ok (.invokevirtual 77, 3) := by decide +kernel
theorem dX4_pay_78 : decode cX4_pay 78 = .ok (.aload_n 1, 1) := by decide +kernel
theorem dX4_pay_79 : decode cX4_pay 79 = .ok (.iload_n 2, 1) := by decide +kernel
theorem dX4_pay_80 : decode cX4_pay 80 = .ok (.invokevirtual 98, 3) := by decide +kernel
theorem dX4_pay_83 : decode cX4_pay 83 = .ok (.ifCond .ne 20, 3) := by decide +kernel
theorem dX4_pay_86 : decode cX4_pay 86 = .ok (.aload_n 1, 1) := by decide +kernel
theorem dX4_pay_87 : decode cX4_pay 87 = .ok (.iload_n 3, 1) := by decide +kernel
theorem dX4_pay_88 : decode cX4_pay 88 = .ok (.bipush 9, 2) := by decide +kernel
theorem dX4_pay_90 : decode cX4_pay 90 = .ok (.aload_n 1, 1) := by decide +kernel
theorem dX4_pay_91 : decode cX4_pay 91 = .ok (.iload_n 3, 1) := by decide +kernel
theorem dX4_pay_92 : decode cX4_pay 92 = .ok (.invokevirtual 29, 3) := by decide +kernel
theorem dX4_pay_95 : decode cX4_pay 95 = .ok (.iconst 1, 1) := by decide +kernel
theorem dX4_pay_96 : decode cX4_pay 96 = .ok (.iadd, 1) := by decide +kernel
theorem dX4_pay_97 : decode cX4_pay 97 = .ok (.invokestatic 93, 3) := by decide +kernel
theorem dX4_pay_100 : decode cX4_pay 100 = .ok (.invokevirtual 101, 3) := by decide +kernel
theorem dX4_pay_103 : decode cX4_pay 103 = .ok (.aload_n 1, 1) := by decide +kernel
theorem dX4_pay_104 : decode cX4_pay 104 = .ok (.iload_n 2, 1) := by decide +kernel
theorem dX4_pay_105 : decode cX4_pay 105 = .ok (.invokevirtual 104, 3) := by decide +kernel
theorem dX4_pay_108 : decode cX4_pay 108 = .ok (.iconst 1, 1) := by decide +kernel
theorem dX4_pay_109 : decode cX4_pay 109 = .ok (.ireturn, 1) := by decide +kernel
theorem dX4_earn_0 : decode cX4_earn 0 = .ok (.aload_n 1, 1) := by decide +kernel
theorem dX4_earn_1 : decode cX4_earn 1 = .ok (.iload_n 2, 1) := by decide +kernel
theorem dX4_earn_2 : decode cX4_earn 2 = .ok (.invokevirtual 87, 3) := by decide +kernel
theorem dX4_earn_5 : decode cX4_earn 5 = .ok (.sipush 300, 3) := by decide +kernel
theorem dX4_earn_8 : decode cX4_earn 8 = .ok (.if_icmp .lt 5, 3) := by decide +kernel
theorem dX4_earn_11 : decode cX4_earn 11 = .ok (.iconst 0, 1) := by decide +kernel
theorem dX4_earn_12 : decode cX4_earn 12 = .ok (.ireturn, 1) := by decide +kernel
theorem dX4_earn_13 : decode cX4_earn 13 = .ok (.aload_n 1, 1) := by decide +kernel
theorem dX4_earn_14 : decode cX4_earn 14 = .ok (.iload_n 2, 1) := by decide +kernel
theorem dX4_earn_15 : decode cX4_earn 15 = .ok (.sipush 300, 3) := by decide +kernel
theorem dX4_earn_18 : decode cX4_earn 18 = .ok (.aload_n 1, 1) := by decide +kernel
theorem dX4_earn_19 : decode cX4_earn 19 = .ok (.iload_n 2, 1) := by decide +kernel
theorem dX4_earn_20 : decode cX4_earn 20 = .ok (.invokevirtual 87, 3) := by decide +kernel
theorem dX4_earn_23 : decode cX4_earn 23 = .ok (.iload_n 3, 1) := by decide +kernel
theorem dX4_earn_24 : decode cX4_earn 24 = .ok (.iadd, 1) := by decide +kernel
theorem dX4_earn_25 : decode cX4_earn 25 = .ok (.invokestatic 93, 3) := by decide +kernel
theorem dX4_earn_28 : decode cX4_earn 28 = .ok (.invokevirtual 90, 3) := by decide +kernel
theorem dX4_earn_31 : decode cX4_earn 31 = .ok (.iconst 1, 1) := by decide +kernel
theorem dX4_earn_32 : decode cX4_earn 32 = .ok (.ireturn, 1) := by decide +kernel
theorem dX4_seal_0 : decode cX4_seal 0 = .ok (.aload_n 1, 1) := by decide +kernel
theorem dX4_seal_1 : decode cX4_seal 1 = .ok (.iload_n 2, 1) := by decide +kernel
theorem dX4_seal_2 : decode cX4_seal 2 = .ok (.invokevirtual 19, 3) := by decide +kernel
theorem dX4_seal_5 : decode cX4_seal 5 = .ok (.ifCond .ne 7, 3) := by decide +kernel
theorem dX4_seal_8 : decode cX4_seal 8 = .ok (.iconst 1, 1) := by decide +kernel
theorem dX4_seal_9 : decode cX4_seal 9 = .ok (.goto 4, 3) := by decide +kernel
theorem dX4_seal_12 : decode cX4_seal 12 = .ok (.iconst 0, 1) := by decide +kernel
theorem dX4_seal_13 : decode cX4_seal 13 = .ok (.istore_n 3, 1) := by decide +kernel
theorem dX4_seal_14 : decode cX4_seal 14 = .ok (.aload_n 1, 1) := by decide +kernel
theorem dX4_seal_15 : decode cX4_seal 15 = .ok (.iload_n 2, 1) := by decide +kernel
theorem dX4_seal_16 : decode cX4_seal 16 = .ok (.iconst 1, 1) := by decide +kernel
theorem dX4_seal_17 : decode cX4_seal 17 = .ok (.invokevirtual 108, 3) := by decide +kernel
theorem dX4_seal_20 : decode cX4_seal 20 = .ok (.iload_n 3, 1) := by decide +kernel
theorem dX4_seal_21 : decode cX4_seal 21 = .ok (.ireturn, 1) := by decide +kernel
theorem dX4_open_0 : decode cX4_open 0 = .ok (.aload_n 1, 1) := by decide +kernel
theorem dX4_open_1 : decode cX4_open 1 = .ok (.iload_n 2, 1) := by decide +kernel
theorem dX4_open_2 : decode cX4_open 2 = .ok (.invokevirtual 19, 3) := by decide +kernel
theorem dX4_open_5 : decode cX4_open 5 = .ok (.istore_n 3, 1) := by decide +kernel
theorem dX4_open_6 : decode cX4_open 6 = .ok (.aload_n 1, 1) := by decide +kernel
theorem dX4_open_7 : decode cX4_open 7 = .ok (.iload_n 2, 1) := by decide +kernel
theorem dX4_open_8 : decode cX4_open 8 = .ok (.iconst 0, 1) := by decide +kernel
theorem dX4_open_9 : decode cX4_open 9 = .ok (.invokevirtual 108, 3) := by decide +kernel
theorem dX4_open_12 : decode cX4_open 12 = .ok (.iload_n 3, 1) := by decide +kernel
theorem dX4_open_13 : decode cX4_open 13 = .ok (.ireturn, 1) := by decide +kernel
theorem dX4_doNight_0 : decode cX4_doNight 0 = .ok (.aload_n 1, 1) := by decide +kernel
theorem dX4_doNight_1 : decode cX4_doNight 1 = .ok (.invokevirtual 50, 3) := by decide +kernel
theorem dX4_doNight_4 : decode cX4_doNight 4 = .ok (.sipush 400, 3) := by decide +kernel
theorem dX4_doNight_7 : decode cX4_doNight 7 = .ok (.if_icmp .lt 5, 3) := by decide +kernel
theorem dX4_doNight_10 : decode cX4_doNight 10 = .ok (.iconst 0, 1) := by decide +kernel
theorem dX4_doNight_11 : decode cX4_doNight 11 = .ok (.ireturn, 1) := by decide +kernel
theorem dX4_doNight_12 : decode cX4_doNight 12 = .ok (.aload_n 0, 1) := by decide +kernel
theorem dX4_doNight_13 : decode cX4_doNight 13 = .ok (.aload_n 1, 1) := by decide +kernel
theorem dX4_doNight_14 : decode cX4_doNight 14 = .ok (.invokevirtual 112, 3) := by decide +kernel
theorem dX4_doNight_17 : decode cX4_doNight 17 = .ok (.iconst 1, 1) := by decide +kernel
theorem dX4_doNight_18 : decode cX4_doNight 18 = .ok (.ireturn, 1) := by decide +kernel
theorem dX4_passNight_0 : decode cX4_passNight 0 = .ok (.aload_n 1, 1) := by decide +kernel
theorem dX4_passNight_1 : decode cX4_passNight 1 = .ok (.invokevirtual 116, 3) := by decide +kernel
theorem dX4_passNight_4 : decode cX4_passNight 4 = .ok (.iconst 0, 1) := by decide +kernel
theorem dX4_passNight_5 : decode cX4_passNight 5 = .ok (.istore_n 2, 1) := by decide +kernel
theorem dX4_passNight_6 : decode cX4_passNight 6 = .ok (.iload_n 2, 1) := by decide +kernel
theorem dX4_passNight_7 : decode cX4_passNight 7 = .ok (.aload_n 1, 1) := by decide +kernel
theorem dX4_passNight_8 : decode cX4_passNight 8 = .ok (.invokevirtual 38, 3) := by decide +kernel
theorem dX4_passNight_11 : decode cX4_passNight 11 = .ok (.if_icmp .ge 69, 3) := by decide +kernel
theorem dX4_passNight_14 : decode cX4_passNight 14 = .ok (.aload_n 1, 1) := by decide +kernel
theorem dX4_passNight_15 : decode cX4_passNight 15 = .ok (.iload_n 2, 1) := by decide +kernel
theorem dX4_passNight_16 : decode cX4_passNight 16 = .ok (.iconst 4, 1) := by decide +kernel
theorem dX4_passNight_17 : decode cX4_passNight 17 = .ok (.invokevirtual 46, 3) := by decide +kernel
theorem dX4_passNight_20 : decode cX4_passNight 20 = .ok (.aload_n 1, 1) := by decide +kernel
theorem dX4_passNight_21 : decode cX4_passNight 21 = .ok (.invokevirtual 50, 3) := by decide +kernel
theorem dX4_passNight_24 : decode cX4_passNight 24 = .ok (.if_icmp .ge 50, 3) := by decide +kernel
theorem dX4_passNight_27 : decode cX4_passNight 27 = .ok (.aload_n 1, 1) := by decide +kernel
theorem dX4_passNight_28 : decode cX4_passNight 28 = .ok (.iload_n 2, 1) := by decide +kernel
theorem dX4_passNight_29 : decode cX4_passNight 29 = .ok (.invokevirtual 98, 3) := by decide +kernel
theorem dX4_passNight_32 : decode cX4_passNight 32 = .ok (.ifCond .ne 42, 3) := by decide +kernel
theorem dX4_passNight_35 : decode cX4_passNight 35 = .ok (.aload_n 1, 1) := by decide +kernel
theorem dX4_passNight_36 : decode cX4_passNight 36 = .ok (.iload_n 2, 1) := by decide +kernel
theorem dX4_passNight_37 : decode cX4_passNight 37 = .ok (.iconst 0, 1) := by decide +kernel
theorem dX4_passNight_38 : decode cX4_passNight 38 = .ok (.invokevirtual 46, 3) := by decide +kernel
theorem dX4_passNight_41 : decode cX4_passNight 41 = .ok (.istore_n 3, 1) := by decide +kernel
theorem dX4_passNight_42 : decode cX4_passNight 42 = .ok (.aload_n 1, 1) := by decide +kernel
theorem dX4_passNight_43 : decode cX4_passNight 43 = .ok (.iload_n 2, 1) := by decide +kernel
theorem dX4_passNight_44 : decode cX4_passNight 44 = .ok (.invokevirtual 119, 3) := by decide +kernel
theorem dX4_passNight_47 : decode cX4_passNight 47 = .ok (.aload_n 1, 1) := by decide +kernel
theorem dX4_passNight_48 : decode cX4_passNight 48 = .ok (.iload_n 3, 1) := by decide +kernel
theorem dX4_passNight_49 : decode cX4_passNight 49 = .ok (.iconst 0, 1) := by decide +kernel
theorem dX4_passNight_50 : decode cX4_passNight 50 = .ok (.aload_n 1, 1) := by decide +kernel
theorem dX4_passNight_51 : decode cX4_passNight 51 = .ok (.iload_n 3, 1) := by decide +kernel
theorem dX4_passNight_52 : decode cX4_passNight 52 = .ok (.invokevirtual 29, 3) := by decide +kernel
theorem dX4_passNight_55 : decode cX4_passNight 55 = .ok (.iconst 1, 1) := by decide +kernel
theorem dX4_passNight_56 : decode cX4_passNight 56 = .ok (.isub, 1) := by decide +kernel
theorem dX4_passNight_57 : decode cX4_passNight 57 = .ok (.invokestatic 122, 3) := by decide +kernel
theorem dX4_passNight_60 : decode cX4_passNight 60 = .ok (.invokevirtual 101, 3) := by decide +kernel
theorem dX4_passNight_63 : decode cX4_passNight 63 = .ok (.aload_n 1, 1) := by decide +kernel
theorem dX4_passNight_64 : decode cX4_passNight 64 = .ok (.aload_n 1, 1) := by decide +kernel
theorem dX4_passNight_65 : decode cX4_passNight 65 = .ok (.iload_n 2, 1) := by decide +kernel
theorem dX4_passNight_66 : decode cX4_passNight 66 = .ok (.iconst 1, 1) := by decide +kernel
theorem dX4_passNight_67 : decode cX4_passNight 67 = .ok (.invokevirtual 46, 3) := by decide +kernel
theorem dX4_passNight_70 : decode cX4_passNight 70 = .ok (.iconst 1, 1) := by decide +kernel
theorem dX4_passNight_71 : decode cX4_passNight 71 = .ok (.invokevirtual 108, 3) := by decide +kernel
theorem dX4_passNight_74 : decode cX4_passNight 74 = .ok (.iinc 2 1, 3) := by decide +kernel
theorem dX4_passNight_77 : decode cX4_passNight 77 = .ok (.goto (-71), 3) := by decide +kernel
theorem dX4_passNight_80 : decode cX4_passNight 80 = .ok (.return_, 1) := by decide +kernel
