/-! Rows of the wrappers. -/
theorem dL_county_0 : decode cL_county 0 = .ok (.aload_n 2, 1) := by decide +kernel
theorem dL_county_1 : decode cL_county 1 = .ok (.iconst 0, 1) := by decide +kernel
theorem dL_county_2 : decode cL_county 2 = .ok (.aload_n 0, 1) := by decide +kernel
theorem dL_county_3 : decode cL_county 3 = .ok (.iload_n 1, 1) := by decide +kernel
theorem dL_county_4 : decode cL_county 4 = .ok (.invokevirtual 7, 3) := by decide +kernel
theorem dL_county_7 : decode cL_county 7 = .ok (.i2l, 1) := by decide +kernel
theorem dL_county_8 : decode cL_county 8 = .ok (.lastore, 1) := by decide +kernel
theorem dL_county_9 : decode cL_county 9 = .ok (.goto 6, 3) := by decide +kernel
theorem dL_county_12 : decode cL_county 12 = .ok (.astore_n 3, 1) := by decide +kernel
theorem dL_county_13 : decode cL_county 13 = .ok (.iconst 1, 1) := by decide +kernel
theorem dL_county_14 : decode cL_county 14 = .ok (.ireturn, 1) := by decide +kernel
theorem dL_county_15 : decode cL_county 15 = .ok (.iconst 0, 1) := by decide +kernel
theorem dL_county_16 : decode cL_county 16 = .ok (.ireturn, 1) := by decide +kernel
theorem dL_law_0 : decode cL_law 0 = .ok (.aload_n 2, 1) := by decide +kernel
theorem dL_law_1 : decode cL_law 1 = .ok (.iconst 0, 1) := by decide +kernel
theorem dL_law_2 : decode cL_law 2 = .ok (.aload_n 0, 1) := by decide +kernel
theorem dL_law_3 : decode cL_law 3 = .ok (.iload_n 1, 1) := by decide +kernel
theorem dL_law_4 : decode cL_law 4 = .ok (.invokevirtual 15, 3) := by decide +kernel
theorem dL_law_7 : decode cL_law 7 = .ok (.i2l, 1) := by decide +kernel
theorem dL_law_8 : decode cL_law 8 = .ok (.lastore, 1) := by decide +kernel
theorem dL_law_9 : decode cL_law 9 = .ok (.goto 6, 3) := by decide +kernel
theorem dL_law_12 : decode cL_law 12 = .ok (.astore_n 3, 1) := by decide +kernel
theorem dL_law_13 : decode cL_law 13 = .ok (.iconst 1, 1) := by decide +kernel
theorem dL_law_14 : decode cL_law 14 = .ok (.ireturn, 1) := by decide +kernel
theorem dL_law_15 : decode cL_law 15 = .ok (.iconst 0, 1) := by decide +kernel
theorem dL_law_16 : decode cL_law 16 = .ok (.ireturn, 1) := by decide +kernel
theorem dL_work_0 : decode cL_work 0 = .ok (.aload_n 2, 1) := by decide +kernel
theorem dL_work_1 : decode cL_work 1 = .ok (.iconst 0, 1) := by decide +kernel
theorem dL_work_2 : decode cL_work 2 = .ok (.aload_n 0, 1) := by decide +kernel
theorem dL_work_3 : decode cL_work 3 = .ok (.iload_n 1, 1) := by decide +kernel
theorem dL_work_4 : decode cL_work 4 = .ok (.invokevirtual 18, 3) := by decide +kernel
theorem dL_work_7 : decode cL_work 7 = .ok (.i2l, 1) := by decide +kernel
theorem dL_work_8 : decode cL_work 8 = .ok (.lastore, 1) := by decide +kernel
theorem dL_work_9 : decode cL_work 9 = .ok (.goto 6, 3) := by decide +kernel
theorem dL_work_12 : decode cL_work 12 = .ok (.astore_n 3, 1) := by decide +kernel
theorem dL_work_13 : decode cL_work 13 = .ok (.iconst 1, 1) := by decide +kernel
theorem dL_work_14 : decode cL_work 14 = .ok (.ireturn, 1) := by decide +kernel
theorem dL_work_15 : decode cL_work 15 = .ok (.iconst 0, 1) := by decide +kernel
theorem dL_work_16 : decode cL_work 16 = .ok (.ireturn, 1) := by decide +kernel
theorem dL_book_0 : decode cL_book 0 = .ok (.aload_n 2, 1) := by decide +kernel
theorem dL_book_1 : decode cL_book 1 = .ok (.iconst 0, 1) := by decide +kernel
theorem dL_book_2 : decode cL_book 2 = .ok (.aload_n 0, 1) := by decide +kernel
theorem dL_book_3 : decode cL_book 3 = .ok (.iload_n 1, 1) := by decide +kernel
theorem dL_book_4 : decode cL_book 4 = .ok (.invokevirtual 21, 3) := by decide +kernel
theorem dL_book_7 : decode cL_book 7 = .ok (.i2l, 1) := by decide +kernel
theorem dL_book_8 : decode cL_book 8 = .ok (.lastore, 1) := by decide +kernel
theorem dL_book_9 : decode cL_book 9 = .ok (.goto 6, 3) := by decide +kernel
theorem dL_book_12 : decode cL_book 12 = .ok (.astore_n 3, 1) := by decide +kernel
theorem dL_book_13 : decode cL_book 13 = .ok (.iconst 1, 1) := by decide +kernel
theorem dL_book_14 : decode cL_book 14 = .ok (.ireturn, 1) := by decide +kernel
theorem dL_book_15 : decode cL_book 15 = .ok (.iconst 0, 1) := by decide +kernel
theorem dL_book_16 : decode cL_book 16 = .ok (.ireturn, 1) := by decide +kernel
theorem dL_told_0 : decode cL_told 0 = .ok (.aload_n 2, 1) := by decide +kernel
theorem dL_told_1 : decode cL_told 1 = .ok (.iconst 0, 1) := by decide +kernel
theorem dL_told_2 : decode cL_told 2 = .ok (.aload_n 0, 1) := by decide +kernel
theorem dL_told_3 : decode cL_told 3 = .ok (.iload_n 1, 1) := by decide +kernel
theorem dL_told_4 : decode cL_told 4 = .ok (.invokevirtual 24, 3) := by decide +kernel
theorem dL_told_7 : decode cL_told 7 = .ok (.i2l, 1) := by decide +kernel
theorem dL_told_8 : decode cL_told 8 = .ok (.lastore, 1) := by decide +kernel
theorem dL_told_9 : decode cL_told 9 = .ok (.goto 6, 3) := by decide +kernel
theorem dL_told_12 : decode cL_told 12 = .ok (.astore_n 3, 1) := by decide +kernel
theorem dL_told_13 : decode cL_told 13 = .ok (.iconst 1, 1) := by decide +kernel
theorem dL_told_14 : decode cL_told 14 = .ok (.ireturn, 1) := by decide +kernel
theorem dL_told_15 : decode cL_told 15 = .ok (.iconst 0, 1) := by decide +kernel
theorem dL_told_16 : decode cL_told 16 = .ok (.ireturn, 1) := by decide +kernel
theorem dL_slab_0 : decode cL_slab 0 = .ok (.aload_n 3, 1) := by decide +kernel
theorem dL_slab_1 : decode cL_slab 1 = .ok (.iconst 0, 1) := by decide +kernel
theorem dL_slab_2 : decode cL_slab 2 = .ok (.aload_n 0, 1) := by decide +kernel
theorem dL_slab_3 : decode cL_slab 3 = .ok (.iload_n 1, 1) := by decide +kernel
theorem dL_slab_4 : decode cL_slab 4 = .ok (.iload_n 2, 1) := by decide +kernel
theorem dL_slab_5 : decode cL_slab 5 = .ok (.invokevirtual 27, 3) := by decide +kernel
theorem dL_slab_8 : decode cL_slab 8 = .ok (.i2l, 1) := by decide +kernel
theorem dL_slab_9 : decode cL_slab 9 = .ok (.lastore, 1) := by decide +kernel
theorem dL_slab_10 : decode cL_slab 10 = .ok (.goto 11, 3) := by decide +kernel
theorem dL_slab_13 : decode cL_slab 13 = .ok (.astore 4, 2) := by decide +kernel
theorem dL_slab_15 : decode cL_slab 15 = .ok (.iconst 1, 1) := by decide +kernel
theorem dL_slab_16 : decode cL_slab 16 = .ok (.ireturn, 1) := by decide +kernel
theorem dL_slab_17 : decode cL_slab 17 = .ok (.astore 4, 2) := by decide +kernel
theorem dL_slab_19 : decode cL_slab 19 = .ok (.iconst 2, 1) := by decide +kernel
theorem dL_slab_20 : decode cL_slab 20 = .ok (.ireturn, 1) := by decide +kernel
theorem dL_slab_21 : decode cL_slab 21 = .ok (.iconst 0, 1) := by decide +kernel
theorem dL_slab_22 : decode cL_slab 22 = .ok (.ireturn, 1) := by decide +kernel
theorem dL_soul_0 : decode cL_soul 0 = .ok (.aload_n 3, 1) := by decide +kernel
theorem dL_soul_1 : decode cL_soul 1 = .ok (.iconst 0, 1) := by decide +kernel
theorem dL_soul_2 : decode cL_soul 2 = .ok (.aload_n 0, 1) := by decide +kernel
theorem dL_soul_3 : decode cL_soul 3 = .ok (.iload_n 1, 1) := by decide +kernel
theorem dL_soul_4 : decode cL_soul 4 = .ok (.iload_n 2, 1) := by decide +kernel
theorem dL_soul_5 : decode cL_soul 5 = .ok (.invokevirtual 33, 3) := by decide +kernel
theorem dL_soul_8 : decode cL_soul 8 = .ok (.i2l, 1) := by decide +kernel
theorem dL_soul_9 : decode cL_soul 9 = .ok (.lastore, 1) := by decide +kernel
theorem dL_soul_10 : decode cL_soul 10 = .ok (.goto 11, 3) := by decide +kernel
theorem dL_soul_13 : decode cL_soul 13 = .ok (.astore 4, 2) := by decide +kernel
theorem dL_soul_15 : decode cL_soul 15 = .ok (.iconst 1, 1) := by decide +kernel
theorem dL_soul_16 : decode cL_soul 16 = .ok (.ireturn, 1) := by decide +kernel
theorem dL_soul_17 : decode cL_soul 17 = .ok (.astore 4, 2) := by decide +kernel
theorem dL_soul_19 : decode cL_soul 19 = .ok (.iconst 2, 1) := by decide +kernel
theorem dL_soul_20 : decode cL_soul 20 = .ok (.ireturn, 1) := by decide +kernel
theorem dL_soul_21 : decode cL_soul 21 = .ok (.iconst 0, 1) := by decide +kernel
theorem dL_soul_22 : decode cL_soul 22 = .ok (.ireturn, 1) := by decide +kernel
theorem dL_loan_0 : decode cL_loan 0 = .ok (.aload_n 3, 1) := by decide +kernel
theorem dL_loan_1 : decode cL_loan 1 = .ok (.iconst 0, 1) := by decide +kernel
theorem dL_loan_2 : decode cL_loan 2 = .ok (.aload_n 0, 1) := by decide +kernel
theorem dL_loan_3 : decode cL_loan 3 = .ok (.iload_n 1, 1) := by decide +kernel
theorem dL_loan_4 : decode cL_loan 4 = .ok (.iload_n 2, 1) := by decide +kernel
theorem dL_loan_5 : decode cL_loan 5 = .ok (.invokevirtual 36, 3) := by decide +kernel
theorem dL_loan_8 : decode cL_loan 8 = .ok (.i2l, 1) := by decide +kernel
theorem dL_loan_9 : decode cL_loan 9 = .ok (.lastore, 1) := by decide +kernel
theorem dL_loan_10 : decode cL_loan 10 = .ok (.goto 11, 3) := by decide +kernel
theorem dL_loan_13 : decode cL_loan 13 = .ok (.astore 4, 2) := by decide +kernel
theorem dL_loan_15 : decode cL_loan 15 = .ok (.iconst 1, 1) := by decide +kernel
theorem dL_loan_16 : decode cL_loan 16 = .ok (.ireturn, 1) := by decide +kernel
theorem dL_loan_17 : decode cL_loan 17 = .ok (.astore 4, 2) := by decide +kernel
theorem dL_loan_19 : decode cL_loan 19 = .ok (.iconst 2, 1) := by decide +kernel
theorem dL_loan_20 : decode cL_loan 20 = .ok (.ireturn, 1) := by decide +kernel
theorem dL_loan_21 : decode cL_loan 21 = .ok (.iconst 0, 1) := by decide +kernel
theorem dL_loan_22 : decode cL_loan 22 = .ok (.ireturn, 1) := by decide +kernel
theorem dL_would_0 : decode cL_would 0 = .ok (.aload 9, 2) := by decide +kernel
theorem dL_would_2 : decode cL_would 2 = .ok (.iconst 0, 1) := by decide +kernel
theorem dL_would_3 : decode cL_would 3 = .ok (.aload_n 0, 1) := by decide +kernel
theorem dL_would_4 : decode cL_would 4 = .ok (.iload_n 1, 1) := by decide +kernel
theorem dL_would_5 : decode cL_would 5 = .ok (.iload_n 2, 1) := by decide +kernel
theorem dL_would_6 : decode cL_would 6 = .ok (.iload_n 3, 1) := by decide +kernel
theorem dL_would_7 : decode cL_would 7 = .ok (.iload 4, 2) := by decide +kernel
theorem dL_would_9 : decode cL_would 9 = .ok (.iload 5, 2) := by decide +kernel
theorem dL_would_11 : decode cL_would 11 = .ok (.iload 6, 2) := by decide +kernel
theorem dL_would_13 : decode cL_would 13 = .ok (.iload 7, 2) := by decide +kernel
theorem dL_would_15 : decode cL_would 15 = .ok (.iload 8, 2) := by decide +kernel
theorem dL_would_17 : decode cL_would 17 = .ok (.invokevirtual 39, 3) := by decide +kernel
theorem dL_would_20 : decode cL_would 20 = .ok (.i2l, 1) := by decide +kernel
theorem dL_would_21 : decode cL_would 21 = .ok (.lastore, 1) := by decide +kernel
theorem dL_would_22 : decode cL_would 22 = .ok (.goto 7, 3) := by decide +kernel
theorem dL_would_25 : decode cL_would 25 = .ok (.astore 10, 2) := by decide +kernel
theorem dL_would_27 : decode cL_would 27 = .ok (.iconst 1, 1) := by decide +kernel
theorem dL_would_28 : decode cL_would 28 = .ok (.ireturn, 1) := by decide +kernel
theorem dL_would_29 : decode cL_would 29 = .ok (.iconst 0, 1) := by decide +kernel
theorem dL_would_30 : decode cL_would 30 = .ok (.ireturn, 1) := by decide +kernel
theorem dL_lends_0 : decode cL_lends 0 = .ok (.aload 4, 2) := by decide +kernel
theorem dL_lends_2 : decode cL_lends 2 = .ok (.iconst 0, 1) := by decide +kernel
theorem dL_lends_3 : decode cL_lends 3 = .ok (.aload_n 0, 1) := by decide +kernel
theorem dL_lends_4 : decode cL_lends 4 = .ok (.iload_n 1, 1) := by decide +kernel
theorem dL_lends_5 : decode cL_lends 5 = .ok (.iload_n 2, 1) := by decide +kernel
theorem dL_lends_6 : decode cL_lends 6 = .ok (.iload_n 3, 1) := by decide +kernel
theorem dL_lends_7 : decode cL_lends 7 = .ok (.invokevirtual 43, 3) := by decide +kernel
theorem dL_lends_10 : decode cL_lends 10 = .ok (.ifCond .eq 7, 3) := by decide +kernel
theorem dL_lends_13 : decode cL_lends 13 = .ok (.lconst 1, 1) := by decide +kernel
theorem dL_lends_14 : decode cL_lends 14 = .ok (.goto 4, 3) := by decide +kernel
theorem dL_lends_17 : decode cL_lends 17 = .ok (.lconst 0, 1) := by decide +kernel
theorem dL_lends_18 : decode cL_lends 18 = .ok (.lastore, 1) := by decide +kernel
theorem dL_lends_19 : decode cL_lends 19 = .ok (.goto 11, 3) := by decide +kernel
theorem dL_lends_22 : decode cL_lends 22 = .ok (.astore 5, 2) := by decide +kernel
theorem dL_lends_24 : decode cL_lends 24 = .ok (.iconst 1, 1) := by decide +kernel
theorem dL_lends_25 : decode cL_lends 25 = .ok (.ireturn, 1) := by decide +kernel
theorem dL_lends_26 : decode cL_lends 26 = .ok (.astore 5, 2) := by decide +kernel
theorem dL_lends_28 : decode cL_lends 28 = .ok (.iconst 2, 1) := by decide +kernel
theorem dL_lends_29 : decode cL_lends 29 = .ok (.ireturn, 1) := by decide +kernel
theorem dL_lends_30 : decode cL_lends 30 = .ok (.iconst 0, 1) := by decide +kernel
theorem dL_lends_31 : decode cL_lends 31 = .ok (.ireturn, 1) := by decide +kernel
theorem dL_ahead_0 : decode cL_ahead 0 = .ok (.aload_n 3, 1) := by decide +kernel
theorem dL_ahead_1 : decode cL_ahead 1 = .ok (.iconst 0, 1) := by decide +kernel
theorem dL_ahead_2 : decode cL_ahead 2 = .ok (.aload_n 0, 1) := by decide +kernel
theorem dL_ahead_3 : decode cL_ahead 3 = .ok (.iload_n 1, 1) := by decide +kernel
theorem dL_ahead_4 : decode cL_ahead 4 = .ok (.iload_n 2, 1) := by decide +kernel
theorem dL_ahead_5 : decode cL_ahead 5 = .ok (.invokevirtual 47, 3) := by decide +kernel
theorem dL_ahead_8 : decode cL_ahead 8 = .ok (.i2l, 1) := by decide +kernel
theorem dL_ahead_9 : decode cL_ahead 9 = .ok (.lastore, 1) := by decide +kernel
theorem dL_ahead_10 : decode cL_ahead 10 = .ok (.goto 7, 3) := by decide +kernel
theorem dL_ahead_13 : decode cL_ahead 13 = .ok (.astore 4, 2) := by decide +kernel
theorem dL_ahead_15 : decode cL_ahead 15 = .ok (.iconst 1, 1) := by decide +kernel
theorem dL_ahead_16 : decode cL_ahead 16 = .ok (.ireturn, 1) := by decide +kernel
theorem dL_ahead_17 : decode cL_ahead 17 = .ok (.iconst 0, 1) := by decide +kernel
theorem dL_ahead_18 : decode cL_ahead 18 = .ok (.ireturn, 1) := by decide +kernel
theorem dL_cheapest_0 : decode cL_cheapest 0 = .ok (.aload 5, 2) := by decide +kernel
theorem dL_cheapest_2 : decode cL_cheapest 2 = .ok (.iconst 0, 1) := by decide +kernel
theorem dL_cheapest_3 : decode cL_cheapest 3 = .ok (.aload_n 0, 1) := by decide +kernel
theorem dL_cheapest_4 : decode cL_cheapest 4 = .ok (.iload_n 1, 1) := by decide +kernel
theorem dL_cheapest_5 : decode cL_cheapest 5 = .ok (.iload_n 2, 1) := by decide +kernel
theorem dL_cheapest_6 : decode cL_cheapest 6 = .ok (.iload_n 3, 1) := by decide +kernel
theorem dL_cheapest_7 : decode cL_cheapest 7 = .ok (.iload 4, 2) := by decide +kernel
theorem dL_cheapest_9 : decode cL_cheapest 9 = .ok (.invokevirtual 50, 3) := by decide +kernel
theorem dL_cheapest_12 : decode cL_cheapest 12 = .ok (.i2l, 1) := by decide +kernel
theorem dL_cheapest_13 : decode cL_cheapest 13 = .ok (.lastore, 1) := by decide +kernel
theorem dL_cheapest_14 : decode cL_cheapest 14 = .ok (.goto 11, 3) := by decide +kernel
theorem dL_cheapest_17 : decode cL_cheapest 17 = .ok (.astore 6, 2) := by decide +kernel
theorem dL_cheapest_19 : decode cL_cheapest 19 = .ok (.iconst 1, 1) := by decide +kernel
theorem dL_cheapest_20 : decode cL_cheapest 20 = .ok (.ireturn, 1) := by decide +kernel
theorem dL_cheapest_21 : decode cL_cheapest 21 = .ok (.astore 6, 2) := by decide +kernel
theorem dL_cheapest_23 : decode cL_cheapest 23 = .ok (.iconst 2, 1) := by decide +kernel
theorem dL_cheapest_24 : decode cL_cheapest 24 = .ok (.ireturn, 1) := by decide +kernel
theorem dL_cheapest_25 : decode cL_cheapest 25 = .ok (.iconst 0, 1) := by decide +kernel
theorem dL_cheapest_26 : decode cL_cheapest 26 = .ok (.ireturn, 1) := by decide +kernel
theorem dL_clears_0 : decode cL_clears 0 = .ok (.aload_n 2, 1) := by decide +kernel
theorem dL_clears_1 : decode cL_clears 1 = .ok (.iconst 0, 1) := by decide +kernel
theorem dL_clears_2 : decode cL_clears 2 = .ok (.aload_n 0, 1) := by decide +kernel
theorem dL_clears_3 : decode cL_clears 3 = .ok (.iload_n 1, 1) := by decide +kernel
theorem dL_clears_4 : decode cL_clears 4 = .ok (.invokevirtual 54, 3) := by decide +kernel
theorem dL_clears_7 : decode cL_clears 7 = .ok (.i2l, 1) := by decide +kernel
theorem dL_clears_8 : decode cL_clears 8 = .ok (.lastore, 1) := by decide +kernel
theorem dL_clears_9 : decode cL_clears 9 = .ok (.goto 6, 3) := by decide +kernel
theorem dL_clears_12 : decode cL_clears 12 = .ok (.astore_n 3, 1) := by decide +kernel
theorem dL_clears_13 : decode cL_clears 13 = .ok (.iconst 1, 1) := by decide +kernel
theorem dL_clears_14 : decode cL_clears 14 = .ok (.ireturn, 1) := by decide +kernel
theorem dL_clears_15 : decode cL_clears 15 = .ok (.iconst 0, 1) := by decide +kernel
theorem dL_clears_16 : decode cL_clears 16 = .ok (.ireturn, 1) := by decide +kernel
theorem dL_comes_0 : decode cL_comes 0 = .ok (.aload_n 2, 1) := by decide +kernel
theorem dL_comes_1 : decode cL_comes 1 = .ok (.iconst 0, 1) := by decide +kernel
theorem dL_comes_2 : decode cL_comes 2 = .ok (.aload_n 0, 1) := by decide +kernel
theorem dL_comes_3 : decode cL_comes 3 = .ok (.iload_n 1, 1) := by decide +kernel
theorem dL_comes_4 : decode cL_comes 4 = .ok (.invokevirtual 57, 3) := by decide +kernel
theorem dL_comes_7 : decode cL_comes 7 = .ok (.i2l, 1) := by decide +kernel
theorem dL_comes_8 : decode cL_comes 8 = .ok (.lastore, 1) := by decide +kernel
theorem dL_comes_9 : decode cL_comes 9 = .ok (.goto 6, 3) := by decide +kernel
theorem dL_comes_12 : decode cL_comes 12 = .ok (.astore_n 3, 1) := by decide +kernel
theorem dL_comes_13 : decode cL_comes 13 = .ok (.iconst 1, 1) := by decide +kernel
theorem dL_comes_14 : decode cL_comes 14 = .ok (.ireturn, 1) := by decide +kernel
theorem dL_comes_15 : decode cL_comes 15 = .ok (.iconst 0, 1) := by decide +kernel
theorem dL_comes_16 : decode cL_comes 16 = .ok (.ireturn, 1) := by decide +kernel
theorem dL_serves_0 : decode cL_serves 0 = .ok (.aload_n 2, 1) := by decide +kernel
theorem dL_serves_1 : decode cL_serves 1 = .ok (.iconst 0, 1) := by decide +kernel
theorem dL_serves_2 : decode cL_serves 2 = .ok (.aload_n 0, 1) := by decide +kernel
theorem dL_serves_3 : decode cL_serves 3 = .ok (.iload_n 1, 1) := by decide +kernel
theorem dL_serves_4 : decode cL_serves 4 = .ok (.invokevirtual 60, 3) := by decide +kernel
theorem dL_serves_7 : decode cL_serves 7 = .ok (.i2l, 1) := by decide +kernel
theorem dL_serves_8 : decode cL_serves 8 = .ok (.lastore, 1) := by decide +kernel
theorem dL_serves_9 : decode cL_serves 9 = .ok (.goto 6, 3) := by decide +kernel
theorem dL_serves_12 : decode cL_serves 12 = .ok (.astore_n 3, 1) := by decide +kernel
theorem dL_serves_13 : decode cL_serves 13 = .ok (.iconst 1, 1) := by decide +kernel
theorem dL_serves_14 : decode cL_serves 14 = .ok (.ireturn, 1) := by decide +kernel
theorem dL_serves_15 : decode cL_serves 15 = .ok (.iconst 0, 1) := by decide +kernel
theorem dL_serves_16 : decode cL_serves 16 = .ok (.ireturn, 1) := by decide +kernel
theorem dL_served_0 : decode cL_served 0 = .ok (.aload_n 2, 1) := by decide +kernel
theorem dL_served_1 : decode cL_served 1 = .ok (.iconst 0, 1) := by decide +kernel
theorem dL_served_2 : decode cL_served 2 = .ok (.aload_n 0, 1) := by decide +kernel
theorem dL_served_3 : decode cL_served 3 = .ok (.iload_n 1, 1) := by decide +kernel
theorem dL_served_4 : decode cL_served 4 = .ok (.invokevirtual 63, 3) := by decide +kernel
theorem dL_served_7 : decode cL_served 7 = .ok (.i2l, 1) := by decide +kernel
theorem dL_served_8 : decode cL_served 8 = .ok (.lastore, 1) := by decide +kernel
theorem dL_served_9 : decode cL_served 9 = .ok (.goto 6, 3) := by decide +kernel
theorem dL_served_12 : decode cL_served 12 = .ok (.astore_n 3, 1) := by decide +kernel
theorem dL_served_13 : decode cL_served 13 = .ok (.iconst 1, 1) := by decide +kernel
theorem dL_served_14 : decode cL_served 14 = .ok (.ireturn, 1) := by decide +kernel
theorem dL_served_15 : decode cL_served 15 = .ok (.iconst 0, 1) := by decide +kernel
theorem dL_served_16 : decode cL_served 16 = .ok (.ireturn, 1) := by decide +kernel
theorem dL_call_0 : decode cL_call 0 = .ok (.aload_n 2, 1) := by decide +kernel
theorem dL_call_1 : decode cL_call 1 = .ok (.iconst 0, 1) := by decide +kernel
theorem dL_call_2 : decode cL_call 2 = .ok (.aload_n 0, 1) := by decide +kernel
theorem dL_call_3 : decode cL_call 3 = .ok (.iload_n 1, 1) := by decide +kernel
theorem dL_call_4 : decode cL_call 4 = .ok (.invokevirtual 66, 3) := by decide +kernel
theorem dL_call_7 : decode cL_call 7 = .ok (.i2l, 1) := by decide +kernel
theorem dL_call_8 : decode cL_call 8 = .ok (.lastore, 1) := by decide +kernel
theorem dL_call_9 : decode cL_call 9 = .ok (.goto 6, 3) := by decide +kernel
theorem dL_call_12 : decode cL_call 12 = .ok (.astore_n 3, 1) := by decide +kernel
theorem dL_call_13 : decode cL_call 13 = .ok (.iconst 1, 1) := by decide +kernel
theorem dL_call_14 : decode cL_call 14 = .ok (.ireturn, 1) := by decide +kernel
theorem dL_call_15 : decode cL_call 15 = .ok (.iconst 0, 1) := by decide +kernel
theorem dL_call_16 : decode cL_call 16 = .ok (.ireturn, 1) := by decide +kernel
theorem dL_run_0 : decode cL_run 0 = .ok (.aload_n 3, 1) := by decide +kernel
theorem dL_run_1 : decode cL_run 1 = .ok (.iconst 0, 1) := by decide +kernel
theorem dL_run_2 : decode cL_run 2 = .ok (.aload_n 0, 1) := by decide +kernel
theorem dL_run_3 : decode cL_run 3 = .ok (.iload_n 1, 1) := by decide +kernel
theorem dL_run_4 : decode cL_run 4 = .ok (.iload_n 2, 1) := by decide +kernel
theorem dL_run_5 : decode cL_run 5 = .ok (.invokevirtual 69, 3) := by decide +kernel
theorem dL_run_8 : decode cL_run 8 = .ok (.i2l, 1) := by decide +kernel
theorem dL_run_9 : decode cL_run 9 = .ok (.lastore, 1) := by decide +kernel
theorem dL_run_10 : decode cL_run 10 = .ok (.goto 7, 3) := by decide +kernel
theorem dL_run_13 : decode cL_run 13 = .ok (.astore 4, 2) := by decide +kernel
theorem dL_run_15 : decode cL_run 15 = .ok (.iconst 1, 1) := by decide +kernel
theorem dL_run_16 : decode cL_run 16 = .ok (.ireturn, 1) := by decide +kernel
theorem dL_run_17 : decode cL_run 17 = .ok (.iconst 0, 1) := by decide +kernel
theorem dL_run_18 : decode cL_run 18 = .ok (.ireturn, 1) := by decide +kernel
theorem dL_all_0 : decode cL_all 0 = .ok (.aload 5, 2) := by decide +kernel
theorem dL_all_2 : decode cL_all 2 = .ok (.iconst 0, 1) := by decide +kernel
theorem dL_all_3 : decode cL_all 3 = .ok (.aload_n 0, 1) := by decide +kernel
theorem dL_all_4 : decode cL_all 4 = .ok (.iload_n 1, 1) := by decide +kernel
theorem dL_all_5 : decode cL_all 5 = .ok (.iload_n 2, 1) := by decide +kernel
theorem dL_all_6 : decode cL_all 6 = .ok (.iload_n 3, 1) := by decide +kernel
theorem dL_all_7 : decode cL_all 7 = .ok (.iload 4, 2) := by decide +kernel
theorem dL_all_9 : decode cL_all 9 = .ok (.invokevirtual 72, 3) := by decide +kernel
theorem dL_all_12 : decode cL_all 12 = .ok (.lastore, 1) := by decide +kernel
theorem dL_all_13 : decode cL_all 13 = .ok (.goto 7, 3) := by decide +kernel
theorem dL_all_16 : decode cL_all 16 = .ok (.astore 6, 2) := by decide +kernel
theorem dL_all_18 : decode cL_all 18 = .ok (.iconst 1, 1) := by decide +kernel
theorem dL_all_19 : decode cL_all 19 = .ok (.ireturn, 1) := by decide +kernel
theorem dL_all_20 : decode cL_all 20 = .ok (.iconst 0, 1) := by decide +kernel
theorem dL_all_21 : decode cL_all 21 = .ok (.ireturn, 1) := by decide +kernel
theorem dL_saint_0 : decode cL_saint 0 = .ok (.aload 4, 2) := by decide +kernel
theorem dL_saint_2 : decode cL_saint 2 = .ok (.iconst 0, 1) := by decide +kernel
theorem dL_saint_3 : decode cL_saint 3 = .ok (.aload_n 0, 1) := by decide +kernel
theorem dL_saint_4 : decode cL_saint 4 = .ok (.iload_n 1, 1) := by decide +kernel
theorem dL_saint_5 : decode cL_saint 5 = .ok (.iload_n 2, 1) := by decide +kernel
theorem dL_saint_6 : decode cL_saint 6 = .ok (.iload_n 3, 1) := by decide +kernel
theorem dL_saint_7 : decode cL_saint 7 = .ok (.invokevirtual 76, 3) := by decide +kernel
theorem dL_saint_10 : decode cL_saint 10 = .ok (.i2l, 1) := by decide +kernel
theorem dL_saint_11 : decode cL_saint 11 = .ok (.lastore, 1) := by decide +kernel
theorem dL_saint_12 : decode cL_saint 12 = .ok (.goto 7, 3) := by decide +kernel
theorem dL_saint_15 : decode cL_saint 15 = .ok (.astore 5, 2) := by decide +kernel
theorem dL_saint_17 : decode cL_saint 17 = .ok (.iconst 1, 1) := by decide +kernel
theorem dL_saint_18 : decode cL_saint 18 = .ok (.ireturn, 1) := by decide +kernel
theorem dL_saint_19 : decode cL_saint 19 = .ok (.iconst 0, 1) := by decide +kernel
theorem dL_saint_20 : decode cL_saint 20 = .ok (.ireturn, 1) := by decide +kernel
theorem dL_candles_0 : decode cL_candles 0 = .ok (.aload 4, 2) := by decide +kernel
theorem dL_candles_2 : decode cL_candles 2 = .ok (.iconst 0, 1) := by decide +kernel
theorem dL_candles_3 : decode cL_candles 3 = .ok (.aload_n 0, 1) := by decide +kernel
theorem dL_candles_4 : decode cL_candles 4 = .ok (.iload_n 1, 1) := by decide +kernel
theorem dL_candles_5 : decode cL_candles 5 = .ok (.iload_n 2, 1) := by decide +kernel
theorem dL_candles_6 : decode cL_candles 6 = .ok (.iload_n 3, 1) := by decide +kernel
theorem dL_candles_7 : decode cL_candles 7 = .ok (.invokevirtual 80, 3) := by decide +kernel
theorem dL_candles_10 : decode cL_candles 10 = .ok (.i2l, 1) := by decide +kernel
theorem dL_candles_11 : decode cL_candles 11 = .ok (.lastore, 1) := by decide +kernel
theorem dL_candles_12 : decode cL_candles 12 = .ok (.goto 11, 3) := by decide +kernel
theorem dL_candles_15 : decode cL_candles 15 = .ok (.astore 5, 2) := by decide +kernel
theorem dL_candles_17 : decode cL_candles 17 = .ok (.iconst 1, 1) := by decide +kernel
theorem dL_candles_18 : decode cL_candles 18 = .ok (.ireturn, 1) := by decide +kernel
theorem dL_candles_19 : decode cL_candles 19 = .ok (.astore 5, 2) := by decide +kernel
theorem dL_candles_21 : decode cL_candles 21 = .ok (.iconst 2, 1) := by decide +kernel
theorem dL_candles_22 : decode cL_candles 22 = .ok (.ireturn, 1) := by decide +kernel
theorem dL_candles_23 : decode cL_candles 23 = .ok (.iconst 0, 1) := by decide +kernel
theorem dL_candles_24 : decode cL_candles 24 = .ok (.ireturn, 1) := by decide +kernel
theorem dL_richest_0 : decode cL_richest 0 = .ok (.aload_n 2, 1) := by decide +kernel
theorem dL_richest_1 : decode cL_richest 1 = .ok (.iconst 0, 1) := by decide +kernel
theorem dL_richest_2 : decode cL_richest 2 = .ok (.aload_n 0, 1) := by decide +kernel
theorem dL_richest_3 : decode cL_richest 3 = .ok (.iload_n 1, 1) := by decide +kernel
theorem dL_richest_4 : decode cL_richest 4 = .ok (.invokevirtual 83, 3) := by decide +kernel
theorem dL_richest_7 : decode cL_richest 7 = .ok (.i2l, 1) := by decide +kernel
theorem dL_richest_8 : decode cL_richest 8 = .ok (.lastore, 1) := by decide +kernel
theorem dL_richest_9 : decode cL_richest 9 = .ok (.goto 6, 3) := by decide +kernel
theorem dL_richest_12 : decode cL_richest 12 = .ok (.astore_n 3, 1) := by decide +kernel
theorem dL_richest_13 : decode cL_richest 13 = .ok (.iconst 1, 1) := by decide +kernel
theorem dL_richest_14 : decode cL_richest 14 = .ok (.ireturn, 1) := by decide +kernel
theorem dL_richest_15 : decode cL_richest 15 = .ok (.iconst 0, 1) := by decide +kernel
theorem dL_richest_16 : decode cL_richest 16 = .ok (.ireturn, 1) := by decide +kernel
theorem dL_next_0 : decode cL_next 0 = .ok (.aload_n 2, 1) := by decide +kernel
theorem dL_next_1 : decode cL_next 1 = .ok (.iconst 0, 1) := by decide +kernel
theorem dL_next_2 : decode cL_next 2 = .ok (.aload_n 0, 1) := by decide +kernel
theorem dL_next_3 : decode cL_next 3 = .ok (.iload_n 1, 1) := by decide +kernel
theorem dL_next_4 : decode cL_next 4 = .ok (.invokevirtual 86, 3) := by decide +kernel
theorem dL_next_7 : decode cL_next 7 = .ok (.i2l, 1) := by decide +kernel
theorem dL_next_8 : decode cL_next 8 = .ok (.lastore, 1) := by decide +kernel
theorem dL_next_9 : decode cL_next 9 = .ok (.goto 6, 3) := by decide +kernel
theorem dL_next_12 : decode cL_next 12 = .ok (.astore_n 3, 1) := by decide +kernel
theorem dL_next_13 : decode cL_next 13 = .ok (.iconst 1, 1) := by decide +kernel
theorem dL_next_14 : decode cL_next 14 = .ok (.ireturn, 1) := by decide +kernel
theorem dL_next_15 : decode cL_next 15 = .ok (.iconst 0, 1) := by decide +kernel
theorem dL_next_16 : decode cL_next 16 = .ok (.ireturn, 1) := by decide +kernel
theorem dL_kind_0 : decode cL_kind 0 = .ok (.aload_n 3, 1) := by decide +kernel
theorem dL_kind_1 : decode cL_kind 1 = .ok (.iconst 0, 1) := by decide +kernel
theorem dL_kind_2 : decode cL_kind 2 = .ok (.aload_n 0, 1) := by decide +kernel
theorem dL_kind_3 : decode cL_kind 3 = .ok (.iload_n 1, 1) := by decide +kernel
theorem dL_kind_4 : decode cL_kind 4 = .ok (.iload_n 2, 1) := by decide +kernel
theorem dL_kind_5 : decode cL_kind 5 = .ok (.invokevirtual 89, 3) := by decide +kernel
theorem dL_kind_8 : decode cL_kind 8 = .ok (.i2l, 1) := by decide +kernel
theorem dL_kind_9 : decode cL_kind 9 = .ok (.lastore, 1) := by decide +kernel
theorem dL_kind_10 : decode cL_kind 10 = .ok (.goto 7, 3) := by decide +kernel
theorem dL_kind_13 : decode cL_kind 13 = .ok (.astore 4, 2) := by decide +kernel
theorem dL_kind_15 : decode cL_kind 15 = .ok (.iconst 1, 1) := by decide +kernel
theorem dL_kind_16 : decode cL_kind 16 = .ok (.ireturn, 1) := by decide +kernel
theorem dL_kind_17 : decode cL_kind 17 = .ok (.iconst 0, 1) := by decide +kernel
theorem dL_kind_18 : decode cL_kind 18 = .ok (.ireturn, 1) := by decide +kernel
theorem dL_worth_0 : decode cL_worth 0 = .ok (.aload_n 2, 1) := by decide +kernel
theorem dL_worth_1 : decode cL_worth 1 = .ok (.iconst 0, 1) := by decide +kernel
theorem dL_worth_2 : decode cL_worth 2 = .ok (.aload_n 0, 1) := by decide +kernel
theorem dL_worth_3 : decode cL_worth 3 = .ok (.iload_n 1, 1) := by decide +kernel
theorem dL_worth_4 : decode cL_worth 4 = .ok (.invokevirtual 92, 3) := by decide +kernel
theorem dL_worth_7 : decode cL_worth 7 = .ok (.i2l, 1) := by decide +kernel
theorem dL_worth_8 : decode cL_worth 8 = .ok (.lastore, 1) := by decide +kernel
theorem dL_worth_9 : decode cL_worth 9 = .ok (.goto 6, 3) := by decide +kernel
theorem dL_worth_12 : decode cL_worth 12 = .ok (.astore_n 3, 1) := by decide +kernel
theorem dL_worth_13 : decode cL_worth 13 = .ok (.iconst 1, 1) := by decide +kernel
theorem dL_worth_14 : decode cL_worth 14 = .ok (.ireturn, 1) := by decide +kernel
theorem dL_worth_15 : decode cL_worth 15 = .ok (.iconst 0, 1) := by decide +kernel
theorem dL_worth_16 : decode cL_worth 16 = .ok (.ireturn, 1) := by decide +kernel
theorem dL_broke_0 : decode cL_broke 0 = .ok (.aload_n 2, 1) := by decide +kernel
theorem dL_broke_1 : decode cL_broke 1 = .ok (.iconst 0, 1) := by decide +kernel
theorem dL_broke_2 : decode cL_broke 2 = .ok (.aload_n 0, 1) := by decide +kernel
theorem dL_broke_3 : decode cL_broke 3 = .ok (.iload_n 1, 1) := by decide +kernel
theorem dL_broke_4 : decode cL_broke 4 = .ok (.invokevirtual 95, 3) := by decide +kernel
theorem dL_broke_7 : decode cL_broke 7 = .ok (.i2l, 1) := by decide +kernel
theorem dL_broke_8 : decode cL_broke 8 = .ok (.lastore, 1) := by decide +kernel
theorem dL_broke_9 : decode cL_broke 9 = .ok (.goto 6, 3) := by decide +kernel
theorem dL_broke_12 : decode cL_broke 12 = .ok (.astore_n 3, 1) := by decide +kernel
theorem dL_broke_13 : decode cL_broke 13 = .ok (.iconst 1, 1) := by decide +kernel
theorem dL_broke_14 : decode cL_broke 14 = .ok (.ireturn, 1) := by decide +kernel
theorem dL_broke_15 : decode cL_broke 15 = .ok (.iconst 0, 1) := by decide +kernel
theorem dL_broke_16 : decode cL_broke 16 = .ok (.ireturn, 1) := by decide +kernel
theorem dL_late_0 : decode cL_late 0 = .ok (.aload_n 3, 1) := by decide +kernel
theorem dL_late_1 : decode cL_late 1 = .ok (.iconst 0, 1) := by decide +kernel
theorem dL_late_2 : decode cL_late 2 = .ok (.aload_n 0, 1) := by decide +kernel
theorem dL_late_3 : decode cL_late 3 = .ok (.iload_n 1, 1) := by decide +kernel
theorem dL_late_4 : decode cL_late 4 = .ok (.iload_n 2, 1) := by decide +kernel
theorem dL_late_5 : decode cL_late 5 = .ok (.invokevirtual 98, 3) := by decide +kernel
theorem dL_late_8 : decode cL_late 8 = .ok (.i2l, 1) := by decide +kernel
theorem dL_late_9 : decode cL_late 9 = .ok (.lastore, 1) := by decide +kernel
theorem dL_late_10 : decode cL_late 10 = .ok (.goto 11, 3) := by decide +kernel
theorem dL_late_13 : decode cL_late 13 = .ok (.astore 4, 2) := by decide +kernel
theorem dL_late_15 : decode cL_late 15 = .ok (.iconst 1, 1) := by decide +kernel
theorem dL_late_16 : decode cL_late 16 = .ok (.ireturn, 1) := by decide +kernel
theorem dL_late_17 : decode cL_late 17 = .ok (.astore 4, 2) := by decide +kernel
theorem dL_late_19 : decode cL_late 19 = .ok (.iconst 2, 1) := by decide +kernel
theorem dL_late_20 : decode cL_late 20 = .ok (.ireturn, 1) := by decide +kernel
theorem dL_late_21 : decode cL_late 21 = .ok (.iconst 0, 1) := by decide +kernel
theorem dL_late_22 : decode cL_late 22 = .ok (.ireturn, 1) := by decide +kernel
theorem dL_trust_0 : decode cL_trust 0 = .ok (.aload_n 3, 1) := by decide +kernel
theorem dL_trust_1 : decode cL_trust 1 = .ok (.iconst 0, 1) := by decide +kernel
theorem dL_trust_2 : decode cL_trust 2 = .ok (.aload_n 0, 1) := by decide +kernel
theorem dL_trust_3 : decode cL_trust 3 = .ok (.iload_n 1, 1) := by decide +kernel
theorem dL_trust_4 : decode cL_trust 4 = .ok (.iload_n 2, 1) := by decide +kernel
theorem dL_trust_5 : decode cL_trust 5 = .ok (.invokevirtual 101, 3) := by decide +kernel
theorem dL_trust_8 : decode cL_trust 8 = .ok (.i2l, 1) := by decide +kernel
theorem dL_trust_9 : decode cL_trust 9 = .ok (.lastore, 1) := by decide +kernel
theorem dL_trust_10 : decode cL_trust 10 = .ok (.goto 11, 3) := by decide +kernel
theorem dL_trust_13 : decode cL_trust 13 = .ok (.astore 4, 2) := by decide +kernel
theorem dL_trust_15 : decode cL_trust 15 = .ok (.iconst 1, 1) := by decide +kernel
theorem dL_trust_16 : decode cL_trust 16 = .ok (.ireturn, 1) := by decide +kernel
theorem dL_trust_17 : decode cL_trust 17 = .ok (.astore 4, 2) := by decide +kernel
theorem dL_trust_19 : decode cL_trust 19 = .ok (.iconst 2, 1) := by decide +kernel
theorem dL_trust_20 : decode cL_trust 20 = .ok (.ireturn, 1) := by decide +kernel
theorem dL_trust_21 : decode cL_trust 21 = .ok (.iconst 0, 1) := by decide +kernel
theorem dL_trust_22 : decode cL_trust 22 = .ok (.ireturn, 1) := by decide +kernel
theorem dL_deepest_0 : decode cL_deepest 0 = .ok (.aload_n 2, 1) := by decide +kernel
theorem dL_deepest_1 : decode cL_deepest 1 = .ok (.iconst 0, 1) := by decide +kernel
theorem dL_deepest_2 : decode cL_deepest 2 = .ok (.aload_n 0, 1) := by decide +kernel
theorem dL_deepest_3 : decode cL_deepest 3 = .ok (.iload_n 1, 1) := by decide +kernel
theorem dL_deepest_4 : decode cL_deepest 4 = .ok (.invokevirtual 104, 3) := by decide +kernel
theorem dL_deepest_7 : decode cL_deepest 7 = .ok (.i2l, 1) := by decide +kernel
theorem dL_deepest_8 : decode cL_deepest 8 = .ok (.lastore, 1) := by decide +kernel
theorem dL_deepest_9 : decode cL_deepest 9 = .ok (.goto 6, 3) := by decide +kernel
theorem dL_deepest_12 : decode cL_deepest 12 = .ok (.astore_n 3, 1) := by decide +kernel
theorem dL_deepest_13 : decode cL_deepest 13 = .ok (.iconst 1, 1) := by decide +kernel
theorem dL_deepest_14 : decode cL_deepest 14 = .ok (.ireturn, 1) := by decide +kernel
theorem dL_deepest_15 : decode cL_deepest 15 = .ok (.iconst 0, 1) := by decide +kernel
theorem dL_deepest_16 : decode cL_deepest 16 = .ok (.ireturn, 1) := by decide +kernel
theorem dL_poorest_0 : decode cL_poorest 0 = .ok (.aload_n 2, 1) := by decide +kernel
theorem dL_poorest_1 : decode cL_poorest 1 = .ok (.iconst 0, 1) := by decide +kernel
theorem dL_poorest_2 : decode cL_poorest 2 = .ok (.aload_n 0, 1) := by decide +kernel
theorem dL_poorest_3 : decode cL_poorest 3 = .ok (.iload_n 1, 1) := by decide +kernel
theorem dL_poorest_4 : decode cL_poorest 4 = .ok (.invokevirtual 107, 3) := by decide +kernel
theorem dL_poorest_7 : decode cL_poorest 7 = .ok (.i2l, 1) := by decide +kernel
theorem dL_poorest_8 : decode cL_poorest 8 = .ok (.lastore, 1) := by decide +kernel
theorem dL_poorest_9 : decode cL_poorest 9 = .ok (.goto 6, 3) := by decide +kernel
theorem dL_poorest_12 : decode cL_poorest 12 = .ok (.astore_n 3, 1) := by decide +kernel
theorem dL_poorest_13 : decode cL_poorest 13 = .ok (.iconst 1, 1) := by decide +kernel
theorem dL_poorest_14 : decode cL_poorest 14 = .ok (.ireturn, 1) := by decide +kernel
theorem dL_poorest_15 : decode cL_poorest 15 = .ok (.iconst 0, 1) := by decide +kernel
theorem dL_poorest_16 : decode cL_poorest 16 = .ok (.ireturn, 1) := by decide +kernel
theorem dL_winter_0 : decode cL_winter 0 = .ok (.aload 5, 2) := by decide +kernel
theorem dL_winter_2 : decode cL_winter 2 = .ok (.iconst 0, 1) := by decide +kernel
theorem dL_winter_3 : decode cL_winter 3 = .ok (.aload_n 0, 1) := by decide +kernel
theorem dL_winter_4 : decode cL_winter 4 = .ok (.iload_n 1, 1) := by decide +kernel
theorem dL_winter_5 : decode cL_winter 5 = .ok (.iload_n 2, 1) := by decide +kernel
theorem dL_winter_6 : decode cL_winter 6 = .ok (.iload_n 3, 1) := by decide +kernel
theorem dL_winter_7 : decode cL_winter 7 = .ok (.iload 4, 2) := by decide +kernel
theorem dL_winter_9 : decode cL_winter 9 = .ok (.invokevirtual 110, 3) := by decide +kernel
theorem dL_winter_12 : decode cL_winter 12 = .ok (.i2l, 1) := by decide +kernel
theorem dL_winter_13 : decode cL_winter 13 = .ok (.lastore, 1) := by decide +kernel
theorem dL_winter_14 : decode cL_winter 14 = .ok (.goto 7, 3) := by decide +kernel
theorem dL_winter_17 : decode cL_winter 17 = .ok (.astore 6, 2) := by decide +kernel
theorem dL_winter_19 : decode cL_winter 19 = .ok (.iconst 1, 1) := by decide +kernel
theorem dL_winter_20 : decode cL_winter 20 = .ok (.ireturn, 1) := by decide +kernel
theorem dL_winter_21 : decode cL_winter 21 = .ok (.iconst 0, 1) := by decide +kernel
theorem dL_winter_22 : decode cL_winter 22 = .ok (.ireturn, 1) := by decide +kernel
theorem dL_span_0 : decode cL_span 0 = .ok (.aload 7, 2) := by decide +kernel
theorem dL_span_2 : decode cL_span 2 = .ok (.iconst 0, 1) := by decide +kernel
theorem dL_span_3 : decode cL_span 3 = .ok (.aload_n 0, 1) := by decide +kernel
theorem dL_span_4 : decode cL_span 4 = .ok (.iload_n 1, 1) := by decide +kernel
theorem dL_span_5 : decode cL_span 5 = .ok (.iload_n 2, 1) := by decide +kernel
theorem dL_span_6 : decode cL_span 6 = .ok (.iload_n 3, 1) := by decide +kernel
theorem dL_span_7 : decode cL_span 7 = .ok (.iload 4, 2) := by decide +kernel
theorem dL_span_9 : decode cL_span 9 = .ok (.iload 5, 2) := by decide +kernel
theorem dL_span_11 : decode cL_span 11 = .ok (.iload 6, 2) := by decide +kernel
theorem dL_span_13 : decode cL_span 13 = .ok (.invokevirtual 113, 3) := by decide +kernel
theorem dL_span_16 : decode cL_span 16 = .ok (.i2l, 1) := by decide +kernel
theorem dL_span_17 : decode cL_span 17 = .ok (.lastore, 1) := by decide +kernel
theorem dL_span_18 : decode cL_span 18 = .ok (.goto 7, 3) := by decide +kernel
theorem dL_span_21 : decode cL_span 21 = .ok (.astore 8, 2) := by decide +kernel
theorem dL_span_23 : decode cL_span 23 = .ok (.iconst 1, 1) := by decide +kernel
theorem dL_span_24 : decode cL_span 24 = .ok (.ireturn, 1) := by decide +kernel
theorem dL_span_25 : decode cL_span 25 = .ok (.iconst 0, 1) := by decide +kernel
theorem dL_span_26 : decode cL_span 26 = .ok (.ireturn, 1) := by decide +kernel
