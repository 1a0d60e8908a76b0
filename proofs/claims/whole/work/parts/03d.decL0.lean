section Dec
theorem dL_court_0 : decode cL_court 0 = .ok (.aload_n 2, 1) := by decide +kernel
theorem dL_court_1 : decode cL_court 1 = .ok (.iconst 0, 1) := by decide +kernel
theorem dL_court_2 : decode cL_court 2 = .ok (.aload_n 0, 1) := by decide +kernel
theorem dL_court_3 : decode cL_court 3 = .ok (.iload_n 1, 1) := by decide +kernel
theorem dL_court_4 : decode cL_court 4 = .ok (.invokevirtual 7, 3) := by decide +kernel
theorem dL_court_7 : decode cL_court 7 = .ok (.i2l, 1) := by decide +kernel
theorem dL_court_8 : decode cL_court 8 = .ok (.lastore, 1) := by decide +kernel
theorem dL_court_9 : decode cL_court 9 = .ok (.goto 6, 3) := by decide +kernel
theorem dL_court_12 : decode cL_court 12 = .ok (.astore_n 3, 1) := by decide +kernel
theorem dL_court_13 : decode cL_court 13 = .ok (.iconst 1, 1) := by decide +kernel
theorem dL_court_14 : decode cL_court 14 = .ok (.ireturn, 1) := by decide +kernel
theorem dL_court_15 : decode cL_court 15 = .ok (.iconst 0, 1) := by decide +kernel
theorem dL_court_16 : decode cL_court 16 = .ok (.ireturn, 1) := by decide +kernel
theorem dL_law_0 : decode cL_law 0 = .ok (.aload_n 2, 1) := by decide +kernel
theorem dL_law_1 : decode cL_law 1 = .ok (.iconst 0, 1) := by decide +kernel
theorem dL_law_2 : decode cL_law 2 = .ok (.aload_n 0, 1) := by decide +kernel
theorem dL_law_3 : decode cL_law 3 = .ok (.iload_n 1, 1) := by decide +kernel
theorem dL_law_4 : decode cL_law 4 = .ok (.invokevirtual 15, 3) := by decide +kernel
theorem dL_law_7 : decode cL_law 7 = .ok (.i2l, 1) := by decide +kernel
theorem dL_law_8 : decode cL_law 8 = .ok (.lastore, 1) := by decide +kernel
theorem dL_law_9 : decode cL_law 9 = .ok (.goto 6, 3) := by decide +kernel
theorem dL_law_12 : decode cL_law 12 = .ok (.astore_n 3, 1) := by decide +kernel
theorem dL_law_13 : decode cL_law 13 = .ok (.iconst 1, 1) := by decide +kernel
theorem dL_law_14 : decode cL_law 14 = .ok (.ireturn, 1) := by decide +kernel
theorem dL_law_15 : decode cL_law 15 = .ok (.iconst 0, 1) := by decide +kernel
theorem dL_law_16 : decode cL_law 16 = .ok (.ireturn, 1) := by decide +kernel
theorem dL_work_0 : decode cL_work 0 = .ok (.aload_n 2, 1) := by decide +kernel
theorem dL_work_1 : decode cL_work 1 = .ok (.iconst 0, 1) := by decide +kernel
theorem dL_work_2 : decode cL_work 2 = .ok (.aload_n 0, 1) := by decide +kernel
theorem dL_work_3 : decode cL_work 3 = .ok (.iload_n 1, 1) := by decide +kernel
theorem dL_work_4 : decode cL_work 4 = .ok (.invokevirtual 18, 3) := by decide +kernel
theorem dL_work_7 : decode cL_work 7 = .ok (.i2l, 1) := by decide +kernel
theorem dL_work_8 : decode cL_work 8 = .ok (.lastore, 1) := by decide +kernel
theorem dL_work_9 : decode cL_work 9 = .ok (.goto 6, 3) := by decide +kernel
theorem dL_work_12 : decode cL_work 12 = .ok (.astore_n 3, 1) := by decide +kernel
theorem dL_work_13 : decode cL_work 13 = .ok (.iconst 1, 1) := by decide +kernel
theorem dL_work_14 : decode cL_work 14 = .ok (.ireturn, 1) := by decide +kernel
theorem dL_work_15 : decode cL_work 15 = .ok (.iconst 0, 1) := by decide +kernel
theorem dL_work_16 : decode cL_work 16 = .ok (.ireturn, 1) := by decide +kernel
theorem dL_book_0 : decode cL_book 0 = .ok (.aload_n 2, 1) := by decide +kernel
theorem dL_book_1 : decode cL_book 1 = .ok (.iconst 0, 1) := by decide +kernel
theorem dL_book_2 : decode cL_book 2 = .ok (.aload_n 0, 1) := by decide +kernel
theorem dL_book_3 : decode cL_book 3 = .ok (.iload_n 1, 1) := by decide +kernel
theorem dL_book_4 : decode cL_book 4 = .ok (.invokevirtual 21, 3) := by decide +kernel
theorem dL_book_7 : decode cL_book 7 = .ok (.i2l, 1) := by decide +kernel
theorem dL_book_8 : decode cL_book 8 = .ok (.lastore, 1) := by decide +kernel
theorem dL_book_9 : decode cL_book 9 = .ok (.goto 6, 3) := by decide +kernel
theorem dL_book_12 : decode cL_book 12 = .ok (.astore_n 3, 1) := by decide +kernel
theorem dL_book_13 : decode cL_book 13 = .ok (.iconst 1, 1) := by decide +kernel
theorem dL_book_14 : decode cL_book 14 = .ok (.ireturn, 1) := by decide +kernel
theorem dL_book_15 : decode cL_book 15 = .ok (.iconst 0, 1) := by decide +kernel
theorem dL_book_16 : decode cL_book 16 = .ok (.ireturn, 1) := by decide +kernel
theorem dL_told_0 : decode cL_told 0 = .ok (.aload_n 2, 1) := by decide +kernel
theorem dL_told_1 : decode cL_told 1 = .ok (.iconst 0, 1) := by decide +kernel
theorem dL_told_2 : decode cL_told 2 = .ok (.aload_n 0, 1) := by decide +kernel
theorem dL_told_3 : decode cL_told 3 = .ok (.iload_n 1, 1) := by decide +kernel
theorem dL_told_4 : decode cL_told 4 = .ok (.invokevirtual 24, 3) := by decide +kernel
theorem dL_told_7 : decode cL_told 7 = .ok (.i2l, 1) := by decide +kernel
theorem dL_told_8 : decode cL_told 8 = .ok (.lastore, 1) := by decide +kernel
theorem dL_told_9 : decode cL_told 9 = .ok (.goto 6, 3) := by decide +kernel
theorem dL_told_12 : decode cL_told 12 = .ok (.astore_n 3, 1) := by decide +kernel
theorem dL_told_13 : decode cL_told 13 = .ok (.iconst 1, 1) := by decide +kernel
theorem dL_told_14 : decode cL_told 14 = .ok (.ireturn, 1) := by decide +kernel
theorem dL_told_15 : decode cL_told 15 = .ok (.iconst 0, 1) := by decide +kernel
theorem dL_told_16 : decode cL_told 16 = .ok (.ireturn, 1) := by decide +kernel
theorem dL_back_0 : decode cL_back 0 = .ok (.aload_n 3, 1) := by decide +kernel
theorem dL_back_1 : decode cL_back 1 = .ok (.iconst 0, 1) := by decide +kernel
theorem dL_back_2 : decode cL_back 2 = .ok (.aload_n 0, 1) := by decide +kernel
theorem dL_back_3 : decode cL_back 3 = .ok (.iload_n 1, 1) := by decide +kernel
theorem dL_back_4 : decode cL_back 4 = .ok (.iload_n 2, 1) := by decide +kernel
theorem dL_back_5 : decode cL_back 5 = .ok (.invokevirtual 27, 3) := by decide +kernel
theorem dL_back_8 : decode cL_back 8 = .ok (.i2l, 1) := by decide +kernel
theorem dL_back_9 : decode cL_back 9 = .ok (.lastore, 1) := by decide +kernel
theorem dL_back_10 : decode cL_back 10 = .ok (.goto 11, 3) := by decide +kernel
theorem dL_back_13 : decode cL_back 13 = .ok (.astore 4, 2) := by decide +kernel
theorem dL_back_15 : decode cL_back 15 = .ok (.iconst 1, 1) := by decide +kernel
theorem dL_back_16 : decode cL_back 16 = .ok (.ireturn, 1) := by decide +kernel
theorem dL_back_17 : decode cL_back 17 = .ok (.astore 4, 2) := by decide +kernel
theorem dL_back_19 : decode cL_back 19 = .ok (.iconst 2, 1) := by decide +kernel
theorem dL_back_20 : decode cL_back 20 = .ok (.ireturn, 1) := by decide +kernel
theorem dL_back_21 : decode cL_back 21 = .ok (.iconst 0, 1) := by decide +kernel
theorem dL_back_22 : decode cL_back 22 = .ok (.ireturn, 1) := by decide +kernel
theorem dL_council_0 : decode cL_council 0 = .ok (.aload_n 3, 1) := by decide +kernel
theorem dL_council_1 : decode cL_council 1 = .ok (.iconst 0, 1) := by decide +kernel
theorem dL_council_2 : decode cL_council 2 = .ok (.aload_n 0, 1) := by decide +kernel
theorem dL_council_3 : decode cL_council 3 = .ok (.iload_n 1, 1) := by decide +kernel
theorem dL_council_4 : decode cL_council 4 = .ok (.iload_n 2, 1) := by decide +kernel
theorem dL_council_5 : decode cL_council 5 = .ok (.invokevirtual 33, 3) := by decide +kernel
theorem dL_council_8 : decode cL_council 8 = .ok (.i2l, 1) := by decide +kernel
theorem dL_council_9 : decode cL_council 9 = .ok (.lastore, 1) := by decide +kernel
theorem dL_council_10 : decode cL_council 10 = .ok (.goto 11, 3) := by decide +kernel
theorem dL_council_13 : decode cL_council 13 = .ok (.astore 4, 2) := by decide +kernel
theorem dL_council_15 : decode cL_council 15 = .ok (.iconst 1, 1) := by decide +kernel
theorem dL_council_16 : decode cL_council 16 = .ok (.ireturn, 1) := by decide +kernel
theorem dL_council_17 : decode cL_council 17 = .ok (.astore 4, 2) := by decide +kernel
theorem dL_council_19 : decode cL_council 19 = .ok (.iconst 2, 1) := by decide +kernel
theorem dL_council_20 : decode cL_council 20 = .ok (.ireturn, 1) := by decide +kernel
theorem dL_council_21 : decode cL_council 21 = .ok (.iconst 0, 1) := by decide +kernel
theorem dL_council_22 : decode cL_council 22 = .ok (.ireturn, 1) := by decide +kernel
theorem dL_hearing_0 : decode cL_hearing 0 = .ok (.aload_n 3, 1) := by decide +kernel
theorem dL_hearing_1 : decode cL_hearing 1 = .ok (.iconst 0, 1) := by decide +kernel
theorem dL_hearing_2 : decode cL_hearing 2 = .ok (.aload_n 0, 1) := by decide +kernel
theorem dL_hearing_3 : decode cL_hearing 3 = .ok (.iload_n 1, 1) := by decide +kernel
theorem dL_hearing_4 : decode cL_hearing 4 = .ok (.iload_n 2, 1) := by decide +kernel
theorem dL_hearing_5 : decode cL_hearing 5 = .ok (.invokevirtual 36, 3) := by decide +kernel
theorem dL_hearing_8 : decode cL_hearing 8 = .ok (.i2l, 1) := by decide +kernel
theorem dL_hearing_9 : decode cL_hearing 9 = .ok (.lastore, 1) := by decide +kernel
theorem dL_hearing_10 : decode cL_hearing 10 = .ok (.goto 7, 3) := by decide +kernel
theorem dL_hearing_13 : decode cL_hearing 13 = .ok (.astore 4, 2) := by decide +kernel
theorem dL_hearing_15 : decode cL_hearing 15 = .ok (.iconst 1, 1) := by decide +kernel
theorem dL_hearing_16 : decode cL_hearing 16 = .ok (.ireturn, 1) := by decide +kernel
theorem dL_hearing_17 : decode cL_hearing 17 = .ok (.iconst 0, 1) := by decide +kernel
theorem dL_hearing_18 : decode cL_hearing 18 = .ok (.ireturn, 1) := by decide +kernel
theorem dL_load_0 : decode cL_load 0 = .ok (.aload_n 3, 1) := by decide +kernel
theorem dL_load_1 : decode cL_load 1 = .ok (.iconst 0, 1) := by decide +kernel
theorem dL_load_2 : decode cL_load 2 = .ok (.aload_n 0, 1) := by decide +kernel
theorem dL_load_3 : decode cL_load 3 = .ok (.iload_n 1, 1) := by decide +kernel
theorem dL_load_4 : decode cL_load 4 = .ok (.iload_n 2, 1) := by decide +kernel
theorem dL_load_5 : decode cL_load 5 = .ok (.invokevirtual 39, 3) := by decide +kernel
theorem dL_load_8 : decode cL_load 8 = .ok (.i2l, 1) := by decide +kernel
theorem dL_load_9 : decode cL_load 9 = .ok (.lastore, 1) := by decide +kernel
theorem dL_load_10 : decode cL_load 10 = .ok (.goto 7, 3) := by decide +kernel
theorem dL_load_13 : decode cL_load 13 = .ok (.astore 4, 2) := by decide +kernel
theorem dL_load_15 : decode cL_load 15 = .ok (.iconst 1, 1) := by decide +kernel
theorem dL_load_16 : decode cL_load 16 = .ok (.ireturn, 1) := by decide +kernel
theorem dL_load_17 : decode cL_load 17 = .ok (.iconst 0, 1) := by decide +kernel
theorem dL_load_18 : decode cL_load 18 = .ok (.ireturn, 1) := by decide +kernel
theorem dL_burden_0 : decode cL_burden 0 = .ok (.aload_n 3, 1) := by decide +kernel
theorem dL_burden_1 : decode cL_burden 1 = .ok (.iconst 0, 1) := by decide +kernel
theorem dL_burden_2 : decode cL_burden 2 = .ok (.aload_n 0, 1) := by decide +kernel
theorem dL_burden_3 : decode cL_burden 3 = .ok (.iload_n 1, 1) := by decide +kernel
theorem dL_burden_4 : decode cL_burden 4 = .ok (.iload_n 2, 1) := by decide +kernel
theorem dL_burden_5 : decode cL_burden 5 = .ok (.invokevirtual 42, 3) := by decide +kernel
theorem dL_burden_8 : decode cL_burden 8 = .ok (.i2l, 1) := by decide +kernel
theorem dL_burden_9 : decode cL_burden 9 = .ok (.lastore, 1) := by decide +kernel
theorem dL_burden_10 : decode cL_burden 10 = .ok (.goto 7, 3) := by decide +kernel
theorem dL_burden_13 : decode cL_burden 13 = .ok (.astore 4, 2) := by decide +kernel
theorem dL_burden_15 : decode cL_burden 15 = .ok (.iconst 1, 1) := by decide +kernel
theorem dL_burden_16 : decode cL_burden 16 = .ok (.ireturn, 1) := by decide +kernel
theorem dL_burden_17 : decode cL_burden 17 = .ok (.iconst 0, 1) := by decide +kernel
theorem dL_burden_18 : decode cL_burden 18 = .ok (.ireturn, 1) := by decide +kernel
theorem dL_would_0 : decode cL_would 0 = .ok (.aload 10, 2) := by decide +kernel
theorem dL_would_2 : decode cL_would 2 = .ok (.iconst 0, 1) := by decide +kernel
theorem dL_would_3 : decode cL_would 3 = .ok (.aload_n 0, 1) := by decide +kernel
theorem dL_would_4 : decode cL_would 4 = .ok (.iload_n 1, 1) := by decide +kernel
theorem dL_would_5 : decode cL_would 5 = .ok (.iload_n 2, 1) := by decide +kernel
theorem dL_would_6 : decode cL_would 6 = .ok (.iload_n 3, 1) := by decide +kernel
theorem dL_would_7 : decode cL_would 7 = .ok (.iload 4, 2) := by decide +kernel
theorem dL_would_9 : decode cL_would 9 = .ok (.iload 5, 2) := by decide +kernel
theorem dL_would_11 : decode cL_would 11 = .ok (.iload 6, 2) := by decide +kernel
theorem dL_would_13 : decode cL_would 13 = .ok (.iload 7, 2) := by decide +kernel
theorem dL_would_15 : decode cL_would 15 = .ok (.iload 8, 2) := by decide +kernel
theorem dL_would_17 : decode cL_would 17 = .ok (.iload 9, 2) := by decide +kernel
theorem dL_would_19 : decode cL_would 19 = .ok (.invokevirtual 45, 3) := by decide +kernel
theorem dL_would_22 : decode cL_would 22 = .ok (.i2l, 1) := by decide +kernel
theorem dL_would_23 : decode cL_would 23 = .ok (.lastore, 1) := by decide +kernel
theorem dL_would_24 : decode cL_would 24 = .ok (.goto 7, 3) := by decide +kernel
theorem dL_would_27 : decode cL_would 27 = .ok (.astore 11, 2) := by decide +kernel
theorem dL_would_29 : decode cL_would 29 = .ok (.iconst 1, 1) := by decide +kernel
theorem dL_would_30 : decode cL_would 30 = .ok (.ireturn, 1) := by decide +kernel
theorem dL_would_31 : decode cL_would 31 = .ok (.iconst 0, 1) := by decide +kernel
theorem dL_would_32 : decode cL_would 32 = .ok (.ireturn, 1) := by decide +kernel
theorem dL_ahead_0 : decode cL_ahead 0 = .ok (.aload_n 3, 1) := by decide +kernel
theorem dL_ahead_1 : decode cL_ahead 1 = .ok (.iconst 0, 1) := by decide +kernel
theorem dL_ahead_2 : decode cL_ahead 2 = .ok (.aload_n 0, 1) := by decide +kernel
theorem dL_ahead_3 : decode cL_ahead 3 = .ok (.iload_n 1, 1) := by decide +kernel
theorem dL_ahead_4 : decode cL_ahead 4 = .ok (.iload_n 2, 1) := by decide +kernel
theorem dL_ahead_5 : decode cL_ahead 5 = .ok (.invokevirtual 49, 3) := by decide +kernel
theorem dL_ahead_8 : decode cL_ahead 8 = .ok (.i2l, 1) := by decide +kernel
theorem dL_ahead_9 : decode cL_ahead 9 = .ok (.lastore, 1) := by decide +kernel
theorem dL_ahead_10 : decode cL_ahead 10 = .ok (.goto 7, 3) := by decide +kernel
theorem dL_ahead_13 : decode cL_ahead 13 = .ok (.astore 4, 2) := by decide +kernel
theorem dL_ahead_15 : decode cL_ahead 15 = .ok (.iconst 1, 1) := by decide +kernel
theorem dL_ahead_16 : decode cL_ahead 16 = .ok (.ireturn, 1) := by decide +kernel
theorem dL_ahead_17 : decode cL_ahead 17 = .ok (.iconst 0, 1) := by decide +kernel
theorem dL_ahead_18 : decode cL_ahead 18 = .ok (.ireturn, 1) := by decide +kernel
theorem dL_could_0 : decode cL_could 0 = .ok (.aload_n 2, 1) := by decide +kernel
theorem dL_could_1 : decode cL_could 1 = .ok (.iconst 0, 1) := by decide +kernel
theorem dL_could_2 : decode cL_could 2 = .ok (.aload_n 0, 1) := by decide +kernel
theorem dL_could_3 : decode cL_could 3 = .ok (.iload_n 1, 1) := by decide +kernel
theorem dL_could_4 : decode cL_could 4 = .ok (.invokevirtual 52, 3) := by decide +kernel
theorem dL_could_7 : decode cL_could 7 = .ok (.i2l, 1) := by decide +kernel
theorem dL_could_8 : decode cL_could 8 = .ok (.lastore, 1) := by decide +kernel
theorem dL_could_9 : decode cL_could 9 = .ok (.goto 6, 3) := by decide +kernel
theorem dL_could_12 : decode cL_could 12 = .ok (.astore_n 3, 1) := by decide +kernel
theorem dL_could_13 : decode cL_could 13 = .ok (.iconst 1, 1) := by decide +kernel
theorem dL_could_14 : decode cL_could 14 = .ok (.ireturn, 1) := by decide +kernel
theorem dL_could_15 : decode cL_could 15 = .ok (.iconst 0, 1) := by decide +kernel
theorem dL_could_16 : decode cL_could 16 = .ok (.ireturn, 1) := by decide +kernel
theorem dL_roster_0 : decode cL_roster 0 = .ok (.aload_n 2, 1) := by decide +kernel
theorem dL_roster_1 : decode cL_roster 1 = .ok (.iconst 0, 1) := by decide +kernel
theorem dL_roster_2 : decode cL_roster 2 = .ok (.aload_n 0, 1) := by decide +kernel
theorem dL_roster_3 : decode cL_roster 3 = .ok (.iload_n 1, 1) := by decide +kernel
theorem dL_roster_4 : decode cL_roster 4 = .ok (.invokevirtual 55, 3) := by decide +kernel
theorem dL_roster_7 : decode cL_roster 7 = .ok (.i2l, 1) := by decide +kernel
theorem dL_roster_8 : decode cL_roster 8 = .ok (.lastore, 1) := by decide +kernel
theorem dL_roster_9 : decode cL_roster 9 = .ok (.goto 6, 3) := by decide +kernel
theorem dL_roster_12 : decode cL_roster 12 = .ok (.astore_n 3, 1) := by decide +kernel
theorem dL_roster_13 : decode cL_roster 13 = .ok (.iconst 1, 1) := by decide +kernel
theorem dL_roster_14 : decode cL_roster 14 = .ok (.ireturn, 1) := by decide +kernel
theorem dL_roster_15 : decode cL_roster 15 = .ok (.iconst 0, 1) := by decide +kernel
theorem dL_roster_16 : decode cL_roster 16 = .ok (.ireturn, 1) := by decide +kernel
theorem dL_gives_0 : decode cL_gives 0 = .ok (.aload_n 3, 1) := by decide +kernel
theorem dL_gives_1 : decode cL_gives 1 = .ok (.iconst 0, 1) := by decide +kernel
theorem dL_gives_2 : decode cL_gives 2 = .ok (.aload_n 0, 1) := by decide +kernel
theorem dL_gives_3 : decode cL_gives 3 = .ok (.iload_n 1, 1) := by decide +kernel
theorem dL_gives_4 : decode cL_gives 4 = .ok (.iload_n 2, 1) := by decide +kernel
theorem dL_gives_5 : decode cL_gives 5 = .ok (.invokevirtual 58, 3) := by decide +kernel
theorem dL_gives_8 : decode cL_gives 8 = .ok (.i2l, 1) := by decide +kernel
theorem dL_gives_9 : decode cL_gives 9 = .ok (.lastore, 1) := by decide +kernel
theorem dL_gives_10 : decode cL_gives 10 = .ok (.goto 11, 3) := by decide +kernel
theorem dL_gives_13 : decode cL_gives 13 = .ok (.astore 4, 2) := by decide +kernel
theorem dL_gives_15 : decode cL_gives 15 = .ok (.iconst 1, 1) := by decide +kernel
theorem dL_gives_16 : decode cL_gives 16 = .ok (.ireturn, 1) := by decide +kernel
theorem dL_gives_17 : decode cL_gives 17 = .ok (.astore 4, 2) := by decide +kernel
theorem dL_gives_19 : decode cL_gives 19 = .ok (.iconst 2, 1) := by decide +kernel
theorem dL_gives_20 : decode cL_gives 20 = .ok (.ireturn, 1) := by decide +kernel
theorem dL_gives_21 : decode cL_gives 21 = .ok (.iconst 0, 1) := by decide +kernel
theorem dL_gives_22 : decode cL_gives 22 = .ok (.ireturn, 1) := by decide +kernel
theorem dL_word_0 : decode cL_word 0 = .ok (.aload_n 2, 1) := by decide +kernel
theorem dL_word_1 : decode cL_word 1 = .ok (.iconst 0, 1) := by decide +kernel
theorem dL_word_2 : decode cL_word 2 = .ok (.aload_n 0, 1) := by decide +kernel
theorem dL_word_3 : decode cL_word 3 = .ok (.iload_n 1, 1) := by decide +kernel
theorem dL_word_4 : decode cL_word 4 = .ok (.invokevirtual 61, 3) := by decide +kernel
theorem dL_word_7 : decode cL_word 7 = .ok (.i2l, 1) := by decide +kernel
theorem dL_word_8 : decode cL_word 8 = .ok (.lastore, 1) := by decide +kernel
theorem dL_word_9 : decode cL_word 9 = .ok (.goto 6, 3) := by decide +kernel
theorem dL_word_12 : decode cL_word 12 = .ok (.astore_n 3, 1) := by decide +kernel
theorem dL_word_13 : decode cL_word 13 = .ok (.iconst 1, 1) := by decide +kernel
theorem dL_word_14 : decode cL_word 14 = .ok (.ireturn, 1) := by decide +kernel
theorem dL_word_15 : decode cL_word 15 = .ok (.iconst 0, 1) := by decide +kernel
theorem dL_word_16 : decode cL_word 16 = .ok (.ireturn, 1) := by decide +kernel
theorem dL_ease_0 : decode cL_ease 0 = .ok (.aload_n 3, 1) := by decide +kernel
theorem dL_ease_1 : decode cL_ease 1 = .ok (.iconst 0, 1) := by decide +kernel
theorem dL_ease_2 : decode cL_ease 2 = .ok (.aload_n 0, 1) := by decide +kernel
theorem dL_ease_3 : decode cL_ease 3 = .ok (.iload_n 1, 1) := by decide +kernel
theorem dL_ease_4 : decode cL_ease 4 = .ok (.iload_n 2, 1) := by decide +kernel
theorem dL_ease_5 : decode cL_ease 5 = .ok (.invokevirtual 64, 3) := by decide +kernel
theorem dL_ease_8 : decode cL_ease 8 = .ok (.i2l, 1) := by decide +kernel
theorem dL_ease_9 : decode cL_ease 9 = .ok (.lastore, 1) := by decide +kernel
theorem dL_ease_10 : decode cL_ease 10 = .ok (.goto 7, 3) := by decide +kernel
theorem dL_ease_13 : decode cL_ease 13 = .ok (.astore 4, 2) := by decide +kernel
theorem dL_ease_15 : decode cL_ease 15 = .ok (.iconst 1, 1) := by decide +kernel
theorem dL_ease_16 : decode cL_ease 16 = .ok (.ireturn, 1) := by decide +kernel
theorem dL_ease_17 : decode cL_ease 17 = .ok (.iconst 0, 1) := by decide +kernel
theorem dL_ease_18 : decode cL_ease 18 = .ok (.ireturn, 1) := by decide +kernel
theorem dL_fits_0 : decode cL_fits 0 = .ok (.aload_n 2, 1) := by decide +kernel
theorem dL_fits_1 : decode cL_fits 1 = .ok (.iconst 0, 1) := by decide +kernel
theorem dL_fits_2 : decode cL_fits 2 = .ok (.aload_n 0, 1) := by decide +kernel
theorem dL_fits_3 : decode cL_fits 3 = .ok (.iload_n 1, 1) := by decide +kernel
theorem dL_fits_4 : decode cL_fits 4 = .ok (.invokevirtual 67, 3) := by decide +kernel
theorem dL_fits_7 : decode cL_fits 7 = .ok (.i2l, 1) := by decide +kernel
theorem dL_fits_8 : decode cL_fits 8 = .ok (.lastore, 1) := by decide +kernel
theorem dL_fits_9 : decode cL_fits 9 = .ok (.goto 6, 3) := by decide +kernel
theorem dL_fits_12 : decode cL_fits 12 = .ok (.astore_n 3, 1) := by decide +kernel
theorem dL_fits_13 : decode cL_fits 13 = .ok (.iconst 1, 1) := by decide +kernel
theorem dL_fits_14 : decode cL_fits 14 = .ok (.ireturn, 1) := by decide +kernel
theorem dL_fits_15 : decode cL_fits 15 = .ok (.iconst 0, 1) := by decide +kernel
theorem dL_fits_16 : decode cL_fits 16 = .ok (.ireturn, 1) := by decide +kernel
theorem dL_look_0 : decode cL_look 0 = .ok (.aload_n 2, 1) := by decide +kernel
theorem dL_look_1 : decode cL_look 1 = .ok (.iconst 0, 1) := by decide +kernel
theorem dL_look_2 : decode cL_look 2 = .ok (.aload_n 0, 1) := by decide +kernel
theorem dL_look_3 : decode cL_look 3 = .ok (.iload_n 1, 1) := by decide +kernel
theorem dL_look_4 : decode cL_look 4 = .ok (.invokevirtual 70, 3) := by decide +kernel
theorem dL_look_7 : decode cL_look 7 = .ok (.i2l, 1) := by decide +kernel
theorem dL_look_8 : decode cL_look 8 = .ok (.lastore, 1) := by decide +kernel
theorem dL_look_9 : decode cL_look 9 = .ok (.goto 6, 3) := by decide +kernel
theorem dL_look_12 : decode cL_look 12 = .ok (.astore_n 3, 1) := by decide +kernel
theorem dL_look_13 : decode cL_look 13 = .ok (.iconst 1, 1) := by decide +kernel
theorem dL_look_14 : decode cL_look 14 = .ok (.ireturn, 1) := by decide +kernel
theorem dL_look_15 : decode cL_look 15 = .ok (.iconst 0, 1) := by decide +kernel
theorem dL_look_16 : decode cL_look 16 = .ok (.ireturn, 1) := by decide +kernel
theorem dL_quorum_0 : decode cL_quorum 0 = .ok (.aload_n 3, 1) := by decide +kernel
theorem dL_quorum_1 : decode cL_quorum 1 = .ok (.iconst 0, 1) := by decide +kernel
theorem dL_quorum_2 : decode cL_quorum 2 = .ok (.aload_n 0, 1) := by decide +kernel
theorem dL_quorum_3 : decode cL_quorum 3 = .ok (.iload_n 1, 1) := by decide +kernel
theorem dL_quorum_4 : decode cL_quorum 4 = .ok (.iload_n 2, 1) := by decide +kernel
theorem dL_quorum_5 : decode cL_quorum 5 = .ok (.invokevirtual 73, 3) := by decide +kernel
theorem dL_quorum_8 : decode cL_quorum 8 = .ok (.i2l, 1) := by decide +kernel
theorem dL_quorum_9 : decode cL_quorum 9 = .ok (.lastore, 1) := by decide +kernel
theorem dL_quorum_10 : decode cL_quorum 10 = .ok (.goto 7, 3) := by decide +kernel
theorem dL_quorum_13 : decode cL_quorum 13 = .ok (.astore 4, 2) := by decide +kernel
theorem dL_quorum_15 : decode cL_quorum 15 = .ok (.iconst 1, 1) := by decide +kernel
theorem dL_quorum_16 : decode cL_quorum 16 = .ok (.ireturn, 1) := by decide +kernel
theorem dL_quorum_17 : decode cL_quorum 17 = .ok (.iconst 0, 1) := by decide +kernel
theorem dL_quorum_18 : decode cL_quorum 18 = .ok (.ireturn, 1) := by decide +kernel
theorem dL_lies_0 : decode cL_lies 0 = .ok (.aload 5, 2) := by decide +kernel
theorem dL_lies_2 : decode cL_lies 2 = .ok (.iconst 0, 1) := by decide +kernel
theorem dL_lies_3 : decode cL_lies 3 = .ok (.aload_n 0, 1) := by decide +kernel
theorem dL_lies_4 : decode cL_lies 4 = .ok (.iload_n 1, 1) := by decide +kernel
theorem dL_lies_5 : decode cL_lies 5 = .ok (.iload_n 2, 1) := by decide +kernel
theorem dL_lies_6 : decode cL_lies 6 = .ok (.iload_n 3, 1) := by decide +kernel
theorem dL_lies_7 : decode cL_lies 7 = .ok (.iload 4, 2) := by decide +kernel
theorem dL_lies_9 : decode cL_lies 9 = .ok (.invokevirtual 76, 3) := by decide +kernel
theorem dL_lies_12 : decode cL_lies 12 = .ok (.lastore, 1) := by decide +kernel
theorem dL_lies_13 : decode cL_lies 13 = .ok (.goto 7, 3) := by decide +kernel
theorem dL_lies_16 : decode cL_lies 16 = .ok (.astore 6, 2) := by decide +kernel
theorem dL_lies_18 : decode cL_lies 18 = .ok (.iconst 1, 1) := by decide +kernel
theorem dL_lies_19 : decode cL_lies 19 = .ok (.ireturn, 1) := by decide +kernel
theorem dL_lies_20 : decode cL_lies 20 = .ok (.iconst 0, 1) := by decide +kernel
theorem dL_lies_21 : decode cL_lies 21 = .ok (.ireturn, 1) := by decide +kernel
theorem dL_kneel_0 : decode cL_kneel 0 = .ok (.aload 4, 2) := by decide +kernel
theorem dL_kneel_2 : decode cL_kneel 2 = .ok (.iconst 0, 1) := by decide +kernel
theorem dL_kneel_3 : decode cL_kneel 3 = .ok (.aload_n 0, 1) := by decide +kernel
theorem dL_kneel_4 : decode cL_kneel 4 = .ok (.iload_n 1, 1) := by decide +kernel
theorem dL_kneel_5 : decode cL_kneel 5 = .ok (.iload_n 2, 1) := by decide +kernel
theorem dL_kneel_6 : decode cL_kneel 6 = .ok (.iload_n 3, 1) := by decide +kernel
theorem dL_kneel_7 : decode cL_kneel 7 = .ok (.invokevirtual 80, 3) := by decide +kernel
theorem dL_kneel_10 : decode cL_kneel 10 = .ok (.i2l, 1) := by decide +kernel
theorem dL_kneel_11 : decode cL_kneel 11 = .ok (.lastore, 1) := by decide +kernel
theorem dL_kneel_12 : decode cL_kneel 12 = .ok (.goto 7, 3) := by decide +kernel
theorem dL_kneel_15 : decode cL_kneel 15 = .ok (.astore 5, 2) := by decide +kernel
theorem dL_kneel_17 : decode cL_kneel 17 = .ok (.iconst 1, 1) := by decide +kernel
theorem dL_kneel_18 : decode cL_kneel 18 = .ok (.ireturn, 1) := by decide +kernel
theorem dL_kneel_19 : decode cL_kneel 19 = .ok (.iconst 0, 1) := by decide +kernel
theorem dL_kneel_20 : decode cL_kneel 20 = .ok (.ireturn, 1) := by decide +kernel
theorem dL_balm_0 : decode cL_balm 0 = .ok (.aload 4, 2) := by decide +kernel
theorem dL_balm_2 : decode cL_balm 2 = .ok (.iconst 0, 1) := by decide +kernel
theorem dL_balm_3 : decode cL_balm 3 = .ok (.aload_n 0, 1) := by decide +kernel
theorem dL_balm_4 : decode cL_balm 4 = .ok (.iload_n 1, 1) := by decide +kernel
theorem dL_balm_5 : decode cL_balm 5 = .ok (.iload_n 2, 1) := by decide +kernel
theorem dL_balm_6 : decode cL_balm 6 = .ok (.iload_n 3, 1) := by decide +kernel
theorem dL_balm_7 : decode cL_balm 7 = .ok (.invokevirtual 84, 3) := by decide +kernel
theorem dL_balm_10 : decode cL_balm 10 = .ok (.i2l, 1) := by decide +kernel
theorem dL_balm_11 : decode cL_balm 11 = .ok (.lastore, 1) := by decide +kernel
theorem dL_balm_12 : decode cL_balm 12 = .ok (.goto 11, 3) := by decide +kernel
theorem dL_balm_15 : decode cL_balm 15 = .ok (.astore 5, 2) := by decide +kernel
theorem dL_balm_17 : decode cL_balm 17 = .ok (.iconst 1, 1) := by decide +kernel
theorem dL_balm_18 : decode cL_balm 18 = .ok (.ireturn, 1) := by decide +kernel
theorem dL_balm_19 : decode cL_balm 19 = .ok (.astore 5, 2) := by decide +kernel
theorem dL_balm_21 : decode cL_balm 21 = .ok (.iconst 2, 1) := by decide +kernel
theorem dL_balm_22 : decode cL_balm 22 = .ok (.ireturn, 1) := by decide +kernel
theorem dL_balm_23 : decode cL_balm 23 = .ok (.iconst 0, 1) := by decide +kernel
theorem dL_balm_24 : decode cL_balm 24 = .ok (.ireturn, 1) := by decide +kernel
theorem dL_weariest_0 : decode cL_weariest 0 = .ok (.aload_n 2, 1) := by decide +kernel
theorem dL_weariest_1 : decode cL_weariest 1 = .ok (.iconst 0, 1) := by decide +kernel
theorem dL_weariest_2 : decode cL_weariest 2 = .ok (.aload_n 0, 1) := by decide +kernel
theorem dL_weariest_3 : decode cL_weariest 3 = .ok (.iload_n 1, 1) := by decide +kernel
theorem dL_weariest_4 : decode cL_weariest 4 = .ok (.invokevirtual 87, 3) := by decide +kernel
theorem dL_weariest_7 : decode cL_weariest 7 = .ok (.i2l, 1) := by decide +kernel
theorem dL_weariest_8 : decode cL_weariest 8 = .ok (.lastore, 1) := by decide +kernel
theorem dL_weariest_9 : decode cL_weariest 9 = .ok (.goto 6, 3) := by decide +kernel
theorem dL_weariest_12 : decode cL_weariest 12 = .ok (.astore_n 3, 1) := by decide +kernel
theorem dL_weariest_13 : decode cL_weariest 13 = .ok (.iconst 1, 1) := by decide +kernel
theorem dL_weariest_14 : decode cL_weariest 14 = .ok (.ireturn, 1) := by decide +kernel
theorem dL_weariest_15 : decode cL_weariest 15 = .ok (.iconst 0, 1) := by decide +kernel
theorem dL_weariest_16 : decode cL_weariest 16 = .ok (.ireturn, 1) := by decide +kernel
theorem dL_heaviest_0 : decode cL_heaviest 0 = .ok (.aload_n 3, 1) := by decide +kernel
theorem dL_heaviest_1 : decode cL_heaviest 1 = .ok (.iconst 0, 1) := by decide +kernel
theorem dL_heaviest_2 : decode cL_heaviest 2 = .ok (.aload_n 0, 1) := by decide +kernel
theorem dL_heaviest_3 : decode cL_heaviest 3 = .ok (.iload_n 1, 1) := by decide +kernel
theorem dL_heaviest_4 : decode cL_heaviest 4 = .ok (.iload_n 2, 1) := by decide +kernel
theorem dL_heaviest_5 : decode cL_heaviest 5 = .ok (.invokevirtual 90, 3) := by decide +kernel
theorem dL_heaviest_8 : decode cL_heaviest 8 = .ok (.i2l, 1) := by decide +kernel
theorem dL_heaviest_9 : decode cL_heaviest 9 = .ok (.lastore, 1) := by decide +kernel
theorem dL_heaviest_10 : decode cL_heaviest 10 = .ok (.goto 11, 3) := by decide +kernel
theorem dL_heaviest_13 : decode cL_heaviest 13 = .ok (.astore 4, 2) := by decide +kernel
theorem dL_heaviest_15 : decode cL_heaviest 15 = .ok (.iconst 1, 1) := by decide +kernel
theorem dL_heaviest_16 : decode cL_heaviest 16 = .ok (.ireturn, 1) := by decide +kernel
theorem dL_heaviest_17 : decode cL_heaviest 17 = .ok (.astore 4, 2) := by decide +kernel
theorem dL_heaviest_19 : decode cL_heaviest 19 = .ok (.iconst 2, 1) := by decide +kernel
theorem dL_heaviest_20 : decode cL_heaviest 20 = .ok (.ireturn, 1) := by decide +kernel
theorem dL_heaviest_21 : decode cL_heaviest 21 = .ok (.iconst 0, 1) := by decide +kernel
theorem dL_heaviest_22 : decode cL_heaviest 22 = .ok (.ireturn, 1) := by decide +kernel
theorem dL_listeners_0 : decode cL_listeners 0 = .ok (.aload_n 2, 1) := by decide +kernel
theorem dL_listeners_1 : decode cL_listeners 1 = .ok (.iconst 0, 1) := by decide +kernel
theorem dL_listeners_2 : decode cL_listeners 2 = .ok (.aload_n 0, 1) := by decide +kernel
theorem dL_listeners_3 : decode cL_listeners 3 = .ok (.iload_n 1, 1) := by decide +kernel
theorem dL_listeners_4 : decode cL_listeners 4 = .ok (.invokevirtual 93, 3) := by decide +kernel
theorem dL_listeners_7 : decode cL_listeners 7 = .ok (.i2l, 1) := by decide +kernel
theorem dL_listeners_8 : decode cL_listeners 8 = .ok (.lastore, 1) := by decide +kernel
theorem dL_listeners_9 : decode cL_listeners 9 = .ok (.goto 6, 3) := by decide +kernel
theorem dL_listeners_12 : decode cL_listeners 12 = .ok (.astore_n 3, 1) := by decide +kernel
theorem dL_listeners_13 : decode cL_listeners 13 = .ok (.iconst 1, 1) := by decide +kernel
theorem dL_listeners_14 : decode cL_listeners 14 = .ok (.ireturn, 1) := by decide +kernel
theorem dL_listeners_15 : decode cL_listeners 15 = .ok (.iconst 0, 1) := by decide +kernel
theorem dL_listeners_16 : decode cL_listeners 16 = .ok (.ireturn, 1) := by decide +kernel
theorem dL_ready_0 : decode cL_ready 0 = .ok (.aload_n 3, 1) := by decide +kernel
theorem dL_ready_1 : decode cL_ready 1 = .ok (.iconst 0, 1) := by decide +kernel
theorem dL_ready_2 : decode cL_ready 2 = .ok (.aload_n 0, 1) := by decide +kernel
theorem dL_ready_3 : decode cL_ready 3 = .ok (.iload_n 1, 1) := by decide +kernel
theorem dL_ready_4 : decode cL_ready 4 = .ok (.iload_n 2, 1) := by decide +kernel
theorem dL_ready_5 : decode cL_ready 5 = .ok (.invokevirtual 96, 3) := by decide +kernel
theorem dL_ready_8 : decode cL_ready 8 = .ok (.i2l, 1) := by decide +kernel
theorem dL_ready_9 : decode cL_ready 9 = .ok (.lastore, 1) := by decide +kernel
theorem dL_ready_10 : decode cL_ready 10 = .ok (.goto 7, 3) := by decide +kernel
theorem dL_ready_13 : decode cL_ready 13 = .ok (.astore 4, 2) := by decide +kernel
theorem dL_ready_15 : decode cL_ready 15 = .ok (.iconst 1, 1) := by decide +kernel
theorem dL_ready_16 : decode cL_ready 16 = .ok (.ireturn, 1) := by decide +kernel
theorem dL_ready_17 : decode cL_ready 17 = .ok (.iconst 0, 1) := by decide +kernel
theorem dL_ready_18 : decode cL_ready 18 = .ok (.ireturn, 1) := by decide +kernel
theorem dL_sure_0 : decode cL_sure 0 = .ok (.aload_n 3, 1) := by decide +kernel
theorem dL_sure_1 : decode cL_sure 1 = .ok (.iconst 0, 1) := by decide +kernel
theorem dL_sure_2 : decode cL_sure 2 = .ok (.aload_n 0, 1) := by decide +kernel
theorem dL_sure_3 : decode cL_sure 3 = .ok (.iload_n 1, 1) := by decide +kernel
theorem dL_sure_4 : decode cL_sure 4 = .ok (.iload_n 2, 1) := by decide +kernel
theorem dL_sure_5 : decode cL_sure 5 = .ok (.invokevirtual 99, 3) := by decide +kernel
theorem dL_sure_8 : decode cL_sure 8 = .ok (.i2l, 1) := by decide +kernel
theorem dL_sure_9 : decode cL_sure 9 = .ok (.lastore, 1) := by decide +kernel
theorem dL_sure_10 : decode cL_sure 10 = .ok (.goto 11, 3) := by decide +kernel
theorem dL_sure_13 : decode cL_sure 13 = .ok (.astore 4, 2) := by decide +kernel
theorem dL_sure_15 : decode cL_sure 15 = .ok (.iconst 1, 1) := by decide +kernel
theorem dL_sure_16 : decode cL_sure 16 = .ok (.ireturn, 1) := by decide +kernel
theorem dL_sure_17 : decode cL_sure 17 = .ok (.astore 4, 2) := by decide +kernel
theorem dL_sure_19 : decode cL_sure 19 = .ok (.iconst 2, 1) := by decide +kernel
theorem dL_sure_20 : decode cL_sure 20 = .ok (.ireturn, 1) := by decide +kernel
theorem dL_sure_21 : decode cL_sure 21 = .ok (.iconst 0, 1) := by decide +kernel
theorem dL_sure_22 : decode cL_sure 22 = .ok (.ireturn, 1) := by decide +kernel
theorem dL_bearers_0 : decode cL_bearers 0 = .ok (.aload_n 2, 1) := by decide +kernel
theorem dL_bearers_1 : decode cL_bearers 1 = .ok (.iconst 0, 1) := by decide +kernel
theorem dL_bearers_2 : decode cL_bearers 2 = .ok (.aload_n 0, 1) := by decide +kernel
theorem dL_bearers_3 : decode cL_bearers 3 = .ok (.iload_n 1, 1) := by decide +kernel
theorem dL_bearers_4 : decode cL_bearers 4 = .ok (.invokevirtual 102, 3) := by decide +kernel
theorem dL_bearers_7 : decode cL_bearers 7 = .ok (.i2l, 1) := by decide +kernel
theorem dL_bearers_8 : decode cL_bearers 8 = .ok (.lastore, 1) := by decide +kernel
theorem dL_bearers_9 : decode cL_bearers 9 = .ok (.goto 6, 3) := by decide +kernel
theorem dL_bearers_12 : decode cL_bearers 12 = .ok (.astore_n 3, 1) := by decide +kernel
theorem dL_bearers_13 : decode cL_bearers 13 = .ok (.iconst 1, 1) := by decide +kernel
theorem dL_bearers_14 : decode cL_bearers 14 = .ok (.ireturn, 1) := by decide +kernel
theorem dL_bearers_15 : decode cL_bearers 15 = .ok (.iconst 0, 1) := by decide +kernel
theorem dL_bearers_16 : decode cL_bearers 16 = .ok (.ireturn, 1) := by decide +kernel
theorem dL_rumour_0 : decode cL_rumour 0 = .ok (.aload_n 3, 1) := by decide +kernel
theorem dL_rumour_1 : decode cL_rumour 1 = .ok (.iconst 0, 1) := by decide +kernel
theorem dL_rumour_2 : decode cL_rumour 2 = .ok (.aload_n 0, 1) := by decide +kernel
theorem dL_rumour_3 : decode cL_rumour 3 = .ok (.iload_n 1, 1) := by decide +kernel
theorem dL_rumour_4 : decode cL_rumour 4 = .ok (.iload_n 2, 1) := by decide +kernel
theorem dL_rumour_5 : decode cL_rumour 5 = .ok (.invokevirtual 105, 3) := by decide +kernel
theorem dL_rumour_8 : decode cL_rumour 8 = .ok (.i2l, 1) := by decide +kernel
theorem dL_rumour_9 : decode cL_rumour 9 = .ok (.lastore, 1) := by decide +kernel
theorem dL_rumour_10 : decode cL_rumour 10 = .ok (.goto 11, 3) := by decide +kernel
theorem dL_rumour_13 : decode cL_rumour 13 = .ok (.astore 4, 2) := by decide +kernel
theorem dL_rumour_15 : decode cL_rumour 15 = .ok (.iconst 1, 1) := by decide +kernel
theorem dL_rumour_16 : decode cL_rumour 16 = .ok (.ireturn, 1) := by decide +kernel
theorem dL_rumour_17 : decode cL_rumour 17 = .ok (.astore 4, 2) := by decide +kernel
theorem dL_rumour_19 : decode cL_rumour 19 = .ok (.iconst 2, 1) := by decide +kernel
theorem dL_rumour_20 : decode cL_rumour 20 = .ok (.ireturn, 1) := by decide +kernel
theorem dL_rumour_21 : decode cL_rumour 21 = .ok (.iconst 0, 1) := by decide +kernel
theorem dL_rumour_22 : decode cL_rumour 22 = .ok (.ireturn, 1) := by decide +kernel
theorem dL_lied_0 : decode cL_lied 0 = .ok (.aload_n 3, 1) := by decide +kernel
theorem dL_lied_1 : decode cL_lied 1 = .ok (.iconst 0, 1) := by decide +kernel
theorem dL_lied_2 : decode cL_lied 2 = .ok (.aload_n 0, 1) := by decide +kernel
theorem dL_lied_3 : decode cL_lied 3 = .ok (.iload_n 1, 1) := by decide +kernel
theorem dL_lied_4 : decode cL_lied 4 = .ok (.iload_n 2, 1) := by decide +kernel
theorem dL_lied_5 : decode cL_lied 5 = .ok (.invokevirtual 108, 3) := by decide +kernel
theorem dL_lied_8 : decode cL_lied 8 = .ok (.i2l, 1) := by decide +kernel
theorem dL_lied_9 : decode cL_lied 9 = .ok (.lastore, 1) := by decide +kernel
theorem dL_lied_10 : decode cL_lied 10 = .ok (.goto 7, 3) := by decide +kernel
theorem dL_lied_13 : decode cL_lied 13 = .ok (.astore 4, 2) := by decide +kernel
theorem dL_lied_15 : decode cL_lied 15 = .ok (.iconst 1, 1) := by decide +kernel
theorem dL_lied_16 : decode cL_lied 16 = .ok (.ireturn, 1) := by decide +kernel
theorem dL_lied_17 : decode cL_lied 17 = .ok (.iconst 0, 1) := by decide +kernel
theorem dL_lied_18 : decode cL_lied 18 = .ok (.ireturn, 1) := by decide +kernel
theorem dL_reign_0 : decode cL_reign 0 = .ok (.aload 5, 2) := by decide +kernel
theorem dL_reign_2 : decode cL_reign 2 = .ok (.iconst 0, 1) := by decide +kernel
theorem dL_reign_3 : decode cL_reign 3 = .ok (.aload_n 0, 1) := by decide +kernel
theorem dL_reign_4 : decode cL_reign 4 = .ok (.iload_n 1, 1) := by decide +kernel
theorem dL_reign_5 : decode cL_reign 5 = .ok (.iload_n 2, 1) := by decide +kernel
theorem dL_reign_6 : decode cL_reign 6 = .ok (.iload_n 3, 1) := by decide +kernel
theorem dL_reign_7 : decode cL_reign 7 = .ok (.iload 4, 2) := by decide +kernel
theorem dL_reign_9 : decode cL_reign 9 = .ok (.invokevirtual 111, 3) := by decide +kernel
theorem dL_reign_12 : decode cL_reign 12 = .ok (.i2l, 1) := by decide +kernel
theorem dL_reign_13 : decode cL_reign 13 = .ok (.lastore, 1) := by decide +kernel
theorem dL_reign_14 : decode cL_reign 14 = .ok (.goto 7, 3) := by decide +kernel
theorem dL_reign_17 : decode cL_reign 17 = .ok (.astore 6, 2) := by decide +kernel
theorem dL_reign_19 : decode cL_reign 19 = .ok (.iconst 1, 1) := by decide +kernel
theorem dL_reign_20 : decode cL_reign 20 = .ok (.ireturn, 1) := by decide +kernel
theorem dL_reign_21 : decode cL_reign 21 = .ok (.iconst 0, 1) := by decide +kernel
theorem dL_reign_22 : decode cL_reign 22 = .ok (.ireturn, 1) := by decide +kernel
theorem dL_span_0 : decode cL_span 0 = .ok (.aload 7, 2) := by decide +kernel
theorem dL_span_2 : decode cL_span 2 = .ok (.iconst 0, 1) := by decide +kernel
theorem dL_span_3 : decode cL_span 3 = .ok (.aload_n 0, 1) := by decide +kernel
theorem dL_span_4 : decode cL_span 4 = .ok (.iload_n 1, 1) := by decide +kernel
theorem dL_span_5 : decode cL_span 5 = .ok (.iload_n 2, 1) := by decide +kernel
theorem dL_span_6 : decode cL_span 6 = .ok (.iload_n 3, 1) := by decide +kernel
theorem dL_span_7 : decode cL_span 7 = .ok (.iload 4, 2) := by decide +kernel
theorem dL_span_9 : decode cL_span 9 = .ok (.iload 5, 2) := by decide +kernel
theorem dL_span_11 : decode cL_span 11 = .ok (.iload 6, 2) := by decide +kernel
theorem dL_span_13 : decode cL_span 13 = .ok (.invokevirtual 115, 3) := by decide +kernel
theorem dL_span_16 : decode cL_span 16 = .ok (.i2l, 1) := by decide +kernel
theorem dL_span_17 : decode cL_span 17 = .ok (.lastore, 1) := by decide +kernel
theorem dL_span_18 : decode cL_span 18 = .ok (.goto 7, 3) := by decide +kernel
theorem dL_span_21 : decode cL_span 21 = .ok (.astore 8, 2) := by decide +kernel
theorem dL_span_23 : decode cL_span 23 = .ok (.iconst 1, 1) := by decide +kernel
theorem dL_span_24 : decode cL_span 24 = .ok (.ireturn, 1) := by decide +kernel
theorem dL_span_25 : decode cL_span 25 = .ok (.iconst 0, 1) := by decide +kernel
theorem dL_span_26 : decode cL_span 26 = .ok (.ireturn, 1) := by decide +kernel
end Dec
