section Dec
theorem dX10_init_0 : decode cX10_init 0 = .ok (.aload_n 0, 1) := by decide +kernel
theorem dX10_init_1 : decode cX10_init 1 = .ok (.invokespecial 3, 3) := by decide +kernel
theorem dX10_init_4 : decode cX10_init 4 = .ok (.aload_n 0, 1) := by decide +kernel
theorem dX10_init_5 : decode cX10_init 5 = .ok (.sipush 600, 3) := by decide +kernel
theorem dX10_init_8 : decode cX10_init 8 = .ok (.newarray .byte, 2) := by decide +kernel
theorem dX10_init_10 : decode cX10_init 10 = .ok (.putfield 9, 3) := by decide +kernel
theorem dX10_init_13 : decode cX10_init 13 = .ok (.aload_n 0, 1) := by decide +kernel
theorem dX10_init_14 : decode cX10_init 14 = .ok (.iconst (-1), 1) := by decide +kernel
theorem dX10_init_15 : decode cX10_init 15 = .ok (.putfield 15, 3) := by decide +kernel
theorem dX10_init_18 : decode cX10_init 18 = .ok (.return_, 1) := by decide +kernel
theorem dX10_put_0 : decode cX10_put 0 = .ok (.bipush 24, 2) := by decide +kernel
theorem dX10_put_2 : decode cX10_put 2 = .ok (.istore_n 2, 1) := by decide +kernel
theorem dX10_put_3 : decode cX10_put 3 = .ok (.iload_n 2, 1) := by decide +kernel
theorem dX10_put_4 : decode cX10_put 4 = .ok (.ifCond .lt 42, 3) := by decide +kernel
theorem dX10_put_7 : decode cX10_put 7 = .ok (.aload_n 0, 1) := by decide +kernel
theorem dX10_put_8 : decode cX10_put 8 = .ok (.getfield 19, 3) := by decide +kernel
theorem dX10_put_11 : decode cX10_put 11 = .ok (.sipush 600, 3) := by decide +kernel
theorem dX10_put_14 : decode cX10_put 14 = .ok (.if_icmp .ge 32, 3) := by decide +kernel
theorem dX10_put_17 : decode cX10_put 17 = .ok (.aload_n 0, 1) := by decide +kernel
theorem dX10_put_18 : decode cX10_put 18 = .ok (.getfield 9, 3) := by decide +kernel
theorem dX10_put_21 : decode cX10_put 21 = .ok (.aload_n 0, 1) := by decide +kernel
theorem dX10_put_22 : decode cX10_put 22 = .ok (.getfield 19, 3) := by decide +kernel
theorem dX10_put_25 : decode cX10_put 25 = .ok (.iload_n 1, 1) := by decide +kernel
theorem dX10_put_26 : decode cX10_put 26 = .ok (.iload_n 2, 1) := by decide +kernel
theorem dX10_put_27 : decode cX10_put 27 = .ok (.iushr, 1) := by decide +kernel
theorem dX10_put_28 : decode cX10_put 28 = .ok (.i2b, 1) := by decide +kernel
theorem dX10_put_29 : decode cX10_put 29 = .ok (.bastore, 1) := by decide +kernel
theorem dX10_put_30 : decode cX10_put 30 = .ok (.aload_n 0, 1) := by decide +kernel
theorem dX10_put_31 : decode cX10_put 31 = .ok (.dup, 1) := by decide +kernel
theorem dX10_put_32 : decode cX10_put 32 = .ok (.getfield 19, 3) := by decide +kernel
theorem dX10_put_35 : decode cX10_put 35 = .ok (.iconst 1, 1) := by decide +kernel
theorem dX10_put_36 : decode cX10_put 36 = .ok (.iadd, 1) := by decide +kernel
theorem dX10_put_37 : decode cX10_put 37 = .ok (.putfield 19, 3) := by decide +kernel
theorem dX10_put_40 : decode cX10_put 40 = .ok (.iinc 2 (-8), 3) := by decide +kernel
theorem dX10_put_43 : decode cX10_put 43 = .ok (.goto (-40), 3) := by decide +kernel
theorem dX10_put_46 : decode cX10_put 46 = .ok (.return_, 1) := by decide +kernel
theorem dX10_open_0 : decode cX10_open 0 = .ok (.aload_n 0, 1) := by decide +kernel
theorem dX10_open_1 : decode cX10_open 1 = .ok (.iconst 0, 1) := by decide +kernel
theorem dX10_open_2 : decode cX10_open 2 = .ok (.putfield 19, 3) := by decide +kernel
theorem dX10_open_5 : decode cX10_open 5 = .ok (.aload_n 0, 1) := by decide +kernel
theorem dX10_open_6 : decode cX10_open 6 = .ok (.iload_n 1, 1) := by decide +kernel
theorem dX10_open_7 : decode cX10_open 7 = .ok (.putfield 22, 3) := by decide +kernel
theorem dX10_open_10 : decode cX10_open 10 = .ok (.aload_n 0, 1) := by decide +kernel
theorem dX10_open_11 : decode cX10_open 11 = .ok (.iconst 0, 1) := by decide +kernel
theorem dX10_open_12 : decode cX10_open 12 = .ok (.putfield 25, 3) := by decide +kernel
theorem dX10_open_15 : decode cX10_open 15 = .ok (.aload_n 0, 1) := by decide +kernel
theorem dX10_open_16 : decode cX10_open 16 = .ok (.iconst 0, 1) := by decide +kernel
theorem dX10_open_17 : decode cX10_open 17 = .ok (.putfield 28, 3) := by decide +kernel
theorem dX10_open_20 : decode cX10_open 20 = .ok (.aload_n 0, 1) := by decide +kernel
theorem dX10_open_21 : decode cX10_open 21 = .ok (.iconst (-1), 1) := by decide +kernel
theorem dX10_open_22 : decode cX10_open 22 = .ok (.putfield 15, 3) := by decide +kernel
theorem dX10_open_25 : decode cX10_open 25 = .ok (.aload_n 0, 1) := by decide +kernel
theorem dX10_open_26 : decode cX10_open 26 = .ok (.invokevirtual 31, 3) := by decide +kernel
theorem dX10_open_29 : decode cX10_open 29 = .ok (.return_, 1) := by decide +kernel
theorem dX10_faultAnswer_0 : decode cX10_faultAnswer 0 = .ok (.aload_n 0, 1) := by decide +kernel
theorem dX10_faultAnswer_1 : decode cX10_faultAnswer 1 = .ok (.getfield 28, 3) := by decide +kernel
theorem dX10_faultAnswer_4 : decode cX10_faultAnswer 4 = .ok (.bipush 10, 2) := by decide +kernel
theorem dX10_faultAnswer_6 : decode cX10_faultAnswer 6 = .ok (.isub, 1) := by decide +kernel
theorem dX10_faultAnswer_7 : decode cX10_faultAnswer 7 = .ok (.ireturn, 1) := by decide +kernel
theorem dX10_isAtEnd_0 : decode cX10_isAtEnd 0 = .ok (.aload_n 0, 1) := by decide +kernel
theorem dX10_isAtEnd_1 : decode cX10_isAtEnd 1 = .ok (.getfield 25, 3) := by decide +kernel
theorem dX10_isAtEnd_4 : decode cX10_isAtEnd 4 = .ok (.aload_n 0, 1) := by decide +kernel
theorem dX10_isAtEnd_5 : decode cX10_isAtEnd 5 = .ok (.getfield 22, 3) := by decide +kernel
theorem dX10_isAtEnd_8 : decode cX10_isAtEnd 8 = .ok (.if_icmp .lt 7, 3) := by decide +kernel
theorem dX10_isAtEnd_11 : decode cX10_isAtEnd 11 = .ok (.iconst 1, 1) := by decide +kernel
theorem dX10_isAtEnd_12 : decode cX10_isAtEnd 12 = .ok (.goto 4, 3) := by decide +kernel
theorem dX10_isAtEnd_15 : decode cX10_isAtEnd 15 = .ok (.iconst 0, 1) := by decide +kernel
theorem dX10_isAtEnd_16 : decode cX10_isAtEnd 16 = .ok (.ireturn, 1) := by decide +kernel
theorem dX10_isAt_0 : decode cX10_isAt 0 = .ok (.aload_n 0, 1) := by decide +kernel
theorem dX10_isAt_1 : decode cX10_isAt 1 = .ok (.getfield 25, 3) := by decide +kernel
theorem dX10_isAt_4 : decode cX10_isAt 4 = .ok (.aload_n 0, 1) := by decide +kernel
theorem dX10_isAt_5 : decode cX10_isAt 5 = .ok (.getfield 22, 3) := by decide +kernel
theorem dX10_isAt_8 : decode cX10_isAt 8 = .ok (.if_icmp .ge 20, 3) := by decide +kernel
theorem dX10_isAt_11 : decode cX10_isAt 11 = .ok (.aload_n 0, 1) := by decide +kernel
theorem dX10_isAt_12 : decode cX10_isAt 12 = .ok (.getfield 9, 3) := by decide +kernel
theorem dX10_isAt_15 : decode cX10_isAt 15 = .ok (.aload_n 0, 1) := by decide +kernel
theorem dX10_isAt_16 : decode cX10_isAt 16 = .ok (.getfield 25, 3) := by decide +kernel
theorem dX10_isAt_19 : decode cX10_isAt 19 = .ok (.baload, 1) := by decide +kernel
theorem dX10_isAt_20 : decode cX10_isAt 20 = .ok (.iload_n 1, 1) := by decide +kernel
theorem dX10_isAt_21 : decode cX10_isAt 21 = .ok (.if_icmp .ne 7, 3) := by decide +kernel
theorem dX10_isAt_24 : decode cX10_isAt 24 = .ok (.iconst 1, 1) := by decide +kernel
theorem dX10_isAt_25 : decode cX10_isAt 25 = .ok (.goto 4, 3) := by decide +kernel
theorem dX10_isAt_28 : decode cX10_isAt 28 = .ok (.iconst 0, 1) := by decide +kernel
theorem dX10_isAt_29 : decode cX10_isAt 29 = .ok (.ireturn, 1) := by decide +kernel
theorem dX10_isAtDigit_0 : decode cX10_isAtDigit 0 = .ok (.aload_n 0, 1) := by decide +kernel
theorem dX10_isAtDigit_1 : decode cX10_isAtDigit 1 = .ok (.getfield 25, 3) := by decide +kernel
theorem dX10_isAtDigit_4 : decode cX10_isAtDigit 4 = .ok (.aload_n 0, 1) := by decide +kernel
theorem dX10_isAtDigit_5 : decode cX10_isAtDigit 5 = .ok (.getfield 22, 3) := by decide +kernel
theorem dX10_isAtDigit_8 : decode cX10_isAtDigit 8 = .ok (.if_icmp .ge 35, 3) := by decide +kernel
theorem dX10_isAtDigit_11 : decode cX10_isAtDigit 11 = .ok (.aload_n 0, 1) := by decide +kernel
theorem dX10_isAtDigit_12 : decode cX10_isAtDigit 12 = .ok (.getfield 9, 3) := by decide +kernel
theorem dX10_isAtDigit_15 : decode cX10_isAtDigit 15 = .ok (.aload_n 0, 1) := by decide +kernel
theorem dX10_isAtDigit_16 : decode cX10_isAtDigit 16 = .ok (.getfield 25, 3) := by decide +kernel
theorem dX10_isAtDigit_19 : decode cX10_isAtDigit 19 = .ok (.baload, 1) := by decide +kernel
theorem dX10_isAtDigit_20 : decode cX10_isAtDigit 20 = .ok (.bipush 48, 2) := by decide +kernel
theorem dX10_isAtDigit_22 : decode cX10_isAtDigit 22 = .ok (.if_icmp .lt 21, 3) := by decide +kernel
theorem dX10_isAtDigit_25 : decode cX10_isAtDigit 25 = .ok (.aload_n 0, 1) := by decide +kernel
theorem dX10_isAtDigit_26 : decode cX10_isAtDigit 26 = .ok (.getfield 9, 3) := by decide +kernel
theorem dX10_isAtDigit_29 : decode cX10_isAtDigit 29 = .ok (.aload_n 0, 1) := by decide +kernel
theorem dX10_isAtDigit_30 : decode cX10_isAtDigit 30 = .ok (.getfield 25, 3) := by decide +kernel
theorem dX10_isAtDigit_33 : decode cX10_isAtDigit 33 = .ok (.baload, 1) := by decide +kernel
theorem dX10_isAtDigit_34 : decode cX10_isAtDigit 34 = .ok (.bipush 57, 2) := by decide +kernel
theorem dX10_isAtDigit_36 : decode cX10_isAtDigit 36 = .ok (.if_icmp .gt 7, 3) := by decide +kernel
theorem dX10_isAtDigit_39 : decode cX10_isAtDigit 39 = .ok (.iconst 1, 1) := by decide +kernel
theorem dX10_isAtDigit_40 : decode cX10_isAtDigit 40 = .ok (.goto 4, 3) := by decide +kernel
theorem dX10_isAtDigit_43 : decode cX10_isAtDigit 43 = .ok (.iconst 0, 1) := by decide +kernel
theorem dX10_isAtDigit_44 : decode cX10_isAtDigit 44 = .ok (.ireturn, 1) := by decide +kernel
theorem dX10_sign_0 : decode cX10_sign 0 = .ok (.aload_n 0, 1) := by decide +kernel
theorem dX10_sign_1 : decode cX10_sign 1 = .ok (.getfield 25, 3) := by decide +kernel
theorem dX10_sign_4 : decode cX10_sign 4 = .ok (.aload_n 0, 1) := by decide +kernel
theorem dX10_sign_5 : decode cX10_sign 5 = .ok (.getfield 22, 3) := by decide +kernel
theorem dX10_sign_8 : decode cX10_sign 8 = .ok (.if_icmp .ge 15, 3) := by decide +kernel
theorem dX10_sign_11 : decode cX10_sign 11 = .ok (.aload_n 0, 1) := by decide +kernel
theorem dX10_sign_12 : decode cX10_sign 12 = .ok (.getfield 9, 3) := by decide +kernel
theorem dX10_sign_15 : decode cX10_sign 15 = .ok (.aload_n 0, 1) := by decide +kernel
theorem dX10_sign_16 : decode cX10_sign 16 = .ok (.getfield 25, 3) := by decide +kernel
theorem dX10_sign_19 : decode cX10_sign 19 = .ok (.baload, 1) := by decide +kernel
theorem dX10_sign_20 : decode cX10_sign 20 = .ok (.goto 4, 3) := by decide +kernel
theorem dX10_sign_23 : decode cX10_sign 23 = .ok (.iconst 0, 1) := by decide +kernel
theorem dX10_sign_24 : decode cX10_sign 24 = .ok (.ireturn, 1) := by decide +kernel
theorem dX10_step_0 : decode cX10_step 0 = .ok (.aload_n 0, 1) := by decide +kernel
theorem dX10_step_1 : decode cX10_step 1 = .ok (.getfield 25, 3) := by decide +kernel
theorem dX10_step_4 : decode cX10_step 4 = .ok (.aload_n 0, 1) := by decide +kernel
theorem dX10_step_5 : decode cX10_step 5 = .ok (.getfield 22, 3) := by decide +kernel
theorem dX10_step_8 : decode cX10_step 8 = .ok (.if_icmp .ge 13, 3) := by decide +kernel
theorem dX10_step_11 : decode cX10_step 11 = .ok (.aload_n 0, 1) := by decide +kernel
theorem dX10_step_12 : decode cX10_step 12 = .ok (.dup, 1) := by decide +kernel
theorem dX10_step_13 : decode cX10_step 13 = .ok (.getfield 25, 3) := by decide +kernel
theorem dX10_step_16 : decode cX10_step 16 = .ok (.iconst 1, 1) := by decide +kernel
theorem dX10_step_17 : decode cX10_step 17 = .ok (.iadd, 1) := by decide +kernel
theorem dX10_step_18 : decode cX10_step 18 = .ok (.putfield 25, 3) := by decide +kernel
theorem dX10_step_21 : decode cX10_step 21 = .ok (.aload_n 0, 1) := by decide +kernel
theorem dX10_step_22 : decode cX10_step 22 = .ok (.invokevirtual 31, 3) := by decide +kernel
theorem dX10_step_25 : decode cX10_step 25 = .ok (.return_, 1) := by decide +kernel
theorem dX10_needSign_0 : decode cX10_needSign 0 = .ok (.aload_n 0, 1) := by decide +kernel
theorem dX10_needSign_1 : decode cX10_needSign 1 = .ok (.iload_n 1, 1) := by decide +kernel
theorem dX10_needSign_2 : decode cX10_needSign 2 = .ok (.invokevirtual 34, 3) := by decide +kernel
theorem dX10_needSign_5 : decode cX10_needSign 5 = .ok (.ifCond .ne 13, 3) := by decide +kernel
theorem dX10_needSign_8 : decode cX10_needSign 8 = .ok (.aload_n 0, 1) := by decide +kernel
theorem dX10_needSign_9 : decode cX10_needSign 9 = .ok (.iconst 1, 1) := by decide +kernel
theorem dX10_needSign_10 : decode cX10_needSign 10 = .ok (.aload_n 0, 1) := by decide +kernel
theorem dX10_needSign_11 : decode cX10_needSign 11 = .ok (.getfield 25, 3) := by decide +kernel
theorem dX10_needSign_14 : decode cX10_needSign 14 = .ok (.invokevirtual 38, 3) := by decide +kernel
theorem dX10_needSign_17 : decode cX10_needSign 17 = .ok (.ireturn, 1) := by decide +kernel
theorem dX10_needSign_18 : decode cX10_needSign 18 = .ok (.aload_n 0, 1) := by decide +kernel
theorem dX10_needSign_19 : decode cX10_needSign 19 = .ok (.dup, 1) := by decide +kernel
theorem dX10_needSign_20 : decode cX10_needSign 20 = .ok (.getfield 25, 3) := by decide +kernel
theorem dX10_needSign_23 : decode cX10_needSign 23 = .ok (.iconst 1, 1) := by decide +kernel
theorem dX10_needSign_24 : decode cX10_needSign 24 = .ok (.iadd, 1) := by decide +kernel
theorem dX10_needSign_25 : decode cX10_needSign 25 = .ok (.putfield 25, 3) := by decide +kernel
theorem dX10_needSign_28 : decode cX10_needSign 28 = .ok (.aload_n 0, 1) := by decide +kernel
theorem dX10_needSign_29 : decode cX10_needSign 29 = .ok (.invokevirtual 31, 3) := by decide +kernel
theorem dX10_needSign_32 : decode cX10_needSign 32 = .ok (.iconst 1, 1) := by decide +kernel
theorem dX10_needSign_33 : decode cX10_needSign 33 = .ok (.ireturn, 1) := by decide +kernel
theorem dX10_needNumber_0 : decode cX10_needNumber 0 = .ok (.aload_n 0, 1) := by decide +kernel
theorem dX10_needNumber_1 : decode cX10_needNumber 1 = .ok (.getfield 25, 3) := by decide +kernel
theorem dX10_needNumber_4 : decode cX10_needNumber 4 = .ok (.istore_n 3, 1) := by decide +kernel
theorem dX10_needNumber_5 : decode cX10_needNumber 5 = .ok (.iconst 0, 1) := by decide +kernel
theorem dX10_needNumber_6 : decode cX10_needNumber 6 = .ok (.istore 4, 2) := by decide +kernel
theorem dX10_needNumber_8 : decode cX10_needNumber 8 = .ok (.aload_n 0, 1) := by decide +kernel
theorem dX10_needNumber_9 : decode cX10_needNumber 9 = .ok (.getfield 25, 3) := by decide +kernel
theorem dX10_needNumber_12 : decode cX10_needNumber 12 = .ok (.aload_n 0, 1) := by decide +kernel
theorem dX10_needNumber_13 : decode cX10_needNumber 13 = .ok (.getfield 22, 3) := by decide +kernel
theorem dX10_needNumber_16 : decode cX10_needNumber 16 = .ok (.if_icmp .ge 48, 3) := by decide +kernel
theorem dX10_needNumber_19 : decode cX10_needNumber 19 = .ok (.aload_n 0, 1) := by decide +kernel
theorem dX10_needNumber_20 : decode cX10_needNumber 20 = .ok (.invokevirtual 42, 3) := by decide +kernel
theorem dX10_needNumber_23 : decode cX10_needNumber 23 = .ok (.ifCond .eq 41, 3) := by decide +kernel
theorem dX10_needNumber_26 : decode cX10_needNumber 26 = .ok (.ldc 46, 2) := by decide +kernel
theorem dX10_needNumber_28 : decode cX10_needNumber 28 = .ok (.bipush 10, 2) := by decide +kernel
theorem dX10_needNumber_30 : decode cX10_needNumber 30 = .ok (.iload 4, 2) := by decide +kernel
theorem dX10_needNumber_32 : decode cX10_needNumber 32 = .ok (.imul, 1) := by decide +kernel
theorem dX10_needNumber_33 : decode cX10_needNumber 33 = .ok (.aload_n 0, 1) := by decide +kernel
theorem dX10_needNumber_34 : decode cX10_needNumber 34 = .ok (.getfield 9, 3) := by decide +kernel
theorem dX10_needNumber_37 : decode cX10_needNumber 37 = .ok (.aload_n 0, 1) := by decide +kernel
theorem dX10_needNumber_38 : decode cX10_needNumber 38 = .ok (.getfield 25, 3) := by decide +kernel
theorem dX10_needNumber_41 : decode cX10_needNumber 41 = .ok (.baload, 1) := by decide +kernel
theorem dX10_needNumber_42 : decode cX10_needNumber 42 = .ok (.iadd, 1) := by decide +kernel
theorem dX10_needNumber_43 : decode cX10_needNumber 43 = .ok (.bipush 48, 2) := by decide +kernel
theorem dX10_needNumber_45 : decode cX10_needNumber 45 = .ok (.isub, 1) := by decide +kernel
theorem dX10_needNumber_46 : decode cX10_needNumber 46 = .ok (.invokestatic 47, 3) := by decide +kernel
theorem dX10_needNumber_49 : decode cX10_needNumber 49 = .ok (.istore 4, 2) := by decide +kernel
theorem dX10_needNumber_51 : decode cX10_needNumber 51 = .ok (.aload_n 0, 1) := by decide +kernel
theorem dX10_needNumber_52 : decode cX10_needNumber 52 = .ok (.dup, 1) := by decide +kernel
theorem dX10_needNumber_53 : decode cX10_needNumber 53 = .ok (.getfield 25, 3) := by decide +kernel
theorem dX10_needNumber_56 : decode cX10_needNumber 56 = .ok (.iconst 1, 1) := by decide +kernel
theorem dX10_needNumber_57 : decode cX10_needNumber 57 = .ok (.iadd, 1) := by decide +kernel
theorem dX10_needNumber_58 : decode cX10_needNumber 58 = .ok (.putfield 25, 3) := by decide +kernel
theorem dX10_needNumber_61 : decode cX10_needNumber 61 = .ok (.goto (-53), 3) := by decide +kernel
theorem dX10_needNumber_64 : decode cX10_needNumber 64 = .ok (.aload_n 0, 1) := by decide +kernel
theorem dX10_needNumber_65 : decode cX10_needNumber 65 = .ok (.getfield 25, 3) := by decide +kernel
theorem dX10_needNumber_68 : decode cX10_needNumber 68 = .ok (.iload_n 3, 1) := by decide +kernel
theorem dX10_needNumber_69 : decode cX10_needNumber 69 = .ok (.if_icmp .le 7, 3) := by decide +kernel
theorem dX10_needNumber_72 : decode cX10_needNumber 72 = .ok (.iconst 1, 1) := by decide +kernel
theorem dX10_needNumber_73 : decode cX10_needNumber 73 = .ok (.goto 4, 3) := by decide +kernel
theorem dX10_needNumber_76 : decode cX10_needNumber 76 = .ok (.iconst 0, 1) := by decide +kernel
theorem dX10_needNumber_77 : decode cX10_needNumber 77 = .ok (.istore 5, 2) := by decide +kernel
theorem dX10_needNumber_79 : decode cX10_needNumber 79 = .ok (.iload 5, 2) := by decide +kernel
theorem dX10_needNumber_81 : decode cX10_needNumber 81 = .ok (.ifCond .eq 15, 3) := by decide +kernel
theorem dX10_needNumber_84 : decode cX10_needNumber 84 = .ok (.iload 4, 2) := by decide +kernel
theorem dX10_needNumber_86 : decode cX10_needNumber 86 = .ok (.iload_n 1, 1) := by decide +kernel
theorem dX10_needNumber_87 : decode cX10_needNumber 87 = .ok (.if_icmp .lt 9, 3) := by decide +kernel
theorem dX10_needNumber_90 : decode cX10_needNumber 90 = .ok (.iload 4, 2) := by decide +kernel
theorem dX10_needNumber_92 : decode cX10_needNumber 92 = .ok (.iload_n 2, 1) := by decide +kernel
theorem dX10_needNumber_93 : decode cX10_needNumber 93 = .ok (.if_icmp .le 21, 3) := by decide +kernel
theorem dX10_needNumber_96 : decode cX10_needNumber 96 = .ok (.aload_n 0, 1) := by decide +kernel
theorem dX10_needNumber_97 : decode cX10_needNumber 97 = .ok (.iload 5, 2) := by decide +kernel
theorem dX10_needNumber_99 : decode cX10_needNumber 99 = .ok (.ifCond .eq 7, 3) := by decide +kernel
theorem dX10_needNumber_102 : decode cX10_needNumber 102 = .ok (.iconst 2, 1) := by decide +kernel
theorem dX10_needNumber_103 : decode cX10_needNumber 103 = .ok (.goto 4, 3) := by decide +kernel
theorem dX10_needNumber_106 : decode cX10_needNumber 106 = .ok (.iconst 1, 1) := by decide +kernel
theorem dX10_needNumber_107 : decode cX10_needNumber 107 = .ok (.iload_n 3, 1) := by decide +kernel
theorem dX10_needNumber_108 : decode cX10_needNumber 108 = .ok (.invokevirtual 38, 3) := by decide +kernel
theorem dX10_needNumber_111 : decode cX10_needNumber 111 = .ok (.pop, 1) := by decide +kernel
theorem dX10_needNumber_112 : decode cX10_needNumber 112 = .ok (.iconst (-1), 1) := by decide +kernel
theorem dX10_needNumber_113 : decode cX10_needNumber 113 = .ok (.ireturn, 1) := by decide +kernel
theorem dX10_needNumber_114 : decode cX10_needNumber 114 = .ok (.aload_n 0, 1) := by decide +kernel
theorem dX10_needNumber_115 : decode cX10_needNumber 115 = .ok (.invokevirtual 31, 3) := by decide +kernel
theorem dX10_needNumber_118 : decode cX10_needNumber 118 = .ok (.iload 4, 2) := by decide +kernel
theorem dX10_needNumber_120 : decode cX10_needNumber 120 = .ok (.ireturn, 1) := by decide +kernel
theorem dX10_takeWord_0 : decode cX10_takeWord 0 = .ok (.aload_n 0, 1) := by decide +kernel
theorem dX10_takeWord_1 : decode cX10_takeWord 1 = .ok (.aload_n 0, 1) := by decide +kernel
theorem dX10_takeWord_2 : decode cX10_takeWord 2 = .ok (.getfield 25, 3) := by decide +kernel
theorem dX10_takeWord_5 : decode cX10_takeWord 5 = .ok (.putfield 53, 3) := by decide +kernel
theorem dX10_takeWord_8 : decode cX10_takeWord 8 = .ok (.aload_n 0, 1) := by decide +kernel
theorem dX10_takeWord_9 : decode cX10_takeWord 9 = .ok (.getfield 25, 3) := by decide +kernel
theorem dX10_takeWord_12 : decode cX10_takeWord 12 = .ok (.aload_n 0, 1) := by decide +kernel
theorem dX10_takeWord_13 : decode cX10_takeWord 13 = .ok (.getfield 22, 3) := by decide +kernel
theorem dX10_takeWord_16 : decode cX10_takeWord 16 = .ok (.if_icmp .ge 44, 3) := by decide +kernel
theorem dX10_takeWord_19 : decode cX10_takeWord 19 = .ok (.aload_n 0, 1) := by decide +kernel
theorem dX10_takeWord_20 : decode cX10_takeWord 20 = .ok (.getfield 9, 3) := by decide +kernel
theorem dX10_takeWord_23 : decode cX10_takeWord 23 = .ok (.aload_n 0, 1) := by decide +kernel
theorem dX10_takeWord_24 : decode cX10_takeWord 24 = .ok (.getfield 25, 3) := by decide +kernel
theorem dX10_takeWord_27 : decode cX10_takeWord 27 = .ok (.baload, 1) := by decide +kernel
theorem dX10_takeWord_28 : decode cX10_takeWord 28 = .ok (.bipush 97, 2) := by decide +kernel
theorem dX10_takeWord_30 : decode cX10_takeWord 30 = .ok (.if_icmp .lt 30, 3) := by decide +kernel
theorem dX10_takeWord_33 : decode cX10_takeWord 33 = .ok (.aload_n 0, 1) := by decide +kernel
theorem dX10_takeWord_34 : decode cX10_takeWord 34 = .ok (.getfield 9, 3) := by decide +kernel
theorem dX10_takeWord_37 : decode cX10_takeWord 37 = .ok (.aload_n 0, 1) := by decide +kernel
theorem dX10_takeWord_38 : decode cX10_takeWord 38 = .ok (.getfield 25, 3) := by decide +kernel
theorem dX10_takeWord_41 : decode cX10_takeWord 41 = .ok (.baload, 1) := by decide +kernel
theorem dX10_takeWord_42 : decode cX10_takeWord 42 = .ok (.bipush 122, 2) := by decide +kernel
theorem dX10_takeWord_44 : decode cX10_takeWord 44 = .ok (.if_icmp .gt 16, 3) := by decide +kernel
theorem dX10_takeWord_47 : decode cX10_takeWord 47 = .ok (.aload_n 0, 1) := by decide +kernel
theorem dX10_takeWord_48 : decode cX10_takeWord 48 = .ok (.dup, 1) := by decide +kernel
theorem dX10_takeWord_49 : decode cX10_takeWord 49 = .ok (.getfield 25, 3) := by decide +kernel
theorem dX10_takeWord_52 : decode cX10_takeWord 52 = .ok (.iconst 1, 1) := by decide +kernel
theorem dX10_takeWord_53 : decode cX10_takeWord 53 = .ok (.iadd, 1) := by decide +kernel
theorem dX10_takeWord_54 : decode cX10_takeWord 54 = .ok (.putfield 25, 3) := by decide +kernel
theorem dX10_takeWord_57 : decode cX10_takeWord 57 = .ok (.goto (-49), 3) := by decide +kernel
theorem dX10_takeWord_60 : decode cX10_takeWord 60 = .ok (.aload_n 0, 1) := by decide +kernel
theorem dX10_takeWord_61 : decode cX10_takeWord 61 = .ok (.aload_n 0, 1) := by decide +kernel
theorem dX10_takeWord_62 : decode cX10_takeWord 62 = .ok (.getfield 25, 3) := by decide +kernel
theorem dX10_takeWord_65 : decode cX10_takeWord 65 = .ok (.putfield 56, 3) := by decide +kernel
theorem dX10_takeWord_68 : decode cX10_takeWord 68 = .ok (.aload_n 0, 1) := by decide +kernel
theorem dX10_takeWord_69 : decode cX10_takeWord 69 = .ok (.invokevirtual 31, 3) := by decide +kernel
theorem dX10_takeWord_72 : decode cX10_takeWord 72 = .ok (.return_, 1) := by decide +kernel
theorem dX10_isWord_0 : decode cX10_isWord 0 = .ok (.aload_n 0, 1) := by decide +kernel
theorem dX10_isWord_1 : decode cX10_isWord 1 = .ok (.getfield 56, 3) := by decide +kernel
theorem dX10_isWord_4 : decode cX10_isWord 4 = .ok (.aload_n 0, 1) := by decide +kernel
theorem dX10_isWord_5 : decode cX10_isWord 5 = .ok (.getfield 53, 3) := by decide +kernel
theorem dX10_isWord_8 : decode cX10_isWord 8 = .ok (.isub, 1) := by decide +kernel
theorem dX10_isWord_9 : decode cX10_isWord 9 = .ok (.aload_n 1, 1) := by decide +kernel
theorem dX10_isWord_10 : decode cX10_isWord 10 = .ok (.invokevirtual 59, 3) := by decide +kernel
theorem dX10_isWord_13 : decode cX10_isWord 13 = .ok (.if_icmp .eq 5, 3) := by decide +kernel
theorem dX10_isWord_16 : decode cX10_isWord 16 = .ok (.iconst 0, 1) := by decide +kernel
theorem dX10_isWord_17 : decode cX10_isWord 17 = .ok (.ireturn, 1) := by decide +kernel
theorem dX10_isWord_18 : decode cX10_isWord 18 = .ok (.iconst 0, 1) := by decide +kernel
theorem dX10_isWord_19 : decode cX10_isWord 19 = .ok (.istore_n 2, 1) := by decide +kernel
theorem dX10_isWord_20 : decode cX10_isWord 20 = .ok (.iload_n 2, 1) := by decide +kernel
theorem dX10_isWord_21 : decode cX10_isWord 21 = .ok (.aload_n 1, 1) := by decide +kernel
theorem dX10_isWord_22 : decode cX10_isWord 22 = .ok (.invokevirtual 59, 3) := by decide +kernel
theorem dX10_isWord_25 : decode cX10_isWord 25 = .ok (.if_icmp .ge 30, 3) := by decide +kernel
theorem dX10_isWord_28 : decode cX10_isWord 28 = .ok (.aload_n 0, 1) := by decide +kernel
theorem dX10_isWord_29 : decode cX10_isWord 29 = .ok (.getfield 9, 3) := by decide +kernel
theorem dX10_isWord_32 : decode cX10_isWord 32 = .ok (.aload_n 0, 1) := by decide +kernel
theorem dX10_isWord_33 : decode cX10_isWord 33 = .ok (.getfield 53, 3) := by decide +kernel
theorem dX10_isWord_36 : decode cX10_isWord 36 = .ok (.iload_n 2, 1) := by decide +kernel
theorem dX10_isWord_37 : decode cX10_isWord 37 = .ok (.iadd, 1) := by decide +kernel
theorem dX10_isWord_38 : decode cX10_isWord 38 = .ok (.baload, 1) := by decide +kernel
theorem dX10_isWord_39 : decode cX10_isWord 39 = .ok (.aload_n 1, 1) := by decide +kernel
theorem dX10_isWord_40 : decode cX10_isWord 40 = .ok (.iload_n 2, 1) := by decide +kernel
theorem dX10_isWord_41 : decode cX10_isWord 41 = .ok (.invokevirtual 65, 3) := by decide +kernel
theorem dX10_isWord_44 : decode cX10_isWord 44 = .ok (.if_icmp .eq 5, 3) := by decide +kernel
theorem dX10_isWord_47 : decode cX10_isWord 47 = .ok (.iconst 0, 1) := by decide +kernel
theorem dX10_isWord_48 : decode cX10_isWord 48 = .ok (.ireturn, 1) := by decide +kernel
theorem dX10_isWord_49 : decode cX10_isWord 49 = .ok (.iinc 2 1, 3) := by decide +kernel
theorem dX10_isWord_52 : decode cX10_isWord 52 = .ok (.goto (-32), 3) := by decide +kernel
theorem dX10_isWord_55 : decode cX10_isWord 55 = .ok (.iconst 1, 1) := by decide +kernel
theorem dX10_isWord_56 : decode cX10_isWord 56 = .ok (.ireturn, 1) := by decide +kernel
theorem dX10_failHere_0 : decode cX10_failHere 0 = .ok (.aload_n 0, 1) := by decide +kernel
theorem dX10_failHere_1 : decode cX10_failHere 1 = .ok (.iload_n 1, 1) := by decide +kernel
theorem dX10_failHere_2 : decode cX10_failHere 2 = .ok (.aload_n 0, 1) := by decide +kernel
theorem dX10_failHere_3 : decode cX10_failHere 3 = .ok (.getfield 25, 3) := by decide +kernel
theorem dX10_failHere_6 : decode cX10_failHere 6 = .ok (.invokevirtual 38, 3) := by decide +kernel
theorem dX10_failHere_9 : decode cX10_failHere 9 = .ok (.ireturn, 1) := by decide +kernel
theorem dX10_failWord_0 : decode cX10_failWord 0 = .ok (.aload_n 0, 1) := by decide +kernel
theorem dX10_failWord_1 : decode cX10_failWord 1 = .ok (.iload_n 1, 1) := by decide +kernel
theorem dX10_failWord_2 : decode cX10_failWord 2 = .ok (.aload_n 0, 1) := by decide +kernel
theorem dX10_failWord_3 : decode cX10_failWord 3 = .ok (.getfield 53, 3) := by decide +kernel
theorem dX10_failWord_6 : decode cX10_failWord 6 = .ok (.invokevirtual 38, 3) := by decide +kernel
theorem dX10_failWord_9 : decode cX10_failWord 9 = .ok (.ireturn, 1) := by decide +kernel
theorem dX10_fail_0 : decode cX10_fail 0 = .ok (.aload_n 0, 1) := by decide +kernel
theorem dX10_fail_1 : decode cX10_fail 1 = .ok (.iload_n 1, 1) := by decide +kernel
theorem dX10_fail_2 : decode cX10_fail 2 = .ok (.putfield 28, 3) := by decide +kernel
theorem dX10_fail_5 : decode cX10_fail 5 = .ok (.aload_n 0, 1) := by decide +kernel
theorem dX10_fail_6 : decode cX10_fail 6 = .ok (.iload_n 2, 1) := by decide +kernel
theorem dX10_fail_7 : decode cX10_fail 7 = .ok (.putfield 15, 3) := by decide +kernel
theorem dX10_fail_10 : decode cX10_fail 10 = .ok (.iconst 0, 1) := by decide +kernel
theorem dX10_fail_11 : decode cX10_fail 11 = .ok (.ireturn, 1) := by decide +kernel
theorem dX10_skipBlanks_0 : decode cX10_skipBlanks 0 = .ok (.aload_n 0, 1) := by decide +kernel
theorem dX10_skipBlanks_1 : decode cX10_skipBlanks 1 = .ok (.getfield 25, 3) := by decide +kernel
theorem dX10_skipBlanks_4 : decode cX10_skipBlanks 4 = .ok (.aload_n 0, 1) := by decide +kernel
theorem dX10_skipBlanks_5 : decode cX10_skipBlanks 5 = .ok (.getfield 22, 3) := by decide +kernel
theorem dX10_skipBlanks_8 : decode cX10_skipBlanks 8 = .ok (.if_icmp .ge 30, 3) := by decide +kernel
theorem dX10_skipBlanks_11 : decode cX10_skipBlanks 11 = .ok (.aload_n 0, 1) := by decide +kernel
theorem dX10_skipBlanks_12 : decode cX10_skipBlanks 12 = .ok (.getfield 9, 3) := by decide +kernel
theorem dX10_skipBlanks_15 : decode cX10_skipBlanks 15 = .ok (.aload_n 0, 1) := by decide +kernel
theorem dX10_skipBlanks_16 : decode cX10_skipBlanks 16 = .ok (.getfield 25, 3) := by decide +kernel
theorem dX10_skipBlanks_19 : decode cX10_skipBlanks 19 = .ok (.baload, 1) := by decide +kernel
theorem dX10_skipBlanks_20 : decode cX10_skipBlanks 20 = .ok (.bipush 32, 2) := by decide +kernel
theorem dX10_skipBlanks_22 : decode cX10_skipBlanks 22 = .ok (.if_icmp .ne 16, 3) := by decide +kernel
theorem dX10_skipBlanks_25 : decode cX10_skipBlanks 25 = .ok (.aload_n 0, 1) := by decide +kernel
theorem dX10_skipBlanks_26 : decode cX10_skipBlanks 26 = .ok (.dup, 1) := by decide +kernel
theorem dX10_skipBlanks_27 : decode cX10_skipBlanks 27 = .ok (.getfield 25, 3) := by decide +kernel
theorem dX10_skipBlanks_30 : decode cX10_skipBlanks 30 = .ok (.iconst 1, 1) := by decide +kernel
theorem dX10_skipBlanks_31 : decode cX10_skipBlanks 31 = .ok (.iadd, 1) := by decide +kernel
theorem dX10_skipBlanks_32 : decode cX10_skipBlanks 32 = .ok (.putfield 25, 3) := by decide +kernel
theorem dX10_skipBlanks_35 : decode cX10_skipBlanks 35 = .ok (.goto (-35), 3) := by decide +kernel
theorem dX10_skipBlanks_38 : decode cX10_skipBlanks 38 = .ok (.return_, 1) := by decide +kernel
theorem dX9_init_0 : decode cX9_init 0 = .ok (.aload_n 0, 1) := by decide +kernel
theorem dX9_init_1 : decode cX9_init 1 = .ok (.invokespecial 3, 3) := by decide +kernel
theorem dX9_init_4 : decode cX9_init 4 = .ok (.aload_n 0, 1) := by decide +kernel
theorem dX9_init_5 : decode cX9_init 5 = .ok (.bipush 7, 2) := by decide +kernel
theorem dX9_init_7 : decode cX9_init 7 = .ok (.newarray .int, 2) := by decide +kernel
theorem dX9_init_9 : decode cX9_init 9 = .ok (.putfield 9, 3) := by decide +kernel
theorem dX9_init_12 : decode cX9_init 12 = .ok (.aload_n 0, 1) := by decide +kernel
theorem dX9_init_13 : decode cX9_init 13 = .ok (.bipush 7, 2) := by decide +kernel
theorem dX9_init_15 : decode cX9_init 15 = .ok (.newarray .int, 2) := by decide +kernel
theorem dX9_init_17 : decode cX9_init 17 = .ok (.putfield 15, 3) := by decide +kernel
theorem dX9_init_20 : decode cX9_init 20 = .ok (.aload_n 0, 1) := by decide +kernel
theorem dX9_init_21 : decode cX9_init 21 = .ok (.bipush 7, 2) := by decide +kernel
theorem dX9_init_23 : decode cX9_init 23 = .ok (.newarray .int, 2) := by decide +kernel
theorem dX9_init_25 : decode cX9_init 25 = .ok (.putfield 18, 3) := by decide +kernel
theorem dX9_init_28 : decode cX9_init 28 = .ok (.aload_n 0, 1) := by decide +kernel
theorem dX9_init_29 : decode cX9_init 29 = .ok (.bipush 7, 2) := by decide +kernel
theorem dX9_init_31 : decode cX9_init 31 = .ok (.newarray .int, 2) := by decide +kernel
theorem dX9_init_33 : decode cX9_init 33 = .ok (.putfield 21, 3) := by decide +kernel
theorem dX9_init_36 : decode cX9_init 36 = .ok (.aload_n 0, 1) := by decide +kernel
theorem dX9_init_37 : decode cX9_init 37 = .ok (.bipush 84, 2) := by decide +kernel
theorem dX9_init_39 : decode cX9_init 39 = .ok (.newarray .int, 2) := by decide +kernel
theorem dX9_init_41 : decode cX9_init 41 = .ok (.putfield 24, 3) := by decide +kernel
theorem dX9_init_44 : decode cX9_init 44 = .ok (.aload_n 0, 1) := by decide +kernel
theorem dX9_init_45 : decode cX9_init 45 = .ok (.bipush 12, 2) := by decide +kernel
theorem dX9_init_47 : decode cX9_init 47 = .ok (.newarray .int, 2) := by decide +kernel
theorem dX9_init_49 : decode cX9_init 49 = .ok (.putfield 27, 3) := by decide +kernel
theorem dX9_init_52 : decode cX9_init 52 = .ok (.return_, 1) := by decide +kernel
theorem dX9_clear_0 : decode cX9_clear 0 = .ok (.aload_n 0, 1) := by decide +kernel
theorem dX9_clear_1 : decode cX9_clear 1 = .ok (.getfield 9, 3) := by decide +kernel
theorem dX9_clear_4 : decode cX9_clear 4 = .ok (.iconst 0, 1) := by decide +kernel
theorem dX9_clear_5 : decode cX9_clear 5 = .ok (.invokestatic 30, 3) := by decide +kernel
theorem dX9_clear_8 : decode cX9_clear 8 = .ok (.aload_n 0, 1) := by decide +kernel
theorem dX9_clear_9 : decode cX9_clear 9 = .ok (.getfield 15, 3) := by decide +kernel
theorem dX9_clear_12 : decode cX9_clear 12 = .ok (.iconst 0, 1) := by decide +kernel
theorem dX9_clear_13 : decode cX9_clear 13 = .ok (.invokestatic 30, 3) := by decide +kernel
theorem dX9_clear_16 : decode cX9_clear 16 = .ok (.aload_n 0, 1) := by decide +kernel
theorem dX9_clear_17 : decode cX9_clear 17 = .ok (.getfield 18, 3) := by decide +kernel
theorem dX9_clear_20 : decode cX9_clear 20 = .ok (.iconst 0, 1) := by decide +kernel
theorem dX9_clear_21 : decode cX9_clear 21 = .ok (.invokestatic 30, 3) := by decide +kernel
theorem dX9_clear_24 : decode cX9_clear 24 = .ok (.aload_n 0, 1) := by decide +kernel
theorem dX9_clear_25 : decode cX9_clear 25 = .ok (.getfield 21, 3) := by decide +kernel
theorem dX9_clear_28 : decode cX9_clear 28 = .ok (.iconst 0, 1) := by decide +kernel
theorem dX9_clear_29 : decode cX9_clear 29 = .ok (.invokestatic 30, 3) := by decide +kernel
theorem dX9_clear_32 : decode cX9_clear 32 = .ok (.aload_n 0, 1) := by decide +kernel
theorem dX9_clear_33 : decode cX9_clear 33 = .ok (.getfield 24, 3) := by decide +kernel
theorem dX9_clear_36 : decode cX9_clear 36 = .ok (.iconst 0, 1) := by decide +kernel
theorem dX9_clear_37 : decode cX9_clear 37 = .ok (.invokestatic 30, 3) := by decide +kernel
theorem dX9_clear_40 : decode cX9_clear 40 = .ok (.aload_n 0, 1) := by decide +kernel
theorem dX9_clear_41 : decode cX9_clear 41 = .ok (.getfield 27, 3) := by decide +kernel
theorem dX9_clear_44 : decode cX9_clear 44 = .ok (.iconst 0, 1) := by decide +kernel
theorem dX9_clear_45 : decode cX9_clear 45 = .ok (.invokestatic 30, 3) := by decide +kernel
theorem dX9_clear_48 : decode cX9_clear 48 = .ok (.aload_n 0, 1) := by decide +kernel
theorem dX9_clear_49 : decode cX9_clear 49 = .ok (.iconst 0, 1) := by decide +kernel
theorem dX9_clear_50 : decode cX9_clear 50 = .ok (.putfield 36, 3) := by decide +kernel
theorem dX9_clear_53 : decode cX9_clear 53 = .ok (.aload_n 0, 1) := by decide +kernel
theorem dX9_clear_54 : decode cX9_clear 54 = .ok (.iconst 0, 1) := by decide +kernel
theorem dX9_clear_55 : decode cX9_clear 55 = .ok (.putfield 40, 3) := by decide +kernel
theorem dX9_clear_58 : decode cX9_clear 58 = .ok (.aload_n 0, 1) := by decide +kernel
theorem dX9_clear_59 : decode cX9_clear 59 = .ok (.iconst 0, 1) := by decide +kernel
theorem dX9_clear_60 : decode cX9_clear 60 = .ok (.putfield 43, 3) := by decide +kernel
theorem dX9_clear_63 : decode cX9_clear 63 = .ok (.return_, 1) := by decide +kernel
theorem dX9_copyFrom_0 : decode cX9_copyFrom 0 = .ok (.aload_n 1, 1) := by decide +kernel
theorem dX9_copyFrom_1 : decode cX9_copyFrom 1 = .ok (.getfield 9, 3) := by decide +kernel
theorem dX9_copyFrom_4 : decode cX9_copyFrom 4 = .ok (.iconst 0, 1) := by decide +kernel
theorem dX9_copyFrom_5 : decode cX9_copyFrom 5 = .ok (.aload_n 0, 1) := by decide +kernel
theorem dX9_copyFrom_6 : decode cX9_copyFrom 6 = .ok (.getfield 9, 3) := by decide +kernel
theorem dX9_copyFrom_9 : decode cX9_copyFrom 9 = .ok (.iconst 0, 1) := by decide +kernel
theorem dX9_copyFrom_10 : decode cX9_copyFrom 10 = .ok (.bipush 7, 2) := by decide +kernel
theorem dX9_copyFrom_12 : decode cX9_copyFrom 12 = .ok (.invokestatic 46, 3) := by decide +kernel
theorem dX9_copyFrom_15 : decode cX9_copyFrom 15 = .ok (.aload_n 1, 1) := by decide +kernel
theorem dX9_copyFrom_16 : decode cX9_copyFrom 16 = .ok (.getfield 15, 3) := by decide +kernel
theorem dX9_copyFrom_19 : decode cX9_copyFrom 19 = .ok (.iconst 0, 1) := by decide +kernel
theorem dX9_copyFrom_20 : decode cX9_copyFrom 20 = .ok (.aload_n 0, 1) := by decide +kernel
theorem dX9_copyFrom_21 : decode cX9_copyFrom 21 = .ok (.getfield 15, 3) := by decide +kernel
theorem dX9_copyFrom_24 : decode cX9_copyFrom 24 = .ok (.iconst 0, 1) := by decide +kernel
theorem dX9_copyFrom_25 : decode cX9_copyFrom 25 = .ok (.bipush 7, 2) := by decide +kernel
theorem dX9_copyFrom_27 : decode cX9_copyFrom 27 = .ok (.invokestatic 46, 3) := by decide +kernel
theorem dX9_copyFrom_30 : decode cX9_copyFrom 30 = .ok (.aload_n 1, 1) := by decide +kernel
theorem dX9_copyFrom_31 : decode cX9_copyFrom 31 = .ok (.getfield 18, 3) := by decide +kernel
theorem dX9_copyFrom_34 : decode cX9_copyFrom 34 = .ok (.iconst 0, 1) := by decide +kernel
theorem dX9_copyFrom_35 : decode cX9_copyFrom 35 = .ok (.aload_n 0, 1) := by decide +kernel
theorem dX9_copyFrom_36 : decode cX9_copyFrom 36 = .ok (.getfield 18, 3) := by decide +kernel
theorem dX9_copyFrom_39 : decode cX9_copyFrom 39 = .ok (.iconst 0, 1) := by decide +kernel
theorem dX9_copyFrom_40 : decode cX9_copyFrom 40 = .ok (.bipush 7, 2) := by decide +kernel
theorem dX9_copyFrom_42 : decode cX9_copyFrom 42 = .ok (.invokestatic 46, 3) := by decide +kernel
theorem dX9_copyFrom_45 : decode cX9_copyFrom 45 = .ok (.aload_n 1, 1) := by decide +kernel
theorem dX9_copyFrom_46 : decode cX9_copyFrom 46 = .ok (.getfield 21, 3) := by decide +kernel
theorem dX9_copyFrom_49 : decode cX9_copyFrom 49 = .ok (.iconst 0, 1) := by decide +kernel
theorem dX9_copyFrom_50 : decode cX9_copyFrom 50 = .ok (.aload_n 0, 1) := by decide +kernel
theorem dX9_copyFrom_51 : decode cX9_copyFrom 51 = .ok (.getfield 21, 3) := by decide +kernel
theorem dX9_copyFrom_54 : decode cX9_copyFrom 54 = .ok (.iconst 0, 1) := by decide +kernel
theorem dX9_copyFrom_55 : decode cX9_copyFrom 55 = .ok (.bipush 7, 2) := by decide +kernel
theorem dX9_copyFrom_57 : decode cX9_copyFrom 57 = .ok (.invokestatic 46, 3) := by decide +kernel
theorem dX9_copyFrom_60 : decode cX9_copyFrom 60 = .ok (.aload_n 1, 1) := by decide +kernel
theorem dX9_copyFrom_61 : decode cX9_copyFrom 61 = .ok (.getfield 24, 3) := by decide +kernel
theorem dX9_copyFrom_64 : decode cX9_copyFrom 64 = .ok (.iconst 0, 1) := by decide +kernel
theorem dX9_copyFrom_65 : decode cX9_copyFrom 65 = .ok (.aload_n 0, 1) := by decide +kernel
theorem dX9_copyFrom_66 : decode cX9_copyFrom 66 = .ok (.getfield 24, 3) := by decide +kernel
theorem dX9_copyFrom_69 : decode cX9_copyFrom 69 = .ok (.iconst 0, 1) := by decide +kernel
theorem dX9_copyFrom_70 : decode cX9_copyFrom 70 = .ok (.bipush 84, 2) := by decide +kernel
theorem dX9_copyFrom_72 : decode cX9_copyFrom 72 = .ok (.invokestatic 46, 3) := by decide +kernel
theorem dX9_copyFrom_75 : decode cX9_copyFrom 75 = .ok (.aload_n 1, 1) := by decide +kernel
theorem dX9_copyFrom_76 : decode cX9_copyFrom 76 = .ok (.getfield 27, 3) := by decide +kernel
theorem dX9_copyFrom_79 : decode cX9_copyFrom 79 = .ok (.iconst 0, 1) := by decide +kernel
theorem dX9_copyFrom_80 : decode cX9_copyFrom 80 = .ok (.aload_n 0, 1) := by decide +kernel
theorem dX9_copyFrom_81 : decode cX9_copyFrom 81 = .ok (.getfield 27, 3) := by decide +kernel
theorem dX9_copyFrom_84 : decode cX9_copyFrom 84 = .ok (.iconst 0, 1) := by decide +kernel
theorem dX9_copyFrom_85 : decode cX9_copyFrom 85 = .ok (.bipush 12, 2) := by decide +kernel
theorem dX9_copyFrom_87 : decode cX9_copyFrom 87 = .ok (.invokestatic 46, 3) := by decide +kernel
theorem dX9_copyFrom_90 : decode cX9_copyFrom 90 = .ok (.aload_n 0, 1) := by decide +kernel
theorem dX9_copyFrom_91 : decode cX9_copyFrom 91 = .ok (.aload_n 1, 1) := by decide +kernel
theorem dX9_copyFrom_92 : decode cX9_copyFrom 92 = .ok (.getfield 36, 3) := by decide +kernel
theorem dX9_copyFrom_95 : decode cX9_copyFrom 95 = .ok (.putfield 36, 3) := by decide +kernel
theorem dX9_copyFrom_98 : decode cX9_copyFrom 98 = .ok (.aload_n 0, 1) := by decide +kernel
theorem dX9_copyFrom_99 : decode cX9_copyFrom 99 = .ok (.aload_n 1, 1) := by decide +kernel
theorem dX9_copyFrom_100 : decode cX9_copyFrom 100 = .ok (.getfield 40, 3) := by decide +kernel
theorem dX9_copyFrom_103 : decode cX9_copyFrom 103 = .ok (.putfield 40, 3) := by decide +kernel
theorem dX9_copyFrom_106 : decode cX9_copyFrom 106 = .ok (.aload_n 0, 1) := by decide +kernel
theorem dX9_copyFrom_107 : decode cX9_copyFrom 107 = .ok (.aload_n 1, 1) := by decide +kernel
theorem dX9_copyFrom_108 : decode cX9_copyFrom 108 = .ok (.getfield 43, 3) := by decide +kernel
theorem dX9_copyFrom_111 : decode cX9_copyFrom 111 = .ok (.putfield 43, 3) := by decide +kernel
theorem dX9_copyFrom_114 : decode cX9_copyFrom 114 = .ok (.return_, 1) := by decide +kernel
theorem dX9_hasFallen_0 : decode cX9_hasFallen 0 = .ok (.aload_n 0, 1) := by decide +kernel
theorem dX9_hasFallen_1 : decode cX9_hasFallen 1 = .ok (.getfield 36, 3) := by decide +kernel
theorem dX9_hasFallen_4 : decode cX9_hasFallen 4 = .ok (.iload_n 1, 1) := by decide +kernel
theorem dX9_hasFallen_5 : decode cX9_hasFallen 5 = .ok (.ishr, 1) := by decide +kernel
theorem dX9_hasFallen_6 : decode cX9_hasFallen 6 = .ok (.iconst 1, 1) := by decide +kernel
theorem dX9_hasFallen_7 : decode cX9_hasFallen 7 = .ok (.iand, 1) := by decide +kernel
theorem dX9_hasFallen_8 : decode cX9_hasFallen 8 = .ok (.iconst 1, 1) := by decide +kernel
theorem dX9_hasFallen_9 : decode cX9_hasFallen 9 = .ok (.if_icmp .ne 7, 3) := by decide +kernel
theorem dX9_hasFallen_12 : decode cX9_hasFallen 12 = .ok (.iconst 1, 1) := by decide +kernel
theorem dX9_hasFallen_13 : decode cX9_hasFallen 13 = .ok (.goto 4, 3) := by decide +kernel
theorem dX9_hasFallen_16 : decode cX9_hasFallen 16 = .ok (.iconst 0, 1) := by decide +kernel
theorem dX9_hasFallen_17 : decode cX9_hasFallen 17 = .ok (.ireturn, 1) := by decide +kernel
theorem dX9_hearingsOf_0 : decode cX9_hearingsOf 0 = .ok (.aload_n 0, 1) := by decide +kernel
theorem dX9_hearingsOf_1 : decode cX9_hearingsOf 1 = .ok (.getfield 21, 3) := by decide +kernel
theorem dX9_hearingsOf_4 : decode cX9_hearingsOf 4 = .ok (.iload_n 1, 1) := by decide +kernel
theorem dX9_hearingsOf_5 : decode cX9_hearingsOf 5 = .ok (.iaload, 1) := by decide +kernel
theorem dX9_hearingsOf_6 : decode cX9_hearingsOf 6 = .ok (.iload_n 2, 1) := by decide +kernel
theorem dX9_hearingsOf_7 : decode cX9_hearingsOf 7 = .ok (.ishr, 1) := by decide +kernel
theorem dX9_hearingsOf_8 : decode cX9_hearingsOf 8 = .ok (.iconst 1, 1) := by decide +kernel
theorem dX9_hearingsOf_9 : decode cX9_hearingsOf 9 = .ok (.iand, 1) := by decide +kernel
theorem dX9_hearingsOf_10 : decode cX9_hearingsOf 10 = .ok (.iconst 1, 1) := by decide +kernel
theorem dX9_hearingsOf_11 : decode cX9_hearingsOf 11 = .ok (.if_icmp .ne 7, 3) := by decide +kernel
theorem dX9_hearingsOf_14 : decode cX9_hearingsOf 14 = .ok (.iconst 1, 1) := by decide +kernel
theorem dX9_hearingsOf_15 : decode cX9_hearingsOf 15 = .ok (.goto 4, 3) := by decide +kernel
theorem dX9_hearingsOf_18 : decode cX9_hearingsOf 18 = .ok (.iconst 0, 1) := by decide +kernel
theorem dX9_hearingsOf_19 : decode cX9_hearingsOf 19 = .ok (.istore_n 3, 1) := by decide +kernel
theorem dX9_hearingsOf_20 : decode cX9_hearingsOf 20 = .ok (.iload_n 3, 1) := by decide +kernel
theorem dX9_hearingsOf_21 : decode cX9_hearingsOf 21 = .ok (.ifCond .eq 17, 3) := by decide +kernel
theorem dX9_hearingsOf_24 : decode cX9_hearingsOf 24 = .ok (.aload_n 0, 1) := by decide +kernel
theorem dX9_hearingsOf_25 : decode cX9_hearingsOf 25 = .ok (.getfield 24, 3) := by decide +kernel
theorem dX9_hearingsOf_28 : decode cX9_hearingsOf 28 = .ok (.iload_n 1, 1) := by decide +kernel
theorem dX9_hearingsOf_29 : decode cX9_hearingsOf 29 = .ok (.bipush 12, 2) := by decide +kernel
theorem dX9_hearingsOf_31 : decode cX9_hearingsOf 31 = .ok (.imul, 1) := by decide +kernel
theorem dX9_hearingsOf_32 : decode cX9_hearingsOf 32 = .ok (.iload_n 2, 1) := by decide +kernel
theorem dX9_hearingsOf_33 : decode cX9_hearingsOf 33 = .ok (.iadd, 1) := by decide +kernel
theorem dX9_hearingsOf_34 : decode cX9_hearingsOf 34 = .ok (.iaload, 1) := by decide +kernel
theorem dX9_hearingsOf_35 : decode cX9_hearingsOf 35 = .ok (.goto 4, 3) := by decide +kernel
theorem dX9_hearingsOf_38 : decode cX9_hearingsOf 38 = .ok (.iconst (-1), 1) := by decide +kernel
theorem dX9_hearingsOf_39 : decode cX9_hearingsOf 39 = .ok (.ireturn, 1) := by decide +kernel
theorem dX9_learn_0 : decode cX9_learn 0 = .ok (.aload_n 0, 1) := by decide +kernel
theorem dX9_learn_1 : decode cX9_learn 1 = .ok (.getfield 21, 3) := by decide +kernel
theorem dX9_learn_4 : decode cX9_learn 4 = .ok (.iload_n 1, 1) := by decide +kernel
theorem dX9_learn_5 : decode cX9_learn 5 = .ok (.dup2, 1) := by decide +kernel
theorem dX9_learn_6 : decode cX9_learn 6 = .ok (.iaload, 1) := by decide +kernel
theorem dX9_learn_7 : decode cX9_learn 7 = .ok (.iconst 1, 1) := by decide +kernel
theorem dX9_learn_8 : decode cX9_learn 8 = .ok (.iload_n 2, 1) := by decide +kernel
theorem dX9_learn_9 : decode cX9_learn 9 = .ok (.ishl, 1) := by decide +kernel
theorem dX9_learn_10 : decode cX9_learn 10 = .ok (.ior, 1) := by decide +kernel
theorem dX9_learn_11 : decode cX9_learn 11 = .ok (.iastore, 1) := by decide +kernel
theorem dX9_learn_12 : decode cX9_learn 12 = .ok (.aload_n 0, 1) := by decide +kernel
theorem dX9_learn_13 : decode cX9_learn 13 = .ok (.getfield 24, 3) := by decide +kernel
theorem dX9_learn_16 : decode cX9_learn 16 = .ok (.iload_n 1, 1) := by decide +kernel
theorem dX9_learn_17 : decode cX9_learn 17 = .ok (.bipush 12, 2) := by decide +kernel
theorem dX9_learn_19 : decode cX9_learn 19 = .ok (.imul, 1) := by decide +kernel
theorem dX9_learn_20 : decode cX9_learn 20 = .ok (.iload_n 2, 1) := by decide +kernel
theorem dX9_learn_21 : decode cX9_learn 21 = .ok (.iadd, 1) := by decide +kernel
theorem dX9_learn_22 : decode cX9_learn 22 = .ok (.iload_n 3, 1) := by decide +kernel
theorem dX9_learn_23 : decode cX9_learn 23 = .ok (.iastore, 1) := by decide +kernel
theorem dX9_learn_24 : decode cX9_learn 24 = .ok (.return_, 1) := by decide +kernel
theorem dX9_bear_0 : decode cX9_bear 0 = .ok (.aload_n 0, 1) := by decide +kernel
theorem dX9_bear_1 : decode cX9_bear 1 = .ok (.getfield 9, 3) := by decide +kernel
theorem dX9_bear_4 : decode cX9_bear 4 = .ok (.iload_n 1, 1) := by decide +kernel
theorem dX9_bear_5 : decode cX9_bear 5 = .ok (.dup2, 1) := by decide +kernel
theorem dX9_bear_6 : decode cX9_bear 6 = .ok (.iaload, 1) := by decide +kernel
theorem dX9_bear_7 : decode cX9_bear 7 = .ok (.iload_n 3, 1) := by decide +kernel
theorem dX9_bear_8 : decode cX9_bear 8 = .ok (.iadd, 1) := by decide +kernel
theorem dX9_bear_9 : decode cX9_bear 9 = .ok (.iastore, 1) := by decide +kernel
theorem dX9_bear_10 : decode cX9_bear 10 = .ok (.aload_n 0, 1) := by decide +kernel
theorem dX9_bear_11 : decode cX9_bear 11 = .ok (.getfield 15, 3) := by decide +kernel
theorem dX9_bear_14 : decode cX9_bear 14 = .ok (.iload_n 1, 1) := by decide +kernel
theorem dX9_bear_15 : decode cX9_bear 15 = .ok (.dup2, 1) := by decide +kernel
theorem dX9_bear_16 : decode cX9_bear 16 = .ok (.iaload, 1) := by decide +kernel
theorem dX9_bear_17 : decode cX9_bear 17 = .ok (.iconst 1, 1) := by decide +kernel
theorem dX9_bear_18 : decode cX9_bear 18 = .ok (.iadd, 1) := by decide +kernel
theorem dX9_bear_19 : decode cX9_bear 19 = .ok (.iastore, 1) := by decide +kernel
theorem dX9_bear_20 : decode cX9_bear 20 = .ok (.aload_n 0, 1) := by decide +kernel
theorem dX9_bear_21 : decode cX9_bear 21 = .ok (.getfield 18, 3) := by decide +kernel
theorem dX9_bear_24 : decode cX9_bear 24 = .ok (.iload_n 1, 1) := by decide +kernel
theorem dX9_bear_25 : decode cX9_bear 25 = .ok (.dup2, 1) := by decide +kernel
theorem dX9_bear_26 : decode cX9_bear 26 = .ok (.iaload, 1) := by decide +kernel
theorem dX9_bear_27 : decode cX9_bear 27 = .ok (.iconst 1, 1) := by decide +kernel
theorem dX9_bear_28 : decode cX9_bear 28 = .ok (.iload_n 2, 1) := by decide +kernel
theorem dX9_bear_29 : decode cX9_bear 29 = .ok (.ishl, 1) := by decide +kernel
theorem dX9_bear_30 : decode cX9_bear 30 = .ok (.ior, 1) := by decide +kernel
theorem dX9_bear_31 : decode cX9_bear 31 = .ok (.iastore, 1) := by decide +kernel
theorem dX9_bear_32 : decode cX9_bear 32 = .ok (.aload_n 0, 1) := by decide +kernel
theorem dX9_bear_33 : decode cX9_bear 33 = .ok (.getfield 27, 3) := by decide +kernel
theorem dX9_bear_36 : decode cX9_bear 36 = .ok (.iload_n 2, 1) := by decide +kernel
theorem dX9_bear_37 : decode cX9_bear 37 = .ok (.dup2, 1) := by decide +kernel
theorem dX9_bear_38 : decode cX9_bear 38 = .ok (.iaload, 1) := by decide +kernel
theorem dX9_bear_39 : decode cX9_bear 39 = .ok (.iconst 1, 1) := by decide +kernel
theorem dX9_bear_40 : decode cX9_bear 40 = .ok (.iadd, 1) := by decide +kernel
theorem dX9_bear_41 : decode cX9_bear 41 = .ok (.iastore, 1) := by decide +kernel
theorem dX9_bear_42 : decode cX9_bear 42 = .ok (.return_, 1) := by decide +kernel
theorem dX9_hasNewsFor_0 : decode cX9_hasNewsFor 0 = .ok (.iload_n 1, 1) := by decide +kernel
theorem dX9_hasNewsFor_1 : decode cX9_hasNewsFor 1 = .ok (.iload_n 2, 1) := by decide +kernel
theorem dX9_hasNewsFor_2 : decode cX9_hasNewsFor 2 = .ok (.if_icmp .eq 41, 3) := by decide +kernel
theorem dX9_hasNewsFor_5 : decode cX9_hasNewsFor 5 = .ok (.aload_n 0, 1) := by decide +kernel
theorem dX9_hasNewsFor_6 : decode cX9_hasNewsFor 6 = .ok (.iload_n 1, 1) := by decide +kernel
theorem dX9_hasNewsFor_7 : decode cX9_hasNewsFor 7 = .ok (.invokevirtual 52, 3) := by decide +kernel
theorem dX9_hasNewsFor_10 : decode cX9_hasNewsFor 10 = .ok (.ifCond .ne 33, 3) := by decide +kernel
theorem dX9_hasNewsFor_13 : decode cX9_hasNewsFor 13 = .ok (.aload_n 0, 1) := by decide +kernel
theorem dX9_hasNewsFor_14 : decode cX9_hasNewsFor 14 = .ok (.iload_n 2, 1) := by decide +kernel
theorem dX9_hasNewsFor_15 : decode cX9_hasNewsFor 15 = .ok (.invokevirtual 52, 3) := by decide +kernel
theorem dX9_hasNewsFor_18 : decode cX9_hasNewsFor 18 = .ok (.ifCond .ne 25, 3) := by decide +kernel
theorem dX9_hasNewsFor_21 : decode cX9_hasNewsFor 21 = .ok (.aload_n 0, 1) := by decide +kernel
theorem dX9_hasNewsFor_22 : decode cX9_hasNewsFor 22 = .ok (.getfield 21, 3) := by decide +kernel
theorem dX9_hasNewsFor_25 : decode cX9_hasNewsFor 25 = .ok (.iload_n 1, 1) := by decide +kernel
theorem dX9_hasNewsFor_26 : decode cX9_hasNewsFor 26 = .ok (.iaload, 1) := by decide +kernel
theorem dX9_hasNewsFor_27 : decode cX9_hasNewsFor 27 = .ok (.aload_n 0, 1) := by decide +kernel
theorem dX9_hasNewsFor_28 : decode cX9_hasNewsFor 28 = .ok (.getfield 21, 3) := by decide +kernel
theorem dX9_hasNewsFor_31 : decode cX9_hasNewsFor 31 = .ok (.iload_n 2, 1) := by decide +kernel
theorem dX9_hasNewsFor_32 : decode cX9_hasNewsFor 32 = .ok (.iaload, 1) := by decide +kernel
theorem dX9_hasNewsFor_33 : decode cX9_hasNewsFor 33 = .ok (.iconst (-1), 1) := by decide +kernel
theorem dX9_hasNewsFor_34 : decode cX9_hasNewsFor 34 = .ok (.ixor, 1) := by decide +kernel
theorem dX9_hasNewsFor_35 : decode cX9_hasNewsFor 35 = .ok (.iand, 1) := by decide +kernel
theorem dX9_hasNewsFor_36 : decode cX9_hasNewsFor 36 = .ok (.ifCond .eq 7, 3) := by decide +kernel
theorem dX9_hasNewsFor_39 : decode cX9_hasNewsFor 39 = .ok (.iconst 1, 1) := by decide +kernel
theorem dX9_hasNewsFor_40 : decode cX9_hasNewsFor 40 = .ok (.goto 4, 3) := by decide +kernel
theorem dX9_hasNewsFor_43 : decode cX9_hasNewsFor 43 = .ok (.iconst 0, 1) := by decide +kernel
theorem dX9_hasNewsFor_44 : decode cX9_hasNewsFor 44 = .ok (.ireturn, 1) := by decide +kernel
theorem dX9_tell_0 : decode cX9_tell 0 = .ok (.aload_n 0, 1) := by decide +kernel
theorem dX9_tell_1 : decode cX9_tell 1 = .ok (.iload_n 1, 1) := by decide +kernel
theorem dX9_tell_2 : decode cX9_tell 2 = .ok (.iload_n 2, 1) := by decide +kernel
theorem dX9_tell_3 : decode cX9_tell 3 = .ok (.invokevirtual 56, 3) := by decide +kernel
theorem dX9_tell_6 : decode cX9_tell 6 = .ok (.ifCond .ne 5, 3) := by decide +kernel
theorem dX9_tell_9 : decode cX9_tell 9 = .ok (.iconst 0, 1) := by decide +kernel
theorem dX9_tell_10 : decode cX9_tell 10 = .ok (.ireturn, 1) := by decide +kernel
theorem dX9_tell_11 : decode cX9_tell 11 = .ok (.aload_n 0, 1) := by decide +kernel
theorem dX9_tell_12 : decode cX9_tell 12 = .ok (.getfield 21, 3) := by decide +kernel
theorem dX9_tell_15 : decode cX9_tell 15 = .ok (.iload_n 1, 1) := by decide +kernel
theorem dX9_tell_16 : decode cX9_tell 16 = .ok (.iaload, 1) := by decide +kernel
theorem dX9_tell_17 : decode cX9_tell 17 = .ok (.aload_n 0, 1) := by decide +kernel
theorem dX9_tell_18 : decode cX9_tell 18 = .ok (.getfield 21, 3) := by decide +kernel
theorem dX9_tell_21 : decode cX9_tell 21 = .ok (.iload_n 2, 1) := by decide +kernel
theorem dX9_tell_22 : decode cX9_tell 22 = .ok (.iaload, 1) := by decide +kernel
theorem dX9_tell_23 : decode cX9_tell 23 = .ok (.iconst (-1), 1) := by decide +kernel
theorem dX9_tell_24 : decode cX9_tell 24 = .ok (.ixor, 1) := by decide +kernel
theorem dX9_tell_25 : decode cX9_tell 25 = .ok (.iand, 1) := by decide +kernel
theorem dX9_tell_26 : decode cX9_tell 26 = .ok (.istore_n 3, 1) := by decide +kernel
theorem dX9_tell_27 : decode cX9_tell 27 = .ok (.iconst 0, 1) := by decide +kernel
theorem dX9_tell_28 : decode cX9_tell 28 = .ok (.istore 4, 2) := by decide +kernel
theorem dX9_tell_30 : decode cX9_tell 30 = .ok (.iload 4, 2) := by decide +kernel
theorem dX9_tell_32 : decode cX9_tell 32 = .ok (.bipush 12, 2) := by decide +kernel
theorem dX9_tell_34 : decode cX9_tell 34 = .ok (.if_icmp .ge 40, 3) := by decide +kernel
theorem dX9_tell_37 : decode cX9_tell 37 = .ok (.iload_n 3, 1) := by decide +kernel
theorem dX9_tell_38 : decode cX9_tell 38 = .ok (.iload 4, 2) := by decide +kernel
theorem dX9_tell_40 : decode cX9_tell 40 = .ok (.ishr, 1) := by decide +kernel
theorem dX9_tell_41 : decode cX9_tell 41 = .ok (.iconst 1, 1) := by decide +kernel
theorem dX9_tell_42 : decode cX9_tell 42 = .ok (.iand, 1) := by decide +kernel
theorem dX9_tell_43 : decode cX9_tell 43 = .ok (.iconst 1, 1) := by decide +kernel
theorem dX9_tell_44 : decode cX9_tell 44 = .ok (.if_icmp .ne 24, 3) := by decide +kernel
theorem dX9_tell_47 : decode cX9_tell 47 = .ok (.aload_n 0, 1) := by decide +kernel
theorem dX9_tell_48 : decode cX9_tell 48 = .ok (.iload_n 2, 1) := by decide +kernel
theorem dX9_tell_49 : decode cX9_tell 49 = .ok (.iload 4, 2) := by decide +kernel
theorem dX9_tell_51 : decode cX9_tell 51 = .ok (.bipush 9, 2) := by decide +kernel
theorem dX9_tell_53 : decode cX9_tell 53 = .ok (.aload_n 0, 1) := by decide +kernel
theorem dX9_tell_54 : decode cX9_tell 54 = .ok (.iload_n 1, 1) := by decide +kernel
theorem dX9_tell_55 : decode cX9_tell 55 = .ok (.iload 4, 2) := by decide +kernel
theorem dX9_tell_57 : decode cX9_tell 57 = .ok (.invokevirtual 60, 3) := by decide +kernel
theorem dX9_tell_60 : decode cX9_tell 60 = .ok (.iconst 1, 1) := by decide +kernel
theorem dX9_tell_61 : decode cX9_tell 61 = .ok (.iadd, 1) := by decide +kernel
theorem dX9_tell_62 : decode cX9_tell 62 = .ok (.invokestatic 64, 3) := by decide +kernel
theorem dX9_tell_65 : decode cX9_tell 65 = .ok (.invokevirtual 69, 3) := by decide +kernel
theorem dX9_tell_68 : decode cX9_tell 68 = .ok (.iinc 4 1, 3) := by decide +kernel
theorem dX9_tell_71 : decode cX9_tell 71 = .ok (.goto (-41), 3) := by decide +kernel
theorem dX9_tell_74 : decode cX9_tell 74 = .ok (.iconst 1, 1) := by decide +kernel
theorem dX9_tell_75 : decode cX9_tell 75 = .ok (.ireturn, 1) := by decide +kernel
theorem dX9_rest_0 : decode cX9_rest 0 = .ok (.aload_n 0, 1) := by decide +kernel
theorem dX9_rest_1 : decode cX9_rest 1 = .ok (.getfield 9, 3) := by decide +kernel
theorem dX9_rest_4 : decode cX9_rest 4 = .ok (.iload_n 1, 1) := by decide +kernel
theorem dX9_rest_5 : decode cX9_rest 5 = .ok (.iaload, 1) := by decide +kernel
theorem dX9_rest_6 : decode cX9_rest 6 = .ok (.ifCond .ne 5, 3) := by decide +kernel
theorem dX9_rest_9 : decode cX9_rest 9 = .ok (.iconst 0, 1) := by decide +kernel
theorem dX9_rest_10 : decode cX9_rest 10 = .ok (.ireturn, 1) := by decide +kernel
theorem dX9_rest_11 : decode cX9_rest 11 = .ok (.aload_n 0, 1) := by decide +kernel
theorem dX9_rest_12 : decode cX9_rest 12 = .ok (.getfield 9, 3) := by decide +kernel
theorem dX9_rest_15 : decode cX9_rest 15 = .ok (.iload_n 1, 1) := by decide +kernel
theorem dX9_rest_16 : decode cX9_rest 16 = .ok (.dup2, 1) := by decide +kernel
theorem dX9_rest_17 : decode cX9_rest 17 = .ok (.iaload, 1) := by decide +kernel
theorem dX9_rest_18 : decode cX9_rest 18 = .ok (.iconst 2, 1) := by decide +kernel
theorem dX9_rest_19 : decode cX9_rest 19 = .ok (.idiv, 1) := by decide +kernel
theorem dX9_rest_20 : decode cX9_rest 20 = .ok (.iastore, 1) := by decide +kernel
theorem dX9_rest_21 : decode cX9_rest 21 = .ok (.aload_n 0, 1) := by decide +kernel
theorem dX9_rest_22 : decode cX9_rest 22 = .ok (.dup, 1) := by decide +kernel
theorem dX9_rest_23 : decode cX9_rest 23 = .ok (.getfield 36, 3) := by decide +kernel
theorem dX9_rest_26 : decode cX9_rest 26 = .ok (.iconst 1, 1) := by decide +kernel
theorem dX9_rest_27 : decode cX9_rest 27 = .ok (.iload_n 1, 1) := by decide +kernel
theorem dX9_rest_28 : decode cX9_rest 28 = .ok (.ishl, 1) := by decide +kernel
theorem dX9_rest_29 : decode cX9_rest 29 = .ok (.iconst (-1), 1) := by decide +kernel
theorem dX9_rest_30 : decode cX9_rest 30 = .ok (.ixor, 1) := by decide +kernel
theorem dX9_rest_31 : decode cX9_rest 31 = .ok (.iand, 1) := by decide +kernel
theorem dX9_rest_32 : decode cX9_rest 32 = .ok (.putfield 36, 3) := by decide +kernel
theorem dX9_rest_35 : decode cX9_rest 35 = .ok (.iconst 1, 1) := by decide +kernel
theorem dX9_rest_36 : decode cX9_rest 36 = .ok (.ireturn, 1) := by decide +kernel
theorem dX9_tiredTogether_0 : decode cX9_tiredTogether 0 = .ok (.iconst 0, 1) := by decide +kernel
theorem dX9_tiredTogether_1 : decode cX9_tiredTogether 1 = .ok (.istore_n 1, 1) := by decide +kernel
theorem dX9_tiredTogether_2 : decode cX9_tiredTogether 2 = .ok (.aload_n 0, 1) := by decide +kernel
theorem dX9_tiredTogether_3 : decode cX9_tiredTogether 3 = .ok (.getfield 9, 3) := by decide +kernel
theorem dX9_tiredTogether_6 : decode cX9_tiredTogether 6 = .ok (.astore_n 2, 1) := by decide +kernel
theorem dX9_tiredTogether_7 : decode cX9_tiredTogether 7 = .ok (.aload_n 2, 1) := by decide +kernel
theorem dX9_tiredTogether_8 : decode cX9_tiredTogether 8 = .ok (.arraylength, 1) := by decide +kernel
theorem dX9_tiredTogether_9 : decode cX9_tiredTogether 9 = .ok (.istore_n 3, 1) := by decide +kernel
theorem dX9_tiredTogether_10 : decode cX9_tiredTogether 10 = .ok (.iconst 0, 1) := by decide +kernel
theorem dX9_tiredTogether_11 : decode cX9_tiredTogether 11 = .ok (.istore 4, 2) := by decide +kernel
theorem dX9_tiredTogether_13 : decode cX9_tiredTogether 13 = .ok (.iload 4, 2) := by decide +kernel
theorem dX9_tiredTogether_15 : decode cX9_tiredTogether 15 = .ok (.iload_n 3, 1) := by decide +kernel
theorem dX9_tiredTogether_16 : decode cX9_tiredTogether 16 = .ok (.if_icmp .ge 20, 3) := by decide +kernel
theorem dX9_tiredTogether_19 : decode cX9_tiredTogether 19 = .ok (.aload_n 2, 1) := by decide +kernel
theorem dX9_tiredTogether_20 : decode cX9_tiredTogether 20 = .ok (.iload 4, 2) := by decide +kernel
theorem dX9_tiredTogether_22 : decode cX9_tiredTogether 22 = .ok (.iaload, 1) := by decide +kernel
theorem dX9_tiredTogether_23 : decode cX9_tiredTogether 23 = .ok (.istore 5, 2) := by decide +kernel
theorem dX9_tiredTogether_25 : decode cX9_tiredTogether 25 = .ok (.iload_n 1, 1) := by decide +kernel
theorem dX9_tiredTogether_26 : decode cX9_tiredTogether 26 = .ok (.iload 5, 2) := by decide +kernel
theorem dX9_tiredTogether_28 : decode cX9_tiredTogether 28 = .ok (.iadd, 1) := by decide +kernel
theorem dX9_tiredTogether_29 : decode cX9_tiredTogether 29 = .ok (.istore_n 1, 1) := by decide +kernel
theorem dX9_tiredTogether_30 : decode cX9_tiredTogether 30 = .ok (.iinc 4 1, 3) := by decide +kernel
theorem dX9_tiredTogether_33 : decode cX9_tiredTogether 33 = .ok (.goto (-20), 3) := by decide +kernel
theorem dX9_tiredTogether_36 : decode cX9_tiredTogether 36 = .ok (.iload_n 1, 1) := by decide +kernel
theorem dX9_tiredTogether_37 : decode cX9_tiredTogether 37 = .ok (.ireturn, 1) := by decide +kernel
theorem dX9_borneTogether_0 : decode cX9_borneTogether 0 = .ok (.iconst 0, 1) := by decide +kernel
theorem dX9_borneTogether_1 : decode cX9_borneTogether 1 = .ok (.istore_n 1, 1) := by decide +kernel
theorem dX9_borneTogether_2 : decode cX9_borneTogether 2 = .ok (.aload_n 0, 1) := by decide +kernel
theorem dX9_borneTogether_3 : decode cX9_borneTogether 3 = .ok (.getfield 27, 3) := by decide +kernel
theorem dX9_borneTogether_6 : decode cX9_borneTogether 6 = .ok (.astore_n 2, 1) := by decide +kernel
theorem dX9_borneTogether_7 : decode cX9_borneTogether 7 = .ok (.aload_n 2, 1) := by decide +kernel
theorem dX9_borneTogether_8 : decode cX9_borneTogether 8 = .ok (.arraylength, 1) := by decide +kernel
theorem dX9_borneTogether_9 : decode cX9_borneTogether 9 = .ok (.istore_n 3, 1) := by decide +kernel
theorem dX9_borneTogether_10 : decode cX9_borneTogether 10 = .ok (.iconst 0, 1) := by decide +kernel
theorem dX9_borneTogether_11 : decode cX9_borneTogether 11 = .ok (.istore 4, 2) := by decide +kernel
theorem dX9_borneTogether_13 : decode cX9_borneTogether 13 = .ok (.iload 4, 2) := by decide +kernel
theorem dX9_borneTogether_15 : decode cX9_borneTogether 15 = .ok (.iload_n 3, 1) := by decide +kernel
theorem dX9_borneTogether_16 : decode cX9_borneTogether 16 = .ok (.if_icmp .ge 20, 3) := by decide +kernel
theorem dX9_borneTogether_19 : decode cX9_borneTogether 19 = .ok (.aload_n 2, 1) := by decide +kernel
theorem dX9_borneTogether_20 : decode cX9_borneTogether 20 = .ok (.iload 4, 2) := by decide +kernel
theorem dX9_borneTogether_22 : decode cX9_borneTogether 22 = .ok (.iaload, 1) := by decide +kernel
theorem dX9_borneTogether_23 : decode cX9_borneTogether 23 = .ok (.istore 5, 2) := by decide +kernel
theorem dX9_borneTogether_25 : decode cX9_borneTogether 25 = .ok (.iload_n 1, 1) := by decide +kernel
theorem dX9_borneTogether_26 : decode cX9_borneTogether 26 = .ok (.iload 5, 2) := by decide +kernel
theorem dX9_borneTogether_28 : decode cX9_borneTogether 28 = .ok (.iadd, 1) := by decide +kernel
theorem dX9_borneTogether_29 : decode cX9_borneTogether 29 = .ok (.istore_n 1, 1) := by decide +kernel
theorem dX9_borneTogether_30 : decode cX9_borneTogether 30 = .ok (.iinc 4 1, 3) := by decide +kernel
theorem dX9_borneTogether_33 : decode cX9_borneTogether 33 = .ok (.goto (-20), 3) := by decide +kernel
theorem dX9_borneTogether_36 : decode cX9_borneTogether 36 = .ok (.iload_n 1, 1) := by decide +kernel
theorem dX9_borneTogether_37 : decode cX9_borneTogether 37 = .ok (.ireturn, 1) := by decide +kernel
theorem dX9_knownByAny_0 : decode cX9_knownByAny 0 = .ok (.iconst 0, 1) := by decide +kernel
theorem dX9_knownByAny_1 : decode cX9_knownByAny 1 = .ok (.istore_n 1, 1) := by decide +kernel
theorem dX9_knownByAny_2 : decode cX9_knownByAny 2 = .ok (.aload_n 0, 1) := by decide +kernel
theorem dX9_knownByAny_3 : decode cX9_knownByAny 3 = .ok (.getfield 21, 3) := by decide +kernel
theorem dX9_knownByAny_6 : decode cX9_knownByAny 6 = .ok (.astore_n 2, 1) := by decide +kernel
theorem dX9_knownByAny_7 : decode cX9_knownByAny 7 = .ok (.aload_n 2, 1) := by decide +kernel
theorem dX9_knownByAny_8 : decode cX9_knownByAny 8 = .ok (.arraylength, 1) := by decide +kernel
theorem dX9_knownByAny_9 : decode cX9_knownByAny 9 = .ok (.istore_n 3, 1) := by decide +kernel
theorem dX9_knownByAny_10 : decode cX9_knownByAny 10 = .ok (.iconst 0, 1) := by decide +kernel
theorem dX9_knownByAny_11 : decode cX9_knownByAny 11 = .ok (.istore 4, 2) := by decide +kernel
theorem dX9_knownByAny_13 : decode cX9_knownByAny 13 = .ok (.iload 4, 2) := by decide +kernel
theorem dX9_knownByAny_15 : decode cX9_knownByAny 15 = .ok (.iload_n 3, 1) := by decide +kernel
theorem dX9_knownByAny_16 : decode cX9_knownByAny 16 = .ok (.if_icmp .ge 20, 3) := by decide +kernel
theorem dX9_knownByAny_19 : decode cX9_knownByAny 19 = .ok (.aload_n 2, 1) := by decide +kernel
theorem dX9_knownByAny_20 : decode cX9_knownByAny 20 = .ok (.iload 4, 2) := by decide +kernel
theorem dX9_knownByAny_22 : decode cX9_knownByAny 22 = .ok (.iaload, 1) := by decide +kernel
theorem dX9_knownByAny_23 : decode cX9_knownByAny 23 = .ok (.istore 5, 2) := by decide +kernel
theorem dX9_knownByAny_25 : decode cX9_knownByAny 25 = .ok (.iload_n 1, 1) := by decide +kernel
theorem dX9_knownByAny_26 : decode cX9_knownByAny 26 = .ok (.iload 5, 2) := by decide +kernel
theorem dX9_knownByAny_28 : decode cX9_knownByAny 28 = .ok (.ior, 1) := by decide +kernel
theorem dX9_knownByAny_29 : decode cX9_knownByAny 29 = .ok (.istore_n 1, 1) := by decide +kernel
theorem dX9_knownByAny_30 : decode cX9_knownByAny 30 = .ok (.iinc 4 1, 3) := by decide +kernel
theorem dX9_knownByAny_33 : decode cX9_knownByAny 33 = .ok (.goto (-20), 3) := by decide +kernel
theorem dX9_knownByAny_36 : decode cX9_knownByAny 36 = .ok (.iload_n 1, 1) := by decide +kernel
theorem dX9_knownByAny_37 : decode cX9_knownByAny 37 = .ok (.ireturn, 1) := by decide +kernel
theorem dX1_init_0 : decode cX1_init 0 = .ok (.aload_n 0, 1) := by decide +kernel
theorem dX1_init_1 : decode cX1_init 1 = .ok (.invokespecial 3, 3) := by decide +kernel
theorem dX1_init_4 : decode cX1_init 4 = .ok (.aload_n 0, 1) := by decide +kernel
theorem dX1_init_5 : decode cX1_init 5 = .ok (.bipush 7, 2) := by decide +kernel
theorem dX1_init_7 : decode cX1_init 7 = .ok (.newarray .int, 2) := by decide +kernel
theorem dX1_init_9 : decode cX1_init 9 = .ok (.putfield 9, 3) := by decide +kernel
theorem dX1_init_12 : decode cX1_init 12 = .ok (.aload_n 0, 1) := by decide +kernel
theorem dX1_init_13 : decode cX1_init 13 = .ok (.bipush 7, 2) := by decide +kernel
theorem dX1_init_15 : decode cX1_init 15 = .ok (.newarray .int, 2) := by decide +kernel
theorem dX1_init_17 : decode cX1_init 17 = .ok (.putfield 15, 3) := by decide +kernel
theorem dX1_init_20 : decode cX1_init 20 = .ok (.aload_n 0, 1) := by decide +kernel
theorem dX1_init_21 : decode cX1_init 21 = .ok (.bipush 12, 2) := by decide +kernel
theorem dX1_init_23 : decode cX1_init 23 = .ok (.newarray .int, 2) := by decide +kernel
theorem dX1_init_25 : decode cX1_init 25 = .ok (.putfield 18, 3) := by decide +kernel
theorem dX1_init_28 : decode cX1_init 28 = .ok (.aload_n 0, 1) := by decide +kernel
theorem dX1_init_29 : decode cX1_init 29 = .ok (.bipush 12, 2) := by decide +kernel
theorem dX1_init_31 : decode cX1_init 31 = .ok (.newarray .int, 2) := by decide +kernel
theorem dX1_init_33 : decode cX1_init 33 = .ok (.putfield 21, 3) := by decide +kernel
theorem dX1_init_36 : decode cX1_init 36 = .ok (.aload_n 0, 1) := by decide +kernel
theorem dX1_init_37 : decode cX1_init 37 = .ok (.bipush 20, 2) := by decide +kernel
theorem dX1_init_39 : decode cX1_init 39 = .ok (.putfield 24, 3) := by decide +kernel
theorem dX1_init_42 : decode cX1_init 42 = .ok (.return_, 1) := by decide +kernel
theorem dX1_copyFrom_0 : decode cX1_copyFrom 0 = .ok (.aload_n 1, 1) := by decide +kernel
theorem dX1_copyFrom_1 : decode cX1_copyFrom 1 = .ok (.getfield 9, 3) := by decide +kernel
theorem dX1_copyFrom_4 : decode cX1_copyFrom 4 = .ok (.iconst 0, 1) := by decide +kernel
theorem dX1_copyFrom_5 : decode cX1_copyFrom 5 = .ok (.aload_n 0, 1) := by decide +kernel
theorem dX1_copyFrom_6 : decode cX1_copyFrom 6 = .ok (.getfield 9, 3) := by decide +kernel
theorem dX1_copyFrom_9 : decode cX1_copyFrom 9 = .ok (.iconst 0, 1) := by decide +kernel
theorem dX1_copyFrom_10 : decode cX1_copyFrom 10 = .ok (.bipush 7, 2) := by decide +kernel
theorem dX1_copyFrom_12 : decode cX1_copyFrom 12 = .ok (.invokestatic 28, 3) := by decide +kernel
theorem dX1_copyFrom_15 : decode cX1_copyFrom 15 = .ok (.aload_n 1, 1) := by decide +kernel
theorem dX1_copyFrom_16 : decode cX1_copyFrom 16 = .ok (.getfield 15, 3) := by decide +kernel
theorem dX1_copyFrom_19 : decode cX1_copyFrom 19 = .ok (.iconst 0, 1) := by decide +kernel
theorem dX1_copyFrom_20 : decode cX1_copyFrom 20 = .ok (.aload_n 0, 1) := by decide +kernel
theorem dX1_copyFrom_21 : decode cX1_copyFrom 21 = .ok (.getfield 15, 3) := by decide +kernel
theorem dX1_copyFrom_24 : decode cX1_copyFrom 24 = .ok (.iconst 0, 1) := by decide +kernel
theorem dX1_copyFrom_25 : decode cX1_copyFrom 25 = .ok (.bipush 7, 2) := by decide +kernel
theorem dX1_copyFrom_27 : decode cX1_copyFrom 27 = .ok (.invokestatic 28, 3) := by decide +kernel
theorem dX1_copyFrom_30 : decode cX1_copyFrom 30 = .ok (.aload_n 1, 1) := by decide +kernel
theorem dX1_copyFrom_31 : decode cX1_copyFrom 31 = .ok (.getfield 18, 3) := by decide +kernel
theorem dX1_copyFrom_34 : decode cX1_copyFrom 34 = .ok (.iconst 0, 1) := by decide +kernel
theorem dX1_copyFrom_35 : decode cX1_copyFrom 35 = .ok (.aload_n 0, 1) := by decide +kernel
theorem dX1_copyFrom_36 : decode cX1_copyFrom 36 = .ok (.getfield 18, 3) := by decide +kernel
theorem dX1_copyFrom_39 : decode cX1_copyFrom 39 = .ok (.iconst 0, 1) := by decide +kernel
theorem dX1_copyFrom_40 : decode cX1_copyFrom 40 = .ok (.bipush 12, 2) := by decide +kernel
theorem dX1_copyFrom_42 : decode cX1_copyFrom 42 = .ok (.invokestatic 28, 3) := by decide +kernel
theorem dX1_copyFrom_45 : decode cX1_copyFrom 45 = .ok (.aload_n 1, 1) := by decide +kernel
theorem dX1_copyFrom_46 : decode cX1_copyFrom 46 = .ok (.getfield 21, 3) := by decide +kernel
theorem dX1_copyFrom_49 : decode cX1_copyFrom 49 = .ok (.iconst 0, 1) := by decide +kernel
theorem dX1_copyFrom_50 : decode cX1_copyFrom 50 = .ok (.aload_n 0, 1) := by decide +kernel
theorem dX1_copyFrom_51 : decode cX1_copyFrom 51 = .ok (.getfield 21, 3) := by decide +kernel
theorem dX1_copyFrom_54 : decode cX1_copyFrom 54 = .ok (.iconst 0, 1) := by decide +kernel
theorem dX1_copyFrom_55 : decode cX1_copyFrom 55 = .ok (.bipush 12, 2) := by decide +kernel
theorem dX1_copyFrom_57 : decode cX1_copyFrom 57 = .ok (.invokestatic 28, 3) := by decide +kernel
theorem dX1_copyFrom_60 : decode cX1_copyFrom 60 = .ok (.aload_n 0, 1) := by decide +kernel
theorem dX1_copyFrom_61 : decode cX1_copyFrom 61 = .ok (.aload_n 1, 1) := by decide +kernel
theorem dX1_copyFrom_62 : decode cX1_copyFrom 62 = .ok (.getfield 34, 3) := by decide +kernel
theorem dX1_copyFrom_65 : decode cX1_copyFrom 65 = .ok (.putfield 34, 3) := by decide +kernel
theorem dX1_copyFrom_68 : decode cX1_copyFrom 68 = .ok (.aload_n 0, 1) := by decide +kernel
theorem dX1_copyFrom_69 : decode cX1_copyFrom 69 = .ok (.aload_n 1, 1) := by decide +kernel
theorem dX1_copyFrom_70 : decode cX1_copyFrom 70 = .ok (.getfield 37, 3) := by decide +kernel
theorem dX1_copyFrom_73 : decode cX1_copyFrom 73 = .ok (.putfield 37, 3) := by decide +kernel
theorem dX1_copyFrom_76 : decode cX1_copyFrom 76 = .ok (.aload_n 0, 1) := by decide +kernel
theorem dX1_copyFrom_77 : decode cX1_copyFrom 77 = .ok (.aload_n 1, 1) := by decide +kernel
theorem dX1_copyFrom_78 : decode cX1_copyFrom 78 = .ok (.getfield 24, 3) := by decide +kernel
theorem dX1_copyFrom_81 : decode cX1_copyFrom 81 = .ok (.putfield 24, 3) := by decide +kernel
theorem dX1_copyFrom_84 : decode cX1_copyFrom 84 = .ok (.return_, 1) := by decide +kernel
theorem dX1_backBits_0 : decode cX1_backBits 0 = .ok (.iconst 1, 1) := by decide +kernel
theorem dX1_backBits_1 : decode cX1_backBits 1 = .ok (.aload_n 0, 1) := by decide +kernel
theorem dX1_backBits_2 : decode cX1_backBits 2 = .ok (.getfield 34, 3) := by decide +kernel
theorem dX1_backBits_5 : decode cX1_backBits 5 = .ok (.ishl, 1) := by decide +kernel
theorem dX1_backBits_6 : decode cX1_backBits 6 = .ok (.iconst 1, 1) := by decide +kernel
theorem dX1_backBits_7 : decode cX1_backBits 7 = .ok (.isub, 1) := by decide +kernel
theorem dX1_backBits_8 : decode cX1_backBits 8 = .ok (.ireturn, 1) := by decide +kernel
theorem dX1_councilBits_0 : decode cX1_councilBits 0 = .ok (.iconst 1, 1) := by decide +kernel
theorem dX1_councilBits_1 : decode cX1_councilBits 1 = .ok (.aload_n 0, 1) := by decide +kernel
theorem dX1_councilBits_2 : decode cX1_councilBits 2 = .ok (.getfield 37, 3) := by decide +kernel
theorem dX1_councilBits_5 : decode cX1_councilBits 5 = .ok (.ishl, 1) := by decide +kernel
theorem dX1_councilBits_6 : decode cX1_councilBits 6 = .ok (.iconst 1, 1) := by decide +kernel
theorem dX1_councilBits_7 : decode cX1_councilBits 7 = .ok (.isub, 1) := by decide +kernel
theorem dX1_councilBits_8 : decode cX1_councilBits 8 = .ok (.ireturn, 1) := by decide +kernel
theorem dX1_readFrom_0 : decode cX1_readFrom 0 = .ok (.aload_n 0, 1) := by decide +kernel
theorem dX1_readFrom_1 : decode cX1_readFrom 1 = .ok (.iconst 0, 1) := by decide +kernel
theorem dX1_readFrom_2 : decode cX1_readFrom 2 = .ok (.putfield 34, 3) := by decide +kernel
theorem dX1_readFrom_5 : decode cX1_readFrom 5 = .ok (.aload_n 0, 1) := by decide +kernel
theorem dX1_readFrom_6 : decode cX1_readFrom 6 = .ok (.iconst 0, 1) := by decide +kernel
theorem dX1_readFrom_7 : decode cX1_readFrom 7 = .ok (.putfield 37, 3) := by decide +kernel
theorem dX1_readFrom_10 : decode cX1_readFrom 10 = .ok (.aload_n 0, 1) := by decide +kernel
theorem dX1_readFrom_11 : decode cX1_readFrom 11 = .ok (.bipush 20, 2) := by decide +kernel
theorem dX1_readFrom_13 : decode cX1_readFrom 13 = .ok (.putfield 24, 3) := by decide +kernel
theorem dX1_readFrom_16 : decode cX1_readFrom 16 = .ok (.iconst 0, 1) := by decide +kernel
theorem dX1_readFrom_17 : decode cX1_readFrom 17 = .ok (.istore_n 2, 1) := by decide +kernel
theorem dX1_readFrom_18 : decode cX1_readFrom 18 = .ok (.iload_n 2, 1) := by decide +kernel
theorem dX1_readFrom_19 : decode cX1_readFrom 19 = .ok (.bipush 60, 2) := by decide +kernel
theorem dX1_readFrom_21 : decode cX1_readFrom 21 = .ok (.if_icmp .gt 38, 3) := by decide +kernel
theorem dX1_readFrom_24 : decode cX1_readFrom 24 = .ok (.aload_n 1, 1) := by decide +kernel
theorem dX1_readFrom_25 : decode cX1_readFrom 25 = .ok (.invokevirtual 40, 3) := by decide +kernel
theorem dX1_readFrom_28 : decode cX1_readFrom 28 = .ok (.ifCond .eq 5, 3) := by decide +kernel
theorem dX1_readFrom_31 : decode cX1_readFrom 31 = .ok (.iconst 1, 1) := by decide +kernel
theorem dX1_readFrom_32 : decode cX1_readFrom 32 = .ok (.ireturn, 1) := by decide +kernel
theorem dX1_readFrom_33 : decode cX1_readFrom 33 = .ok (.aload_n 0, 1) := by decide +kernel
theorem dX1_readFrom_34 : decode cX1_readFrom 34 = .ok (.aload_n 1, 1) := by decide +kernel
theorem dX1_readFrom_35 : decode cX1_readFrom 35 = .ok (.iload_n 2, 1) := by decide +kernel
theorem dX1_readFrom_36 : decode cX1_readFrom 36 = .ok (.invokevirtual 46, 3) := by decide +kernel
theorem dX1_readFrom_39 : decode cX1_readFrom 39 = .ok (.ifCond .eq 12, 3) := by decide +kernel
theorem dX1_readFrom_42 : decode cX1_readFrom 42 = .ok (.aload_n 1, 1) := by decide +kernel
theorem dX1_readFrom_43 : decode cX1_readFrom 43 = .ok (.bipush 59, 2) := by decide +kernel
theorem dX1_readFrom_45 : decode cX1_readFrom 45 = .ok (.invokevirtual 50, 3) := by decide +kernel
theorem dX1_readFrom_48 : decode cX1_readFrom 48 = .ok (.ifCond .ne 5, 3) := by decide +kernel
theorem dX1_readFrom_51 : decode cX1_readFrom 51 = .ok (.iconst 0, 1) := by decide +kernel
theorem dX1_readFrom_52 : decode cX1_readFrom 52 = .ok (.ireturn, 1) := by decide +kernel
theorem dX1_readFrom_53 : decode cX1_readFrom 53 = .ok (.iinc 2 1, 3) := by decide +kernel
theorem dX1_readFrom_56 : decode cX1_readFrom 56 = .ok (.goto (-38), 3) := by decide +kernel
theorem dX1_readFrom_59 : decode cX1_readFrom 59 = .ok (.iconst 0, 1) := by decide +kernel
theorem dX1_readFrom_60 : decode cX1_readFrom 60 = .ok (.ireturn, 1) := by decide +kernel
theorem dX1_readClause_0 : decode cX1_readClause 0 = .ok (.aload_n 1, 1) := by decide +kernel
theorem dX1_readClause_1 : decode cX1_readClause 1 = .ok (.invokevirtual 54, 3) := by decide +kernel
theorem dX1_readClause_4 : decode cX1_readClause 4 = .ok (.aload_n 1, 1) := by decide +kernel
theorem dX1_readClause_5 : decode cX1_readClause 5 = .ok (.ldc 57, 2) := by decide +kernel
theorem dX1_readClause_7 : decode cX1_readClause 7 = .ok (.invokevirtual 59, 3) := by decide +kernel
theorem dX1_readClause_10 : decode cX1_readClause 10 = .ok (.istore_n 3, 1) := by decide +kernel
theorem dX1_readClause_11 : decode cX1_readClause 11 = .ok (.aload_n 1, 1) := by decide +kernel
theorem dX1_readClause_12 : decode cX1_readClause 12 = .ok (.ldc 63, 2) := by decide +kernel
theorem dX1_readClause_14 : decode cX1_readClause 14 = .ok (.invokevirtual 59, 3) := by decide +kernel
theorem dX1_readClause_17 : decode cX1_readClause 17 = .ok (.istore 4, 2) := by decide +kernel
theorem dX1_readClause_19 : decode cX1_readClause 19 = .ok (.iload_n 3, 1) := by decide +kernel
theorem dX1_readClause_20 : decode cX1_readClause 20 = .ok (.ifCond .ne 23, 3) := by decide +kernel
theorem dX1_readClause_23 : decode cX1_readClause 23 = .ok (.iload 4, 2) := by decide +kernel
theorem dX1_readClause_25 : decode cX1_readClause 25 = .ok (.ifCond .ne 18, 3) := by decide +kernel
theorem dX1_readClause_28 : decode cX1_readClause 28 = .ok (.aload_n 1, 1) := by decide +kernel
theorem dX1_readClause_29 : decode cX1_readClause 29 = .ok (.ldc 65, 2) := by decide +kernel
theorem dX1_readClause_31 : decode cX1_readClause 31 = .ok (.invokevirtual 59, 3) := by decide +kernel
theorem dX1_readClause_34 : decode cX1_readClause 34 = .ok (.ifCond .ne 9, 3) := by decide +kernel
theorem dX1_readClause_37 : decode cX1_readClause 37 = .ok (.aload_n 1, 1) := by decide +kernel
theorem dX1_readClause_38 : decode cX1_readClause 38 = .ok (.iconst 1, 1) := by decide +kernel
theorem dX1_readClause_39 : decode cX1_readClause 39 = .ok (.invokevirtual 67, 3) := by decide +kernel
theorem dX1_readClause_42 : decode cX1_readClause 42 = .ok (.ireturn, 1) := by decide +kernel
theorem dX1_readClause_43 : decode cX1_readClause 43 = .ok (.iload_n 3, 1) := by decide +kernel
theorem dX1_readClause_44 : decode cX1_readClause 44 = .ok (.ifCond .eq 12, 3) := by decide +kernel
theorem dX1_readClause_47 : decode cX1_readClause 47 = .ok (.aload_n 0, 1) := by decide +kernel
theorem dX1_readClause_48 : decode cX1_readClause 48 = .ok (.getfield 34, 3) := by decide +kernel
theorem dX1_readClause_51 : decode cX1_readClause 51 = .ok (.bipush 7, 2) := by decide +kernel
theorem dX1_readClause_53 : decode cX1_readClause 53 = .ok (.if_icmp .ge 17, 3) := by decide +kernel
theorem dX1_readClause_56 : decode cX1_readClause 56 = .ok (.iload 4, 2) := by decide +kernel
theorem dX1_readClause_58 : decode cX1_readClause 58 = .ok (.ifCond .eq 16, 3) := by decide +kernel
theorem dX1_readClause_61 : decode cX1_readClause 61 = .ok (.aload_n 0, 1) := by decide +kernel
theorem dX1_readClause_62 : decode cX1_readClause 62 = .ok (.getfield 37, 3) := by decide +kernel
theorem dX1_readClause_65 : decode cX1_readClause 65 = .ok (.bipush 12, 2) := by decide +kernel
theorem dX1_readClause_67 : decode cX1_readClause 67 = .ok (.if_icmp .lt 7, 3) := by decide +kernel
theorem dX1_readClause_70 : decode cX1_readClause 70 = .ok (.iconst 1, 1) := by decide +kernel
theorem dX1_readClause_71 : decode cX1_readClause 71 = .ok (.goto 4, 3) := by decide +kernel
theorem dX1_readClause_74 : decode cX1_readClause 74 = .ok (.iconst 0, 1) := by decide +kernel
theorem dX1_readClause_75 : decode cX1_readClause 75 = .ok (.istore 5, 2) := by decide +kernel
theorem dX1_readClause_77 : decode cX1_readClause 77 = .ok (.iload 5, 2) := by decide +kernel
theorem dX1_readClause_79 : decode cX1_readClause 79 = .ok (.ifCond .ne 9, 3) := by decide +kernel
theorem dX1_readClause_82 : decode cX1_readClause 82 = .ok (.iload_n 2, 1) := by decide +kernel
theorem dX1_readClause_83 : decode cX1_readClause 83 = .ok (.bipush 60, 2) := by decide +kernel
theorem dX1_readClause_85 : decode cX1_readClause 85 = .ok (.if_icmp .lt 9, 3) := by decide +kernel
theorem dX1_readClause_88 : decode cX1_readClause 88 = .ok (.aload_n 1, 1) := by decide +kernel
theorem dX1_readClause_89 : decode cX1_readClause 89 = .ok (.iconst 3, 1) := by decide +kernel
theorem dX1_readClause_90 : decode cX1_readClause 90 = .ok (.invokevirtual 67, 3) := by decide +kernel
theorem dX1_readClause_93 : decode cX1_readClause 93 = .ok (.ireturn, 1) := by decide +kernel
theorem dX1_readClause_94 : decode cX1_readClause 94 = .ok (.iload_n 3, 1) := by decide +kernel
theorem dX1_readClause_95 : decode cX1_readClause 95 = .ok (.ifCond .eq 11, 3) := by decide +kernel
theorem dX1_readClause_98 : decode cX1_readClause 98 = .ok (.aload_n 0, 1) := by decide +kernel
theorem dX1_readClause_99 : decode cX1_readClause 99 = .ok (.aload_n 1, 1) := by decide +kernel
theorem dX1_readClause_100 : decode cX1_readClause 100 = .ok (.invokevirtual 71, 3) := by decide +kernel
theorem dX1_readClause_103 : decode cX1_readClause 103 = .ok (.goto 21, 3) := by decide +kernel
theorem dX1_readClause_106 : decode cX1_readClause 106 = .ok (.iload 4, 2) := by decide +kernel
theorem dX1_readClause_108 : decode cX1_readClause 108 = .ok (.ifCond .eq 11, 3) := by decide +kernel
theorem dX1_readClause_111 : decode cX1_readClause 111 = .ok (.aload_n 0, 1) := by decide +kernel
theorem dX1_readClause_112 : decode cX1_readClause 112 = .ok (.aload_n 1, 1) := by decide +kernel
theorem dX1_readClause_113 : decode cX1_readClause 113 = .ok (.invokevirtual 75, 3) := by decide +kernel
theorem dX1_readClause_116 : decode cX1_readClause 116 = .ok (.goto 8, 3) := by decide +kernel
theorem dX1_readClause_119 : decode cX1_readClause 119 = .ok (.aload_n 0, 1) := by decide +kernel
theorem dX1_readClause_120 : decode cX1_readClause 120 = .ok (.aload_n 1, 1) := by decide +kernel
theorem dX1_readClause_121 : decode cX1_readClause 121 = .ok (.invokevirtual 78, 3) := by decide +kernel
theorem dX1_readClause_124 : decode cX1_readClause 124 = .ok (.ireturn, 1) := by decide +kernel
theorem dX1_readBack_0 : decode cX1_readBack 0 = .ok (.aload_n 1, 1) := by decide +kernel
theorem dX1_readBack_1 : decode cX1_readBack 1 = .ok (.iconst 1, 1) := by decide +kernel
theorem dX1_readBack_2 : decode cX1_readBack 2 = .ok (.bipush 99, 2) := by decide +kernel
theorem dX1_readBack_4 : decode cX1_readBack 4 = .ok (.invokevirtual 81, 3) := by decide +kernel
theorem dX1_readBack_7 : decode cX1_readBack 7 = .ok (.istore_n 2, 1) := by decide +kernel
theorem dX1_readBack_8 : decode cX1_readBack 8 = .ok (.iload_n 2, 1) := by decide +kernel
theorem dX1_readBack_9 : decode cX1_readBack 9 = .ok (.iconst (-1), 1) := by decide +kernel
theorem dX1_readBack_10 : decode cX1_readBack 10 = .ok (.if_icmp .ne 5, 3) := by decide +kernel
theorem dX1_readBack_13 : decode cX1_readBack 13 = .ok (.iconst 0, 1) := by decide +kernel
theorem dX1_readBack_14 : decode cX1_readBack 14 = .ok (.ireturn, 1) := by decide +kernel
theorem dX1_readBack_15 : decode cX1_readBack 15 = .ok (.aload_n 1, 1) := by decide +kernel
theorem dX1_readBack_16 : decode cX1_readBack 16 = .ok (.iconst 0, 1) := by decide +kernel
theorem dX1_readBack_17 : decode cX1_readBack 17 = .ok (.bipush 9, 2) := by decide +kernel
theorem dX1_readBack_19 : decode cX1_readBack 19 = .ok (.invokevirtual 81, 3) := by decide +kernel
theorem dX1_readBack_22 : decode cX1_readBack 22 = .ok (.istore_n 3, 1) := by decide +kernel
theorem dX1_readBack_23 : decode cX1_readBack 23 = .ok (.iload_n 3, 1) := by decide +kernel
theorem dX1_readBack_24 : decode cX1_readBack 24 = .ok (.iconst (-1), 1) := by decide +kernel
theorem dX1_readBack_25 : decode cX1_readBack 25 = .ok (.if_icmp .ne 5, 3) := by decide +kernel
theorem dX1_readBack_28 : decode cX1_readBack 28 = .ok (.iconst 0, 1) := by decide +kernel
theorem dX1_readBack_29 : decode cX1_readBack 29 = .ok (.ireturn, 1) := by decide +kernel
theorem dX1_readBack_30 : decode cX1_readBack 30 = .ok (.aload_n 0, 1) := by decide +kernel
theorem dX1_readBack_31 : decode cX1_readBack 31 = .ok (.getfield 9, 3) := by decide +kernel
theorem dX1_readBack_34 : decode cX1_readBack 34 = .ok (.aload_n 0, 1) := by decide +kernel
theorem dX1_readBack_35 : decode cX1_readBack 35 = .ok (.getfield 34, 3) := by decide +kernel
theorem dX1_readBack_38 : decode cX1_readBack 38 = .ok (.iload_n 2, 1) := by decide +kernel
theorem dX1_readBack_39 : decode cX1_readBack 39 = .ok (.iastore, 1) := by decide +kernel
theorem dX1_readBack_40 : decode cX1_readBack 40 = .ok (.aload_n 0, 1) := by decide +kernel
theorem dX1_readBack_41 : decode cX1_readBack 41 = .ok (.getfield 15, 3) := by decide +kernel
theorem dX1_readBack_44 : decode cX1_readBack 44 = .ok (.aload_n 0, 1) := by decide +kernel
theorem dX1_readBack_45 : decode cX1_readBack 45 = .ok (.getfield 34, 3) := by decide +kernel
theorem dX1_readBack_48 : decode cX1_readBack 48 = .ok (.iload_n 3, 1) := by decide +kernel
theorem dX1_readBack_49 : decode cX1_readBack 49 = .ok (.iastore, 1) := by decide +kernel
theorem dX1_readBack_50 : decode cX1_readBack 50 = .ok (.aload_n 0, 1) := by decide +kernel
theorem dX1_readBack_51 : decode cX1_readBack 51 = .ok (.dup, 1) := by decide +kernel
theorem dX1_readBack_52 : decode cX1_readBack 52 = .ok (.getfield 34, 3) := by decide +kernel
theorem dX1_readBack_55 : decode cX1_readBack 55 = .ok (.iconst 1, 1) := by decide +kernel
theorem dX1_readBack_56 : decode cX1_readBack 56 = .ok (.iadd, 1) := by decide +kernel
theorem dX1_readBack_57 : decode cX1_readBack 57 = .ok (.putfield 34, 3) := by decide +kernel
theorem dX1_readBack_60 : decode cX1_readBack 60 = .ok (.iconst 1, 1) := by decide +kernel
theorem dX1_readBack_61 : decode cX1_readBack 61 = .ok (.ireturn, 1) := by decide +kernel
theorem dX1_readCouncil_0 : decode cX1_readCouncil 0 = .ok (.aload_n 1, 1) := by decide +kernel
theorem dX1_readCouncil_1 : decode cX1_readCouncil 1 = .ok (.iconst 1, 1) := by decide +kernel
theorem dX1_readCouncil_2 : decode cX1_readCouncil 2 = .ok (.bipush 9, 2) := by decide +kernel
theorem dX1_readCouncil_4 : decode cX1_readCouncil 4 = .ok (.invokevirtual 81, 3) := by decide +kernel
theorem dX1_readCouncil_7 : decode cX1_readCouncil 7 = .ok (.istore_n 2, 1) := by decide +kernel
theorem dX1_readCouncil_8 : decode cX1_readCouncil 8 = .ok (.iload_n 2, 1) := by decide +kernel
theorem dX1_readCouncil_9 : decode cX1_readCouncil 9 = .ok (.iconst (-1), 1) := by decide +kernel
theorem dX1_readCouncil_10 : decode cX1_readCouncil 10 = .ok (.if_icmp .ne 5, 3) := by decide +kernel
theorem dX1_readCouncil_13 : decode cX1_readCouncil 13 = .ok (.iconst 0, 1) := by decide +kernel
theorem dX1_readCouncil_14 : decode cX1_readCouncil 14 = .ok (.ireturn, 1) := by decide +kernel
theorem dX1_readCouncil_15 : decode cX1_readCouncil 15 = .ok (.aload_n 1, 1) := by decide +kernel
theorem dX1_readCouncil_16 : decode cX1_readCouncil 16 = .ok (.iconst 0, 1) := by decide +kernel
theorem dX1_readCouncil_17 : decode cX1_readCouncil 17 = .ok (.bipush 9, 2) := by decide +kernel
theorem dX1_readCouncil_19 : decode cX1_readCouncil 19 = .ok (.invokevirtual 81, 3) := by decide +kernel
theorem dX1_readCouncil_22 : decode cX1_readCouncil 22 = .ok (.istore_n 3, 1) := by decide +kernel
theorem dX1_readCouncil_23 : decode cX1_readCouncil 23 = .ok (.iload_n 3, 1) := by decide +kernel
theorem dX1_readCouncil_24 : decode cX1_readCouncil 24 = .ok (.iconst (-1), 1) := by decide +kernel
theorem dX1_readCouncil_25 : decode cX1_readCouncil 25 = .ok (.if_icmp .ne 5, 3) := by decide +kernel
theorem dX1_readCouncil_28 : decode cX1_readCouncil 28 = .ok (.iconst 0, 1) := by decide +kernel
theorem dX1_readCouncil_29 : decode cX1_readCouncil 29 = .ok (.ireturn, 1) := by decide +kernel
theorem dX1_readCouncil_30 : decode cX1_readCouncil 30 = .ok (.aload_n 0, 1) := by decide +kernel
theorem dX1_readCouncil_31 : decode cX1_readCouncil 31 = .ok (.getfield 18, 3) := by decide +kernel
theorem dX1_readCouncil_34 : decode cX1_readCouncil 34 = .ok (.aload_n 0, 1) := by decide +kernel
theorem dX1_readCouncil_35 : decode cX1_readCouncil 35 = .ok (.getfield 37, 3) := by decide +kernel
theorem dX1_readCouncil_38 : decode cX1_readCouncil 38 = .ok (.iload_n 2, 1) := by decide +kernel
theorem dX1_readCouncil_39 : decode cX1_readCouncil 39 = .ok (.iastore, 1) := by decide +kernel
theorem dX1_readCouncil_40 : decode cX1_readCouncil 40 = .ok (.aload_n 0, 1) := by decide +kernel
theorem dX1_readCouncil_41 : decode cX1_readCouncil 41 = .ok (.getfield 21, 3) := by decide +kernel
theorem dX1_readCouncil_44 : decode cX1_readCouncil 44 = .ok (.aload_n 0, 1) := by decide +kernel
theorem dX1_readCouncil_45 : decode cX1_readCouncil 45 = .ok (.getfield 37, 3) := by decide +kernel
theorem dX1_readCouncil_48 : decode cX1_readCouncil 48 = .ok (.iload_n 3, 1) := by decide +kernel
theorem dX1_readCouncil_49 : decode cX1_readCouncil 49 = .ok (.iastore, 1) := by decide +kernel
theorem dX1_readCouncil_50 : decode cX1_readCouncil 50 = .ok (.aload_n 0, 1) := by decide +kernel
theorem dX1_readCouncil_51 : decode cX1_readCouncil 51 = .ok (.dup, 1) := by decide +kernel
theorem dX1_readCouncil_52 : decode cX1_readCouncil 52 = .ok (.getfield 37, 3) := by decide +kernel
theorem dX1_readCouncil_55 : decode cX1_readCouncil 55 = .ok (.iconst 1, 1) := by decide +kernel
theorem dX1_readCouncil_56 : decode cX1_readCouncil 56 = .ok (.iadd, 1) := by decide +kernel
theorem dX1_readCouncil_57 : decode cX1_readCouncil 57 = .ok (.putfield 37, 3) := by decide +kernel
theorem dX1_readCouncil_60 : decode cX1_readCouncil 60 = .ok (.iconst 1, 1) := by decide +kernel
theorem dX1_readCouncil_61 : decode cX1_readCouncil 61 = .ok (.ireturn, 1) := by decide +kernel
theorem dX1_readKing_0 : decode cX1_readKing 0 = .ok (.aload_n 0, 1) := by decide +kernel
theorem dX1_readKing_1 : decode cX1_readKing 1 = .ok (.aload_n 1, 1) := by decide +kernel
theorem dX1_readKing_2 : decode cX1_readKing 2 = .ok (.iconst 1, 1) := by decide +kernel
theorem dX1_readKing_3 : decode cX1_readKing 3 = .ok (.bipush 40, 2) := by decide +kernel
theorem dX1_readKing_5 : decode cX1_readKing 5 = .ok (.invokevirtual 81, 3) := by decide +kernel
theorem dX1_readKing_8 : decode cX1_readKing 8 = .ok (.putfield 24, 3) := by decide +kernel
theorem dX1_readKing_11 : decode cX1_readKing 11 = .ok (.aload_n 0, 1) := by decide +kernel
theorem dX1_readKing_12 : decode cX1_readKing 12 = .ok (.getfield 24, 3) := by decide +kernel
theorem dX1_readKing_15 : decode cX1_readKing 15 = .ok (.iconst (-1), 1) := by decide +kernel
theorem dX1_readKing_16 : decode cX1_readKing 16 = .ok (.if_icmp .eq 7, 3) := by decide +kernel
theorem dX1_readKing_19 : decode cX1_readKing 19 = .ok (.iconst 1, 1) := by decide +kernel
theorem dX1_readKing_20 : decode cX1_readKing 20 = .ok (.goto 4, 3) := by decide +kernel
theorem dX1_readKing_23 : decode cX1_readKing 23 = .ok (.iconst 0, 1) := by decide +kernel
theorem dX1_readKing_24 : decode cX1_readKing 24 = .ok (.ireturn, 1) := by decide +kernel
theorem dX0_init_0 : decode cX0_init 0 = .ok (.aload_n 0, 1) := by decide +kernel
theorem dX0_init_1 : decode cX0_init 1 = .ok (.invokespecial 3, 3) := by decide +kernel
theorem dX0_init_4 : decode cX0_init 4 = .ok (.aload_n 0, 1) := by decide +kernel
theorem dX0_init_5 : decode cX0_init 5 = .ok (.bipush 7, 2) := by decide +kernel
theorem dX0_init_7 : decode cX0_init 7 = .ok (.newarray .int, 2) := by decide +kernel
theorem dX0_init_9 : decode cX0_init 9 = .ok (.putfield 9, 3) := by decide +kernel
theorem dX0_init_12 : decode cX0_init 12 = .ok (.aload_n 0, 1) := by decide +kernel
theorem dX0_init_13 : decode cX0_init 13 = .ok (.invokevirtual 15, 3) := by decide +kernel
theorem dX0_init_16 : decode cX0_init 16 = .ok (.return_, 1) := by decide +kernel
theorem dX0_clear_0 : decode cX0_clear 0 = .ok (.aload_n 0, 1) := by decide +kernel
theorem dX0_clear_1 : decode cX0_clear 1 = .ok (.getfield 9, 3) := by decide +kernel
theorem dX0_clear_4 : decode cX0_clear 4 = .ok (.iconst (-1), 1) := by decide +kernel
theorem dX0_clear_5 : decode cX0_clear 5 = .ok (.invokestatic 18, 3) := by decide +kernel
theorem dX0_clear_8 : decode cX0_clear 8 = .ok (.aload_n 0, 1) := by decide +kernel
theorem dX0_clear_9 : decode cX0_clear 9 = .ok (.iconst 0, 1) := by decide +kernel
theorem dX0_clear_10 : decode cX0_clear 10 = .ok (.putfield 24, 3) := by decide +kernel
theorem dX0_clear_13 : decode cX0_clear 13 = .ok (.return_, 1) := by decide +kernel
theorem dX0_copyFrom_0 : decode cX0_copyFrom 0 = .ok (.aload_n 1, 1) := by decide +kernel
theorem dX0_copyFrom_1 : decode cX0_copyFrom 1 = .ok (.getfield 9, 3) := by decide +kernel
theorem dX0_copyFrom_4 : decode cX0_copyFrom 4 = .ok (.iconst 0, 1) := by decide +kernel
theorem dX0_copyFrom_5 : decode cX0_copyFrom 5 = .ok (.aload_n 0, 1) := by decide +kernel
theorem dX0_copyFrom_6 : decode cX0_copyFrom 6 = .ok (.getfield 9, 3) := by decide +kernel
theorem dX0_copyFrom_9 : decode cX0_copyFrom 9 = .ok (.iconst 0, 1) := by decide +kernel
theorem dX0_copyFrom_10 : decode cX0_copyFrom 10 = .ok (.bipush 7, 2) := by decide +kernel
theorem dX0_copyFrom_12 : decode cX0_copyFrom 12 = .ok (.invokestatic 28, 3) := by decide +kernel
theorem dX0_copyFrom_15 : decode cX0_copyFrom 15 = .ok (.aload_n 0, 1) := by decide +kernel
theorem dX0_copyFrom_16 : decode cX0_copyFrom 16 = .ok (.aload_n 1, 1) := by decide +kernel
theorem dX0_copyFrom_17 : decode cX0_copyFrom 17 = .ok (.getfield 24, 3) := by decide +kernel
theorem dX0_copyFrom_20 : decode cX0_copyFrom 20 = .ok (.putfield 24, 3) := by decide +kernel
theorem dX0_copyFrom_23 : decode cX0_copyFrom 23 = .ok (.return_, 1) := by decide +kernel
theorem dX0_hasLine_0 : decode cX0_hasLine 0 = .ok (.aload_n 0, 1) := by decide +kernel
theorem dX0_hasLine_1 : decode cX0_hasLine 1 = .ok (.getfield 9, 3) := by decide +kernel
theorem dX0_hasLine_4 : decode cX0_hasLine 4 = .ok (.iload_n 1, 1) := by decide +kernel
theorem dX0_hasLine_5 : decode cX0_hasLine 5 = .ok (.iaload, 1) := by decide +kernel
theorem dX0_hasLine_6 : decode cX0_hasLine 6 = .ok (.iconst (-1), 1) := by decide +kernel
theorem dX0_hasLine_7 : decode cX0_hasLine 7 = .ok (.if_icmp .eq 7, 3) := by decide +kernel
theorem dX0_hasLine_10 : decode cX0_hasLine 10 = .ok (.iconst 1, 1) := by decide +kernel
theorem dX0_hasLine_11 : decode cX0_hasLine 11 = .ok (.goto 4, 3) := by decide +kernel
theorem dX0_hasLine_14 : decode cX0_hasLine 14 = .ok (.iconst 0, 1) := by decide +kernel
theorem dX0_hasLine_15 : decode cX0_hasLine 15 = .ok (.ireturn, 1) := by decide +kernel
theorem dX0_readFrom_0 : decode cX0_readFrom 0 = .ok (.aload_n 0, 1) := by decide +kernel
theorem dX0_readFrom_1 : decode cX0_readFrom 1 = .ok (.invokevirtual 15, 3) := by decide +kernel
theorem dX0_readFrom_4 : decode cX0_readFrom 4 = .ok (.iconst 0, 1) := by decide +kernel
theorem dX0_readFrom_5 : decode cX0_readFrom 5 = .ok (.istore_n 3, 1) := by decide +kernel
theorem dX0_readFrom_6 : decode cX0_readFrom 6 = .ok (.iload_n 3, 1) := by decide +kernel
theorem dX0_readFrom_7 : decode cX0_readFrom 7 = .ok (.bipush 60, 2) := by decide +kernel
theorem dX0_readFrom_9 : decode cX0_readFrom 9 = .ok (.if_icmp .ge 36, 3) := by decide +kernel
theorem dX0_readFrom_12 : decode cX0_readFrom 12 = .ok (.aload_n 1, 1) := by decide +kernel
theorem dX0_readFrom_13 : decode cX0_readFrom 13 = .ok (.invokevirtual 34, 3) := by decide +kernel
theorem dX0_readFrom_16 : decode cX0_readFrom 16 = .ok (.ifCond .ne 29, 3) := by decide +kernel
theorem dX0_readFrom_19 : decode cX0_readFrom 19 = .ok (.aload_n 0, 1) := by decide +kernel
theorem dX0_readFrom_20 : decode cX0_readFrom 20 = .ok (.aload_n 1, 1) := by decide +kernel
theorem dX0_readFrom_21 : decode cX0_readFrom 21 = .ok (.iload_n 2, 1) := by decide +kernel
theorem dX0_readFrom_22 : decode cX0_readFrom 22 = .ok (.invokevirtual 40, 3) := by decide +kernel
theorem dX0_readFrom_25 : decode cX0_readFrom 25 = .ok (.ifCond .eq 12, 3) := by decide +kernel
theorem dX0_readFrom_28 : decode cX0_readFrom 28 = .ok (.aload_n 1, 1) := by decide +kernel
theorem dX0_readFrom_29 : decode cX0_readFrom 29 = .ok (.bipush 59, 2) := by decide +kernel
theorem dX0_readFrom_31 : decode cX0_readFrom 31 = .ok (.invokevirtual 44, 3) := by decide +kernel
theorem dX0_readFrom_34 : decode cX0_readFrom 34 = .ok (.ifCond .ne 5, 3) := by decide +kernel
theorem dX0_readFrom_37 : decode cX0_readFrom 37 = .ok (.iconst 0, 1) := by decide +kernel
theorem dX0_readFrom_38 : decode cX0_readFrom 38 = .ok (.ireturn, 1) := by decide +kernel
theorem dX0_readFrom_39 : decode cX0_readFrom 39 = .ok (.iinc 3 1, 3) := by decide +kernel
theorem dX0_readFrom_42 : decode cX0_readFrom 42 = .ok (.goto (-36), 3) := by decide +kernel
theorem dX0_readFrom_45 : decode cX0_readFrom 45 = .ok (.iconst 1, 1) := by decide +kernel
theorem dX0_readFrom_46 : decode cX0_readFrom 46 = .ok (.ireturn, 1) := by decide +kernel
theorem dX0_readLine_0 : decode cX0_readLine 0 = .ok (.aload_n 1, 1) := by decide +kernel
theorem dX0_readLine_1 : decode cX0_readLine 1 = .ok (.getfield 48, 3) := by decide +kernel
theorem dX0_readLine_4 : decode cX0_readLine 4 = .ok (.istore_n 3, 1) := by decide +kernel
theorem dX0_readLine_5 : decode cX0_readLine 5 = .ok (.aload_n 1, 1) := by decide +kernel
theorem dX0_readLine_6 : decode cX0_readLine 6 = .ok (.iconst 0, 1) := by decide +kernel
theorem dX0_readLine_7 : decode cX0_readLine 7 = .ok (.iload_n 2, 1) := by decide +kernel
theorem dX0_readLine_8 : decode cX0_readLine 8 = .ok (.iconst 1, 1) := by decide +kernel
theorem dX0_readLine_9 : decode cX0_readLine 9 = .ok (.isub, 1) := by decide +kernel
theorem dX0_readLine_10 : decode cX0_readLine 10 = .ok (.invokevirtual 51, 3) := by decide +kernel
theorem dX0_readLine_13 : decode cX0_readLine 13 = .ok (.istore 4, 2) := by decide +kernel
theorem dX0_readLine_15 : decode cX0_readLine 15 = .ok (.iload 4, 2) := by decide +kernel
theorem dX0_readLine_17 : decode cX0_readLine 17 = .ok (.iconst (-1), 1) := by decide +kernel
theorem dX0_readLine_18 : decode cX0_readLine 18 = .ok (.if_icmp .ne 5, 3) := by decide +kernel
theorem dX0_readLine_21 : decode cX0_readLine 21 = .ok (.iconst 0, 1) := by decide +kernel
theorem dX0_readLine_22 : decode cX0_readLine 22 = .ok (.ireturn, 1) := by decide +kernel
theorem dX0_readLine_23 : decode cX0_readLine 23 = .ok (.aload_n 0, 1) := by decide +kernel
theorem dX0_readLine_24 : decode cX0_readLine 24 = .ok (.iload 4, 2) := by decide +kernel
theorem dX0_readLine_26 : decode cX0_readLine 26 = .ok (.invokevirtual 55, 3) := by decide +kernel
theorem dX0_readLine_29 : decode cX0_readLine 29 = .ok (.ifCond .eq 10, 3) := by decide +kernel
theorem dX0_readLine_32 : decode cX0_readLine 32 = .ok (.aload_n 1, 1) := by decide +kernel
theorem dX0_readLine_33 : decode cX0_readLine 33 = .ok (.iconst 2, 1) := by decide +kernel
theorem dX0_readLine_34 : decode cX0_readLine 34 = .ok (.iload_n 3, 1) := by decide +kernel
theorem dX0_readLine_35 : decode cX0_readLine 35 = .ok (.invokevirtual 59, 3) := by decide +kernel
theorem dX0_readLine_38 : decode cX0_readLine 38 = .ok (.ireturn, 1) := by decide +kernel
theorem dX0_readLine_39 : decode cX0_readLine 39 = .ok (.aload_n 1, 1) := by decide +kernel
theorem dX0_readLine_40 : decode cX0_readLine 40 = .ok (.iconst 0, 1) := by decide +kernel
theorem dX0_readLine_41 : decode cX0_readLine 41 = .ok (.sipush 999, 3) := by decide +kernel
theorem dX0_readLine_44 : decode cX0_readLine 44 = .ok (.invokevirtual 51, 3) := by decide +kernel
theorem dX0_readLine_47 : decode cX0_readLine 47 = .ok (.istore 5, 2) := by decide +kernel
theorem dX0_readLine_49 : decode cX0_readLine 49 = .ok (.iload 5, 2) := by decide +kernel
theorem dX0_readLine_51 : decode cX0_readLine 51 = .ok (.iconst (-1), 1) := by decide +kernel
theorem dX0_readLine_52 : decode cX0_readLine 52 = .ok (.if_icmp .ne 5, 3) := by decide +kernel
theorem dX0_readLine_55 : decode cX0_readLine 55 = .ok (.iconst 0, 1) := by decide +kernel
theorem dX0_readLine_56 : decode cX0_readLine 56 = .ok (.ireturn, 1) := by decide +kernel
theorem dX0_readLine_57 : decode cX0_readLine 57 = .ok (.aload_n 0, 1) := by decide +kernel
theorem dX0_readLine_58 : decode cX0_readLine 58 = .ok (.getfield 9, 3) := by decide +kernel
theorem dX0_readLine_61 : decode cX0_readLine 61 = .ok (.iload 4, 2) := by decide +kernel
theorem dX0_readLine_63 : decode cX0_readLine 63 = .ok (.iload 5, 2) := by decide +kernel
theorem dX0_readLine_65 : decode cX0_readLine 65 = .ok (.iastore, 1) := by decide +kernel
theorem dX0_readLine_66 : decode cX0_readLine 66 = .ok (.aload_n 0, 1) := by decide +kernel
theorem dX0_readLine_67 : decode cX0_readLine 67 = .ok (.dup, 1) := by decide +kernel
theorem dX0_readLine_68 : decode cX0_readLine 68 = .ok (.getfield 24, 3) := by decide +kernel
theorem dX0_readLine_71 : decode cX0_readLine 71 = .ok (.iconst 1, 1) := by decide +kernel
theorem dX0_readLine_72 : decode cX0_readLine 72 = .ok (.iadd, 1) := by decide +kernel
theorem dX0_readLine_73 : decode cX0_readLine 73 = .ok (.putfield 24, 3) := by decide +kernel
theorem dX0_readLine_76 : decode cX0_readLine 76 = .ok (.iconst 1, 1) := by decide +kernel
theorem dX0_readLine_77 : decode cX0_readLine 77 = .ok (.ireturn, 1) := by decide +kernel
theorem dJ6_bitCount_0f7a4_0 : decode cJ6_bitCount_0f7a4 0 = .ok (.iload_n 0, 1) := by decide +kernel
theorem dJ6_bitCount_0f7a4_1 : decode cJ6_bitCount_0f7a4 1 = .ok (.iload_n 0, 1) := by decide +kernel
theorem dJ6_bitCount_0f7a4_2 : decode cJ6_bitCount_0f7a4 2 = .ok (.iconst 1, 1) := by decide +kernel
theorem dJ6_bitCount_0f7a4_3 : decode cJ6_bitCount_0f7a4 3 = .ok (.iushr, 1) := by decide +kernel
theorem dJ6_bitCount_0f7a4_4 : decode cJ6_bitCount_0f7a4 4 = .ok (.ldc_w 265, 3) := by decide +kernel
theorem dJ6_bitCount_0f7a4_7 : decode cJ6_bitCount_0f7a4 7 = .ok (.iand, 1) := by decide +kernel
theorem dJ6_bitCount_0f7a4_8 : decode cJ6_bitCount_0f7a4 8 = .ok (.isub, 1) := by decide +kernel
theorem dJ6_bitCount_0f7a4_9 : decode cJ6_bitCount_0f7a4 9 = .ok (.istore_n 0, 1) := by decide +kernel
theorem dJ6_bitCount_0f7a4_10 : decode cJ6_bitCount_0f7a4 10 = .ok (.iload_n 0, 1) := by decide +kernel
theorem dJ6_bitCount_0f7a4_11 : decode cJ6_bitCount_0f7a4 11 = .ok (.ldc_w 266, 3) := by decide +kernel
theorem dJ6_bitCount_0f7a4_14 : decode cJ6_bitCount_0f7a4 14 = .ok (.iand, 1) := by decide +kernel
theorem dJ6_bitCount_0f7a4_15 : decode cJ6_bitCount_0f7a4 15 = .ok (.iload_n 0, 1) := by decide +kernel
theorem dJ6_bitCount_0f7a4_16 : decode cJ6_bitCount_0f7a4 16 = .ok (.iconst 2, 1) := by decide +kernel
theorem dJ6_bitCount_0f7a4_17 : decode cJ6_bitCount_0f7a4 17 = .ok (.iushr, 1) := by decide +kernel
theorem dJ6_bitCount_0f7a4_18 : decode cJ6_bitCount_0f7a4 18 = .ok (.ldc_w 266, 3) := by decide +kernel
theorem dJ6_bitCount_0f7a4_21 : decode cJ6_bitCount_0f7a4 21 = .ok (.iand, 1) := by decide +kernel
theorem dJ6_bitCount_0f7a4_22 : decode cJ6_bitCount_0f7a4 22 = .ok (.iadd, 1) := by decide +kernel
theorem dJ6_bitCount_0f7a4_23 : decode cJ6_bitCount_0f7a4 23 = .ok (.istore_n 0, 1) := by decide +kernel
theorem dJ6_bitCount_0f7a4_24 : decode cJ6_bitCount_0f7a4 24 = .ok (.iload_n 0, 1) := by decide +kernel
theorem dJ6_bitCount_0f7a4_25 : decode cJ6_bitCount_0f7a4 25 = .ok (.iload_n 0, 1) := by decide +kernel
theorem dJ6_bitCount_0f7a4_26 : decode cJ6_bitCount_0f7a4 26 = .ok (.iconst 4, 1) := by decide +kernel
theorem dJ6_bitCount_0f7a4_27 : decode cJ6_bitCount_0f7a4 27 = .ok (.iushr, 1) := by decide +kernel
theorem dJ6_bitCount_0f7a4_28 : decode cJ6_bitCount_0f7a4 28 = .ok (.iadd, 1) := by decide +kernel
theorem dJ6_bitCount_0f7a4_29 : decode cJ6_bitCount_0f7a4 29 = .ok (.ldc_w 267, 3) := by decide +kernel
theorem dJ6_bitCount_0f7a4_32 : decode cJ6_bitCount_0f7a4 32 = .ok (.iand, 1) := by decide +kernel
theorem dJ6_bitCount_0f7a4_33 : decode cJ6_bitCount_0f7a4 33 = .ok (.istore_n 0, 1) := by decide +kernel
theorem dJ6_bitCount_0f7a4_34 : decode cJ6_bitCount_0f7a4 34 = .ok (.iload_n 0, 1) := by decide +kernel
theorem dJ6_bitCount_0f7a4_35 : decode cJ6_bitCount_0f7a4 35 = .ok (.iload_n 0, 1) := by decide +kernel
theorem dJ6_bitCount_0f7a4_36 : decode cJ6_bitCount_0f7a4 36 = .ok (.bipush 8, 2) := by decide +kernel
theorem dJ6_bitCount_0f7a4_38 : decode cJ6_bitCount_0f7a4 38 = .ok (.iushr, 1) := by decide +kernel
theorem dJ6_bitCount_0f7a4_39 : decode cJ6_bitCount_0f7a4 39 = .ok (.iadd, 1) := by decide +kernel
theorem dJ6_bitCount_0f7a4_40 : decode cJ6_bitCount_0f7a4 40 = .ok (.istore_n 0, 1) := by decide +kernel
theorem dJ6_bitCount_0f7a4_41 : decode cJ6_bitCount_0f7a4 41 = .ok (.iload_n 0, 1) := by decide +kernel
theorem dJ6_bitCount_0f7a4_42 : decode cJ6_bitCount_0f7a4 42 = .ok (.iload_n 0, 1) := by decide +kernel
theorem dJ6_bitCount_0f7a4_43 : decode cJ6_bitCount_0f7a4 43 = .ok (.bipush 16, 2) := by decide +kernel
theorem dJ6_bitCount_0f7a4_45 : decode cJ6_bitCount_0f7a4 45 = .ok (.iushr, 1) := by decide +kernel
theorem dJ6_bitCount_0f7a4_46 : decode cJ6_bitCount_0f7a4 46 = .ok (.iadd, 1) := by decide +kernel
theorem dJ6_bitCount_0f7a4_47 : decode cJ6_bitCount_0f7a4 47 = .ok (.istore_n 0, 1) := by decide +kernel
theorem dJ6_bitCount_0f7a4_48 : decode cJ6_bitCount_0f7a4 48 = .ok (.iload_n 0, 1) := by decide +kernel
theorem dJ6_bitCount_0f7a4_49 : decode cJ6_bitCount_0f7a4 49 = .ok (.bipush 63, 2) := by decide +kernel
theorem dJ6_bitCount_0f7a4_51 : decode cJ6_bitCount_0f7a4 51 = .ok (.iand, 1) := by decide +kernel
theorem dJ6_bitCount_0f7a4_52 : decode cJ6_bitCount_0f7a4 52 = .ok (.ireturn, 1) := by decide +kernel
theorem dJ9_max_7cf53_0 : decode cJ9_max_7cf53 0 = .ok (.iload_n 0, 1) := by decide +kernel
theorem dJ9_max_7cf53_1 : decode cJ9_max_7cf53 1 = .ok (.iload_n 1, 1) := by decide +kernel
theorem dJ9_max_7cf53_2 : decode cJ9_max_7cf53 2 = .ok (.if_icmp .lt 7, 3) := by decide +kernel
theorem dJ9_max_7cf53_5 : decode cJ9_max_7cf53 5 = .ok (.iload_n 0, 1) := by decide +kernel
theorem dJ9_max_7cf53_6 : decode cJ9_max_7cf53 6 = .ok (.goto 4, 3) := by decide +kernel
theorem dJ9_max_7cf53_9 : decode cJ9_max_7cf53 9 = .ok (.iload_n 1, 1) := by decide +kernel
theorem dJ9_max_7cf53_10 : decode cJ9_max_7cf53 10 = .ok (.ireturn, 1) := by decide +kernel
theorem dJ9_min_7cf53_0 : decode cJ9_min_7cf53 0 = .ok (.iload_n 0, 1) := by decide +kernel
theorem dJ9_min_7cf53_1 : decode cJ9_min_7cf53 1 = .ok (.iload_n 1, 1) := by decide +kernel
theorem dJ9_min_7cf53_2 : decode cJ9_min_7cf53 2 = .ok (.if_icmp .gt 7, 3) := by decide +kernel
theorem dJ9_min_7cf53_5 : decode cJ9_min_7cf53 5 = .ok (.iload_n 0, 1) := by decide +kernel
theorem dJ9_min_7cf53_6 : decode cJ9_min_7cf53 6 = .ok (.goto 4, 3) := by decide +kernel
theorem dJ9_min_7cf53_9 : decode cJ9_min_7cf53 9 = .ok (.iload_n 1, 1) := by decide +kernel
theorem dJ9_min_7cf53_10 : decode cJ9_min_7cf53 10 = .ok (.ireturn, 1) := by decide +kernel
theorem dJ0_length_8abf5_0 : decode cJ0_length_8abf5 0 = .ok (.aload_n 0, 1) := by decide +kernel
theorem dJ0_length_8abf5_1 : decode cJ0_length_8abf5 1 = .ok (.getfield 9, 3) := by decide +kernel
theorem dJ0_length_8abf5_4 : decode cJ0_length_8abf5 4 = .ok (.arraylength, 1) := by decide +kernel
theorem dJ0_length_8abf5_5 : decode cJ0_length_8abf5 5 = .ok (.aload_n 0, 1) := by decide +kernel
theorem dJ0_length_8abf5_6 : decode cJ0_length_8abf5 6 = .ok (.invokevirtual 335, 3) := by decide +kernel
theorem dJ0_length_8abf5_9 : decode cJ0_length_8abf5 9 = .ok (.ishr, 1) := by decide +kernel
theorem dJ0_length_8abf5_10 : decode cJ0_length_8abf5 10 = .ok (.ireturn, 1) := by decide +kernel
theorem dJ0_charAt_5068e_0 : decode cJ0_charAt_5068e 0 = .ok (.aload_n 0, 1) := by decide +kernel
theorem dJ0_charAt_5068e_1 : decode cJ0_charAt_5068e 1 = .ok (.invokevirtual 492, 3) := by decide +kernel
theorem dJ0_charAt_5068e_4 : decode cJ0_charAt_5068e 4 = .ok (.ifCond .eq 12, 3) := by decide +kernel
theorem dJ0_charAt_5068e_7 : decode cJ0_charAt_5068e 7 = .ok (.aload_n 0, 1) := by decide +kernel
theorem dJ0_charAt_5068e_8 : decode cJ0_charAt_5068e 8 = .ok (.getfield 9, 3) := by decide +kernel
theorem dJ0_charAt_5068e_11 : decode cJ0_charAt_5068e 11 = .ok (.iload_n 1, 1) := by decide +kernel
theorem dJ0_charAt_5068e_12 : decode cJ0_charAt_5068e 12 = .ok (.invokestatic 495, 3) := by decide +kernel
theorem dJ0_charAt_5068e_15 : decode cJ0_charAt_5068e 15 = .ok (.ireturn, 1) := by decide +kernel
theorem dJ0_charAt_5068e_16 : decode cJ0_charAt_5068e 16 = .ok (.aload_n 0, 1) := by decide +kernel
theorem dJ0_charAt_5068e_17 : decode cJ0_charAt_5068e 17 = .ok (.getfield 9, 3) := by decide +kernel
theorem dJ0_charAt_5068e_20 : decode cJ0_charAt_5068e 20 = .ok (.iload_n 1, 1) := by decide +kernel
theorem dJ0_charAt_5068e_21 : decode cJ0_charAt_5068e 21 = .ok (.invokestatic 498, 3) := by decide +kernel
theorem dJ0_charAt_5068e_24 : decode cJ0_charAt_5068e 24 = .ok (.ireturn, 1) := by decide +kernel
theorem dJ0_coder_7d493_0 : decode cJ0_coder_7d493 0 = .ok (.getstatic 38, 3) := by decide +kernel
theorem dJ0_coder_7d493_3 : decode cJ0_coder_7d493 3 = .ok (.ifCond .eq 10, 3) := by decide +kernel
theorem dJ0_coder_7d493_6 : decode cJ0_coder_7d493 6 = .ok (.aload_n 0, 1) := by decide +kernel
theorem dJ0_coder_7d493_7 : decode cJ0_coder_7d493 7 = .ok (.getfield 15, 3) := by decide +kernel
theorem dJ0_coder_7d493_10 : decode cJ0_coder_7d493 10 = .ok (.goto 4, 3) := by decide +kernel
theorem dJ0_coder_7d493_13 : decode cJ0_coder_7d493 13 = .ok (.iconst 1, 1) := by decide +kernel
theorem dJ0_coder_7d493_14 : decode cJ0_coder_7d493 14 = .ok (.ireturn, 1) := by decide +kernel
theorem dJ0_isLatin1_aae02_0 : decode cJ0_isLatin1_aae02 0 = .ok (.getstatic 38, 3) := by decide +kernel
theorem dJ0_isLatin1_aae02_3 : decode cJ0_isLatin1_aae02 3 = .ok (.ifCond .eq 14, 3) := by decide +kernel
theorem dJ0_isLatin1_aae02_6 : decode cJ0_isLatin1_aae02 6 = .ok (.aload_n 0, 1) := by decide +kernel
theorem dJ0_isLatin1_aae02_7 : decode cJ0_isLatin1_aae02 7 = .ok (.getfield 15, 3) := by decide +kernel
theorem dJ0_isLatin1_aae02_10 : decode cJ0_isLatin1_aae02 10 = .ok (.ifCond .ne 7, 3) := by decide +kernel
theorem dJ0_isLatin1_aae02_13 : decode cJ0_isLatin1_aae02 13 = .ok (.iconst 1, 1) := by decide +kernel
theorem dJ0_isLatin1_aae02_14 : decode cJ0_isLatin1_aae02 14 = .ok (.goto 4, 3) := by decide +kernel
theorem dJ0_isLatin1_aae02_17 : decode cJ0_isLatin1_aae02 17 = .ok (.iconst 0, 1) := by decide +kernel
theorem dJ0_isLatin1_aae02_18 : decode cJ0_isLatin1_aae02 18 = .ok (.ireturn, 1) := by decide +kernel
theorem dJ0_checkIndex_df160_0 : decode cJ0_checkIndex_df160 0 = .ok (.iload_n 0, 1) := by decide +kernel
theorem dJ0_checkIndex_df160_1 : decode cJ0_checkIndex_df160 1 = .ok (.iload_n 1, 1) := by decide +kernel
theorem dJ0_checkIndex_df160_2 : decode cJ0_checkIndex_df160 2 = .ok (.getstatic 1053, 3) := by decide +kernel
theorem dJ0_checkIndex_df160_5 : decode cJ0_checkIndex_df160 5 = .ok (.invokestatic 1059, 3) := by decide +kernel
theorem dJ0_checkIndex_df160_8 : decode cJ0_checkIndex_df160 8 = .ok (.pop, 1) := by decide +kernel
theorem dJ0_checkIndex_df160_9 : decode cJ0_checkIndex_df160 9 = .ok (.return_, 1) := by decide +kernel
theorem dJ1_charAt_3b067_0 : decode cJ1_charAt_3b067 0 = .ok (.iload_n 1, 1) := by decide +kernel
theorem dJ1_charAt_3b067_1 : decode cJ1_charAt_3b067 1 = .ok (.aload_n 0, 1) := by decide +kernel
theorem dJ1_charAt_3b067_2 : decode cJ1_charAt_3b067 2 = .ok (.arraylength, 1) := by decide +kernel
theorem dJ1_charAt_3b067_3 : decode cJ1_charAt_3b067 3 = .ok (.invokestatic 9, 3) := by decide +kernel
theorem dJ1_charAt_3b067_6 : decode cJ1_charAt_3b067 6 = .ok (.aload_n 0, 1) := by decide +kernel
theorem dJ1_charAt_3b067_7 : decode cJ1_charAt_3b067 7 = .ok (.iload_n 1, 1) := by decide +kernel
theorem dJ1_charAt_3b067_8 : decode cJ1_charAt_3b067 8 = .ok (.baload, 1) := by decide +kernel
theorem dJ1_charAt_3b067_9 : decode cJ1_charAt_3b067 9 = .ok (.sipush 255, 3) := by decide +kernel
theorem dJ1_charAt_3b067_12 : decode cJ1_charAt_3b067 12 = .ok (.iand, 1) := by decide +kernel
theorem dJ1_charAt_3b067_13 : decode cJ1_charAt_3b067 13 = .ok (.i2c, 1) := by decide +kernel
theorem dJ1_charAt_3b067_14 : decode cJ1_charAt_3b067 14 = .ok (.ireturn, 1) := by decide +kernel
theorem dJ2_getChar_3b067_0 : decode cJ2_getChar_3b067 0 = .ok (.getstatic 44, 3) := by decide +kernel
theorem dJ2_getChar_3b067_3 : decode cJ2_getChar_3b067 3 = .ok (.ifCond .ne 25, 3) := by decide +kernel
theorem dJ2_getChar_3b067_6 : decode cJ2_getChar_3b067 6 = .ok (.iload_n 1, 1) := by decide +kernel
theorem dJ2_getChar_3b067_7 : decode cJ2_getChar_3b067 7 = .ok (.ifCond .lt 11, 3) := by decide +kernel
theorem dJ2_getChar_3b067_10 : decode cJ2_getChar_3b067 10 = .ok (.iload_n 1, 1) := by decide +kernel
theorem dJ2_getChar_3b067_11 : decode cJ2_getChar_3b067 11 = .ok (.aload_n 0, 1) := by decide +kernel
theorem dJ2_getChar_3b067_12 : decode cJ2_getChar_3b067 12 = .ok (.invokestatic 48, 3) := by decide +kernel
theorem dJ2_getChar_3b067_15 : decode cJ2_getChar_3b067 15 = .ok (.if_icmp .lt 13, 3) := by decide +kernel
theorem dJ2_getChar_3b067_18 : decode cJ2_getChar_3b067 18 = .ok (.new 52, 3) := by decide +kernel
theorem dJ2_getChar_3b067_21 : decode cJ2_getChar_3b067 21 = .ok (.dup, 1) := by decide +kernel
theorem dJ2_getChar_3b067_22 : decode cJ2_getChar_3b067 22 = .ok (.ldc 54, 2) := by decide +kernel
theorem dJ2_getChar_3b067_24 : decode cJ2_getChar_3b067 24 = .ok (.invokespecial 56, 3) := by decide +kernel
theorem dJ2_getChar_3b067_27 : decode cJ2_getChar_3b067 27 = .ok (.athrow, 1) := by decide +kernel
theorem dJ2_getChar_3b067_28 : decode cJ2_getChar_3b067 28 = .ok (.iload_n 1, 1) := by decide +kernel
theorem dJ2_getChar_3b067_29 : decode cJ2_getChar_3b067 29 = .ok (.iconst 1, 1) := by decide +kernel
theorem dJ2_getChar_3b067_30 : decode cJ2_getChar_3b067 30 = .ok (.ishl, 1) := by decide +kernel
theorem dJ2_getChar_3b067_31 : decode cJ2_getChar_3b067 31 = .ok (.istore_n 1, 1) := by decide +kernel
theorem dJ2_getChar_3b067_32 : decode cJ2_getChar_3b067 32 = .ok (.aload_n 0, 1) := by decide +kernel
theorem dJ2_getChar_3b067_33 : decode cJ2_getChar_3b067 33 = .ok (.iload_n 1, 1) := by decide +kernel
theorem dJ2_getChar_3b067_34 : decode cJ2_getChar_3b067 34 = .ok (.iinc 1 1, 3) := by decide +kernel
theorem dJ2_getChar_3b067_37 : decode cJ2_getChar_3b067 37 = .ok (.baload, 1) := by decide +kernel
theorem dJ2_getChar_3b067_38 : decode cJ2_getChar_3b067 38 = .ok (.sipush 255, 3) := by decide +kernel
theorem dJ2_getChar_3b067_41 : decode cJ2_getChar_3b067 41 = .ok (.iand, 1) := by decide +kernel
theorem dJ2_getChar_3b067_42 : decode cJ2_getChar_3b067 42 = .ok (.getstatic 59, 3) := by decide +kernel
theorem dJ2_getChar_3b067_45 : decode cJ2_getChar_3b067 45 = .ok (.ishl, 1) := by decide +kernel
theorem dJ2_getChar_3b067_46 : decode cJ2_getChar_3b067 46 = .ok (.aload_n 0, 1) := by decide +kernel
theorem dJ2_getChar_3b067_47 : decode cJ2_getChar_3b067 47 = .ok (.iload_n 1, 1) := by decide +kernel
theorem dJ2_getChar_3b067_48 : decode cJ2_getChar_3b067 48 = .ok (.baload, 1) := by decide +kernel
theorem dJ2_getChar_3b067_49 : decode cJ2_getChar_3b067 49 = .ok (.sipush 255, 3) := by decide +kernel
theorem dJ2_getChar_3b067_52 : decode cJ2_getChar_3b067 52 = .ok (.iand, 1) := by decide +kernel
theorem dJ2_getChar_3b067_53 : decode cJ2_getChar_3b067 53 = .ok (.getstatic 63, 3) := by decide +kernel
theorem dJ2_getChar_3b067_56 : decode cJ2_getChar_3b067 56 = .ok (.ishl, 1) := by decide +kernel
theorem dJ2_getChar_3b067_57 : decode cJ2_getChar_3b067 57 = .ok (.ior, 1) := by decide +kernel
theorem dJ2_getChar_3b067_58 : decode cJ2_getChar_3b067 58 = .ok (.i2c, 1) := by decide +kernel
theorem dJ2_getChar_3b067_59 : decode cJ2_getChar_3b067 59 = .ok (.ireturn, 1) := by decide +kernel
theorem dJ2_length_9d52b_0 : decode cJ2_length_9d52b 0 = .ok (.aload_n 0, 1) := by decide +kernel
theorem dJ2_length_9d52b_1 : decode cJ2_length_9d52b 1 = .ok (.arraylength, 1) := by decide +kernel
theorem dJ2_length_9d52b_2 : decode cJ2_length_9d52b 2 = .ok (.iconst 1, 1) := by decide +kernel
theorem dJ2_length_9d52b_3 : decode cJ2_length_9d52b 3 = .ok (.ishr, 1) := by decide +kernel
theorem dJ2_length_9d52b_4 : decode cJ2_length_9d52b 4 = .ok (.ireturn, 1) := by decide +kernel
theorem dJ2_charAt_3b067_0 : decode cJ2_charAt_3b067 0 = .ok (.iload_n 1, 1) := by decide +kernel
theorem dJ2_charAt_3b067_1 : decode cJ2_charAt_3b067 1 = .ok (.aload_n 0, 1) := by decide +kernel
theorem dJ2_charAt_3b067_2 : decode cJ2_charAt_3b067 2 = .ok (.invokestatic 67, 3) := by decide +kernel
theorem dJ2_charAt_3b067_5 : decode cJ2_charAt_3b067 5 = .ok (.aload_n 0, 1) := by decide +kernel
theorem dJ2_charAt_3b067_6 : decode cJ2_charAt_3b067 6 = .ok (.iload_n 1, 1) := by decide +kernel
theorem dJ2_charAt_3b067_7 : decode cJ2_charAt_3b067 7 = .ok (.invokestatic 71, 3) := by decide +kernel
theorem dJ2_charAt_3b067_10 : decode cJ2_charAt_3b067 10 = .ok (.ireturn, 1) := by decide +kernel
theorem dJ2_checkIndex_2214a_0 : decode cJ2_checkIndex_2214a 0 = .ok (.iload_n 0, 1) := by decide +kernel
theorem dJ2_checkIndex_2214a_1 : decode cJ2_checkIndex_2214a 1 = .ok (.aload_n 1, 1) := by decide +kernel
theorem dJ2_checkIndex_2214a_2 : decode cJ2_checkIndex_2214a 2 = .ok (.invokestatic 48, 3) := by decide +kernel
theorem dJ2_checkIndex_2214a_5 : decode cJ2_checkIndex_2214a 5 = .ok (.invokestatic 414, 3) := by decide +kernel
theorem dJ2_checkIndex_2214a_8 : decode cJ2_checkIndex_2214a 8 = .ok (.return_, 1) := by decide +kernel
theorem dJ7_fill_53178_0 : decode cJ7_fill_53178 0 = .ok (.iconst 0, 1) := by decide +kernel
theorem dJ7_fill_53178_1 : decode cJ7_fill_53178 1 = .ok (.istore_n 2, 1) := by decide +kernel
theorem dJ7_fill_53178_2 : decode cJ7_fill_53178 2 = .ok (.aload_n 0, 1) := by decide +kernel
theorem dJ7_fill_53178_3 : decode cJ7_fill_53178 3 = .ok (.arraylength, 1) := by decide +kernel
theorem dJ7_fill_53178_4 : decode cJ7_fill_53178 4 = .ok (.istore_n 3, 1) := by decide +kernel
theorem dJ7_fill_53178_5 : decode cJ7_fill_53178 5 = .ok (.iload_n 2, 1) := by decide +kernel
theorem dJ7_fill_53178_6 : decode cJ7_fill_53178 6 = .ok (.iload_n 3, 1) := by decide +kernel
theorem dJ7_fill_53178_7 : decode cJ7_fill_53178 7 = .ok (.if_icmp .ge 13, 3) := by decide +kernel
theorem dJ7_fill_53178_10 : decode cJ7_fill_53178 10 = .ok (.aload_n 0, 1) := by decide +kernel
theorem dJ7_fill_53178_11 : decode cJ7_fill_53178 11 = .ok (.iload_n 2, 1) := by decide +kernel
theorem dJ7_fill_53178_12 : decode cJ7_fill_53178 12 = .ok (.iload_n 1, 1) := by decide +kernel
theorem dJ7_fill_53178_13 : decode cJ7_fill_53178 13 = .ok (.iastore, 1) := by decide +kernel
theorem dJ7_fill_53178_14 : decode cJ7_fill_53178 14 = .ok (.iinc 2 1, 3) := by decide +kernel
theorem dJ7_fill_53178_17 : decode cJ7_fill_53178 17 = .ok (.goto (-12), 3) := by decide +kernel
theorem dJ7_fill_53178_20 : decode cJ7_fill_53178 20 = .ok (.return_, 1) := by decide +kernel
theorem dJ3_checkIndex_8e157_0 : decode cJ3_checkIndex_8e157 0 = .ok (.iload_n 0, 1) := by decide +kernel
theorem dJ3_checkIndex_8e157_1 : decode cJ3_checkIndex_8e157 1 = .ok (.ifCond .lt 8, 3) := by decide +kernel
theorem dJ3_checkIndex_8e157_4 : decode cJ3_checkIndex_8e157 4 = .ok (.iload_n 0, 1) := by decide +kernel
theorem dJ3_checkIndex_8e157_5 : decode cJ3_checkIndex_8e157 5 = .ok (.iload_n 1, 1) := by decide +kernel
theorem dJ3_checkIndex_8e157_6 : decode cJ3_checkIndex_8e157 6 = .ok (.if_icmp .lt 10, 3) := by decide +kernel
theorem dJ3_checkIndex_8e157_9 : decode cJ3_checkIndex_8e157 9 = .ok (.aload_n 2, 1) := by decide +kernel
theorem dJ3_checkIndex_8e157_10 : decode cJ3_checkIndex_8e157 10 = .ok (.iload_n 0, 1) := by decide +kernel
theorem dJ3_checkIndex_8e157_11 : decode cJ3_checkIndex_8e157 11 = .ok (.iload_n 1, 1) := by decide +kernel
theorem dJ3_checkIndex_8e157_12 : decode cJ3_checkIndex_8e157 12 = .ok (.invokestatic 95, 3) := by decide +kernel
theorem dJ3_checkIndex_8e157_15 : decode cJ3_checkIndex_8e157 15 = .ok (.athrow, 1) := by decide +kernel
theorem dJ3_checkIndex_8e157_16 : decode cJ3_checkIndex_8e157 16 = .ok (.iload_n 0, 1) := by decide +kernel
theorem dJ3_checkIndex_8e157_17 : decode cJ3_checkIndex_8e157 17 = .ok (.ireturn, 1) := by decide +kernel
end Dec
