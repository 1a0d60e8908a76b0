section Dec
theorem dX4_init_0 : decode cX4_init 0 = .ok (.aload_n 0, 1) := by decide +kernel
theorem dX4_init_1 : decode cX4_init 1 = .ok (.invokespecial 3, 3) := by decide +kernel
theorem dX4_init_4 : decode cX4_init 4 = .ok (.aload_n 0, 1) := by decide +kernel
theorem dX4_init_5 : decode cX4_init 5 = .ok (.sipush 150, 3) := by decide +kernel
theorem dX4_init_8 : decode cX4_init 8 = .ok (.newarray .int, 2) := by decide +kernel
theorem dX4_init_10 : decode cX4_init 10 = .ok (.putfield 9, 3) := by decide +kernel
theorem dX4_init_13 : decode cX4_init 13 = .ok (.aload_n 0, 1) := by decide +kernel
theorem dX4_init_14 : decode cX4_init 14 = .ok (.bipush 9, 2) := by decide +kernel
theorem dX4_init_16 : decode cX4_init 16 = .ok (.newarray .int, 2) := by decide +kernel
theorem dX4_init_18 : decode cX4_init 18 = .ok (.putfield 15, 3) := by decide +kernel
theorem dX4_init_21 : decode cX4_init 21 = .ok (.aload_n 0, 1) := by decide +kernel
theorem dX4_init_22 : decode cX4_init 22 = .ok (.sipush 150, 3) := by decide +kernel
theorem dX4_init_25 : decode cX4_init 25 = .ok (.newarray .int, 2) := by decide +kernel
theorem dX4_init_27 : decode cX4_init 27 = .ok (.putfield 18, 3) := by decide +kernel
theorem dX4_init_30 : decode cX4_init 30 = .ok (.aload_n 0, 1) := by decide +kernel
theorem dX4_init_31 : decode cX4_init 31 = .ok (.invokevirtual 21, 3) := by decide +kernel
theorem dX4_init_34 : decode cX4_init 34 = .ok (.return_, 1) := by decide +kernel
theorem dX4_beUsual_0 : decode cX4_beUsual 0 = .ok (.aload_n 0, 1) := by decide +kernel
theorem dX4_beUsual_1 : decode cX4_beUsual 1 = .ok (.iconst 0, 1) := by decide +kernel
theorem dX4_beUsual_2 : decode cX4_beUsual 2 = .ok (.putfield 24, 3) := by decide +kernel
theorem dX4_beUsual_5 : decode cX4_beUsual 5 = .ok (.aload_n 0, 1) := by decide +kernel
theorem dX4_beUsual_6 : decode cX4_beUsual 6 = .ok (.sipush 1000, 3) := by decide +kernel
theorem dX4_beUsual_9 : decode cX4_beUsual 9 = .ok (.invokevirtual 28, 3) := by decide +kernel
theorem dX4_beUsual_12 : decode cX4_beUsual 12 = .ok (.pop, 1) := by decide +kernel
theorem dX4_beUsual_13 : decode cX4_beUsual 13 = .ok (.aload_n 0, 1) := by decide +kernel
theorem dX4_beUsual_14 : decode cX4_beUsual 14 = .ok (.sipush 1001, 3) := by decide +kernel
theorem dX4_beUsual_17 : decode cX4_beUsual 17 = .ok (.invokevirtual 28, 3) := by decide +kernel
theorem dX4_beUsual_20 : decode cX4_beUsual 20 = .ok (.pop, 1) := by decide +kernel
theorem dX4_beUsual_21 : decode cX4_beUsual 21 = .ok (.aload_n 0, 1) := by decide +kernel
theorem dX4_beUsual_22 : decode cX4_beUsual 22 = .ok (.sipush 2045, 3) := by decide +kernel
theorem dX4_beUsual_25 : decode cX4_beUsual 25 = .ok (.invokevirtual 28, 3) := by decide +kernel
theorem dX4_beUsual_28 : decode cX4_beUsual 28 = .ok (.pop, 1) := by decide +kernel
theorem dX4_beUsual_29 : decode cX4_beUsual 29 = .ok (.aload_n 0, 1) := by decide +kernel
theorem dX4_beUsual_30 : decode cX4_beUsual 30 = .ok (.sipush 1002, 3) := by decide +kernel
theorem dX4_beUsual_33 : decode cX4_beUsual 33 = .ok (.invokevirtual 28, 3) := by decide +kernel
theorem dX4_beUsual_36 : decode cX4_beUsual 36 = .ok (.pop, 1) := by decide +kernel
theorem dX4_beUsual_37 : decode cX4_beUsual 37 = .ok (.aload_n 0, 1) := by decide +kernel
theorem dX4_beUsual_38 : decode cX4_beUsual 38 = .ok (.sipush 2043, 3) := by decide +kernel
theorem dX4_beUsual_41 : decode cX4_beUsual 41 = .ok (.invokevirtual 28, 3) := by decide +kernel
theorem dX4_beUsual_44 : decode cX4_beUsual 44 = .ok (.pop, 1) := by decide +kernel
theorem dX4_beUsual_45 : decode cX4_beUsual 45 = .ok (.return_, 1) := by decide +kernel
theorem dX4_copyFrom_0 : decode cX4_copyFrom 0 = .ok (.aload_n 1, 1) := by decide +kernel
theorem dX4_copyFrom_1 : decode cX4_copyFrom 1 = .ok (.getfield 9, 3) := by decide +kernel
theorem dX4_copyFrom_4 : decode cX4_copyFrom 4 = .ok (.iconst 0, 1) := by decide +kernel
theorem dX4_copyFrom_5 : decode cX4_copyFrom 5 = .ok (.aload_n 0, 1) := by decide +kernel
theorem dX4_copyFrom_6 : decode cX4_copyFrom 6 = .ok (.getfield 9, 3) := by decide +kernel
theorem dX4_copyFrom_9 : decode cX4_copyFrom 9 = .ok (.iconst 0, 1) := by decide +kernel
theorem dX4_copyFrom_10 : decode cX4_copyFrom 10 = .ok (.sipush 150, 3) := by decide +kernel
theorem dX4_copyFrom_13 : decode cX4_copyFrom 13 = .ok (.invokestatic 32, 3) := by decide +kernel
theorem dX4_copyFrom_16 : decode cX4_copyFrom 16 = .ok (.aload_n 0, 1) := by decide +kernel
theorem dX4_copyFrom_17 : decode cX4_copyFrom 17 = .ok (.aload_n 1, 1) := by decide +kernel
theorem dX4_copyFrom_18 : decode cX4_copyFrom 18 = .ok (.getfield 24, 3) := by decide +kernel
theorem dX4_copyFrom_21 : decode cX4_copyFrom 21 = .ok (.putfield 24, 3) := by decide +kernel
theorem dX4_copyFrom_24 : decode cX4_copyFrom 24 = .ok (.return_, 1) := by decide +kernel
theorem dX4_readFrom_0 : decode cX4_readFrom 0 = .ok (.aload_n 0, 1) := by decide +kernel
theorem dX4_readFrom_1 : decode cX4_readFrom 1 = .ok (.iconst 0, 1) := by decide +kernel
theorem dX4_readFrom_2 : decode cX4_readFrom 2 = .ok (.putfield 24, 3) := by decide +kernel
theorem dX4_readFrom_5 : decode cX4_readFrom 5 = .ok (.aload_n 0, 1) := by decide +kernel
theorem dX4_readFrom_6 : decode cX4_readFrom 6 = .ok (.aload_n 1, 1) := by decide +kernel
theorem dX4_readFrom_7 : decode cX4_readFrom 7 = .ok (.iconst 0, 1) := by decide +kernel
theorem dX4_readFrom_8 : decode cX4_readFrom 8 = .ok (.invokevirtual 38, 3) := by decide +kernel
theorem dX4_readFrom_11 : decode cX4_readFrom 11 = .ok (.ifCond .ne 5, 3) := by decide +kernel
theorem dX4_readFrom_14 : decode cX4_readFrom 14 = .ok (.iconst 0, 1) := by decide +kernel
theorem dX4_readFrom_15 : decode cX4_readFrom 15 = .ok (.ireturn, 1) := by decide +kernel
theorem dX4_readFrom_16 : decode cX4_readFrom 16 = .ok (.aload_n 1, 1) := by decide +kernel
theorem dX4_readFrom_17 : decode cX4_readFrom 17 = .ok (.invokevirtual 42, 3) := by decide +kernel
theorem dX4_readFrom_20 : decode cX4_readFrom 20 = .ok (.ifCond .ne 11, 3) := by decide +kernel
theorem dX4_readFrom_23 : decode cX4_readFrom 23 = .ok (.aload_n 1, 1) := by decide +kernel
theorem dX4_readFrom_24 : decode cX4_readFrom 24 = .ok (.iconst 1, 1) := by decide +kernel
theorem dX4_readFrom_25 : decode cX4_readFrom 25 = .ok (.invokevirtual 48, 3) := by decide +kernel
theorem dX4_readFrom_28 : decode cX4_readFrom 28 = .ok (.ifCond .eq 7, 3) := by decide +kernel
theorem dX4_readFrom_31 : decode cX4_readFrom 31 = .ok (.iconst 1, 1) := by decide +kernel
theorem dX4_readFrom_32 : decode cX4_readFrom 32 = .ok (.goto 4, 3) := by decide +kernel
theorem dX4_readFrom_35 : decode cX4_readFrom 35 = .ok (.iconst 0, 1) := by decide +kernel
theorem dX4_readFrom_36 : decode cX4_readFrom 36 = .ok (.ireturn, 1) := by decide +kernel
theorem dX4_tellKing_0 : decode cX4_tellKing 0 = .ok (.aload_n 0, 1) := by decide +kernel
theorem dX4_tellKing_1 : decode cX4_tellKing 1 = .ok (.getfield 15, 3) := by decide +kernel
theorem dX4_tellKing_4 : decode cX4_tellKing 4 = .ok (.iconst 0, 1) := by decide +kernel
theorem dX4_tellKing_5 : decode cX4_tellKing 5 = .ok (.iload_n 1, 1) := by decide +kernel
theorem dX4_tellKing_6 : decode cX4_tellKing 6 = .ok (.iastore, 1) := by decide +kernel
theorem dX4_tellKing_7 : decode cX4_tellKing 7 = .ok (.aload_n 0, 1) := by decide +kernel
theorem dX4_tellKing_8 : decode cX4_tellKing 8 = .ok (.getfield 15, 3) := by decide +kernel
theorem dX4_tellKing_11 : decode cX4_tellKing 11 = .ok (.iconst 1, 1) := by decide +kernel
theorem dX4_tellKing_12 : decode cX4_tellKing 12 = .ok (.iload_n 2, 1) := by decide +kernel
theorem dX4_tellKing_13 : decode cX4_tellKing 13 = .ok (.iastore, 1) := by decide +kernel
theorem dX4_tellKing_14 : decode cX4_tellKing 14 = .ok (.aload_n 0, 1) := by decide +kernel
theorem dX4_tellKing_15 : decode cX4_tellKing 15 = .ok (.getfield 15, 3) := by decide +kernel
theorem dX4_tellKing_18 : decode cX4_tellKing 18 = .ok (.bipush 7, 2) := by decide +kernel
theorem dX4_tellKing_20 : decode cX4_tellKing 20 = .ok (.iload_n 3, 1) := by decide +kernel
theorem dX4_tellKing_21 : decode cX4_tellKing 21 = .ok (.iastore, 1) := by decide +kernel
theorem dX4_tellKing_22 : decode cX4_tellKing 22 = .ok (.return_, 1) := by decide +kernel
theorem dX4_tellCouncil_0 : decode cX4_tellCouncil 0 = .ok (.aload_n 0, 1) := by decide +kernel
theorem dX4_tellCouncil_1 : decode cX4_tellCouncil 1 = .ok (.getfield 15, 3) := by decide +kernel
theorem dX4_tellCouncil_4 : decode cX4_tellCouncil 4 = .ok (.iconst 2, 1) := by decide +kernel
theorem dX4_tellCouncil_5 : decode cX4_tellCouncil 5 = .ok (.iload_n 1, 1) := by decide +kernel
theorem dX4_tellCouncil_6 : decode cX4_tellCouncil 6 = .ok (.iastore, 1) := by decide +kernel
theorem dX4_tellCouncil_7 : decode cX4_tellCouncil 7 = .ok (.aload_n 0, 1) := by decide +kernel
theorem dX4_tellCouncil_8 : decode cX4_tellCouncil 8 = .ok (.getfield 15, 3) := by decide +kernel
theorem dX4_tellCouncil_11 : decode cX4_tellCouncil 11 = .ok (.iconst 3, 1) := by decide +kernel
theorem dX4_tellCouncil_12 : decode cX4_tellCouncil 12 = .ok (.iload_n 2, 1) := by decide +kernel
theorem dX4_tellCouncil_13 : decode cX4_tellCouncil 13 = .ok (.iastore, 1) := by decide +kernel
theorem dX4_tellCouncil_14 : decode cX4_tellCouncil 14 = .ok (.return_, 1) := by decide +kernel
theorem dX4_tellBack_0 : decode cX4_tellBack 0 = .ok (.aload_n 0, 1) := by decide +kernel
theorem dX4_tellBack_1 : decode cX4_tellBack 1 = .ok (.getfield 15, 3) := by decide +kernel
theorem dX4_tellBack_4 : decode cX4_tellBack 4 = .ok (.bipush 8, 2) := by decide +kernel
theorem dX4_tellBack_6 : decode cX4_tellBack 6 = .ok (.iload_n 1, 1) := by decide +kernel
theorem dX4_tellBack_7 : decode cX4_tellBack 7 = .ok (.iastore, 1) := by decide +kernel
theorem dX4_tellBack_8 : decode cX4_tellBack 8 = .ok (.aload_n 0, 1) := by decide +kernel
theorem dX4_tellBack_9 : decode cX4_tellBack 9 = .ok (.getfield 15, 3) := by decide +kernel
theorem dX4_tellBack_12 : decode cX4_tellBack 12 = .ok (.iconst 4, 1) := by decide +kernel
theorem dX4_tellBack_13 : decode cX4_tellBack 13 = .ok (.iload_n 2, 1) := by decide +kernel
theorem dX4_tellBack_14 : decode cX4_tellBack 14 = .ok (.iastore, 1) := by decide +kernel
theorem dX4_tellBack_15 : decode cX4_tellBack 15 = .ok (.aload_n 0, 1) := by decide +kernel
theorem dX4_tellBack_16 : decode cX4_tellBack 16 = .ok (.getfield 15, 3) := by decide +kernel
theorem dX4_tellBack_19 : decode cX4_tellBack 19 = .ok (.iconst 5, 1) := by decide +kernel
theorem dX4_tellBack_20 : decode cX4_tellBack 20 = .ok (.iload_n 3, 1) := by decide +kernel
theorem dX4_tellBack_21 : decode cX4_tellBack 21 = .ok (.iastore, 1) := by decide +kernel
theorem dX4_tellBack_22 : decode cX4_tellBack 22 = .ok (.aload_n 0, 1) := by decide +kernel
theorem dX4_tellBack_23 : decode cX4_tellBack 23 = .ok (.getfield 15, 3) := by decide +kernel
theorem dX4_tellBack_26 : decode cX4_tellBack 26 = .ok (.bipush 6, 2) := by decide +kernel
theorem dX4_tellBack_28 : decode cX4_tellBack 28 = .ok (.iload 4, 2) := by decide +kernel
theorem dX4_tellBack_30 : decode cX4_tellBack 30 = .ok (.iastore, 1) := by decide +kernel
theorem dX4_tellBack_31 : decode cX4_tellBack 31 = .ok (.return_, 1) := by decide +kernel
theorem dX4_loadAsTold_0 : decode cX4_loadAsTold 0 = .ok (.iconst 0, 1) := by decide +kernel
theorem dX4_loadAsTold_1 : decode cX4_loadAsTold 1 = .ok (.istore_n 1, 1) := by decide +kernel
theorem dX4_loadAsTold_2 : decode cX4_loadAsTold 2 = .ok (.iconst 0, 1) := by decide +kernel
theorem dX4_loadAsTold_3 : decode cX4_loadAsTold 3 = .ok (.istore_n 2, 1) := by decide +kernel
theorem dX4_loadAsTold_4 : decode cX4_loadAsTold 4 = .ok (.iload_n 2, 1) := by decide +kernel
theorem dX4_loadAsTold_5 : decode cX4_loadAsTold 5 = .ok (.aload_n 0, 1) := by decide +kernel
theorem dX4_loadAsTold_6 : decode cX4_loadAsTold 6 = .ok (.getfield 24, 3) := by decide +kernel
theorem dX4_loadAsTold_9 : decode cX4_loadAsTold 9 = .ok (.if_icmp .ge 90, 3) := by decide +kernel
theorem dX4_loadAsTold_12 : decode cX4_loadAsTold 12 = .ok (.aload_n 0, 1) := by decide +kernel
theorem dX4_loadAsTold_13 : decode cX4_loadAsTold 13 = .ok (.getfield 9, 3) := by decide +kernel
theorem dX4_loadAsTold_16 : decode cX4_loadAsTold 16 = .ok (.iload_n 2, 1) := by decide +kernel
theorem dX4_loadAsTold_17 : decode cX4_loadAsTold 17 = .ok (.iaload, 1) := by decide +kernel
theorem dX4_loadAsTold_18 : decode cX4_loadAsTold 18 = .ok (.istore_n 3, 1) := by decide +kernel
theorem dX4_loadAsTold_19 : decode cX4_loadAsTold 19 = .ok (.iload_n 3, 1) := by decide +kernel
theorem dX4_loadAsTold_20 : decode cX4_loadAsTold 20 = .ok (.sipush 2000, 3) := by decide +kernel
theorem dX4_loadAsTold_23 : decode cX4_loadAsTold 23 = .ok (.if_icmp .ge 36, 3) := by decide +kernel
theorem dX4_loadAsTold_26 : decode cX4_loadAsTold 26 = .ok (.aload_n 0, 1) := by decide +kernel
theorem dX4_loadAsTold_27 : decode cX4_loadAsTold 27 = .ok (.getfield 18, 3) := by decide +kernel
theorem dX4_loadAsTold_30 : decode cX4_loadAsTold 30 = .ok (.iload_n 1, 1) := by decide +kernel
theorem dX4_loadAsTold_31 : decode cX4_loadAsTold 31 = .ok (.iload_n 3, 1) := by decide +kernel
theorem dX4_loadAsTold_32 : decode cX4_loadAsTold 32 = .ok (.sipush 1000, 3) := by decide +kernel
theorem dX4_loadAsTold_35 : decode cX4_loadAsTold 35 = .ok (.if_icmp .ge 7, 3) := by decide +kernel
theorem dX4_loadAsTold_38 : decode cX4_loadAsTold 38 = .ok (.iload_n 3, 1) := by decide +kernel
theorem dX4_loadAsTold_39 : decode cX4_loadAsTold 39 = .ok (.goto 13, 3) := by decide +kernel
theorem dX4_loadAsTold_42 : decode cX4_loadAsTold 42 = .ok (.aload_n 0, 1) := by decide +kernel
theorem dX4_loadAsTold_43 : decode cX4_loadAsTold 43 = .ok (.getfield 15, 3) := by decide +kernel
theorem dX4_loadAsTold_46 : decode cX4_loadAsTold 46 = .ok (.iload_n 3, 1) := by decide +kernel
theorem dX4_loadAsTold_47 : decode cX4_loadAsTold 47 = .ok (.sipush 1000, 3) := by decide +kernel
theorem dX4_loadAsTold_50 : decode cX4_loadAsTold 50 = .ok (.isub, 1) := by decide +kernel
theorem dX4_loadAsTold_51 : decode cX4_loadAsTold 51 = .ok (.iaload, 1) := by decide +kernel
theorem dX4_loadAsTold_52 : decode cX4_loadAsTold 52 = .ok (.iastore, 1) := by decide +kernel
theorem dX4_loadAsTold_53 : decode cX4_loadAsTold 53 = .ok (.iinc 1 1, 3) := by decide +kernel
theorem dX4_loadAsTold_56 : decode cX4_loadAsTold 56 = .ok (.goto 37, 3) := by decide +kernel
theorem dX4_loadAsTold_59 : decode cX4_loadAsTold 59 = .ok (.iload_n 1, 1) := by decide +kernel
theorem dX4_loadAsTold_60 : decode cX4_loadAsTold 60 = .ok (.iconst 2, 1) := by decide +kernel
theorem dX4_loadAsTold_61 : decode cX4_loadAsTold 61 = .ok (.if_icmp .lt 32, 3) := by decide +kernel
theorem dX4_loadAsTold_64 : decode cX4_loadAsTold 64 = .ok (.iinc 1 (-1), 3) := by decide +kernel
theorem dX4_loadAsTold_67 : decode cX4_loadAsTold 67 = .ok (.aload_n 0, 1) := by decide +kernel
theorem dX4_loadAsTold_68 : decode cX4_loadAsTold 68 = .ok (.getfield 18, 3) := by decide +kernel
theorem dX4_loadAsTold_71 : decode cX4_loadAsTold 71 = .ok (.iload_n 1, 1) := by decide +kernel
theorem dX4_loadAsTold_72 : decode cX4_loadAsTold 72 = .ok (.iconst 1, 1) := by decide +kernel
theorem dX4_loadAsTold_73 : decode cX4_loadAsTold 73 = .ok (.isub, 1) := by decide +kernel
theorem dX4_loadAsTold_74 : decode cX4_loadAsTold 74 = .ok (.iload_n 3, 1) := by decide +kernel
theorem dX4_loadAsTold_75 : decode cX4_loadAsTold 75 = .ok (.aload_n 0, 1) := by decide +kernel
theorem dX4_loadAsTold_76 : decode cX4_loadAsTold 76 = .ok (.getfield 18, 3) := by decide +kernel
theorem dX4_loadAsTold_79 : decode cX4_loadAsTold 79 = .ok (.iload_n 1, 1) := by decide +kernel
theorem dX4_loadAsTold_80 : decode cX4_loadAsTold 80 = .ok (.iconst 1, 1) := by decide +kernel
theorem dX4_loadAsTold_81 : decode cX4_loadAsTold 81 = .ok (.isub, 1) := by decide +kernel
theorem dX4_loadAsTold_82 : decode cX4_loadAsTold 82 = .ok (.iaload, 1) := by decide +kernel
theorem dX4_loadAsTold_83 : decode cX4_loadAsTold 83 = .ok (.aload_n 0, 1) := by decide +kernel
theorem dX4_loadAsTold_84 : decode cX4_loadAsTold 84 = .ok (.getfield 18, 3) := by decide +kernel
theorem dX4_loadAsTold_87 : decode cX4_loadAsTold 87 = .ok (.iload_n 1, 1) := by decide +kernel
theorem dX4_loadAsTold_88 : decode cX4_loadAsTold 88 = .ok (.iaload, 1) := by decide +kernel
theorem dX4_loadAsTold_89 : decode cX4_loadAsTold 89 = .ok (.invokestatic 51, 3) := by decide +kernel
theorem dX4_loadAsTold_92 : decode cX4_loadAsTold 92 = .ok (.iastore, 1) := by decide +kernel
theorem dX4_loadAsTold_93 : decode cX4_loadAsTold 93 = .ok (.iinc 2 1, 3) := by decide +kernel
theorem dX4_loadAsTold_96 : decode cX4_loadAsTold 96 = .ok (.goto (-92), 3) := by decide +kernel
theorem dX4_loadAsTold_99 : decode cX4_loadAsTold 99 = .ok (.iload_n 1, 1) := by decide +kernel
theorem dX4_loadAsTold_100 : decode cX4_loadAsTold 100 = .ok (.ifCond .le 12, 3) := by decide +kernel
theorem dX4_loadAsTold_103 : decode cX4_loadAsTold 103 = .ok (.aload_n 0, 1) := by decide +kernel
theorem dX4_loadAsTold_104 : decode cX4_loadAsTold 104 = .ok (.getfield 18, 3) := by decide +kernel
theorem dX4_loadAsTold_107 : decode cX4_loadAsTold 107 = .ok (.iconst 0, 1) := by decide +kernel
theorem dX4_loadAsTold_108 : decode cX4_loadAsTold 108 = .ok (.iaload, 1) := by decide +kernel
theorem dX4_loadAsTold_109 : decode cX4_loadAsTold 109 = .ok (.goto 4, 3) := by decide +kernel
theorem dX4_loadAsTold_112 : decode cX4_loadAsTold 112 = .ok (.iconst 0, 1) := by decide +kernel
theorem dX4_loadAsTold_113 : decode cX4_loadAsTold 113 = .ok (.istore_n 2, 1) := by decide +kernel
theorem dX4_loadAsTold_114 : decode cX4_loadAsTold 114 = .ok (.iload_n 2, 1) := by decide +kernel
theorem dX4_loadAsTold_115 : decode cX4_loadAsTold 115 = .ok (.ifCond .ge 7, 3) := by decide +kernel
theorem dX4_loadAsTold_118 : decode cX4_loadAsTold 118 = .ok (.iconst 0, 1) := by decide +kernel
theorem dX4_loadAsTold_119 : decode cX4_loadAsTold 119 = .ok (.goto 15, 3) := by decide +kernel
theorem dX4_loadAsTold_122 : decode cX4_loadAsTold 122 = .ok (.iload_n 2, 1) := by decide +kernel
theorem dX4_loadAsTold_123 : decode cX4_loadAsTold 123 = .ok (.bipush 60, 2) := by decide +kernel
theorem dX4_loadAsTold_125 : decode cX4_loadAsTold 125 = .ok (.if_icmp .le 8, 3) := by decide +kernel
theorem dX4_loadAsTold_128 : decode cX4_loadAsTold 128 = .ok (.bipush 60, 2) := by decide +kernel
theorem dX4_loadAsTold_130 : decode cX4_loadAsTold 130 = .ok (.goto 4, 3) := by decide +kernel
theorem dX4_loadAsTold_133 : decode cX4_loadAsTold 133 = .ok (.iload_n 2, 1) := by decide +kernel
theorem dX4_loadAsTold_134 : decode cX4_loadAsTold 134 = .ok (.ireturn, 1) := by decide +kernel
theorem dX4_outcome_0 : decode cX4_outcome 0 = .ok (.iload_n 0, 1) := by decide +kernel
theorem dX4_outcome_1 : decode cX4_outcome 1 = .ok (.lookupswitch 105 #[(2000, 59), (2001, 70), (2042, 89), (2043, 81), (2045, 85), (2047, 93)], 59) := by decide +kernel
theorem dX4_outcome_60 : decode cX4_outcome 60 = .ok (.iload_n 1, 1) := by decide +kernel
theorem dX4_outcome_61 : decode cX4_outcome 61 = .ok (.iload_n 2, 1) := by decide +kernel
theorem dX4_outcome_62 : decode cX4_outcome 62 = .ok (.if_icmp .ge 7, 3) := by decide +kernel
theorem dX4_outcome_65 : decode cX4_outcome 65 = .ok (.iload_n 1, 1) := by decide +kernel
theorem dX4_outcome_66 : decode cX4_outcome 66 = .ok (.goto 4, 3) := by decide +kernel
theorem dX4_outcome_69 : decode cX4_outcome 69 = .ok (.iload_n 2, 1) := by decide +kernel
theorem dX4_outcome_70 : decode cX4_outcome 70 = .ok (.ireturn, 1) := by decide +kernel
theorem dX4_outcome_71 : decode cX4_outcome 71 = .ok (.iload_n 1, 1) := by decide +kernel
theorem dX4_outcome_72 : decode cX4_outcome 72 = .ok (.iload_n 2, 1) := by decide +kernel
theorem dX4_outcome_73 : decode cX4_outcome 73 = .ok (.if_icmp .le 7, 3) := by decide +kernel
theorem dX4_outcome_76 : decode cX4_outcome 76 = .ok (.iload_n 1, 1) := by decide +kernel
theorem dX4_outcome_77 : decode cX4_outcome 77 = .ok (.goto 4, 3) := by decide +kernel
theorem dX4_outcome_80 : decode cX4_outcome 80 = .ok (.iload_n 2, 1) := by decide +kernel
theorem dX4_outcome_81 : decode cX4_outcome 81 = .ok (.ireturn, 1) := by decide +kernel
theorem dX4_outcome_82 : decode cX4_outcome 82 = .ok (.iload_n 1, 1) := by decide +kernel
theorem dX4_outcome_83 : decode cX4_outcome 83 = .ok (.iload_n 2, 1) := by decide +kernel
theorem dX4_outcome_84 : decode cX4_outcome 84 = .ok (.iadd, 1) := by decide +kernel
theorem dX4_outcome_85 : decode cX4_outcome 85 = .ok (.ireturn, 1) := by decide +kernel
theorem dX4_outcome_86 : decode cX4_outcome 86 = .ok (.iload_n 1, 1) := by decide +kernel
theorem dX4_outcome_87 : decode cX4_outcome 87 = .ok (.iload_n 2, 1) := by decide +kernel
theorem dX4_outcome_88 : decode cX4_outcome 88 = .ok (.isub, 1) := by decide +kernel
theorem dX4_outcome_89 : decode cX4_outcome 89 = .ok (.ireturn, 1) := by decide +kernel
theorem dX4_outcome_90 : decode cX4_outcome 90 = .ok (.iload_n 1, 1) := by decide +kernel
theorem dX4_outcome_91 : decode cX4_outcome 91 = .ok (.iload_n 2, 1) := by decide +kernel
theorem dX4_outcome_92 : decode cX4_outcome 92 = .ok (.imul, 1) := by decide +kernel
theorem dX4_outcome_93 : decode cX4_outcome 93 = .ok (.ireturn, 1) := by decide +kernel
theorem dX4_outcome_94 : decode cX4_outcome 94 = .ok (.iload_n 2, 1) := by decide +kernel
theorem dX4_outcome_95 : decode cX4_outcome 95 = .ok (.ifCond .ne 7, 3) := by decide +kernel
theorem dX4_outcome_98 : decode cX4_outcome 98 = .ok (.iconst 0, 1) := by decide +kernel
theorem dX4_outcome_99 : decode cX4_outcome 99 = .ok (.goto 6, 3) := by decide +kernel
theorem dX4_outcome_102 : decode cX4_outcome 102 = .ok (.iload_n 1, 1) := by decide +kernel
theorem dX4_outcome_103 : decode cX4_outcome 103 = .ok (.iload_n 2, 1) := by decide +kernel
theorem dX4_outcome_104 : decode cX4_outcome 104 = .ok (.idiv, 1) := by decide +kernel
theorem dX4_outcome_105 : decode cX4_outcome 105 = .ok (.ireturn, 1) := by decide +kernel
theorem dX4_outcome_106 : decode cX4_outcome 106 = .ok (.iload_n 2, 1) := by decide +kernel
theorem dX4_outcome_107 : decode cX4_outcome 107 = .ok (.ifCond .ne 7, 3) := by decide +kernel
theorem dX4_outcome_110 : decode cX4_outcome 110 = .ok (.iconst 0, 1) := by decide +kernel
theorem dX4_outcome_111 : decode cX4_outcome 111 = .ok (.goto 6, 3) := by decide +kernel
theorem dX4_outcome_114 : decode cX4_outcome 114 = .ok (.iload_n 1, 1) := by decide +kernel
theorem dX4_outcome_115 : decode cX4_outcome 115 = .ok (.iload_n 2, 1) := by decide +kernel
theorem dX4_outcome_116 : decode cX4_outcome 116 = .ok (.irem, 1) := by decide +kernel
theorem dX4_outcome_117 : decode cX4_outcome 117 = .ok (.ireturn, 1) := by decide +kernel
theorem dX4_add_0 : decode cX4_add 0 = .ok (.aload_n 0, 1) := by decide +kernel
theorem dX4_add_1 : decode cX4_add 1 = .ok (.getfield 24, 3) := by decide +kernel
theorem dX4_add_4 : decode cX4_add 4 = .ok (.sipush 150, 3) := by decide +kernel
theorem dX4_add_7 : decode cX4_add 7 = .ok (.if_icmp .ge 23, 3) := by decide +kernel
theorem dX4_add_10 : decode cX4_add 10 = .ok (.aload_n 0, 1) := by decide +kernel
theorem dX4_add_11 : decode cX4_add 11 = .ok (.getfield 9, 3) := by decide +kernel
theorem dX4_add_14 : decode cX4_add 14 = .ok (.aload_n 0, 1) := by decide +kernel
theorem dX4_add_15 : decode cX4_add 15 = .ok (.getfield 24, 3) := by decide +kernel
theorem dX4_add_18 : decode cX4_add 18 = .ok (.iload_n 1, 1) := by decide +kernel
theorem dX4_add_19 : decode cX4_add 19 = .ok (.iastore, 1) := by decide +kernel
theorem dX4_add_20 : decode cX4_add 20 = .ok (.aload_n 0, 1) := by decide +kernel
theorem dX4_add_21 : decode cX4_add 21 = .ok (.dup, 1) := by decide +kernel
theorem dX4_add_22 : decode cX4_add 22 = .ok (.getfield 24, 3) := by decide +kernel
theorem dX4_add_25 : decode cX4_add 25 = .ok (.iconst 1, 1) := by decide +kernel
theorem dX4_add_26 : decode cX4_add 26 = .ok (.iadd, 1) := by decide +kernel
theorem dX4_add_27 : decode cX4_add 27 = .ok (.putfield 24, 3) := by decide +kernel
theorem dX4_add_30 : decode cX4_add 30 = .ok (.iconst 1, 1) := by decide +kernel
theorem dX4_add_31 : decode cX4_add 31 = .ok (.ireturn, 1) := by decide +kernel
theorem dX4_readSum_0 : decode cX4_readSum 0 = .ok (.aload_n 0, 1) := by decide +kernel
theorem dX4_readSum_1 : decode cX4_readSum 1 = .ok (.aload_n 1, 1) := by decide +kernel
theorem dX4_readSum_2 : decode cX4_readSum 2 = .ok (.iload_n 2, 1) := by decide +kernel
theorem dX4_readSum_3 : decode cX4_readSum 3 = .ok (.invokevirtual 55, 3) := by decide +kernel
theorem dX4_readSum_6 : decode cX4_readSum 6 = .ok (.ifCond .ne 5, 3) := by decide +kernel
theorem dX4_readSum_9 : decode cX4_readSum 9 = .ok (.iconst 0, 1) := by decide +kernel
theorem dX4_readSum_10 : decode cX4_readSum 10 = .ok (.ireturn, 1) := by decide +kernel
theorem dX4_readSum_11 : decode cX4_readSum 11 = .ok (.iconst 0, 1) := by decide +kernel
theorem dX4_readSum_12 : decode cX4_readSum 12 = .ok (.istore_n 3, 1) := by decide +kernel
theorem dX4_readSum_13 : decode cX4_readSum 13 = .ok (.iload_n 3, 1) := by decide +kernel
theorem dX4_readSum_14 : decode cX4_readSum 14 = .ok (.sipush 150, 3) := by decide +kernel
theorem dX4_readSum_17 : decode cX4_readSum 17 = .ok (.if_icmp .ge 59, 3) := by decide +kernel
theorem dX4_readSum_20 : decode cX4_readSum 20 = .ok (.aload_n 1, 1) := by decide +kernel
theorem dX4_readSum_21 : decode cX4_readSum 21 = .ok (.bipush 43, 2) := by decide +kernel
theorem dX4_readSum_23 : decode cX4_readSum 23 = .ok (.invokevirtual 58, 3) := by decide +kernel
theorem dX4_readSum_26 : decode cX4_readSum 26 = .ok (.ifCond .ne 12, 3) := by decide +kernel
theorem dX4_readSum_29 : decode cX4_readSum 29 = .ok (.aload_n 1, 1) := by decide +kernel
theorem dX4_readSum_30 : decode cX4_readSum 30 = .ok (.bipush 45, 2) := by decide +kernel
theorem dX4_readSum_32 : decode cX4_readSum 32 = .ok (.invokevirtual 58, 3) := by decide +kernel
theorem dX4_readSum_35 : decode cX4_readSum 35 = .ok (.ifCond .eq 41, 3) := by decide +kernel
theorem dX4_readSum_38 : decode cX4_readSum 38 = .ok (.aload_n 1, 1) := by decide +kernel
theorem dX4_readSum_39 : decode cX4_readSum 39 = .ok (.invokevirtual 62, 3) := by decide +kernel
theorem dX4_readSum_42 : decode cX4_readSum 42 = .ok (.istore 4, 2) := by decide +kernel
theorem dX4_readSum_44 : decode cX4_readSum 44 = .ok (.aload_n 1, 1) := by decide +kernel
theorem dX4_readSum_45 : decode cX4_readSum 45 = .ok (.invokevirtual 66, 3) := by decide +kernel
theorem dX4_readSum_48 : decode cX4_readSum 48 = .ok (.aload_n 0, 1) := by decide +kernel
theorem dX4_readSum_49 : decode cX4_readSum 49 = .ok (.aload_n 1, 1) := by decide +kernel
theorem dX4_readSum_50 : decode cX4_readSum 50 = .ok (.iload_n 2, 1) := by decide +kernel
theorem dX4_readSum_51 : decode cX4_readSum 51 = .ok (.invokevirtual 55, 3) := by decide +kernel
theorem dX4_readSum_54 : decode cX4_readSum 54 = .ok (.ifCond .ne 5, 3) := by decide +kernel
theorem dX4_readSum_57 : decode cX4_readSum 57 = .ok (.iconst 0, 1) := by decide +kernel
theorem dX4_readSum_58 : decode cX4_readSum 58 = .ok (.ireturn, 1) := by decide +kernel
theorem dX4_readSum_59 : decode cX4_readSum 59 = .ok (.aload_n 0, 1) := by decide +kernel
theorem dX4_readSum_60 : decode cX4_readSum 60 = .ok (.sipush 2000, 3) := by decide +kernel
theorem dX4_readSum_63 : decode cX4_readSum 63 = .ok (.iload 4, 2) := by decide +kernel
theorem dX4_readSum_65 : decode cX4_readSum 65 = .ok (.iadd, 1) := by decide +kernel
theorem dX4_readSum_66 : decode cX4_readSum 66 = .ok (.invokevirtual 28, 3) := by decide +kernel
theorem dX4_readSum_69 : decode cX4_readSum 69 = .ok (.pop, 1) := by decide +kernel
theorem dX4_readSum_70 : decode cX4_readSum 70 = .ok (.iinc 3 1, 3) := by decide +kernel
theorem dX4_readSum_73 : decode cX4_readSum 73 = .ok (.goto (-60), 3) := by decide +kernel
theorem dX4_readSum_76 : decode cX4_readSum 76 = .ok (.iconst 1, 1) := by decide +kernel
theorem dX4_readSum_77 : decode cX4_readSum 77 = .ok (.ireturn, 1) := by decide +kernel
theorem dX4_readProduct_0 : decode cX4_readProduct 0 = .ok (.aload_n 0, 1) := by decide +kernel
theorem dX4_readProduct_1 : decode cX4_readProduct 1 = .ok (.aload_n 1, 1) := by decide +kernel
theorem dX4_readProduct_2 : decode cX4_readProduct 2 = .ok (.iload_n 2, 1) := by decide +kernel
theorem dX4_readProduct_3 : decode cX4_readProduct 3 = .ok (.invokevirtual 69, 3) := by decide +kernel
theorem dX4_readProduct_6 : decode cX4_readProduct 6 = .ok (.ifCond .ne 5, 3) := by decide +kernel
theorem dX4_readProduct_9 : decode cX4_readProduct 9 = .ok (.iconst 0, 1) := by decide +kernel
theorem dX4_readProduct_10 : decode cX4_readProduct 10 = .ok (.ireturn, 1) := by decide +kernel
theorem dX4_readProduct_11 : decode cX4_readProduct 11 = .ok (.iconst 0, 1) := by decide +kernel
theorem dX4_readProduct_12 : decode cX4_readProduct 12 = .ok (.istore_n 3, 1) := by decide +kernel
theorem dX4_readProduct_13 : decode cX4_readProduct 13 = .ok (.iload_n 3, 1) := by decide +kernel
theorem dX4_readProduct_14 : decode cX4_readProduct 14 = .ok (.sipush 150, 3) := by decide +kernel
theorem dX4_readProduct_17 : decode cX4_readProduct 17 = .ok (.if_icmp .ge 68, 3) := by decide +kernel
theorem dX4_readProduct_20 : decode cX4_readProduct 20 = .ok (.aload_n 1, 1) := by decide +kernel
theorem dX4_readProduct_21 : decode cX4_readProduct 21 = .ok (.bipush 42, 2) := by decide +kernel
theorem dX4_readProduct_23 : decode cX4_readProduct 23 = .ok (.invokevirtual 58, 3) := by decide +kernel
theorem dX4_readProduct_26 : decode cX4_readProduct 26 = .ok (.ifCond .ne 21, 3) := by decide +kernel
theorem dX4_readProduct_29 : decode cX4_readProduct 29 = .ok (.aload_n 1, 1) := by decide +kernel
theorem dX4_readProduct_30 : decode cX4_readProduct 30 = .ok (.bipush 47, 2) := by decide +kernel
theorem dX4_readProduct_32 : decode cX4_readProduct 32 = .ok (.invokevirtual 58, 3) := by decide +kernel
theorem dX4_readProduct_35 : decode cX4_readProduct 35 = .ok (.ifCond .ne 12, 3) := by decide +kernel
theorem dX4_readProduct_38 : decode cX4_readProduct 38 = .ok (.aload_n 1, 1) := by decide +kernel
theorem dX4_readProduct_39 : decode cX4_readProduct 39 = .ok (.bipush 37, 2) := by decide +kernel
theorem dX4_readProduct_41 : decode cX4_readProduct 41 = .ok (.invokevirtual 58, 3) := by decide +kernel
theorem dX4_readProduct_44 : decode cX4_readProduct 44 = .ok (.ifCond .eq 41, 3) := by decide +kernel
theorem dX4_readProduct_47 : decode cX4_readProduct 47 = .ok (.aload_n 1, 1) := by decide +kernel
theorem dX4_readProduct_48 : decode cX4_readProduct 48 = .ok (.invokevirtual 62, 3) := by decide +kernel
theorem dX4_readProduct_51 : decode cX4_readProduct 51 = .ok (.istore 4, 2) := by decide +kernel
theorem dX4_readProduct_53 : decode cX4_readProduct 53 = .ok (.aload_n 1, 1) := by decide +kernel
theorem dX4_readProduct_54 : decode cX4_readProduct 54 = .ok (.invokevirtual 66, 3) := by decide +kernel
theorem dX4_readProduct_57 : decode cX4_readProduct 57 = .ok (.aload_n 0, 1) := by decide +kernel
theorem dX4_readProduct_58 : decode cX4_readProduct 58 = .ok (.aload_n 1, 1) := by decide +kernel
theorem dX4_readProduct_59 : decode cX4_readProduct 59 = .ok (.iload_n 2, 1) := by decide +kernel
theorem dX4_readProduct_60 : decode cX4_readProduct 60 = .ok (.invokevirtual 69, 3) := by decide +kernel
theorem dX4_readProduct_63 : decode cX4_readProduct 63 = .ok (.ifCond .ne 5, 3) := by decide +kernel
theorem dX4_readProduct_66 : decode cX4_readProduct 66 = .ok (.iconst 0, 1) := by decide +kernel
theorem dX4_readProduct_67 : decode cX4_readProduct 67 = .ok (.ireturn, 1) := by decide +kernel
theorem dX4_readProduct_68 : decode cX4_readProduct 68 = .ok (.aload_n 0, 1) := by decide +kernel
theorem dX4_readProduct_69 : decode cX4_readProduct 69 = .ok (.sipush 2000, 3) := by decide +kernel
theorem dX4_readProduct_72 : decode cX4_readProduct 72 = .ok (.iload 4, 2) := by decide +kernel
theorem dX4_readProduct_74 : decode cX4_readProduct 74 = .ok (.iadd, 1) := by decide +kernel
theorem dX4_readProduct_75 : decode cX4_readProduct 75 = .ok (.invokevirtual 28, 3) := by decide +kernel
theorem dX4_readProduct_78 : decode cX4_readProduct 78 = .ok (.pop, 1) := by decide +kernel
theorem dX4_readProduct_79 : decode cX4_readProduct 79 = .ok (.iinc 3 1, 3) := by decide +kernel
theorem dX4_readProduct_82 : decode cX4_readProduct 82 = .ok (.goto (-69), 3) := by decide +kernel
theorem dX4_readProduct_85 : decode cX4_readProduct 85 = .ok (.iconst 1, 1) := by decide +kernel
theorem dX4_readProduct_86 : decode cX4_readProduct 86 = .ok (.ireturn, 1) := by decide +kernel
theorem dX4_readUnit_0 : decode cX4_readUnit 0 = .ok (.aload_n 1, 1) := by decide +kernel
theorem dX4_readUnit_1 : decode cX4_readUnit 1 = .ok (.invokevirtual 72, 3) := by decide +kernel
theorem dX4_readUnit_4 : decode cX4_readUnit 4 = .ok (.ifCond .eq 31, 3) := by decide +kernel
theorem dX4_readUnit_7 : decode cX4_readUnit 7 = .ok (.aload_n 1, 1) := by decide +kernel
theorem dX4_readUnit_8 : decode cX4_readUnit 8 = .ok (.iconst 0, 1) := by decide +kernel
theorem dX4_readUnit_9 : decode cX4_readUnit 9 = .ok (.sipush 999, 3) := by decide +kernel
theorem dX4_readUnit_12 : decode cX4_readUnit 12 = .ok (.invokevirtual 75, 3) := by decide +kernel
theorem dX4_readUnit_15 : decode cX4_readUnit 15 = .ok (.istore_n 3, 1) := by decide +kernel
theorem dX4_readUnit_16 : decode cX4_readUnit 16 = .ok (.iload_n 3, 1) := by decide +kernel
theorem dX4_readUnit_17 : decode cX4_readUnit 17 = .ok (.iconst (-1), 1) := by decide +kernel
theorem dX4_readUnit_18 : decode cX4_readUnit 18 = .ok (.if_icmp .eq 15, 3) := by decide +kernel
theorem dX4_readUnit_21 : decode cX4_readUnit 21 = .ok (.aload_n 0, 1) := by decide +kernel
theorem dX4_readUnit_22 : decode cX4_readUnit 22 = .ok (.iload_n 3, 1) := by decide +kernel
theorem dX4_readUnit_23 : decode cX4_readUnit 23 = .ok (.invokevirtual 28, 3) := by decide +kernel
theorem dX4_readUnit_26 : decode cX4_readUnit 26 = .ok (.ifCond .eq 7, 3) := by decide +kernel
theorem dX4_readUnit_29 : decode cX4_readUnit 29 = .ok (.iconst 1, 1) := by decide +kernel
theorem dX4_readUnit_30 : decode cX4_readUnit 30 = .ok (.goto 4, 3) := by decide +kernel
theorem dX4_readUnit_33 : decode cX4_readUnit 33 = .ok (.iconst 0, 1) := by decide +kernel
theorem dX4_readUnit_34 : decode cX4_readUnit 34 = .ok (.ireturn, 1) := by decide +kernel
theorem dX4_readUnit_35 : decode cX4_readUnit 35 = .ok (.aload_n 1, 1) := by decide +kernel
theorem dX4_readUnit_36 : decode cX4_readUnit 36 = .ok (.bipush 40, 2) := by decide +kernel
theorem dX4_readUnit_38 : decode cX4_readUnit 38 = .ok (.invokevirtual 58, 3) := by decide +kernel
theorem dX4_readUnit_41 : decode cX4_readUnit 41 = .ok (.ifCond .eq 10, 3) := by decide +kernel
theorem dX4_readUnit_44 : decode cX4_readUnit 44 = .ok (.aload_n 0, 1) := by decide +kernel
theorem dX4_readUnit_45 : decode cX4_readUnit 45 = .ok (.aload_n 1, 1) := by decide +kernel
theorem dX4_readUnit_46 : decode cX4_readUnit 46 = .ok (.iload_n 2, 1) := by decide +kernel
theorem dX4_readUnit_47 : decode cX4_readUnit 47 = .ok (.invokevirtual 79, 3) := by decide +kernel
theorem dX4_readUnit_50 : decode cX4_readUnit 50 = .ok (.ireturn, 1) := by decide +kernel
theorem dX4_readUnit_51 : decode cX4_readUnit 51 = .ok (.aload_n 1, 1) := by decide +kernel
theorem dX4_readUnit_52 : decode cX4_readUnit 52 = .ok (.invokevirtual 82, 3) := by decide +kernel
theorem dX4_readUnit_55 : decode cX4_readUnit 55 = .ok (.aload_n 1, 1) := by decide +kernel
theorem dX4_readUnit_56 : decode cX4_readUnit 56 = .ok (.ldc 85, 2) := by decide +kernel
theorem dX4_readUnit_58 : decode cX4_readUnit 58 = .ok (.invokevirtual 87, 3) := by decide +kernel
theorem dX4_readUnit_61 : decode cX4_readUnit 61 = .ok (.istore_n 3, 1) := by decide +kernel
theorem dX4_readUnit_62 : decode cX4_readUnit 62 = .ok (.iload_n 3, 1) := by decide +kernel
theorem dX4_readUnit_63 : decode cX4_readUnit 63 = .ok (.ifCond .ne 12, 3) := by decide +kernel
theorem dX4_readUnit_66 : decode cX4_readUnit 66 = .ok (.aload_n 1, 1) := by decide +kernel
theorem dX4_readUnit_67 : decode cX4_readUnit 67 = .ok (.ldc 91, 2) := by decide +kernel
theorem dX4_readUnit_69 : decode cX4_readUnit 69 = .ok (.invokevirtual 87, 3) := by decide +kernel
theorem dX4_readUnit_72 : decode cX4_readUnit 72 = .ok (.ifCond .eq 38, 3) := by decide +kernel
theorem dX4_readUnit_75 : decode cX4_readUnit 75 = .ok (.aload_n 0, 1) := by decide +kernel
theorem dX4_readUnit_76 : decode cX4_readUnit 76 = .ok (.aload_n 1, 1) := by decide +kernel
theorem dX4_readUnit_77 : decode cX4_readUnit 77 = .ok (.iload_n 2, 1) := by decide +kernel
theorem dX4_readUnit_78 : decode cX4_readUnit 78 = .ok (.invokevirtual 93, 3) := by decide +kernel
theorem dX4_readUnit_81 : decode cX4_readUnit 81 = .ok (.ifCond .eq 27, 3) := by decide +kernel
theorem dX4_readUnit_84 : decode cX4_readUnit 84 = .ok (.aload_n 0, 1) := by decide +kernel
theorem dX4_readUnit_85 : decode cX4_readUnit 85 = .ok (.iload_n 3, 1) := by decide +kernel
theorem dX4_readUnit_86 : decode cX4_readUnit 86 = .ok (.ifCond .eq 9, 3) := by decide +kernel
theorem dX4_readUnit_89 : decode cX4_readUnit 89 = .ok (.sipush 2000, 3) := by decide +kernel
theorem dX4_readUnit_92 : decode cX4_readUnit 92 = .ok (.goto 6, 3) := by decide +kernel
theorem dX4_readUnit_95 : decode cX4_readUnit 95 = .ok (.sipush 2001, 3) := by decide +kernel
theorem dX4_readUnit_98 : decode cX4_readUnit 98 = .ok (.invokevirtual 28, 3) := by decide +kernel
theorem dX4_readUnit_101 : decode cX4_readUnit 101 = .ok (.ifCond .eq 7, 3) := by decide +kernel
theorem dX4_readUnit_104 : decode cX4_readUnit 104 = .ok (.iconst 1, 1) := by decide +kernel
theorem dX4_readUnit_105 : decode cX4_readUnit 105 = .ok (.goto 4, 3) := by decide +kernel
theorem dX4_readUnit_108 : decode cX4_readUnit 108 = .ok (.iconst 0, 1) := by decide +kernel
theorem dX4_readUnit_109 : decode cX4_readUnit 109 = .ok (.ireturn, 1) := by decide +kernel
theorem dX4_readUnit_110 : decode cX4_readUnit 110 = .ok (.aload_n 1, 1) := by decide +kernel
theorem dX4_readUnit_111 : decode cX4_readUnit 111 = .ok (.invokestatic 96, 3) := by decide +kernel
theorem dX4_readUnit_114 : decode cX4_readUnit 114 = .ok (.istore 4, 2) := by decide +kernel
theorem dX4_readUnit_116 : decode cX4_readUnit 116 = .ok (.iload 4, 2) := by decide +kernel
theorem dX4_readUnit_118 : decode cX4_readUnit 118 = .ok (.iconst (-1), 1) := by decide +kernel
theorem dX4_readUnit_119 : decode cX4_readUnit 119 = .ok (.if_icmp .ne 11, 3) := by decide +kernel
theorem dX4_readUnit_122 : decode cX4_readUnit 122 = .ok (.aload_n 1, 1) := by decide +kernel
theorem dX4_readUnit_123 : decode cX4_readUnit 123 = .ok (.iconst 1, 1) := by decide +kernel
theorem dX4_readUnit_124 : decode cX4_readUnit 124 = .ok (.invokevirtual 100, 3) := by decide +kernel
theorem dX4_readUnit_127 : decode cX4_readUnit 127 = .ok (.goto 9, 3) := by decide +kernel
theorem dX4_readUnit_130 : decode cX4_readUnit 130 = .ok (.aload_n 0, 1) := by decide +kernel
theorem dX4_readUnit_131 : decode cX4_readUnit 131 = .ok (.iload 4, 2) := by decide +kernel
theorem dX4_readUnit_133 : decode cX4_readUnit 133 = .ok (.invokevirtual 28, 3) := by decide +kernel
theorem dX4_readUnit_136 : decode cX4_readUnit 136 = .ok (.ireturn, 1) := by decide +kernel
theorem dX4_readInner_0 : decode cX4_readInner 0 = .ok (.iload_n 2, 1) := by decide +kernel
theorem dX4_readInner_1 : decode cX4_readInner 1 = .ok (.bipush 6, 2) := by decide +kernel
theorem dX4_readInner_3 : decode cX4_readInner 3 = .ok (.if_icmp .lt 9, 3) := by decide +kernel
theorem dX4_readInner_6 : decode cX4_readInner 6 = .ok (.aload_n 1, 1) := by decide +kernel
theorem dX4_readInner_7 : decode cX4_readInner 7 = .ok (.iconst 3, 1) := by decide +kernel
theorem dX4_readInner_8 : decode cX4_readInner 8 = .ok (.invokevirtual 48, 3) := by decide +kernel
theorem dX4_readInner_11 : decode cX4_readInner 11 = .ok (.ireturn, 1) := by decide +kernel
theorem dX4_readInner_12 : decode cX4_readInner 12 = .ok (.aload_n 1, 1) := by decide +kernel
theorem dX4_readInner_13 : decode cX4_readInner 13 = .ok (.invokevirtual 66, 3) := by decide +kernel
theorem dX4_readInner_16 : decode cX4_readInner 16 = .ok (.aload_n 0, 1) := by decide +kernel
theorem dX4_readInner_17 : decode cX4_readInner 17 = .ok (.aload_n 1, 1) := by decide +kernel
theorem dX4_readInner_18 : decode cX4_readInner 18 = .ok (.iload_n 2, 1) := by decide +kernel
theorem dX4_readInner_19 : decode cX4_readInner 19 = .ok (.iconst 1, 1) := by decide +kernel
theorem dX4_readInner_20 : decode cX4_readInner 20 = .ok (.iadd, 1) := by decide +kernel
theorem dX4_readInner_21 : decode cX4_readInner 21 = .ok (.invokevirtual 38, 3) := by decide +kernel
theorem dX4_readInner_24 : decode cX4_readInner 24 = .ok (.ifCond .eq 16, 3) := by decide +kernel
theorem dX4_readInner_27 : decode cX4_readInner 27 = .ok (.aload_n 1, 1) := by decide +kernel
theorem dX4_readInner_28 : decode cX4_readInner 28 = .ok (.bipush 41, 2) := by decide +kernel
theorem dX4_readInner_30 : decode cX4_readInner 30 = .ok (.invokevirtual 103, 3) := by decide +kernel
theorem dX4_readInner_33 : decode cX4_readInner 33 = .ok (.ifCond .eq 7, 3) := by decide +kernel
theorem dX4_readInner_36 : decode cX4_readInner 36 = .ok (.iconst 1, 1) := by decide +kernel
theorem dX4_readInner_37 : decode cX4_readInner 37 = .ok (.goto 4, 3) := by decide +kernel
theorem dX4_readInner_40 : decode cX4_readInner 40 = .ok (.iconst 0, 1) := by decide +kernel
theorem dX4_readInner_41 : decode cX4_readInner 41 = .ok (.ireturn, 1) := by decide +kernel
theorem dX4_readPair_0 : decode cX4_readPair 0 = .ok (.iload_n 2, 1) := by decide +kernel
theorem dX4_readPair_1 : decode cX4_readPair 1 = .ok (.bipush 6, 2) := by decide +kernel
theorem dX4_readPair_3 : decode cX4_readPair 3 = .ok (.if_icmp .lt 9, 3) := by decide +kernel
theorem dX4_readPair_6 : decode cX4_readPair 6 = .ok (.aload_n 1, 1) := by decide +kernel
theorem dX4_readPair_7 : decode cX4_readPair 7 = .ok (.iconst 3, 1) := by decide +kernel
theorem dX4_readPair_8 : decode cX4_readPair 8 = .ok (.invokevirtual 100, 3) := by decide +kernel
theorem dX4_readPair_11 : decode cX4_readPair 11 = .ok (.ireturn, 1) := by decide +kernel
theorem dX4_readPair_12 : decode cX4_readPair 12 = .ok (.aload_n 1, 1) := by decide +kernel
theorem dX4_readPair_13 : decode cX4_readPair 13 = .ok (.bipush 91, 2) := by decide +kernel
theorem dX4_readPair_15 : decode cX4_readPair 15 = .ok (.invokevirtual 103, 3) := by decide +kernel
theorem dX4_readPair_18 : decode cX4_readPair 18 = .ok (.ifCond .eq 47, 3) := by decide +kernel
theorem dX4_readPair_21 : decode cX4_readPair 21 = .ok (.aload_n 0, 1) := by decide +kernel
theorem dX4_readPair_22 : decode cX4_readPair 22 = .ok (.aload_n 1, 1) := by decide +kernel
theorem dX4_readPair_23 : decode cX4_readPair 23 = .ok (.iload_n 2, 1) := by decide +kernel
theorem dX4_readPair_24 : decode cX4_readPair 24 = .ok (.iconst 1, 1) := by decide +kernel
theorem dX4_readPair_25 : decode cX4_readPair 25 = .ok (.iadd, 1) := by decide +kernel
theorem dX4_readPair_26 : decode cX4_readPair 26 = .ok (.invokevirtual 38, 3) := by decide +kernel
theorem dX4_readPair_29 : decode cX4_readPair 29 = .ok (.ifCond .eq 36, 3) := by decide +kernel
theorem dX4_readPair_32 : decode cX4_readPair 32 = .ok (.aload_n 1, 1) := by decide +kernel
theorem dX4_readPair_33 : decode cX4_readPair 33 = .ok (.bipush 44, 2) := by decide +kernel
theorem dX4_readPair_35 : decode cX4_readPair 35 = .ok (.invokevirtual 103, 3) := by decide +kernel
theorem dX4_readPair_38 : decode cX4_readPair 38 = .ok (.ifCond .eq 27, 3) := by decide +kernel
theorem dX4_readPair_41 : decode cX4_readPair 41 = .ok (.aload_n 0, 1) := by decide +kernel
theorem dX4_readPair_42 : decode cX4_readPair 42 = .ok (.aload_n 1, 1) := by decide +kernel
theorem dX4_readPair_43 : decode cX4_readPair 43 = .ok (.iload_n 2, 1) := by decide +kernel
theorem dX4_readPair_44 : decode cX4_readPair 44 = .ok (.iconst 1, 1) := by decide +kernel
theorem dX4_readPair_45 : decode cX4_readPair 45 = .ok (.iadd, 1) := by decide +kernel
theorem dX4_readPair_46 : decode cX4_readPair 46 = .ok (.invokevirtual 38, 3) := by decide +kernel
theorem dX4_readPair_49 : decode cX4_readPair 49 = .ok (.ifCond .eq 16, 3) := by decide +kernel
theorem dX4_readPair_52 : decode cX4_readPair 52 = .ok (.aload_n 1, 1) := by decide +kernel
theorem dX4_readPair_53 : decode cX4_readPair 53 = .ok (.bipush 93, 2) := by decide +kernel
theorem dX4_readPair_55 : decode cX4_readPair 55 = .ok (.invokevirtual 103, 3) := by decide +kernel
theorem dX4_readPair_58 : decode cX4_readPair 58 = .ok (.ifCond .eq 7, 3) := by decide +kernel
theorem dX4_readPair_61 : decode cX4_readPair 61 = .ok (.iconst 1, 1) := by decide +kernel
theorem dX4_readPair_62 : decode cX4_readPair 62 = .ok (.goto 4, 3) := by decide +kernel
theorem dX4_readPair_65 : decode cX4_readPair 65 = .ok (.iconst 0, 1) := by decide +kernel
theorem dX4_readPair_66 : decode cX4_readPair 66 = .ok (.ireturn, 1) := by decide +kernel
theorem dX4_thingOf_0 : decode cX4_thingOf 0 = .ok (.aload_n 0, 1) := by decide +kernel
theorem dX4_thingOf_1 : decode cX4_thingOf 1 = .ok (.ldc 106, 2) := by decide +kernel
theorem dX4_thingOf_3 : decode cX4_thingOf 3 = .ok (.invokevirtual 87, 3) := by decide +kernel
theorem dX4_thingOf_6 : decode cX4_thingOf 6 = .ok (.ifCond .eq 7, 3) := by decide +kernel
theorem dX4_thingOf_9 : decode cX4_thingOf 9 = .ok (.sipush 1000, 3) := by decide +kernel
theorem dX4_thingOf_12 : decode cX4_thingOf 12 = .ok (.ireturn, 1) := by decide +kernel
theorem dX4_thingOf_13 : decode cX4_thingOf 13 = .ok (.aload_n 0, 1) := by decide +kernel
theorem dX4_thingOf_14 : decode cX4_thingOf 14 = .ok (.ldc 108, 2) := by decide +kernel
theorem dX4_thingOf_16 : decode cX4_thingOf 16 = .ok (.invokevirtual 87, 3) := by decide +kernel
theorem dX4_thingOf_19 : decode cX4_thingOf 19 = .ok (.ifCond .eq 7, 3) := by decide +kernel
theorem dX4_thingOf_22 : decode cX4_thingOf 22 = .ok (.sipush 1001, 3) := by decide +kernel
theorem dX4_thingOf_25 : decode cX4_thingOf 25 = .ok (.ireturn, 1) := by decide +kernel
theorem dX4_thingOf_26 : decode cX4_thingOf 26 = .ok (.aload_n 0, 1) := by decide +kernel
theorem dX4_thingOf_27 : decode cX4_thingOf 27 = .ok (.ldc 110, 2) := by decide +kernel
theorem dX4_thingOf_29 : decode cX4_thingOf 29 = .ok (.invokevirtual 87, 3) := by decide +kernel
theorem dX4_thingOf_32 : decode cX4_thingOf 32 = .ok (.ifCond .eq 7, 3) := by decide +kernel
theorem dX4_thingOf_35 : decode cX4_thingOf 35 = .ok (.sipush 1002, 3) := by decide +kernel
theorem dX4_thingOf_38 : decode cX4_thingOf 38 = .ok (.ireturn, 1) := by decide +kernel
theorem dX4_thingOf_39 : decode cX4_thingOf 39 = .ok (.aload_n 0, 1) := by decide +kernel
theorem dX4_thingOf_40 : decode cX4_thingOf 40 = .ok (.ldc 112, 2) := by decide +kernel
theorem dX4_thingOf_42 : decode cX4_thingOf 42 = .ok (.invokevirtual 87, 3) := by decide +kernel
theorem dX4_thingOf_45 : decode cX4_thingOf 45 = .ok (.ifCond .eq 7, 3) := by decide +kernel
theorem dX4_thingOf_48 : decode cX4_thingOf 48 = .ok (.sipush 1003, 3) := by decide +kernel
theorem dX4_thingOf_51 : decode cX4_thingOf 51 = .ok (.ireturn, 1) := by decide +kernel
theorem dX4_thingOf_52 : decode cX4_thingOf 52 = .ok (.aload_n 0, 1) := by decide +kernel
theorem dX4_thingOf_53 : decode cX4_thingOf 53 = .ok (.ldc 114, 2) := by decide +kernel
theorem dX4_thingOf_55 : decode cX4_thingOf 55 = .ok (.invokevirtual 87, 3) := by decide +kernel
theorem dX4_thingOf_58 : decode cX4_thingOf 58 = .ok (.ifCond .eq 7, 3) := by decide +kernel
theorem dX4_thingOf_61 : decode cX4_thingOf 61 = .ok (.sipush 1004, 3) := by decide +kernel
theorem dX4_thingOf_64 : decode cX4_thingOf 64 = .ok (.ireturn, 1) := by decide +kernel
theorem dX4_thingOf_65 : decode cX4_thingOf 65 = .ok (.aload_n 0, 1) := by decide +kernel
theorem dX4_thingOf_66 : decode cX4_thingOf 66 = .ok (.ldc 116, 2) := by decide +kernel
theorem dX4_thingOf_68 : decode cX4_thingOf 68 = .ok (.invokevirtual 87, 3) := by decide +kernel
theorem dX4_thingOf_71 : decode cX4_thingOf 71 = .ok (.ifCond .eq 7, 3) := by decide +kernel
theorem dX4_thingOf_74 : decode cX4_thingOf 74 = .ok (.sipush 1005, 3) := by decide +kernel
theorem dX4_thingOf_77 : decode cX4_thingOf 77 = .ok (.ireturn, 1) := by decide +kernel
theorem dX4_thingOf_78 : decode cX4_thingOf 78 = .ok (.aload_n 0, 1) := by decide +kernel
theorem dX4_thingOf_79 : decode cX4_thingOf 79 = .ok (.ldc 118, 2) := by decide +kernel
theorem dX4_thingOf_81 : decode cX4_thingOf 81 = .ok (.invokevirtual 87, 3) := by decide +kernel
theorem dX4_thingOf_84 : decode cX4_thingOf 84 = .ok (.ifCond .eq 7, 3) := by decide +kernel
theorem dX4_thingOf_87 : decode cX4_thingOf 87 = .ok (.sipush 1006, 3) := by decide +kernel
theorem dX4_thingOf_90 : decode cX4_thingOf 90 = .ok (.ireturn, 1) := by decide +kernel
theorem dX4_thingOf_91 : decode cX4_thingOf 91 = .ok (.aload_n 0, 1) := by decide +kernel
theorem dX4_thingOf_92 : decode cX4_thingOf 92 = .ok (.ldc 120, 2) := by decide +kernel
theorem dX4_thingOf_94 : decode cX4_thingOf 94 = .ok (.invokevirtual 87, 3) := by decide +kernel
theorem dX4_thingOf_97 : decode cX4_thingOf 97 = .ok (.ifCond .eq 7, 3) := by decide +kernel
theorem dX4_thingOf_100 : decode cX4_thingOf 100 = .ok (.sipush 1007, 3) := by decide +kernel
theorem dX4_thingOf_103 : decode cX4_thingOf 103 = .ok (.ireturn, 1) := by decide +kernel
theorem dX4_thingOf_104 : decode cX4_thingOf 104 = .ok (.aload_n 0, 1) := by decide +kernel
theorem dX4_thingOf_105 : decode cX4_thingOf 105 = .ok (.ldc 122, 2) := by decide +kernel
theorem dX4_thingOf_107 : decode cX4_thingOf 107 = .ok (.invokevirtual 87, 3) := by decide +kernel
theorem dX4_thingOf_110 : decode cX4_thingOf 110 = .ok (.ifCond .eq 9, 3) := by decide +kernel
theorem dX4_thingOf_113 : decode cX4_thingOf 113 = .ok (.sipush 1008, 3) := by decide +kernel
theorem dX4_thingOf_116 : decode cX4_thingOf 116 = .ok (.goto 4, 3) := by decide +kernel
theorem dX4_thingOf_119 : decode cX4_thingOf 119 = .ok (.iconst (-1), 1) := by decide +kernel
theorem dX4_thingOf_120 : decode cX4_thingOf 120 = .ok (.ireturn, 1) := by decide +kernel
theorem dX5_init_0 : decode cX5_init 0 = .ok (.aload_n 0, 1) := by decide +kernel
theorem dX5_init_1 : decode cX5_init 1 = .ok (.invokespecial 3, 3) := by decide +kernel
theorem dX5_init_4 : decode cX5_init 4 = .ok (.aload_n 0, 1) := by decide +kernel
theorem dX5_init_5 : decode cX5_init 5 = .ok (.new 9, 3) := by decide +kernel
theorem dX5_init_8 : decode cX5_init 8 = .ok (.dup, 1) := by decide +kernel
theorem dX5_init_9 : decode cX5_init 9 = .ok (.invokespecial 11, 3) := by decide +kernel
theorem dX5_init_12 : decode cX5_init 12 = .ok (.putfield 12, 3) := by decide +kernel
theorem dX5_init_15 : decode cX5_init 15 = .ok (.aload_n 0, 1) := by decide +kernel
theorem dX5_init_16 : decode cX5_init 16 = .ok (.bipush 16, 2) := by decide +kernel
theorem dX5_init_18 : decode cX5_init 18 = .ok (.anewarray 9, 3) := by decide +kernel
theorem dX5_init_21 : decode cX5_init 21 = .ok (.putfield 18, 3) := by decide +kernel
theorem dX5_init_24 : decode cX5_init 24 = .ok (.iconst 0, 1) := by decide +kernel
theorem dX5_init_25 : decode cX5_init 25 = .ok (.istore_n 1, 1) := by decide +kernel
theorem dX5_init_26 : decode cX5_init 26 = .ok (.iload_n 1, 1) := by decide +kernel
theorem dX5_init_27 : decode cX5_init 27 = .ok (.bipush 16, 2) := by decide +kernel
theorem dX5_init_29 : decode cX5_init 29 = .ok (.if_icmp .ge 22, 3) := by decide +kernel
theorem dX5_init_32 : decode cX5_init 32 = .ok (.aload_n 0, 1) := by decide +kernel
theorem dX5_init_33 : decode cX5_init 33 = .ok (.getfield 18, 3) := by decide +kernel
theorem dX5_init_36 : decode cX5_init 36 = .ok (.iload_n 1, 1) := by decide +kernel
theorem dX5_init_37 : decode cX5_init 37 = .ok (.new 9, 3) := by decide +kernel
theorem dX5_init_40 : decode cX5_init 40 = .ok (.dup, 1) := by decide +kernel
theorem dX5_init_41 : decode cX5_init 41 = .ok (.invokespecial 11, 3) := by decide +kernel
theorem dX5_init_44 : decode cX5_init 44 = .ok (.aastore, 1) := by decide +kernel
theorem dX5_init_45 : decode cX5_init 45 = .ok (.iinc 1 1, 3) := by decide +kernel
theorem dX5_init_48 : decode cX5_init 48 = .ok (.goto (-22), 3) := by decide +kernel
theorem dX5_init_51 : decode cX5_init 51 = .ok (.return_, 1) := by decide +kernel
theorem dX5_clear_0 : decode cX5_clear 0 = .ok (.aload_n 0, 1) := by decide +kernel
theorem dX5_clear_1 : decode cX5_clear 1 = .ok (.getfield 12, 3) := by decide +kernel
theorem dX5_clear_4 : decode cX5_clear 4 = .ok (.invokevirtual 22, 3) := by decide +kernel
theorem dX5_clear_7 : decode cX5_clear 7 = .ok (.aload_n 0, 1) := by decide +kernel
theorem dX5_clear_8 : decode cX5_clear 8 = .ok (.iconst 0, 1) := by decide +kernel
theorem dX5_clear_9 : decode cX5_clear 9 = .ok (.putfield 25, 3) := by decide +kernel
theorem dX5_clear_12 : decode cX5_clear 12 = .ok (.return_, 1) := by decide +kernel
theorem dX5_copyFrom_0 : decode cX5_copyFrom 0 = .ok (.aload_n 0, 1) := by decide +kernel
theorem dX5_copyFrom_1 : decode cX5_copyFrom 1 = .ok (.getfield 12, 3) := by decide +kernel
theorem dX5_copyFrom_4 : decode cX5_copyFrom 4 = .ok (.aload_n 1, 1) := by decide +kernel
theorem dX5_copyFrom_5 : decode cX5_copyFrom 5 = .ok (.getfield 12, 3) := by decide +kernel
theorem dX5_copyFrom_8 : decode cX5_copyFrom 8 = .ok (.invokevirtual 29, 3) := by decide +kernel
theorem dX5_copyFrom_11 : decode cX5_copyFrom 11 = .ok (.iconst 0, 1) := by decide +kernel
theorem dX5_copyFrom_12 : decode cX5_copyFrom 12 = .ok (.istore_n 2, 1) := by decide +kernel
theorem dX5_copyFrom_13 : decode cX5_copyFrom 13 = .ok (.iload_n 2, 1) := by decide +kernel
theorem dX5_copyFrom_14 : decode cX5_copyFrom 14 = .ok (.aload_n 1, 1) := by decide +kernel
theorem dX5_copyFrom_15 : decode cX5_copyFrom 15 = .ok (.getfield 25, 3) := by decide +kernel
theorem dX5_copyFrom_18 : decode cX5_copyFrom 18 = .ok (.if_icmp .ge 30, 3) := by decide +kernel
theorem dX5_copyFrom_21 : decode cX5_copyFrom 21 = .ok (.iload_n 2, 1) := by decide +kernel
theorem dX5_copyFrom_22 : decode cX5_copyFrom 22 = .ok (.bipush 16, 2) := by decide +kernel
theorem dX5_copyFrom_24 : decode cX5_copyFrom 24 = .ok (.if_icmp .ge 24, 3) := by decide +kernel
theorem dX5_copyFrom_27 : decode cX5_copyFrom 27 = .ok (.aload_n 0, 1) := by decide +kernel
theorem dX5_copyFrom_28 : decode cX5_copyFrom 28 = .ok (.getfield 18, 3) := by decide +kernel
theorem dX5_copyFrom_31 : decode cX5_copyFrom 31 = .ok (.iload_n 2, 1) := by decide +kernel
theorem dX5_copyFrom_32 : decode cX5_copyFrom 32 = .ok (.aaload, 1) := by decide +kernel
theorem dX5_copyFrom_33 : decode cX5_copyFrom 33 = .ok (.aload_n 1, 1) := by decide +kernel
theorem dX5_copyFrom_34 : decode cX5_copyFrom 34 = .ok (.getfield 18, 3) := by decide +kernel
theorem dX5_copyFrom_37 : decode cX5_copyFrom 37 = .ok (.iload_n 2, 1) := by decide +kernel
theorem dX5_copyFrom_38 : decode cX5_copyFrom 38 = .ok (.aaload, 1) := by decide +kernel
theorem dX5_copyFrom_39 : decode cX5_copyFrom 39 = .ok (.invokevirtual 29, 3) := by decide +kernel
theorem dX5_copyFrom_42 : decode cX5_copyFrom 42 = .ok (.iinc 2 1, 3) := by decide +kernel
theorem dX5_copyFrom_45 : decode cX5_copyFrom 45 = .ok (.goto (-32), 3) := by decide +kernel
theorem dX5_copyFrom_48 : decode cX5_copyFrom 48 = .ok (.aload_n 0, 1) := by decide +kernel
theorem dX5_copyFrom_49 : decode cX5_copyFrom 49 = .ok (.aload_n 1, 1) := by decide +kernel
theorem dX5_copyFrom_50 : decode cX5_copyFrom 50 = .ok (.getfield 25, 3) := by decide +kernel
theorem dX5_copyFrom_53 : decode cX5_copyFrom 53 = .ok (.putfield 25, 3) := by decide +kernel
theorem dX5_copyFrom_56 : decode cX5_copyFrom 56 = .ok (.return_, 1) := by decide +kernel
theorem dX5_keepNow_0 : decode cX5_keepNow 0 = .ok (.aload_n 0, 1) := by decide +kernel
theorem dX5_keepNow_1 : decode cX5_keepNow 1 = .ok (.getfield 25, 3) := by decide +kernel
theorem dX5_keepNow_4 : decode cX5_keepNow 4 = .ok (.bipush 16, 2) := by decide +kernel
theorem dX5_keepNow_6 : decode cX5_keepNow 6 = .ok (.if_icmp .ge 29, 3) := by decide +kernel
theorem dX5_keepNow_9 : decode cX5_keepNow 9 = .ok (.aload_n 0, 1) := by decide +kernel
theorem dX5_keepNow_10 : decode cX5_keepNow 10 = .ok (.getfield 18, 3) := by decide +kernel
theorem dX5_keepNow_13 : decode cX5_keepNow 13 = .ok (.aload_n 0, 1) := by decide +kernel
theorem dX5_keepNow_14 : decode cX5_keepNow 14 = .ok (.getfield 25, 3) := by decide +kernel
theorem dX5_keepNow_17 : decode cX5_keepNow 17 = .ok (.aaload, 1) := by decide +kernel
theorem dX5_keepNow_18 : decode cX5_keepNow 18 = .ok (.aload_n 0, 1) := by decide +kernel
theorem dX5_keepNow_19 : decode cX5_keepNow 19 = .ok (.getfield 12, 3) := by decide +kernel
theorem dX5_keepNow_22 : decode cX5_keepNow 22 = .ok (.invokevirtual 29, 3) := by decide +kernel
theorem dX5_keepNow_25 : decode cX5_keepNow 25 = .ok (.aload_n 0, 1) := by decide +kernel
theorem dX5_keepNow_26 : decode cX5_keepNow 26 = .ok (.dup, 1) := by decide +kernel
theorem dX5_keepNow_27 : decode cX5_keepNow 27 = .ok (.getfield 25, 3) := by decide +kernel
theorem dX5_keepNow_30 : decode cX5_keepNow 30 = .ok (.iconst 1, 1) := by decide +kernel
theorem dX5_keepNow_31 : decode cX5_keepNow 31 = .ok (.iadd, 1) := by decide +kernel
theorem dX5_keepNow_32 : decode cX5_keepNow 32 = .ok (.putfield 25, 3) := by decide +kernel
theorem dX5_keepNow_35 : decode cX5_keepNow 35 = .ok (.return_, 1) := by decide +kernel
theorem dX5_takeBack_0 : decode cX5_takeBack 0 = .ok (.aload_n 0, 1) := by decide +kernel
theorem dX5_takeBack_1 : decode cX5_takeBack 1 = .ok (.getfield 25, 3) := by decide +kernel
theorem dX5_takeBack_4 : decode cX5_takeBack 4 = .ok (.ifCond .le 29, 3) := by decide +kernel
theorem dX5_takeBack_7 : decode cX5_takeBack 7 = .ok (.aload_n 0, 1) := by decide +kernel
theorem dX5_takeBack_8 : decode cX5_takeBack 8 = .ok (.dup, 1) := by decide +kernel
theorem dX5_takeBack_9 : decode cX5_takeBack 9 = .ok (.getfield 25, 3) := by decide +kernel
theorem dX5_takeBack_12 : decode cX5_takeBack 12 = .ok (.iconst 1, 1) := by decide +kernel
theorem dX5_takeBack_13 : decode cX5_takeBack 13 = .ok (.isub, 1) := by decide +kernel
theorem dX5_takeBack_14 : decode cX5_takeBack 14 = .ok (.putfield 25, 3) := by decide +kernel
theorem dX5_takeBack_17 : decode cX5_takeBack 17 = .ok (.aload_n 0, 1) := by decide +kernel
theorem dX5_takeBack_18 : decode cX5_takeBack 18 = .ok (.getfield 12, 3) := by decide +kernel
theorem dX5_takeBack_21 : decode cX5_takeBack 21 = .ok (.aload_n 0, 1) := by decide +kernel
theorem dX5_takeBack_22 : decode cX5_takeBack 22 = .ok (.getfield 18, 3) := by decide +kernel
theorem dX5_takeBack_25 : decode cX5_takeBack 25 = .ok (.aload_n 0, 1) := by decide +kernel
theorem dX5_takeBack_26 : decode cX5_takeBack 26 = .ok (.getfield 25, 3) := by decide +kernel
theorem dX5_takeBack_29 : decode cX5_takeBack 29 = .ok (.aaload, 1) := by decide +kernel
theorem dX5_takeBack_30 : decode cX5_takeBack 30 = .ok (.invokevirtual 29, 3) := by decide +kernel
theorem dX5_takeBack_33 : decode cX5_takeBack 33 = .ok (.return_, 1) := by decide +kernel
theorem dX6_init_0 : decode cX6_init 0 = .ok (.aload_n 0, 1) := by decide +kernel
theorem dX6_init_1 : decode cX6_init 1 = .ok (.invokespecial 3, 3) := by decide +kernel
theorem dX6_init_4 : decode cX6_init 4 = .ok (.aload_n 0, 1) := by decide +kernel
theorem dX6_init_5 : decode cX6_init 5 = .ok (.sipush 150, 3) := by decide +kernel
theorem dX6_init_8 : decode cX6_init 8 = .ok (.newarray .int, 2) := by decide +kernel
theorem dX6_init_10 : decode cX6_init 10 = .ok (.putfield 9, 3) := by decide +kernel
theorem dX6_init_13 : decode cX6_init 13 = .ok (.aload_n 0, 1) := by decide +kernel
theorem dX6_init_14 : decode cX6_init 14 = .ok (.sipush 150, 3) := by decide +kernel
theorem dX6_init_17 : decode cX6_init 17 = .ok (.newarray .int, 2) := by decide +kernel
theorem dX6_init_19 : decode cX6_init 19 = .ok (.putfield 15, 3) := by decide +kernel
theorem dX6_init_22 : decode cX6_init 22 = .ok (.aload_n 0, 1) := by decide +kernel
theorem dX6_init_23 : decode cX6_init 23 = .ok (.sipush 150, 3) := by decide +kernel
theorem dX6_init_26 : decode cX6_init 26 = .ok (.newarray .int, 2) := by decide +kernel
theorem dX6_init_28 : decode cX6_init 28 = .ok (.putfield 18, 3) := by decide +kernel
theorem dX6_init_31 : decode cX6_init 31 = .ok (.aload_n 0, 1) := by decide +kernel
theorem dX6_init_32 : decode cX6_init 32 = .ok (.bipush 6, 2) := by decide +kernel
theorem dX6_init_34 : decode cX6_init 34 = .ok (.newarray .int, 2) := by decide +kernel
theorem dX6_init_36 : decode cX6_init 36 = .ok (.putfield 21, 3) := by decide +kernel
theorem dX6_init_39 : decode cX6_init 39 = .ok (.return_, 1) := by decide +kernel
theorem dX6_readFrom_0 : decode cX6_readFrom 0 = .ok (.aload_n 0, 1) := by decide +kernel
theorem dX6_readFrom_1 : decode cX6_readFrom 1 = .ok (.iconst 0, 1) := by decide +kernel
theorem dX6_readFrom_2 : decode cX6_readFrom 2 = .ok (.putfield 24, 3) := by decide +kernel
theorem dX6_readFrom_5 : decode cX6_readFrom 5 = .ok (.aload_n 0, 1) := by decide +kernel
theorem dX6_readFrom_6 : decode cX6_readFrom 6 = .ok (.aload_n 1, 1) := by decide +kernel
theorem dX6_readFrom_7 : decode cX6_readFrom 7 = .ok (.aload_n 2, 1) := by decide +kernel
theorem dX6_readFrom_8 : decode cX6_readFrom 8 = .ok (.iconst 0, 1) := by decide +kernel
theorem dX6_readFrom_9 : decode cX6_readFrom 9 = .ok (.invokevirtual 28, 3) := by decide +kernel
theorem dX6_readFrom_12 : decode cX6_readFrom 12 = .ok (.ireturn, 1) := by decide +kernel
theorem dX6_carryOut_0 : decode cX6_carryOut 0 = .ok (.iconst 0, 1) := by decide +kernel
theorem dX6_carryOut_1 : decode cX6_carryOut 1 = .ok (.istore_n 3, 1) := by decide +kernel
theorem dX6_carryOut_2 : decode cX6_carryOut 2 = .ok (.iconst 0, 1) := by decide +kernel
theorem dX6_carryOut_3 : decode cX6_carryOut 3 = .ok (.istore 4, 2) := by decide +kernel
theorem dX6_carryOut_5 : decode cX6_carryOut 5 = .ok (.iconst 0, 1) := by decide +kernel
theorem dX6_carryOut_6 : decode cX6_carryOut 6 = .ok (.istore 5, 2) := by decide +kernel
theorem dX6_carryOut_8 : decode cX6_carryOut 8 = .ok (.aload_n 0, 1) := by decide +kernel
theorem dX6_carryOut_9 : decode cX6_carryOut 9 = .ok (.iconst 0, 1) := by decide +kernel
theorem dX6_carryOut_10 : decode cX6_carryOut 10 = .ok (.putfield 32, 3) := by decide +kernel
theorem dX6_carryOut_13 : decode cX6_carryOut 13 = .ok (.aload_n 0, 1) := by decide +kernel
theorem dX6_carryOut_14 : decode cX6_carryOut 14 = .ok (.iconst 0, 1) := by decide +kernel
theorem dX6_carryOut_15 : decode cX6_carryOut 15 = .ok (.putfield 35, 3) := by decide +kernel
theorem dX6_carryOut_18 : decode cX6_carryOut 18 = .ok (.iconst 0, 1) := by decide +kernel
theorem dX6_carryOut_19 : decode cX6_carryOut 19 = .ok (.istore 6, 2) := by decide +kernel
theorem dX6_carryOut_21 : decode cX6_carryOut 21 = .ok (.iload 6, 2) := by decide +kernel
theorem dX6_carryOut_23 : decode cX6_carryOut 23 = .ok (.ldc 38, 2) := by decide +kernel
theorem dX6_carryOut_25 : decode cX6_carryOut 25 = .ok (.if_icmp .ge 106, 3) := by decide +kernel
theorem dX6_carryOut_28 : decode cX6_carryOut 28 = .ok (.iload 5, 2) := by decide +kernel
theorem dX6_carryOut_30 : decode cX6_carryOut 30 = .ok (.aload_n 0, 1) := by decide +kernel
theorem dX6_carryOut_31 : decode cX6_carryOut 31 = .ok (.getfield 24, 3) := by decide +kernel
theorem dX6_carryOut_34 : decode cX6_carryOut 34 = .ok (.if_icmp .ge 97, 3) := by decide +kernel
theorem dX6_carryOut_37 : decode cX6_carryOut 37 = .ok (.aload_n 0, 1) := by decide +kernel
theorem dX6_carryOut_38 : decode cX6_carryOut 38 = .ok (.getfield 9, 3) := by decide +kernel
theorem dX6_carryOut_41 : decode cX6_carryOut 41 = .ok (.iload 5, 2) := by decide +kernel
theorem dX6_carryOut_43 : decode cX6_carryOut 43 = .ok (.iaload, 1) := by decide +kernel
theorem dX6_carryOut_44 : decode cX6_carryOut 44 = .ok (.bipush 6, 2) := by decide +kernel
theorem dX6_carryOut_46 : decode cX6_carryOut 46 = .ok (.if_icmp .ne 14, 3) := by decide +kernel
theorem dX6_carryOut_49 : decode cX6_carryOut 49 = .ok (.aload_n 0, 1) := by decide +kernel
theorem dX6_carryOut_50 : decode cX6_carryOut 50 = .ok (.iload 5, 2) := by decide +kernel
theorem dX6_carryOut_52 : decode cX6_carryOut 52 = .ok (.invokevirtual 39, 3) := by decide +kernel
theorem dX6_carryOut_55 : decode cX6_carryOut 55 = .ok (.istore 5, 2) := by decide +kernel
theorem dX6_carryOut_57 : decode cX6_carryOut 57 = .ok (.goto 68, 3) := by decide +kernel
theorem dX6_carryOut_60 : decode cX6_carryOut 60 = .ok (.iload_n 3, 1) := by decide +kernel
theorem dX6_carryOut_61 : decode cX6_carryOut 61 = .ok (.sipush 200, 3) := by decide +kernel
theorem dX6_carryOut_64 : decode cX6_carryOut 64 = .ok (.if_icmp .lt 6, 3) := by decide +kernel
theorem dX6_carryOut_67 : decode cX6_carryOut 67 = .ok (.goto 64, 3) := by decide +kernel
theorem dX6_carryOut_70 : decode cX6_carryOut 70 = .ok (.iinc 3 1, 3) := by decide +kernel
theorem dX6_carryOut_73 : decode cX6_carryOut 73 = .ok (.aload_n 0, 1) := by decide +kernel
theorem dX6_carryOut_74 : decode cX6_carryOut 74 = .ok (.getfield 9, 3) := by decide +kernel
theorem dX6_carryOut_77 : decode cX6_carryOut 77 = .ok (.iload 5, 2) := by decide +kernel
theorem dX6_carryOut_79 : decode cX6_carryOut 79 = .ok (.iaload, 1) := by decide +kernel
theorem dX6_carryOut_80 : decode cX6_carryOut 80 = .ok (.iconst 5, 1) := by decide +kernel
theorem dX6_carryOut_81 : decode cX6_carryOut 81 = .ok (.if_icmp .ne 14, 3) := by decide +kernel
theorem dX6_carryOut_84 : decode cX6_carryOut 84 = .ok (.aload_n 0, 1) := by decide +kernel
theorem dX6_carryOut_85 : decode cX6_carryOut 85 = .ok (.iload 5, 2) := by decide +kernel
theorem dX6_carryOut_87 : decode cX6_carryOut 87 = .ok (.invokevirtual 43, 3) := by decide +kernel
theorem dX6_carryOut_90 : decode cX6_carryOut 90 = .ok (.istore 5, 2) := by decide +kernel
theorem dX6_carryOut_92 : decode cX6_carryOut 92 = .ok (.goto 33, 3) := by decide +kernel
theorem dX6_carryOut_95 : decode cX6_carryOut 95 = .ok (.aload_n 0, 1) := by decide +kernel
theorem dX6_carryOut_96 : decode cX6_carryOut 96 = .ok (.aload_n 1, 1) := by decide +kernel
theorem dX6_carryOut_97 : decode cX6_carryOut 97 = .ok (.aload_n 2, 1) := by decide +kernel
theorem dX6_carryOut_98 : decode cX6_carryOut 98 = .ok (.iload 5, 2) := by decide +kernel
theorem dX6_carryOut_100 : decode cX6_carryOut 100 = .ok (.invokevirtual 46, 3) := by decide +kernel
theorem dX6_carryOut_103 : decode cX6_carryOut 103 = .ok (.ifCond .eq 9, 3) := by decide +kernel
theorem dX6_carryOut_106 : decode cX6_carryOut 106 = .ok (.iinc 4 1, 3) := by decide +kernel
theorem dX6_carryOut_109 : decode cX6_carryOut 109 = .ok (.goto 13, 3) := by decide +kernel
theorem dX6_carryOut_112 : decode cX6_carryOut 112 = .ok (.aload_n 0, 1) := by decide +kernel
theorem dX6_carryOut_113 : decode cX6_carryOut 113 = .ok (.dup, 1) := by decide +kernel
theorem dX6_carryOut_114 : decode cX6_carryOut 114 = .ok (.getfield 35, 3) := by decide +kernel
theorem dX6_carryOut_117 : decode cX6_carryOut 117 = .ok (.iconst 1, 1) := by decide +kernel
theorem dX6_carryOut_118 : decode cX6_carryOut 118 = .ok (.iadd, 1) := by decide +kernel
theorem dX6_carryOut_119 : decode cX6_carryOut 119 = .ok (.putfield 35, 3) := by decide +kernel
theorem dX6_carryOut_122 : decode cX6_carryOut 122 = .ok (.iinc 5 1, 3) := by decide +kernel
theorem dX6_carryOut_125 : decode cX6_carryOut 125 = .ok (.iinc 6 1, 3) := by decide +kernel
theorem dX6_carryOut_128 : decode cX6_carryOut 128 = .ok (.goto (-107), 3) := by decide +kernel
theorem dX6_carryOut_131 : decode cX6_carryOut 131 = .ok (.iload 4, 2) := by decide +kernel
theorem dX6_carryOut_133 : decode cX6_carryOut 133 = .ok (.ireturn, 1) := by decide +kernel
theorem dX6_enter_0 : decode cX6_enter 0 = .ok (.aload_n 0, 1) := by decide +kernel
theorem dX6_enter_1 : decode cX6_enter 1 = .ok (.getfield 15, 3) := by decide +kernel
theorem dX6_enter_4 : decode cX6_enter 4 = .ok (.iload_n 1, 1) := by decide +kernel
theorem dX6_enter_5 : decode cX6_enter 5 = .ok (.iaload, 1) := by decide +kernel
theorem dX6_enter_6 : decode cX6_enter 6 = .ok (.ifCond .eq 12, 3) := by decide +kernel
theorem dX6_enter_9 : decode cX6_enter 9 = .ok (.aload_n 0, 1) := by decide +kernel
theorem dX6_enter_10 : decode cX6_enter 10 = .ok (.getfield 32, 3) := by decide +kernel
theorem dX6_enter_13 : decode cX6_enter 13 = .ok (.bipush 6, 2) := by decide +kernel
theorem dX6_enter_15 : decode cX6_enter 15 = .ok (.if_icmp .lt 12, 3) := by decide +kernel
theorem dX6_enter_18 : decode cX6_enter 18 = .ok (.aload_n 0, 1) := by decide +kernel
theorem dX6_enter_19 : decode cX6_enter 19 = .ok (.getfield 18, 3) := by decide +kernel
theorem dX6_enter_22 : decode cX6_enter 22 = .ok (.iload_n 1, 1) := by decide +kernel
theorem dX6_enter_23 : decode cX6_enter 23 = .ok (.iaload, 1) := by decide +kernel
theorem dX6_enter_24 : decode cX6_enter 24 = .ok (.iconst 1, 1) := by decide +kernel
theorem dX6_enter_25 : decode cX6_enter 25 = .ok (.iadd, 1) := by decide +kernel
theorem dX6_enter_26 : decode cX6_enter 26 = .ok (.ireturn, 1) := by decide +kernel
theorem dX6_enter_27 : decode cX6_enter 27 = .ok (.aload_n 0, 1) := by decide +kernel
theorem dX6_enter_28 : decode cX6_enter 28 = .ok (.getfield 21, 3) := by decide +kernel
theorem dX6_enter_31 : decode cX6_enter 31 = .ok (.aload_n 0, 1) := by decide +kernel
theorem dX6_enter_32 : decode cX6_enter 32 = .ok (.getfield 32, 3) := by decide +kernel
theorem dX6_enter_35 : decode cX6_enter 35 = .ok (.aload_n 0, 1) := by decide +kernel
theorem dX6_enter_36 : decode cX6_enter 36 = .ok (.getfield 15, 3) := by decide +kernel
theorem dX6_enter_39 : decode cX6_enter 39 = .ok (.iload_n 1, 1) := by decide +kernel
theorem dX6_enter_40 : decode cX6_enter 40 = .ok (.iaload, 1) := by decide +kernel
theorem dX6_enter_41 : decode cX6_enter 41 = .ok (.iconst 1, 1) := by decide +kernel
theorem dX6_enter_42 : decode cX6_enter 42 = .ok (.isub, 1) := by decide +kernel
theorem dX6_enter_43 : decode cX6_enter 43 = .ok (.iastore, 1) := by decide +kernel
theorem dX6_enter_44 : decode cX6_enter 44 = .ok (.aload_n 0, 1) := by decide +kernel
theorem dX6_enter_45 : decode cX6_enter 45 = .ok (.dup, 1) := by decide +kernel
theorem dX6_enter_46 : decode cX6_enter 46 = .ok (.getfield 32, 3) := by decide +kernel
theorem dX6_enter_49 : decode cX6_enter 49 = .ok (.iconst 1, 1) := by decide +kernel
theorem dX6_enter_50 : decode cX6_enter 50 = .ok (.iadd, 1) := by decide +kernel
theorem dX6_enter_51 : decode cX6_enter 51 = .ok (.putfield 32, 3) := by decide +kernel
theorem dX6_enter_54 : decode cX6_enter 54 = .ok (.iload_n 1, 1) := by decide +kernel
theorem dX6_enter_55 : decode cX6_enter 55 = .ok (.iconst 1, 1) := by decide +kernel
theorem dX6_enter_56 : decode cX6_enter 56 = .ok (.iadd, 1) := by decide +kernel
theorem dX6_enter_57 : decode cX6_enter 57 = .ok (.ireturn, 1) := by decide +kernel
theorem dX6_turn_0 : decode cX6_turn 0 = .ok (.aload_n 0, 1) := by decide +kernel
theorem dX6_turn_1 : decode cX6_turn 1 = .ok (.getfield 32, 3) := by decide +kernel
theorem dX6_turn_4 : decode cX6_turn 4 = .ok (.ifCond .le 41, 3) := by decide +kernel
theorem dX6_turn_7 : decode cX6_turn 7 = .ok (.aload_n 0, 1) := by decide +kernel
theorem dX6_turn_8 : decode cX6_turn 8 = .ok (.getfield 21, 3) := by decide +kernel
theorem dX6_turn_11 : decode cX6_turn 11 = .ok (.aload_n 0, 1) := by decide +kernel
theorem dX6_turn_12 : decode cX6_turn 12 = .ok (.getfield 32, 3) := by decide +kernel
theorem dX6_turn_15 : decode cX6_turn 15 = .ok (.iconst 1, 1) := by decide +kernel
theorem dX6_turn_16 : decode cX6_turn 16 = .ok (.isub, 1) := by decide +kernel
theorem dX6_turn_17 : decode cX6_turn 17 = .ok (.iaload, 1) := by decide +kernel
theorem dX6_turn_18 : decode cX6_turn 18 = .ok (.ifCond .le 27, 3) := by decide +kernel
theorem dX6_turn_21 : decode cX6_turn 21 = .ok (.aload_n 0, 1) := by decide +kernel
theorem dX6_turn_22 : decode cX6_turn 22 = .ok (.getfield 21, 3) := by decide +kernel
theorem dX6_turn_25 : decode cX6_turn 25 = .ok (.aload_n 0, 1) := by decide +kernel
theorem dX6_turn_26 : decode cX6_turn 26 = .ok (.getfield 32, 3) := by decide +kernel
theorem dX6_turn_29 : decode cX6_turn 29 = .ok (.iconst 1, 1) := by decide +kernel
theorem dX6_turn_30 : decode cX6_turn 30 = .ok (.isub, 1) := by decide +kernel
theorem dX6_turn_31 : decode cX6_turn 31 = .ok (.dup2, 1) := by decide +kernel
theorem dX6_turn_32 : decode cX6_turn 32 = .ok (.iaload, 1) := by decide +kernel
theorem dX6_turn_33 : decode cX6_turn 33 = .ok (.iconst 1, 1) := by decide +kernel
theorem dX6_turn_34 : decode cX6_turn 34 = .ok (.isub, 1) := by decide +kernel
theorem dX6_turn_35 : decode cX6_turn 35 = .ok (.iastore, 1) := by decide +kernel
theorem dX6_turn_36 : decode cX6_turn 36 = .ok (.aload_n 0, 1) := by decide +kernel
theorem dX6_turn_37 : decode cX6_turn 37 = .ok (.getfield 15, 3) := by decide +kernel
theorem dX6_turn_40 : decode cX6_turn 40 = .ok (.iload_n 1, 1) := by decide +kernel
theorem dX6_turn_41 : decode cX6_turn 41 = .ok (.iaload, 1) := by decide +kernel
theorem dX6_turn_42 : decode cX6_turn 42 = .ok (.iconst 1, 1) := by decide +kernel
theorem dX6_turn_43 : decode cX6_turn 43 = .ok (.iadd, 1) := by decide +kernel
theorem dX6_turn_44 : decode cX6_turn 44 = .ok (.ireturn, 1) := by decide +kernel
theorem dX6_turn_45 : decode cX6_turn 45 = .ok (.aload_n 0, 1) := by decide +kernel
theorem dX6_turn_46 : decode cX6_turn 46 = .ok (.iconst 0, 1) := by decide +kernel
theorem dX6_turn_47 : decode cX6_turn 47 = .ok (.aload_n 0, 1) := by decide +kernel
theorem dX6_turn_48 : decode cX6_turn 48 = .ok (.getfield 32, 3) := by decide +kernel
theorem dX6_turn_51 : decode cX6_turn 51 = .ok (.iconst 1, 1) := by decide +kernel
theorem dX6_turn_52 : decode cX6_turn 52 = .ok (.isub, 1) := by decide +kernel
theorem dX6_turn_53 : decode cX6_turn 53 = .ok (.invokestatic 50, 3) := by decide +kernel
theorem dX6_turn_56 : decode cX6_turn 56 = .ok (.putfield 32, 3) := by decide +kernel
theorem dX6_turn_59 : decode cX6_turn 59 = .ok (.iload_n 1, 1) := by decide +kernel
theorem dX6_turn_60 : decode cX6_turn 60 = .ok (.iconst 1, 1) := by decide +kernel
theorem dX6_turn_61 : decode cX6_turn 61 = .ok (.iadd, 1) := by decide +kernel
theorem dX6_turn_62 : decode cX6_turn 62 = .ok (.ireturn, 1) := by decide +kernel
theorem dX6_begin_0 : decode cX6_begin 0 = .ok (.aload_n 0, 1) := by decide +kernel
theorem dX6_begin_1 : decode cX6_begin 1 = .ok (.getfield 9, 3) := by decide +kernel
theorem dX6_begin_4 : decode cX6_begin 4 = .ok (.iload_n 3, 1) := by decide +kernel
theorem dX6_begin_5 : decode cX6_begin 5 = .ok (.iaload, 1) := by decide +kernel
theorem dX6_begin_6 : decode cX6_begin 6 = .ok (.tableswitch 88 0 3 #[30, 48, 65, 77], 30) := by decide +kernel
theorem dX6_begin_36 : decode cX6_begin 36 = .ok (.aload_n 1, 1) := by decide +kernel
theorem dX6_begin_37 : decode cX6_begin 37 = .ok (.aload_n 2, 1) := by decide +kernel
theorem dX6_begin_38 : decode cX6_begin 38 = .ok (.aload_n 0, 1) := by decide +kernel
theorem dX6_begin_39 : decode cX6_begin 39 = .ok (.getfield 15, 3) := by decide +kernel
theorem dX6_begin_42 : decode cX6_begin 42 = .ok (.iload_n 3, 1) := by decide +kernel
theorem dX6_begin_43 : decode cX6_begin 43 = .ok (.iaload, 1) := by decide +kernel
theorem dX6_begin_44 : decode cX6_begin 44 = .ok (.aload_n 0, 1) := by decide +kernel
theorem dX6_begin_45 : decode cX6_begin 45 = .ok (.getfield 18, 3) := by decide +kernel
theorem dX6_begin_48 : decode cX6_begin 48 = .ok (.iload_n 3, 1) := by decide +kernel
theorem dX6_begin_49 : decode cX6_begin 49 = .ok (.iaload, 1) := by decide +kernel
theorem dX6_begin_50 : decode cX6_begin 50 = .ok (.invokevirtual 56, 3) := by decide +kernel
theorem dX6_begin_53 : decode cX6_begin 53 = .ok (.ireturn, 1) := by decide +kernel
theorem dX6_begin_54 : decode cX6_begin 54 = .ok (.aload_n 2, 1) := by decide +kernel
theorem dX6_begin_55 : decode cX6_begin 55 = .ok (.aload_n 0, 1) := by decide +kernel
theorem dX6_begin_56 : decode cX6_begin 56 = .ok (.getfield 15, 3) := by decide +kernel
theorem dX6_begin_59 : decode cX6_begin 59 = .ok (.iload_n 3, 1) := by decide +kernel
theorem dX6_begin_60 : decode cX6_begin 60 = .ok (.iaload, 1) := by decide +kernel
theorem dX6_begin_61 : decode cX6_begin 61 = .ok (.aload_n 0, 1) := by decide +kernel
theorem dX6_begin_62 : decode cX6_begin 62 = .ok (.getfield 18, 3) := by decide +kernel
theorem dX6_begin_65 : decode cX6_begin 65 = .ok (.iload_n 3, 1) := by decide +kernel
theorem dX6_begin_66 : decode cX6_begin 66 = .ok (.iaload, 1) := by decide +kernel
theorem dX6_begin_67 : decode cX6_begin 67 = .ok (.invokevirtual 62, 3) := by decide +kernel
theorem dX6_begin_70 : decode cX6_begin 70 = .ok (.ireturn, 1) := by decide +kernel
theorem dX6_begin_71 : decode cX6_begin 71 = .ok (.aload_n 1, 1) := by decide +kernel
theorem dX6_begin_72 : decode cX6_begin 72 = .ok (.aload_n 2, 1) := by decide +kernel
theorem dX6_begin_73 : decode cX6_begin 73 = .ok (.aload_n 0, 1) := by decide +kernel
theorem dX6_begin_74 : decode cX6_begin 74 = .ok (.getfield 15, 3) := by decide +kernel
theorem dX6_begin_77 : decode cX6_begin 77 = .ok (.iload_n 3, 1) := by decide +kernel
theorem dX6_begin_78 : decode cX6_begin 78 = .ok (.iaload, 1) := by decide +kernel
theorem dX6_begin_79 : decode cX6_begin 79 = .ok (.invokevirtual 68, 3) := by decide +kernel
theorem dX6_begin_82 : decode cX6_begin 82 = .ok (.ireturn, 1) := by decide +kernel
theorem dX6_begin_83 : decode cX6_begin 83 = .ok (.aload_n 2, 1) := by decide +kernel
theorem dX6_begin_84 : decode cX6_begin 84 = .ok (.aload_n 0, 1) := by decide +kernel
theorem dX6_begin_85 : decode cX6_begin 85 = .ok (.getfield 15, 3) := by decide +kernel
theorem dX6_begin_88 : decode cX6_begin 88 = .ok (.iload_n 3, 1) := by decide +kernel
theorem dX6_begin_89 : decode cX6_begin 89 = .ok (.iaload, 1) := by decide +kernel
theorem dX6_begin_90 : decode cX6_begin 90 = .ok (.invokevirtual 72, 3) := by decide +kernel
theorem dX6_begin_93 : decode cX6_begin 93 = .ok (.ireturn, 1) := by decide +kernel
theorem dX6_begin_94 : decode cX6_begin 94 = .ok (.aload_n 1, 1) := by decide +kernel
theorem dX6_begin_95 : decode cX6_begin 95 = .ok (.aload_n 2, 1) := by decide +kernel
theorem dX6_begin_96 : decode cX6_begin 96 = .ok (.invokevirtual 76, 3) := by decide +kernel
theorem dX6_begin_99 : decode cX6_begin 99 = .ok (.ireturn, 1) := by decide +kernel
theorem dX6_readSteps_0 : decode cX6_readSteps 0 = .ok (.iconst 0, 1) := by decide +kernel
theorem dX6_readSteps_1 : decode cX6_readSteps 1 = .ok (.istore 4, 2) := by decide +kernel
theorem dX6_readSteps_3 : decode cX6_readSteps 3 = .ok (.iload 4, 2) := by decide +kernel
theorem dX6_readSteps_5 : decode cX6_readSteps 5 = .ok (.sipush 150, 3) := by decide +kernel
theorem dX6_readSteps_8 : decode cX6_readSteps 8 = .ok (.if_icmp .ge 55, 3) := by decide +kernel
theorem dX6_readSteps_11 : decode cX6_readSteps 11 = .ok (.iload_n 3, 1) := by decide +kernel
theorem dX6_readSteps_12 : decode cX6_readSteps 12 = .ok (.ifCond .le 15, 3) := by decide +kernel
theorem dX6_readSteps_15 : decode cX6_readSteps 15 = .ok (.aload_n 1, 1) := by decide +kernel
theorem dX6_readSteps_16 : decode cX6_readSteps 16 = .ok (.bipush 93, 2) := by decide +kernel
theorem dX6_readSteps_18 : decode cX6_readSteps 18 = .ok (.invokevirtual 80, 3) := by decide +kernel
theorem dX6_readSteps_21 : decode cX6_readSteps 21 = .ok (.ifCond .eq 15, 3) := by decide +kernel
theorem dX6_readSteps_24 : decode cX6_readSteps 24 = .ok (.goto 10, 3) := by decide +kernel
theorem dX6_readSteps_27 : decode cX6_readSteps 27 = .ok (.aload_n 1, 1) := by decide +kernel
theorem dX6_readSteps_28 : decode cX6_readSteps 28 = .ok (.invokevirtual 86, 3) := by decide +kernel
theorem dX6_readSteps_31 : decode cX6_readSteps 31 = .ok (.ifCond .eq 5, 3) := by decide +kernel
theorem dX6_readSteps_34 : decode cX6_readSteps 34 = .ok (.iconst 1, 1) := by decide +kernel
theorem dX6_readSteps_35 : decode cX6_readSteps 35 = .ok (.ireturn, 1) := by decide +kernel
theorem dX6_readSteps_36 : decode cX6_readSteps 36 = .ok (.aload_n 0, 1) := by decide +kernel
theorem dX6_readSteps_37 : decode cX6_readSteps 37 = .ok (.aload_n 1, 1) := by decide +kernel
theorem dX6_readSteps_38 : decode cX6_readSteps 38 = .ok (.aload_n 2, 1) := by decide +kernel
theorem dX6_readSteps_39 : decode cX6_readSteps 39 = .ok (.iload_n 3, 1) := by decide +kernel
theorem dX6_readSteps_40 : decode cX6_readSteps 40 = .ok (.invokevirtual 90, 3) := by decide +kernel
theorem dX6_readSteps_43 : decode cX6_readSteps 43 = .ok (.ifCond .eq 12, 3) := by decide +kernel
theorem dX6_readSteps_46 : decode cX6_readSteps 46 = .ok (.aload_n 1, 1) := by decide +kernel
theorem dX6_readSteps_47 : decode cX6_readSteps 47 = .ok (.bipush 59, 2) := by decide +kernel
theorem dX6_readSteps_49 : decode cX6_readSteps 49 = .ok (.invokevirtual 93, 3) := by decide +kernel
theorem dX6_readSteps_52 : decode cX6_readSteps 52 = .ok (.ifCond .ne 5, 3) := by decide +kernel
theorem dX6_readSteps_55 : decode cX6_readSteps 55 = .ok (.iconst 0, 1) := by decide +kernel
theorem dX6_readSteps_56 : decode cX6_readSteps 56 = .ok (.ireturn, 1) := by decide +kernel
theorem dX6_readSteps_57 : decode cX6_readSteps 57 = .ok (.iinc 4 1, 3) := by decide +kernel
theorem dX6_readSteps_60 : decode cX6_readSteps 60 = .ok (.goto (-57), 3) := by decide +kernel
theorem dX6_readSteps_63 : decode cX6_readSteps 63 = .ok (.aload_n 1, 1) := by decide +kernel
theorem dX6_readSteps_64 : decode cX6_readSteps 64 = .ok (.invokevirtual 86, 3) := by decide +kernel
theorem dX6_readSteps_67 : decode cX6_readSteps 67 = .ok (.ireturn, 1) := by decide +kernel
theorem dX6_readStep_0 : decode cX6_readStep 0 = .ok (.aload_n 1, 1) := by decide +kernel
theorem dX6_readStep_1 : decode cX6_readStep 1 = .ok (.invokevirtual 96, 3) := by decide +kernel
theorem dX6_readStep_4 : decode cX6_readStep 4 = .ok (.aload_n 1, 1) := by decide +kernel
theorem dX6_readStep_5 : decode cX6_readStep 5 = .ok (.ldc 99, 2) := by decide +kernel
theorem dX6_readStep_7 : decode cX6_readStep 7 = .ok (.invokevirtual 100, 3) := by decide +kernel
theorem dX6_readStep_10 : decode cX6_readStep 10 = .ok (.ifCond .eq 22, 3) := by decide +kernel
theorem dX6_readStep_13 : decode cX6_readStep 13 = .ok (.aload_n 0, 1) := by decide +kernel
theorem dX6_readStep_14 : decode cX6_readStep 14 = .ok (.aload_n 1, 1) := by decide +kernel
theorem dX6_readStep_15 : decode cX6_readStep 15 = .ok (.iconst 0, 1) := by decide +kernel
theorem dX6_readStep_16 : decode cX6_readStep 16 = .ok (.aload_n 2, 1) := by decide +kernel
theorem dX6_readStep_17 : decode cX6_readStep 17 = .ok (.getfield 104, 3) := by decide +kernel
theorem dX6_readStep_20 : decode cX6_readStep 20 = .ok (.iconst 1, 1) := by decide +kernel
theorem dX6_readStep_21 : decode cX6_readStep 21 = .ok (.isub, 1) := by decide +kernel
theorem dX6_readStep_22 : decode cX6_readStep 22 = .ok (.aload_n 2, 1) := by decide +kernel
theorem dX6_readStep_23 : decode cX6_readStep 23 = .ok (.getfield 109, 3) := by decide +kernel
theorem dX6_readStep_26 : decode cX6_readStep 26 = .ok (.iconst 1, 1) := by decide +kernel
theorem dX6_readStep_27 : decode cX6_readStep 27 = .ok (.isub, 1) := by decide +kernel
theorem dX6_readStep_28 : decode cX6_readStep 28 = .ok (.invokevirtual 112, 3) := by decide +kernel
theorem dX6_readStep_31 : decode cX6_readStep 31 = .ok (.ireturn, 1) := by decide +kernel
theorem dX6_readStep_32 : decode cX6_readStep 32 = .ok (.aload_n 1, 1) := by decide +kernel
theorem dX6_readStep_33 : decode cX6_readStep 33 = .ok (.ldc 116, 2) := by decide +kernel
theorem dX6_readStep_35 : decode cX6_readStep 35 = .ok (.invokevirtual 100, 3) := by decide +kernel
theorem dX6_readStep_38 : decode cX6_readStep 38 = .ok (.ifCond .eq 22, 3) := by decide +kernel
theorem dX6_readStep_41 : decode cX6_readStep 41 = .ok (.aload_n 0, 1) := by decide +kernel
theorem dX6_readStep_42 : decode cX6_readStep 42 = .ok (.aload_n 1, 1) := by decide +kernel
theorem dX6_readStep_43 : decode cX6_readStep 43 = .ok (.iconst 1, 1) := by decide +kernel
theorem dX6_readStep_44 : decode cX6_readStep 44 = .ok (.aload_n 2, 1) := by decide +kernel
theorem dX6_readStep_45 : decode cX6_readStep 45 = .ok (.getfield 104, 3) := by decide +kernel
theorem dX6_readStep_48 : decode cX6_readStep 48 = .ok (.iconst 1, 1) := by decide +kernel
theorem dX6_readStep_49 : decode cX6_readStep 49 = .ok (.isub, 1) := by decide +kernel
theorem dX6_readStep_50 : decode cX6_readStep 50 = .ok (.aload_n 2, 1) := by decide +kernel
theorem dX6_readStep_51 : decode cX6_readStep 51 = .ok (.getfield 104, 3) := by decide +kernel
theorem dX6_readStep_54 : decode cX6_readStep 54 = .ok (.iconst 1, 1) := by decide +kernel
theorem dX6_readStep_55 : decode cX6_readStep 55 = .ok (.isub, 1) := by decide +kernel
theorem dX6_readStep_56 : decode cX6_readStep 56 = .ok (.invokevirtual 112, 3) := by decide +kernel
theorem dX6_readStep_59 : decode cX6_readStep 59 = .ok (.ireturn, 1) := by decide +kernel
theorem dX6_readStep_60 : decode cX6_readStep 60 = .ok (.aload_n 1, 1) := by decide +kernel
theorem dX6_readStep_61 : decode cX6_readStep 61 = .ok (.ldc 117, 2) := by decide +kernel
theorem dX6_readStep_63 : decode cX6_readStep 63 = .ok (.invokevirtual 100, 3) := by decide +kernel
theorem dX6_readStep_66 : decode cX6_readStep 66 = .ok (.ifCond .eq 12, 3) := by decide +kernel
theorem dX6_readStep_69 : decode cX6_readStep 69 = .ok (.aload_n 0, 1) := by decide +kernel
theorem dX6_readStep_70 : decode cX6_readStep 70 = .ok (.aload_n 1, 1) := by decide +kernel
theorem dX6_readStep_71 : decode cX6_readStep 71 = .ok (.iconst 2, 1) := by decide +kernel
theorem dX6_readStep_72 : decode cX6_readStep 72 = .ok (.bipush 40, 2) := by decide +kernel
theorem dX6_readStep_74 : decode cX6_readStep 74 = .ok (.invokevirtual 118, 3) := by decide +kernel
theorem dX6_readStep_77 : decode cX6_readStep 77 = .ok (.ireturn, 1) := by decide +kernel
theorem dX6_readStep_78 : decode cX6_readStep 78 = .ok (.aload_n 1, 1) := by decide +kernel
theorem dX6_readStep_79 : decode cX6_readStep 79 = .ok (.ldc 122, 2) := by decide +kernel
theorem dX6_readStep_81 : decode cX6_readStep 81 = .ok (.invokevirtual 100, 3) := by decide +kernel
theorem dX6_readStep_84 : decode cX6_readStep 84 = .ok (.ifCond .eq 16, 3) := by decide +kernel
theorem dX6_readStep_87 : decode cX6_readStep 87 = .ok (.aload_n 0, 1) := by decide +kernel
theorem dX6_readStep_88 : decode cX6_readStep 88 = .ok (.aload_n 1, 1) := by decide +kernel
theorem dX6_readStep_89 : decode cX6_readStep 89 = .ok (.iconst 3, 1) := by decide +kernel
theorem dX6_readStep_90 : decode cX6_readStep 90 = .ok (.aload_n 2, 1) := by decide +kernel
theorem dX6_readStep_91 : decode cX6_readStep 91 = .ok (.getfield 104, 3) := by decide +kernel
theorem dX6_readStep_94 : decode cX6_readStep 94 = .ok (.iconst 1, 1) := by decide +kernel
theorem dX6_readStep_95 : decode cX6_readStep 95 = .ok (.isub, 1) := by decide +kernel
theorem dX6_readStep_96 : decode cX6_readStep 96 = .ok (.invokevirtual 118, 3) := by decide +kernel
theorem dX6_readStep_99 : decode cX6_readStep 99 = .ok (.ireturn, 1) := by decide +kernel
theorem dX6_readStep_100 : decode cX6_readStep 100 = .ok (.aload_n 1, 1) := by decide +kernel
theorem dX6_readStep_101 : decode cX6_readStep 101 = .ok (.ldc 123, 2) := by decide +kernel
theorem dX6_readStep_103 : decode cX6_readStep 103 = .ok (.invokevirtual 100, 3) := by decide +kernel
theorem dX6_readStep_106 : decode cX6_readStep 106 = .ok (.ifCond .eq 11, 3) := by decide +kernel
theorem dX6_readStep_109 : decode cX6_readStep 109 = .ok (.aload_n 0, 1) := by decide +kernel
theorem dX6_readStep_110 : decode cX6_readStep 110 = .ok (.iconst 4, 1) := by decide +kernel
theorem dX6_readStep_111 : decode cX6_readStep 111 = .ok (.iconst 0, 1) := by decide +kernel
theorem dX6_readStep_112 : decode cX6_readStep 112 = .ok (.iconst 0, 1) := by decide +kernel
theorem dX6_readStep_113 : decode cX6_readStep 113 = .ok (.invokevirtual 125, 3) := by decide +kernel
theorem dX6_readStep_116 : decode cX6_readStep 116 = .ok (.ireturn, 1) := by decide +kernel
theorem dX6_readStep_117 : decode cX6_readStep 117 = .ok (.aload_n 1, 1) := by decide +kernel
theorem dX6_readStep_118 : decode cX6_readStep 118 = .ok (.ldc 129, 2) := by decide +kernel
theorem dX6_readStep_120 : decode cX6_readStep 120 = .ok (.invokevirtual 100, 3) := by decide +kernel
theorem dX6_readStep_123 : decode cX6_readStep 123 = .ok (.ifCond .eq 13, 3) := by decide +kernel
theorem dX6_readStep_126 : decode cX6_readStep 126 = .ok (.aload_n 0, 1) := by decide +kernel
theorem dX6_readStep_127 : decode cX6_readStep 127 = .ok (.aload_n 1, 1) := by decide +kernel
theorem dX6_readStep_128 : decode cX6_readStep 128 = .ok (.aload_n 2, 1) := by decide +kernel
theorem dX6_readStep_129 : decode cX6_readStep 129 = .ok (.iload_n 3, 1) := by decide +kernel
theorem dX6_readStep_130 : decode cX6_readStep 130 = .ok (.invokevirtual 131, 3) := by decide +kernel
theorem dX6_readStep_133 : decode cX6_readStep 133 = .ok (.goto 8, 3) := by decide +kernel
theorem dX6_readStep_136 : decode cX6_readStep 136 = .ok (.aload_n 1, 1) := by decide +kernel
theorem dX6_readStep_137 : decode cX6_readStep 137 = .ok (.iconst 1, 1) := by decide +kernel
theorem dX6_readStep_138 : decode cX6_readStep 138 = .ok (.invokevirtual 134, 3) := by decide +kernel
theorem dX6_readStep_141 : decode cX6_readStep 141 = .ok (.ireturn, 1) := by decide +kernel
theorem dX6_readNumber_0 : decode cX6_readNumber 0 = .ok (.aload_n 1, 1) := by decide +kernel
theorem dX6_readNumber_1 : decode cX6_readNumber 1 = .ok (.iconst 0, 1) := by decide +kernel
theorem dX6_readNumber_2 : decode cX6_readNumber 2 = .ok (.iload_n 3, 1) := by decide +kernel
theorem dX6_readNumber_3 : decode cX6_readNumber 3 = .ok (.invokevirtual 137, 3) := by decide +kernel
theorem dX6_readNumber_6 : decode cX6_readNumber 6 = .ok (.istore 4, 2) := by decide +kernel
theorem dX6_readNumber_8 : decode cX6_readNumber 8 = .ok (.iload 4, 2) := by decide +kernel
theorem dX6_readNumber_10 : decode cX6_readNumber 10 = .ok (.iconst (-1), 1) := by decide +kernel
theorem dX6_readNumber_11 : decode cX6_readNumber 11 = .ok (.if_icmp .eq 18, 3) := by decide +kernel
theorem dX6_readNumber_14 : decode cX6_readNumber 14 = .ok (.aload_n 0, 1) := by decide +kernel
theorem dX6_readNumber_15 : decode cX6_readNumber 15 = .ok (.iload_n 2, 1) := by decide +kernel
theorem dX6_readNumber_16 : decode cX6_readNumber 16 = .ok (.iload 4, 2) := by decide +kernel
theorem dX6_readNumber_18 : decode cX6_readNumber 18 = .ok (.iconst 0, 1) := by decide +kernel
theorem dX6_readNumber_19 : decode cX6_readNumber 19 = .ok (.invokevirtual 125, 3) := by decide +kernel
theorem dX6_readNumber_22 : decode cX6_readNumber 22 = .ok (.ifCond .eq 7, 3) := by decide +kernel
theorem dX6_readNumber_25 : decode cX6_readNumber 25 = .ok (.iconst 1, 1) := by decide +kernel
theorem dX6_readNumber_26 : decode cX6_readNumber 26 = .ok (.goto 4, 3) := by decide +kernel
theorem dX6_readNumber_29 : decode cX6_readNumber 29 = .ok (.iconst 0, 1) := by decide +kernel
theorem dX6_readNumber_30 : decode cX6_readNumber 30 = .ok (.ireturn, 1) := by decide +kernel
theorem dX6_readNumbers_0 : decode cX6_readNumbers 0 = .ok (.aload_n 1, 1) := by decide +kernel
theorem dX6_readNumbers_1 : decode cX6_readNumbers 1 = .ok (.iconst 0, 1) := by decide +kernel
theorem dX6_readNumbers_2 : decode cX6_readNumbers 2 = .ok (.iload_n 3, 1) := by decide +kernel
theorem dX6_readNumbers_3 : decode cX6_readNumbers 3 = .ok (.invokevirtual 137, 3) := by decide +kernel
theorem dX6_readNumbers_6 : decode cX6_readNumbers 6 = .ok (.istore 5, 2) := by decide +kernel
theorem dX6_readNumbers_8 : decode cX6_readNumbers 8 = .ok (.iload 5, 2) := by decide +kernel
theorem dX6_readNumbers_10 : decode cX6_readNumbers 10 = .ok (.iconst (-1), 1) := by decide +kernel
theorem dX6_readNumbers_11 : decode cX6_readNumbers 11 = .ok (.if_icmp .ne 5, 3) := by decide +kernel
theorem dX6_readNumbers_14 : decode cX6_readNumbers 14 = .ok (.iconst 0, 1) := by decide +kernel
theorem dX6_readNumbers_15 : decode cX6_readNumbers 15 = .ok (.ireturn, 1) := by decide +kernel
theorem dX6_readNumbers_16 : decode cX6_readNumbers 16 = .ok (.aload_n 1, 1) := by decide +kernel
theorem dX6_readNumbers_17 : decode cX6_readNumbers 17 = .ok (.iconst 0, 1) := by decide +kernel
theorem dX6_readNumbers_18 : decode cX6_readNumbers 18 = .ok (.iload 4, 2) := by decide +kernel
theorem dX6_readNumbers_20 : decode cX6_readNumbers 20 = .ok (.invokevirtual 137, 3) := by decide +kernel
theorem dX6_readNumbers_23 : decode cX6_readNumbers 23 = .ok (.istore 6, 2) := by decide +kernel
theorem dX6_readNumbers_25 : decode cX6_readNumbers 25 = .ok (.iload 6, 2) := by decide +kernel
theorem dX6_readNumbers_27 : decode cX6_readNumbers 27 = .ok (.iconst (-1), 1) := by decide +kernel
theorem dX6_readNumbers_28 : decode cX6_readNumbers 28 = .ok (.if_icmp .eq 19, 3) := by decide +kernel
theorem dX6_readNumbers_31 : decode cX6_readNumbers 31 = .ok (.aload_n 0, 1) := by decide +kernel
theorem dX6_readNumbers_32 : decode cX6_readNumbers 32 = .ok (.iload_n 2, 1) := by decide +kernel
theorem dX6_readNumbers_33 : decode cX6_readNumbers 33 = .ok (.iload 5, 2) := by decide +kernel
theorem dX6_readNumbers_35 : decode cX6_readNumbers 35 = .ok (.iload 6, 2) := by decide +kernel
theorem dX6_readNumbers_37 : decode cX6_readNumbers 37 = .ok (.invokevirtual 125, 3) := by decide +kernel
theorem dX6_readNumbers_40 : decode cX6_readNumbers 40 = .ok (.ifCond .eq 7, 3) := by decide +kernel
theorem dX6_readNumbers_43 : decode cX6_readNumbers 43 = .ok (.iconst 1, 1) := by decide +kernel
theorem dX6_readNumbers_44 : decode cX6_readNumbers 44 = .ok (.goto 4, 3) := by decide +kernel
theorem dX6_readNumbers_47 : decode cX6_readNumbers 47 = .ok (.iconst 0, 1) := by decide +kernel
theorem dX6_readNumbers_48 : decode cX6_readNumbers 48 = .ok (.ireturn, 1) := by decide +kernel
theorem dX6_readAgain_0 : decode cX6_readAgain 0 = .ok (.iload_n 3, 1) := by decide +kernel
theorem dX6_readAgain_1 : decode cX6_readAgain 1 = .ok (.bipush 6, 2) := by decide +kernel
theorem dX6_readAgain_3 : decode cX6_readAgain 3 = .ok (.if_icmp .lt 9, 3) := by decide +kernel
theorem dX6_readAgain_6 : decode cX6_readAgain 6 = .ok (.aload_n 1, 1) := by decide +kernel
theorem dX6_readAgain_7 : decode cX6_readAgain 7 = .ok (.iconst 3, 1) := by decide +kernel
theorem dX6_readAgain_8 : decode cX6_readAgain 8 = .ok (.invokevirtual 134, 3) := by decide +kernel
theorem dX6_readAgain_11 : decode cX6_readAgain 11 = .ok (.ireturn, 1) := by decide +kernel
theorem dX6_readAgain_12 : decode cX6_readAgain 12 = .ok (.aload_n 0, 1) := by decide +kernel
theorem dX6_readAgain_13 : decode cX6_readAgain 13 = .ok (.getfield 24, 3) := by decide +kernel
theorem dX6_readAgain_16 : decode cX6_readAgain 16 = .ok (.istore 4, 2) := by decide +kernel
theorem dX6_readAgain_18 : decode cX6_readAgain 18 = .ok (.aload_n 0, 1) := by decide +kernel
theorem dX6_readAgain_19 : decode cX6_readAgain 19 = .ok (.aload_n 1, 1) := by decide +kernel
theorem dX6_readAgain_20 : decode cX6_readAgain 20 = .ok (.iconst 5, 1) := by decide +kernel
theorem dX6_readAgain_21 : decode cX6_readAgain 21 = .ok (.bipush 40, 2) := by decide +kernel
theorem dX6_readAgain_23 : decode cX6_readAgain 23 = .ok (.invokevirtual 118, 3) := by decide +kernel
theorem dX6_readAgain_26 : decode cX6_readAgain 26 = .ok (.ifCond .eq 12, 3) := by decide +kernel
theorem dX6_readAgain_29 : decode cX6_readAgain 29 = .ok (.aload_n 1, 1) := by decide +kernel
theorem dX6_readAgain_30 : decode cX6_readAgain 30 = .ok (.bipush 91, 2) := by decide +kernel
theorem dX6_readAgain_32 : decode cX6_readAgain 32 = .ok (.invokevirtual 93, 3) := by decide +kernel
theorem dX6_readAgain_35 : decode cX6_readAgain 35 = .ok (.ifCond .ne 5, 3) := by decide +kernel
theorem dX6_readAgain_38 : decode cX6_readAgain 38 = .ok (.iconst 0, 1) := by decide +kernel
theorem dX6_readAgain_39 : decode cX6_readAgain 39 = .ok (.ireturn, 1) := by decide +kernel
theorem dX6_readAgain_40 : decode cX6_readAgain 40 = .ok (.aload_n 0, 1) := by decide +kernel
theorem dX6_readAgain_41 : decode cX6_readAgain 41 = .ok (.aload_n 1, 1) := by decide +kernel
theorem dX6_readAgain_42 : decode cX6_readAgain 42 = .ok (.aload_n 2, 1) := by decide +kernel
theorem dX6_readAgain_43 : decode cX6_readAgain 43 = .ok (.iload_n 3, 1) := by decide +kernel
theorem dX6_readAgain_44 : decode cX6_readAgain 44 = .ok (.iconst 1, 1) := by decide +kernel
theorem dX6_readAgain_45 : decode cX6_readAgain 45 = .ok (.iadd, 1) := by decide +kernel
theorem dX6_readAgain_46 : decode cX6_readAgain 46 = .ok (.invokevirtual 28, 3) := by decide +kernel
theorem dX6_readAgain_49 : decode cX6_readAgain 49 = .ok (.ifCond .eq 12, 3) := by decide +kernel
theorem dX6_readAgain_52 : decode cX6_readAgain 52 = .ok (.aload_n 1, 1) := by decide +kernel
theorem dX6_readAgain_53 : decode cX6_readAgain 53 = .ok (.bipush 93, 2) := by decide +kernel
theorem dX6_readAgain_55 : decode cX6_readAgain 55 = .ok (.invokevirtual 93, 3) := by decide +kernel
theorem dX6_readAgain_58 : decode cX6_readAgain 58 = .ok (.ifCond .ne 5, 3) := by decide +kernel
theorem dX6_readAgain_61 : decode cX6_readAgain 61 = .ok (.iconst 0, 1) := by decide +kernel
theorem dX6_readAgain_62 : decode cX6_readAgain 62 = .ok (.ireturn, 1) := by decide +kernel
theorem dX6_readAgain_63 : decode cX6_readAgain 63 = .ok (.iload 4, 2) := by decide +kernel
theorem dX6_readAgain_65 : decode cX6_readAgain 65 = .ok (.sipush 150, 3) := by decide +kernel
theorem dX6_readAgain_68 : decode cX6_readAgain 68 = .ok (.if_icmp .ge 14, 3) := by decide +kernel
theorem dX6_readAgain_71 : decode cX6_readAgain 71 = .ok (.aload_n 0, 1) := by decide +kernel
theorem dX6_readAgain_72 : decode cX6_readAgain 72 = .ok (.getfield 18, 3) := by decide +kernel
theorem dX6_readAgain_75 : decode cX6_readAgain 75 = .ok (.iload 4, 2) := by decide +kernel
theorem dX6_readAgain_77 : decode cX6_readAgain 77 = .ok (.aload_n 0, 1) := by decide +kernel
theorem dX6_readAgain_78 : decode cX6_readAgain 78 = .ok (.getfield 24, 3) := by decide +kernel
theorem dX6_readAgain_81 : decode cX6_readAgain 81 = .ok (.iastore, 1) := by decide +kernel
theorem dX6_readAgain_82 : decode cX6_readAgain 82 = .ok (.aload_n 0, 1) := by decide +kernel
theorem dX6_readAgain_83 : decode cX6_readAgain 83 = .ok (.bipush 6, 2) := by decide +kernel
theorem dX6_readAgain_85 : decode cX6_readAgain 85 = .ok (.iload 4, 2) := by decide +kernel
theorem dX6_readAgain_87 : decode cX6_readAgain 87 = .ok (.iconst 0, 1) := by decide +kernel
theorem dX6_readAgain_88 : decode cX6_readAgain 88 = .ok (.invokevirtual 125, 3) := by decide +kernel
theorem dX6_readAgain_91 : decode cX6_readAgain 91 = .ok (.ireturn, 1) := by decide +kernel
theorem dX6_add_0 : decode cX6_add 0 = .ok (.aload_n 0, 1) := by decide +kernel
theorem dX6_add_1 : decode cX6_add 1 = .ok (.getfield 24, 3) := by decide +kernel
theorem dX6_add_4 : decode cX6_add 4 = .ok (.sipush 150, 3) := by decide +kernel
theorem dX6_add_7 : decode cX6_add 7 = .ok (.if_icmp .ge 43, 3) := by decide +kernel
theorem dX6_add_10 : decode cX6_add 10 = .ok (.aload_n 0, 1) := by decide +kernel
theorem dX6_add_11 : decode cX6_add 11 = .ok (.getfield 9, 3) := by decide +kernel
theorem dX6_add_14 : decode cX6_add 14 = .ok (.aload_n 0, 1) := by decide +kernel
theorem dX6_add_15 : decode cX6_add 15 = .ok (.getfield 24, 3) := by decide +kernel
theorem dX6_add_18 : decode cX6_add 18 = .ok (.iload_n 1, 1) := by decide +kernel
theorem dX6_add_19 : decode cX6_add 19 = .ok (.iastore, 1) := by decide +kernel
theorem dX6_add_20 : decode cX6_add 20 = .ok (.aload_n 0, 1) := by decide +kernel
theorem dX6_add_21 : decode cX6_add 21 = .ok (.getfield 15, 3) := by decide +kernel
theorem dX6_add_24 : decode cX6_add 24 = .ok (.aload_n 0, 1) := by decide +kernel
theorem dX6_add_25 : decode cX6_add 25 = .ok (.getfield 24, 3) := by decide +kernel
theorem dX6_add_28 : decode cX6_add 28 = .ok (.iload_n 2, 1) := by decide +kernel
theorem dX6_add_29 : decode cX6_add 29 = .ok (.iastore, 1) := by decide +kernel
theorem dX6_add_30 : decode cX6_add 30 = .ok (.aload_n 0, 1) := by decide +kernel
theorem dX6_add_31 : decode cX6_add 31 = .ok (.getfield 18, 3) := by decide +kernel
theorem dX6_add_34 : decode cX6_add 34 = .ok (.aload_n 0, 1) := by decide +kernel
theorem dX6_add_35 : decode cX6_add 35 = .ok (.getfield 24, 3) := by decide +kernel
theorem dX6_add_38 : decode cX6_add 38 = .ok (.iload_n 3, 1) := by decide +kernel
theorem dX6_add_39 : decode cX6_add 39 = .ok (.iastore, 1) := by decide +kernel
theorem dX6_add_40 : decode cX6_add 40 = .ok (.aload_n 0, 1) := by decide +kernel
theorem dX6_add_41 : decode cX6_add 41 = .ok (.dup, 1) := by decide +kernel
theorem dX6_add_42 : decode cX6_add 42 = .ok (.getfield 24, 3) := by decide +kernel
theorem dX6_add_45 : decode cX6_add 45 = .ok (.iconst 1, 1) := by decide +kernel
theorem dX6_add_46 : decode cX6_add 46 = .ok (.iadd, 1) := by decide +kernel
theorem dX6_add_47 : decode cX6_add 47 = .ok (.putfield 24, 3) := by decide +kernel
theorem dX6_add_50 : decode cX6_add 50 = .ok (.iconst 1, 1) := by decide +kernel
theorem dX6_add_51 : decode cX6_add 51 = .ok (.ireturn, 1) := by decide +kernel
theorem dX3_init_0 : decode cX3_init 0 = .ok (.aload_n 0, 1) := by decide +kernel
theorem dX3_init_1 : decode cX3_init 1 = .ok (.invokespecial 3, 3) := by decide +kernel
theorem dX3_init_4 : decode cX3_init 4 = .ok (.aload_n 0, 1) := by decide +kernel
theorem dX3_init_5 : decode cX3_init 5 = .ok (.aload_n 1, 1) := by decide +kernel
theorem dX3_init_6 : decode cX3_init 6 = .ok (.putfield 9, 3) := by decide +kernel
theorem dX3_init_9 : decode cX3_init 9 = .ok (.aload_n 0, 1) := by decide +kernel
theorem dX3_init_10 : decode cX3_init 10 = .ok (.aload_n 2, 1) := by decide +kernel
theorem dX3_init_11 : decode cX3_init 11 = .ok (.putfield 15, 3) := by decide +kernel
theorem dX3_init_14 : decode cX3_init 14 = .ok (.return_, 1) := by decide +kernel
theorem dX3_restOfDay_0 : decode cX3_restOfDay 0 = .ok (.iconst 5, 1) := by decide +kernel
theorem dX3_restOfDay_1 : decode cX3_restOfDay 1 = .ok (.aload_n 0, 1) := by decide +kernel
theorem dX3_restOfDay_2 : decode cX3_restOfDay 2 = .ok (.getfield 9, 3) := by decide +kernel
theorem dX3_restOfDay_5 : decode cX3_restOfDay 5 = .ok (.getfield 19, 3) := by decide +kernel
theorem dX3_restOfDay_8 : decode cX3_restOfDay 8 = .ok (.iload_n 1, 1) := by decide +kernel
theorem dX3_restOfDay_9 : decode cX3_restOfDay 9 = .ok (.iaload, 1) := by decide +kernel
theorem dX3_restOfDay_10 : decode cX3_restOfDay 10 = .ok (.iadd, 1) := by decide +kernel
theorem dX3_restOfDay_11 : decode cX3_restOfDay 11 = .ok (.ireturn, 1) := by decide +kernel
theorem dX3_tiredIn_0 : decode cX3_tiredIn 0 = .ok (.iconst 0, 1) := by decide +kernel
theorem dX3_tiredIn_1 : decode cX3_tiredIn 1 = .ok (.aload_n 1, 1) := by decide +kernel
theorem dX3_tiredIn_2 : decode cX3_tiredIn 2 = .ok (.getfield 25, 3) := by decide +kernel
theorem dX3_tiredIn_5 : decode cX3_tiredIn 5 = .ok (.iload_n 2, 1) := by decide +kernel
theorem dX3_tiredIn_6 : decode cX3_tiredIn 6 = .ok (.iaload, 1) := by decide +kernel
theorem dX3_tiredIn_7 : decode cX3_tiredIn 7 = .ok (.iload_n 3, 1) := by decide +kernel
theorem dX3_tiredIn_8 : decode cX3_tiredIn 8 = .ok (.aload_n 0, 1) := by decide +kernel
theorem dX3_tiredIn_9 : decode cX3_tiredIn 9 = .ok (.iload_n 2, 1) := by decide +kernel
theorem dX3_tiredIn_10 : decode cX3_tiredIn 10 = .ok (.invokevirtual 30, 3) := by decide +kernel
theorem dX3_tiredIn_13 : decode cX3_tiredIn 13 = .ok (.imul, 1) := by decide +kernel
theorem dX3_tiredIn_14 : decode cX3_tiredIn 14 = .ok (.isub, 1) := by decide +kernel
theorem dX3_tiredIn_15 : decode cX3_tiredIn 15 = .ok (.invokestatic 34, 3) := by decide +kernel
theorem dX3_tiredIn_18 : decode cX3_tiredIn 18 = .ok (.ireturn, 1) := by decide +kernel
theorem dX3_loadOn_0 : decode cX3_loadOn 0 = .ok (.aload_n 0, 1) := by decide +kernel
theorem dX3_loadOn_1 : decode cX3_loadOn 1 = .ok (.getfield 15, 3) := by decide +kernel
theorem dX3_loadOn_4 : decode cX3_loadOn 4 = .ok (.aload_n 0, 1) := by decide +kernel
theorem dX3_loadOn_5 : decode cX3_loadOn 5 = .ok (.getfield 9, 3) := by decide +kernel
theorem dX3_loadOn_8 : decode cX3_loadOn 8 = .ok (.getfield 40, 3) := by decide +kernel
theorem dX3_loadOn_11 : decode cX3_loadOn 11 = .ok (.aload_n 1, 1) := by decide +kernel
theorem dX3_loadOn_12 : decode cX3_loadOn 12 = .ok (.getfield 44, 3) := by decide +kernel
theorem dX3_loadOn_15 : decode cX3_loadOn 15 = .ok (.aload_n 1, 1) := by decide +kernel
theorem dX3_loadOn_16 : decode cX3_loadOn 16 = .ok (.getfield 47, 3) := by decide +kernel
theorem dX3_loadOn_19 : decode cX3_loadOn 19 = .ok (.iload 4, 2) := by decide +kernel
theorem dX3_loadOn_21 : decode cX3_loadOn 21 = .ok (.iadd, 1) := by decide +kernel
theorem dX3_loadOn_22 : decode cX3_loadOn 22 = .ok (.invokevirtual 50, 3) := by decide +kernel
theorem dX3_loadOn_25 : decode cX3_loadOn 25 = .ok (.aload_n 0, 1) := by decide +kernel
theorem dX3_loadOn_26 : decode cX3_loadOn 26 = .ok (.getfield 15, 3) := by decide +kernel
theorem dX3_loadOn_29 : decode cX3_loadOn 29 = .ok (.aload_n 0, 1) := by decide +kernel
theorem dX3_loadOn_30 : decode cX3_loadOn 30 = .ok (.getfield 9, 3) := by decide +kernel
theorem dX3_loadOn_33 : decode cX3_loadOn 33 = .ok (.getfield 56, 3) := by decide +kernel
theorem dX3_loadOn_36 : decode cX3_loadOn 36 = .ok (.iload_n 3, 1) := by decide +kernel
theorem dX3_loadOn_37 : decode cX3_loadOn 37 = .ok (.iaload, 1) := by decide +kernel
theorem dX3_loadOn_38 : decode cX3_loadOn 38 = .ok (.aload_n 0, 1) := by decide +kernel
theorem dX3_loadOn_39 : decode cX3_loadOn 39 = .ok (.getfield 9, 3) := by decide +kernel
theorem dX3_loadOn_42 : decode cX3_loadOn 42 = .ok (.getfield 59, 3) := by decide +kernel
theorem dX3_loadOn_45 : decode cX3_loadOn 45 = .ok (.iload_n 3, 1) := by decide +kernel
theorem dX3_loadOn_46 : decode cX3_loadOn 46 = .ok (.iaload, 1) := by decide +kernel
theorem dX3_loadOn_47 : decode cX3_loadOn 47 = .ok (.invokevirtual 62, 3) := by decide +kernel
theorem dX3_loadOn_50 : decode cX3_loadOn 50 = .ok (.aload_n 1, 1) := by decide +kernel
theorem dX3_loadOn_51 : decode cX3_loadOn 51 = .ok (.getfield 66, 3) := by decide +kernel
theorem dX3_loadOn_54 : decode cX3_loadOn 54 = .ok (.iload_n 2, 1) := by decide +kernel
theorem dX3_loadOn_55 : decode cX3_loadOn 55 = .ok (.iaload, 1) := by decide +kernel
theorem dX3_loadOn_56 : decode cX3_loadOn 56 = .ok (.invokestatic 69, 3) := by decide +kernel
theorem dX3_loadOn_59 : decode cX3_loadOn 59 = .ok (.istore 5, 2) := by decide +kernel
theorem dX3_loadOn_61 : decode cX3_loadOn 61 = .ok (.aload_n 0, 1) := by decide +kernel
theorem dX3_loadOn_62 : decode cX3_loadOn 62 = .ok (.getfield 15, 3) := by decide +kernel
theorem dX3_loadOn_65 : decode cX3_loadOn 65 = .ok (.iload_n 2, 1) := by decide +kernel
theorem dX3_loadOn_66 : decode cX3_loadOn 66 = .ok (.aload_n 0, 1) := by decide +kernel
theorem dX3_loadOn_67 : decode cX3_loadOn 67 = .ok (.getfield 9, 3) := by decide +kernel
theorem dX3_loadOn_70 : decode cX3_loadOn 70 = .ok (.getfield 19, 3) := by decide +kernel
theorem dX3_loadOn_73 : decode cX3_loadOn 73 = .ok (.iload_n 2, 1) := by decide +kernel
theorem dX3_loadOn_74 : decode cX3_loadOn 74 = .ok (.iaload, 1) := by decide +kernel
theorem dX3_loadOn_75 : decode cX3_loadOn 75 = .ok (.aload_n 0, 1) := by decide +kernel
theorem dX3_loadOn_76 : decode cX3_loadOn 76 = .ok (.aload_n 1, 1) := by decide +kernel
theorem dX3_loadOn_77 : decode cX3_loadOn 77 = .ok (.iload_n 2, 1) := by decide +kernel
theorem dX3_loadOn_78 : decode cX3_loadOn 78 = .ok (.iload 4, 2) := by decide +kernel
theorem dX3_loadOn_80 : decode cX3_loadOn 80 = .ok (.invokevirtual 74, 3) := by decide +kernel
theorem dX3_loadOn_83 : decode cX3_loadOn 83 = .ok (.iload 5, 2) := by decide +kernel
theorem dX3_loadOn_85 : decode cX3_loadOn 85 = .ok (.invokevirtual 78, 3) := by decide +kernel
theorem dX3_loadOn_88 : decode cX3_loadOn 88 = .ok (.aload_n 0, 1) := by decide +kernel
theorem dX3_loadOn_89 : decode cX3_loadOn 89 = .ok (.getfield 15, 3) := by decide +kernel
theorem dX3_loadOn_92 : decode cX3_loadOn 92 = .ok (.invokevirtual 82, 3) := by decide +kernel
theorem dX3_loadOn_95 : decode cX3_loadOn 95 = .ok (.ireturn, 1) := by decide +kernel
theorem dX3_burdenOn_0 : decode cX3_burdenOn 0 = .ok (.aload_n 0, 1) := by decide +kernel
theorem dX3_burdenOn_1 : decode cX3_burdenOn 1 = .ok (.aload_n 1, 1) := by decide +kernel
theorem dX3_burdenOn_2 : decode cX3_burdenOn 2 = .ok (.iload_n 2, 1) := by decide +kernel
theorem dX3_burdenOn_3 : decode cX3_burdenOn 3 = .ok (.iload_n 3, 1) := by decide +kernel
theorem dX3_burdenOn_4 : decode cX3_burdenOn 4 = .ok (.iload 4, 2) := by decide +kernel
theorem dX3_burdenOn_6 : decode cX3_burdenOn 6 = .ok (.invokevirtual 86, 3) := by decide +kernel
theorem dX3_burdenOn_9 : decode cX3_burdenOn 9 = .ok (.aload_n 0, 1) := by decide +kernel
theorem dX3_burdenOn_10 : decode cX3_burdenOn 10 = .ok (.getfield 9, 3) := by decide +kernel
theorem dX3_burdenOn_13 : decode cX3_burdenOn 13 = .ok (.getfield 59, 3) := by decide +kernel
theorem dX3_burdenOn_16 : decode cX3_burdenOn 16 = .ok (.iload_n 3, 1) := by decide +kernel
theorem dX3_burdenOn_17 : decode cX3_burdenOn 17 = .ok (.iaload, 1) := by decide +kernel
theorem dX3_burdenOn_18 : decode cX3_burdenOn 18 = .ok (.imul, 1) := by decide +kernel
theorem dX3_burdenOn_19 : decode cX3_burdenOn 19 = .ok (.iconst 4, 1) := by decide +kernel
theorem dX3_burdenOn_20 : decode cX3_burdenOn 20 = .ok (.idiv, 1) := by decide +kernel
theorem dX3_burdenOn_21 : decode cX3_burdenOn 21 = .ok (.ireturn, 1) := by decide +kernel
theorem dX3_bearsIn_0 : decode cX3_bearsIn 0 = .ok (.aload_n 1, 1) := by decide +kernel
theorem dX3_bearsIn_1 : decode cX3_bearsIn 1 = .ok (.iload_n 2, 1) := by decide +kernel
theorem dX3_bearsIn_2 : decode cX3_bearsIn 2 = .ok (.invokevirtual 90, 3) := by decide +kernel
theorem dX3_bearsIn_5 : decode cX3_bearsIn 5 = .ok (.ifCond .eq 5, 3) := by decide +kernel
theorem dX3_bearsIn_8 : decode cX3_bearsIn 8 = .ok (.iconst 0, 1) := by decide +kernel
theorem dX3_bearsIn_9 : decode cX3_bearsIn 9 = .ok (.ireturn, 1) := by decide +kernel
theorem dX3_bearsIn_10 : decode cX3_bearsIn 10 = .ok (.aload_n 0, 1) := by decide +kernel
theorem dX3_bearsIn_11 : decode cX3_bearsIn 11 = .ok (.aload_n 1, 1) := by decide +kernel
theorem dX3_bearsIn_12 : decode cX3_bearsIn 12 = .ok (.iload_n 2, 1) := by decide +kernel
theorem dX3_bearsIn_13 : decode cX3_bearsIn 13 = .ok (.iload 4, 2) := by decide +kernel
theorem dX3_bearsIn_15 : decode cX3_bearsIn 15 = .ok (.invokevirtual 74, 3) := by decide +kernel
theorem dX3_bearsIn_18 : decode cX3_bearsIn 18 = .ok (.aload_n 0, 1) := by decide +kernel
theorem dX3_bearsIn_19 : decode cX3_bearsIn 19 = .ok (.aload_n 1, 1) := by decide +kernel
theorem dX3_bearsIn_20 : decode cX3_bearsIn 20 = .ok (.iload_n 2, 1) := by decide +kernel
theorem dX3_bearsIn_21 : decode cX3_bearsIn 21 = .ok (.iload_n 3, 1) := by decide +kernel
theorem dX3_bearsIn_22 : decode cX3_bearsIn 22 = .ok (.iload 4, 2) := by decide +kernel
theorem dX3_bearsIn_24 : decode cX3_bearsIn 24 = .ok (.invokevirtual 94, 3) := by decide +kernel
theorem dX3_bearsIn_27 : decode cX3_bearsIn 27 = .ok (.iadd, 1) := by decide +kernel
theorem dX3_bearsIn_28 : decode cX3_bearsIn 28 = .ok (.istore 5, 2) := by decide +kernel
theorem dX3_bearsIn_30 : decode cX3_bearsIn 30 = .ok (.iload 5, 2) := by decide +kernel
theorem dX3_bearsIn_32 : decode cX3_bearsIn 32 = .ok (.aload_n 0, 1) := by decide +kernel
theorem dX3_bearsIn_33 : decode cX3_bearsIn 33 = .ok (.getfield 9, 3) := by decide +kernel
theorem dX3_bearsIn_36 : decode cX3_bearsIn 36 = .ok (.getfield 97, 3) := by decide +kernel
theorem dX3_bearsIn_39 : decode cX3_bearsIn 39 = .ok (.iload_n 2, 1) := by decide +kernel
theorem dX3_bearsIn_40 : decode cX3_bearsIn 40 = .ok (.iaload, 1) := by decide +kernel
theorem dX3_bearsIn_41 : decode cX3_bearsIn 41 = .ok (.if_icmp .gt 7, 3) := by decide +kernel
theorem dX3_bearsIn_44 : decode cX3_bearsIn 44 = .ok (.iconst 1, 1) := by decide +kernel
theorem dX3_bearsIn_45 : decode cX3_bearsIn 45 = .ok (.goto 4, 3) := by decide +kernel
theorem dX3_bearsIn_48 : decode cX3_bearsIn 48 = .ok (.iconst 0, 1) := by decide +kernel
theorem dX3_bearsIn_49 : decode cX3_bearsIn 49 = .ok (.ireturn, 1) := by decide +kernel
theorem dX3_sit_0 : decode cX3_sit 0 = .ok (.aload_n 1, 1) := by decide +kernel
theorem dX3_sit_1 : decode cX3_sit 1 = .ok (.iload_n 2, 1) := by decide +kernel
theorem dX3_sit_2 : decode cX3_sit 2 = .ok (.invokevirtual 90, 3) := by decide +kernel
theorem dX3_sit_5 : decode cX3_sit 5 = .ok (.ifCond .eq 5, 3) := by decide +kernel
theorem dX3_sit_8 : decode cX3_sit 8 = .ok (.iconst 0, 1) := by decide +kernel
theorem dX3_sit_9 : decode cX3_sit 9 = .ok (.ireturn, 1) := by decide +kernel
theorem dX3_sit_10 : decode cX3_sit 10 = .ok (.aload_n 1, 1) := by decide +kernel
theorem dX3_sit_11 : decode cX3_sit 11 = .ok (.iload_n 2, 1) := by decide +kernel
theorem dX3_sit_12 : decode cX3_sit 12 = .ok (.iload_n 3, 1) := by decide +kernel
theorem dX3_sit_13 : decode cX3_sit 13 = .ok (.aload_n 0, 1) := by decide +kernel
theorem dX3_sit_14 : decode cX3_sit 14 = .ok (.aload_n 1, 1) := by decide +kernel
theorem dX3_sit_15 : decode cX3_sit 15 = .ok (.iload_n 2, 1) := by decide +kernel
theorem dX3_sit_16 : decode cX3_sit 16 = .ok (.iload_n 3, 1) := by decide +kernel
theorem dX3_sit_17 : decode cX3_sit 17 = .ok (.iconst 0, 1) := by decide +kernel
theorem dX3_sit_18 : decode cX3_sit 18 = .ok (.invokevirtual 94, 3) := by decide +kernel
theorem dX3_sit_21 : decode cX3_sit 21 = .ok (.invokevirtual 100, 3) := by decide +kernel
theorem dX3_sit_24 : decode cX3_sit 24 = .ok (.aload_n 1, 1) := by decide +kernel
theorem dX3_sit_25 : decode cX3_sit 25 = .ok (.getfield 25, 3) := by decide +kernel
theorem dX3_sit_28 : decode cX3_sit 28 = .ok (.iload_n 2, 1) := by decide +kernel
theorem dX3_sit_29 : decode cX3_sit 29 = .ok (.iaload, 1) := by decide +kernel
theorem dX3_sit_30 : decode cX3_sit 30 = .ok (.aload_n 0, 1) := by decide +kernel
theorem dX3_sit_31 : decode cX3_sit 31 = .ok (.getfield 9, 3) := by decide +kernel
theorem dX3_sit_34 : decode cX3_sit 34 = .ok (.getfield 97, 3) := by decide +kernel
theorem dX3_sit_37 : decode cX3_sit 37 = .ok (.iload_n 2, 1) := by decide +kernel
theorem dX3_sit_38 : decode cX3_sit 38 = .ok (.iaload, 1) := by decide +kernel
theorem dX3_sit_39 : decode cX3_sit 39 = .ok (.if_icmp .le 18, 3) := by decide +kernel
theorem dX3_sit_42 : decode cX3_sit 42 = .ok (.aload_n 1, 1) := by decide +kernel
theorem dX3_sit_43 : decode cX3_sit 43 = .ok (.dup, 1) := by decide +kernel
theorem dX3_sit_44 : decode cX3_sit 44 = .ok (.getfield 103, 3) := by decide +kernel
theorem dX3_sit_47 : decode cX3_sit 47 = .ok (.iconst 1, 1) := by decide +kernel
theorem dX3_sit_48 : decode cX3_sit 48 = .ok (.iload_n 2, 1) := by decide +kernel
theorem dX3_sit_49 : decode cX3_sit 49 = .ok (.ishl, 1) := by decide +kernel
theorem dX3_sit_50 : decode cX3_sit 50 = .ok (.ior, 1) := by decide +kernel
theorem dX3_sit_51 : decode cX3_sit 51 = .ok (.putfield 103, 3) := by decide +kernel
theorem dX3_sit_54 : decode cX3_sit 54 = .ok (.goto 34, 3) := by decide +kernel
theorem dX3_sit_57 : decode cX3_sit 57 = .ok (.aload_n 0, 1) := by decide +kernel
theorem dX3_sit_58 : decode cX3_sit 58 = .ok (.getfield 9, 3) := by decide +kernel
theorem dX3_sit_61 : decode cX3_sit 61 = .ok (.getfield 56, 3) := by decide +kernel
theorem dX3_sit_64 : decode cX3_sit 64 = .ok (.iload_n 3, 1) := by decide +kernel
theorem dX3_sit_65 : decode cX3_sit 65 = .ok (.iaload, 1) := by decide +kernel
theorem dX3_sit_66 : decode cX3_sit 66 = .ok (.aload_n 0, 1) := by decide +kernel
theorem dX3_sit_67 : decode cX3_sit 67 = .ok (.getfield 9, 3) := by decide +kernel
theorem dX3_sit_70 : decode cX3_sit 70 = .ok (.getfield 19, 3) := by decide +kernel
theorem dX3_sit_73 : decode cX3_sit 73 = .ok (.iload_n 2, 1) := by decide +kernel
theorem dX3_sit_74 : decode cX3_sit 74 = .ok (.iaload, 1) := by decide +kernel
theorem dX3_sit_75 : decode cX3_sit 75 = .ok (.iadd, 1) := by decide +kernel
theorem dX3_sit_76 : decode cX3_sit 76 = .ok (.bipush 10, 2) := by decide +kernel
theorem dX3_sit_78 : decode cX3_sit 78 = .ok (.if_icmp .lt 10, 3) := by decide +kernel
theorem dX3_sit_81 : decode cX3_sit 81 = .ok (.aload_n 1, 1) := by decide +kernel
theorem dX3_sit_82 : decode cX3_sit 82 = .ok (.iload_n 2, 1) := by decide +kernel
theorem dX3_sit_83 : decode cX3_sit 83 = .ok (.iload_n 3, 1) := by decide +kernel
theorem dX3_sit_84 : decode cX3_sit 84 = .ok (.iconst 0, 1) := by decide +kernel
theorem dX3_sit_85 : decode cX3_sit 85 = .ok (.invokevirtual 106, 3) := by decide +kernel
theorem dX3_sit_88 : decode cX3_sit 88 = .ok (.iconst 1, 1) := by decide +kernel
theorem dX3_sit_89 : decode cX3_sit 89 = .ok (.ireturn, 1) := by decide +kernel
theorem dX3_hold_0 : decode cX3_hold 0 = .ok (.aload_n 1, 1) := by decide +kernel
theorem dX3_hold_1 : decode cX3_hold 1 = .ok (.getfield 44, 3) := by decide +kernel
theorem dX3_hold_4 : decode cX3_hold 4 = .ok (.iload_n 2, 1) := by decide +kernel
theorem dX3_hold_5 : decode cX3_hold 5 = .ok (.if_icmp .eq 14, 3) := by decide +kernel
theorem dX3_hold_8 : decode cX3_hold 8 = .ok (.iload_n 2, 1) := by decide +kernel
theorem dX3_hold_9 : decode cX3_hold 9 = .ok (.aload_n 0, 1) := by decide +kernel
theorem dX3_hold_10 : decode cX3_hold 10 = .ok (.getfield 9, 3) := by decide +kernel
theorem dX3_hold_13 : decode cX3_hold 13 = .ok (.getfield 40, 3) := by decide +kernel
theorem dX3_hold_16 : decode cX3_hold 16 = .ok (.if_icmp .le 5, 3) := by decide +kernel
theorem dX3_hold_19 : decode cX3_hold 19 = .ok (.iconst 0, 1) := by decide +kernel
theorem dX3_hold_20 : decode cX3_hold 20 = .ok (.ireturn, 1) := by decide +kernel
theorem dX3_hold_21 : decode cX3_hold 21 = .ok (.aload_n 1, 1) := by decide +kernel
theorem dX3_hold_22 : decode cX3_hold 22 = .ok (.iload_n 2, 1) := by decide +kernel
theorem dX3_hold_23 : decode cX3_hold 23 = .ok (.putfield 44, 3) := by decide +kernel
theorem dX3_hold_26 : decode cX3_hold 26 = .ok (.iconst 1, 1) := by decide +kernel
theorem dX3_hold_27 : decode cX3_hold 27 = .ok (.ireturn, 1) := by decide +kernel
theorem dX3_dawn_0 : decode cX3_dawn 0 = .ok (.aload_n 1, 1) := by decide +kernel
theorem dX3_dawn_1 : decode cX3_dawn 1 = .ok (.getfield 47, 3) := by decide +kernel
theorem dX3_dawn_4 : decode cX3_dawn 4 = .ok (.sipush 400, 3) := by decide +kernel
theorem dX3_dawn_7 : decode cX3_dawn 7 = .ok (.if_icmp .lt 5, 3) := by decide +kernel
theorem dX3_dawn_10 : decode cX3_dawn 10 = .ok (.iconst 0, 1) := by decide +kernel
theorem dX3_dawn_11 : decode cX3_dawn 11 = .ok (.ireturn, 1) := by decide +kernel
theorem dX3_dawn_12 : decode cX3_dawn 12 = .ok (.aload_n 0, 1) := by decide +kernel
theorem dX3_dawn_13 : decode cX3_dawn 13 = .ok (.aload_n 1, 1) := by decide +kernel
theorem dX3_dawn_14 : decode cX3_dawn 14 = .ok (.invokevirtual 109, 3) := by decide +kernel
theorem dX3_dawn_17 : decode cX3_dawn 17 = .ok (.iconst 1, 1) := by decide +kernel
theorem dX3_dawn_18 : decode cX3_dawn 18 = .ok (.ireturn, 1) := by decide +kernel
theorem dX3_passDay_0 : decode cX3_passDay 0 = .ok (.iconst 0, 1) := by decide +kernel
theorem dX3_passDay_1 : decode cX3_passDay 1 = .ok (.istore_n 2, 1) := by decide +kernel
theorem dX3_passDay_2 : decode cX3_passDay 2 = .ok (.iload_n 2, 1) := by decide +kernel
theorem dX3_passDay_3 : decode cX3_passDay 3 = .ok (.aload_n 0, 1) := by decide +kernel
theorem dX3_passDay_4 : decode cX3_passDay 4 = .ok (.getfield 9, 3) := by decide +kernel
theorem dX3_passDay_7 : decode cX3_passDay 7 = .ok (.getfield 113, 3) := by decide +kernel
theorem dX3_passDay_10 : decode cX3_passDay 10 = .ok (.if_icmp .ge 22, 3) := by decide +kernel
theorem dX3_passDay_13 : decode cX3_passDay 13 = .ok (.aload_n 1, 1) := by decide +kernel
theorem dX3_passDay_14 : decode cX3_passDay 14 = .ok (.getfield 25, 3) := by decide +kernel
theorem dX3_passDay_17 : decode cX3_passDay 17 = .ok (.iload_n 2, 1) := by decide +kernel
theorem dX3_passDay_18 : decode cX3_passDay 18 = .ok (.aload_n 0, 1) := by decide +kernel
theorem dX3_passDay_19 : decode cX3_passDay 19 = .ok (.aload_n 1, 1) := by decide +kernel
theorem dX3_passDay_20 : decode cX3_passDay 20 = .ok (.iload_n 2, 1) := by decide +kernel
theorem dX3_passDay_21 : decode cX3_passDay 21 = .ok (.iconst 1, 1) := by decide +kernel
theorem dX3_passDay_22 : decode cX3_passDay 22 = .ok (.invokevirtual 74, 3) := by decide +kernel
theorem dX3_passDay_25 : decode cX3_passDay 25 = .ok (.iastore, 1) := by decide +kernel
theorem dX3_passDay_26 : decode cX3_passDay 26 = .ok (.iinc 2 1, 3) := by decide +kernel
theorem dX3_passDay_29 : decode cX3_passDay 29 = .ok (.goto (-27), 3) := by decide +kernel
theorem dX3_passDay_32 : decode cX3_passDay 32 = .ok (.aload_n 1, 1) := by decide +kernel
theorem dX3_passDay_33 : decode cX3_passDay 33 = .ok (.dup, 1) := by decide +kernel
theorem dX3_passDay_34 : decode cX3_passDay 34 = .ok (.getfield 47, 3) := by decide +kernel
theorem dX3_passDay_37 : decode cX3_passDay 37 = .ok (.iconst 1, 1) := by decide +kernel
theorem dX3_passDay_38 : decode cX3_passDay 38 = .ok (.iadd, 1) := by decide +kernel
theorem dX3_passDay_39 : decode cX3_passDay 39 = .ok (.putfield 47, 3) := by decide +kernel
theorem dX3_passDay_42 : decode cX3_passDay 42 = .ok (.return_, 1) := by decide +kernel
theorem dX3_knownByAllWhoStand_0 : decode cX3_knownByAllWhoStand 0 = .ok (.aload_n 0, 1) := by decide +kernel
theorem dX3_knownByAllWhoStand_1 : decode cX3_knownByAllWhoStand 1 = .ok (.getfield 9, 3) := by decide +kernel
theorem dX3_knownByAllWhoStand_4 : decode cX3_knownByAllWhoStand 4 = .ok (.invokevirtual 116, 3) := by decide +kernel
theorem dX3_knownByAllWhoStand_7 : decode cX3_knownByAllWhoStand 7 = .ok (.istore_n 2, 1) := by decide +kernel
theorem dX3_knownByAllWhoStand_8 : decode cX3_knownByAllWhoStand 8 = .ok (.iconst 0, 1) := by decide +kernel
theorem dX3_knownByAllWhoStand_9 : decode cX3_knownByAllWhoStand 9 = .ok (.istore_n 3, 1) := by decide +kernel
theorem dX3_knownByAllWhoStand_10 : decode cX3_knownByAllWhoStand 10 = .ok (.iload_n 3, 1) := by decide +kernel
theorem dX3_knownByAllWhoStand_11 : decode cX3_knownByAllWhoStand 11 = .ok (.aload_n 0, 1) := by decide +kernel
theorem dX3_knownByAllWhoStand_12 : decode cX3_knownByAllWhoStand 12 = .ok (.getfield 9, 3) := by decide +kernel
theorem dX3_knownByAllWhoStand_15 : decode cX3_knownByAllWhoStand 15 = .ok (.getfield 113, 3) := by decide +kernel
theorem dX3_knownByAllWhoStand_18 : decode cX3_knownByAllWhoStand 18 = .ok (.if_icmp .ge 30, 3) := by decide +kernel
theorem dX3_knownByAllWhoStand_21 : decode cX3_knownByAllWhoStand 21 = .ok (.iload_n 2, 1) := by decide +kernel
theorem dX3_knownByAllWhoStand_22 : decode cX3_knownByAllWhoStand 22 = .ok (.aload_n 1, 1) := by decide +kernel
theorem dX3_knownByAllWhoStand_23 : decode cX3_knownByAllWhoStand 23 = .ok (.iload_n 3, 1) := by decide +kernel
theorem dX3_knownByAllWhoStand_24 : decode cX3_knownByAllWhoStand 24 = .ok (.invokevirtual 90, 3) := by decide +kernel
theorem dX3_knownByAllWhoStand_27 : decode cX3_knownByAllWhoStand 27 = .ok (.ifCond .eq 7, 3) := by decide +kernel
theorem dX3_knownByAllWhoStand_30 : decode cX3_knownByAllWhoStand 30 = .ok (.iload_n 2, 1) := by decide +kernel
theorem dX3_knownByAllWhoStand_31 : decode cX3_knownByAllWhoStand 31 = .ok (.goto 9, 3) := by decide +kernel
theorem dX3_knownByAllWhoStand_34 : decode cX3_knownByAllWhoStand 34 = .ok (.aload_n 1, 1) := by decide +kernel
theorem dX3_knownByAllWhoStand_35 : decode cX3_knownByAllWhoStand 35 = .ok (.getfield 66, 3) := by decide +kernel
theorem dX3_knownByAllWhoStand_38 : decode cX3_knownByAllWhoStand 38 = .ok (.iload_n 3, 1) := by decide +kernel
theorem dX3_knownByAllWhoStand_39 : decode cX3_knownByAllWhoStand 39 = .ok (.iaload, 1) := by decide +kernel
theorem dX3_knownByAllWhoStand_40 : decode cX3_knownByAllWhoStand 40 = .ok (.iand, 1) := by decide +kernel
theorem dX3_knownByAllWhoStand_41 : decode cX3_knownByAllWhoStand 41 = .ok (.istore_n 2, 1) := by decide +kernel
theorem dX3_knownByAllWhoStand_42 : decode cX3_knownByAllWhoStand 42 = .ok (.iinc 3 1, 3) := by decide +kernel
theorem dX3_knownByAllWhoStand_45 : decode cX3_knownByAllWhoStand 45 = .ok (.goto (-35), 3) := by decide +kernel
theorem dX3_knownByAllWhoStand_48 : decode cX3_knownByAllWhoStand 48 = .ok (.iload_n 2, 1) := by decide +kernel
theorem dX3_knownByAllWhoStand_49 : decode cX3_knownByAllWhoStand 49 = .ok (.ireturn, 1) := by decide +kernel
theorem dX2_init_0 : decode cX2_init 0 = .ok (.aload_n 0, 1) := by decide +kernel
theorem dX2_init_1 : decode cX2_init 1 = .ok (.invokespecial 3, 3) := by decide +kernel
theorem dX2_init_4 : decode cX2_init 4 = .ok (.aload_n 0, 1) := by decide +kernel
theorem dX2_init_5 : decode cX2_init 5 = .ok (.sipush 136, 3) := by decide +kernel
theorem dX2_init_8 : decode cX2_init 8 = .ok (.newarray .int, 2) := by decide +kernel
theorem dX2_init_10 : decode cX2_init 10 = .ok (.putfield 11, 3) := by decide +kernel
theorem dX2_init_13 : decode cX2_init 13 = .ok (.aload_n 0, 1) := by decide +kernel
theorem dX2_init_14 : decode cX2_init 14 = .ok (.aload_n 1, 1) := by decide +kernel
theorem dX2_init_15 : decode cX2_init 15 = .ok (.putfield 15, 3) := by decide +kernel
theorem dX2_init_18 : decode cX2_init 18 = .ok (.aload_n 0, 1) := by decide +kernel
theorem dX2_init_19 : decode cX2_init 19 = .ok (.aload_n 2, 1) := by decide +kernel
theorem dX2_init_20 : decode cX2_init 20 = .ok (.putfield 19, 3) := by decide +kernel
theorem dX2_init_23 : decode cX2_init 23 = .ok (.return_, 1) := by decide +kernel
theorem dX2_findFits_0 : decode cX2_findFits 0 = .ok (.aload_n 0, 1) := by decide +kernel
theorem dX2_findFits_1 : decode cX2_findFits 1 = .ok (.iconst 0, 1) := by decide +kernel
theorem dX2_findFits_2 : decode cX2_findFits 2 = .ok (.putfield 23, 3) := by decide +kernel
theorem dX2_findFits_5 : decode cX2_findFits 5 = .ok (.aload_n 0, 1) := by decide +kernel
theorem dX2_findFits_6 : decode cX2_findFits 6 = .ok (.iconst (-1), 1) := by decide +kernel
theorem dX2_findFits_7 : decode cX2_findFits 7 = .ok (.putfield 27, 3) := by decide +kernel
theorem dX2_findFits_10 : decode cX2_findFits 10 = .ok (.iconst 0, 1) := by decide +kernel
theorem dX2_findFits_11 : decode cX2_findFits 11 = .ok (.istore_n 2, 1) := by decide +kernel
theorem dX2_findFits_12 : decode cX2_findFits 12 = .ok (.iload_n 2, 1) := by decide +kernel
theorem dX2_findFits_13 : decode cX2_findFits 13 = .ok (.aload_n 0, 1) := by decide +kernel
theorem dX2_findFits_14 : decode cX2_findFits 14 = .ok (.getfield 15, 3) := by decide +kernel
theorem dX2_findFits_17 : decode cX2_findFits 17 = .ok (.getfield 30, 3) := by decide +kernel
theorem dX2_findFits_20 : decode cX2_findFits 20 = .ok (.getfield 36, 3) := by decide +kernel
theorem dX2_findFits_23 : decode cX2_findFits 23 = .ok (.if_icmp .ge 81, 3) := by decide +kernel
theorem dX2_findFits_26 : decode cX2_findFits 26 = .ok (.iconst 0, 1) := by decide +kernel
theorem dX2_findFits_27 : decode cX2_findFits 27 = .ok (.istore_n 3, 1) := by decide +kernel
theorem dX2_findFits_28 : decode cX2_findFits 28 = .ok (.iload_n 3, 1) := by decide +kernel
theorem dX2_findFits_29 : decode cX2_findFits 29 = .ok (.aload_n 0, 1) := by decide +kernel
theorem dX2_findFits_30 : decode cX2_findFits 30 = .ok (.getfield 15, 3) := by decide +kernel
theorem dX2_findFits_33 : decode cX2_findFits 33 = .ok (.getfield 30, 3) := by decide +kernel
theorem dX2_findFits_36 : decode cX2_findFits 36 = .ok (.getfield 41, 3) := by decide +kernel
theorem dX2_findFits_39 : decode cX2_findFits 39 = .ok (.if_icmp .ge 59, 3) := by decide +kernel
theorem dX2_findFits_42 : decode cX2_findFits 42 = .ok (.aload_n 0, 1) := by decide +kernel
theorem dX2_findFits_43 : decode cX2_findFits 43 = .ok (.aload_n 1, 1) := by decide +kernel
theorem dX2_findFits_44 : decode cX2_findFits 44 = .ok (.iload_n 2, 1) := by decide +kernel
theorem dX2_findFits_45 : decode cX2_findFits 45 = .ok (.aload_n 0, 1) := by decide +kernel
theorem dX2_findFits_46 : decode cX2_findFits 46 = .ok (.aload_n 1, 1) := by decide +kernel
theorem dX2_findFits_47 : decode cX2_findFits 47 = .ok (.iload_n 2, 1) := by decide +kernel
theorem dX2_findFits_48 : decode cX2_findFits 48 = .ok (.iload_n 3, 1) := by decide +kernel
theorem dX2_findFits_49 : decode cX2_findFits 49 = .ok (.invokevirtual 44, 3) := by decide +kernel
theorem dX2_findFits_52 : decode cX2_findFits 52 = .ok (.invokevirtual 48, 3) := by decide +kernel
theorem dX2_findFits_55 : decode cX2_findFits 55 = .ok (.ifCond .eq 37, 3) := by decide +kernel
theorem dX2_findFits_58 : decode cX2_findFits 58 = .ok (.aload_n 0, 1) := by decide +kernel
theorem dX2_findFits_59 : decode cX2_findFits 59 = .ok (.aload_n 0, 1) := by decide +kernel
theorem dX2_findFits_60 : decode cX2_findFits 60 = .ok (.getfield 23, 3) := by decide +kernel
theorem dX2_findFits_63 : decode cX2_findFits 63 = .ok (.ifCond .ne 12, 3) := by decide +kernel
theorem dX2_findFits_66 : decode cX2_findFits 66 = .ok (.bipush 100, 2) := by decide +kernel
theorem dX2_findFits_68 : decode cX2_findFits 68 = .ok (.iload_n 2, 1) := by decide +kernel
theorem dX2_findFits_69 : decode cX2_findFits 69 = .ok (.imul, 1) := by decide +kernel
theorem dX2_findFits_70 : decode cX2_findFits 70 = .ok (.iload_n 3, 1) := by decide +kernel
theorem dX2_findFits_71 : decode cX2_findFits 71 = .ok (.iadd, 1) := by decide +kernel
theorem dX2_findFits_72 : decode cX2_findFits 72 = .ok (.goto 7, 3) := by decide +kernel
theorem dX2_findFits_75 : decode cX2_findFits 75 = .ok (.aload_n 0, 1) := by decide +kernel
theorem dX2_findFits_76 : decode cX2_findFits 76 = .ok (.getfield 27, 3) := by decide +kernel
theorem dX2_findFits_79 : decode cX2_findFits 79 = .ok (.putfield 27, 3) := by decide +kernel
theorem dX2_findFits_82 : decode cX2_findFits 82 = .ok (.aload_n 0, 1) := by decide +kernel
theorem dX2_findFits_83 : decode cX2_findFits 83 = .ok (.dup, 1) := by decide +kernel
theorem dX2_findFits_84 : decode cX2_findFits 84 = .ok (.getfield 23, 3) := by decide +kernel
theorem dX2_findFits_87 : decode cX2_findFits 87 = .ok (.iconst 1, 1) := by decide +kernel
theorem dX2_findFits_88 : decode cX2_findFits 88 = .ok (.iadd, 1) := by decide +kernel
theorem dX2_findFits_89 : decode cX2_findFits 89 = .ok (.putfield 23, 3) := by decide +kernel
theorem dX2_findFits_92 : decode cX2_findFits 92 = .ok (.iinc 3 1, 3) := by decide +kernel
theorem dX2_findFits_95 : decode cX2_findFits 95 = .ok (.goto (-67), 3) := by decide +kernel
theorem dX2_findFits_98 : decode cX2_findFits 98 = .ok (.iinc 2 1, 3) := by decide +kernel
theorem dX2_findFits_101 : decode cX2_findFits 101 = .ok (.goto (-89), 3) := by decide +kernel
theorem dX2_findFits_104 : decode cX2_findFits 104 = .ok (.return_, 1) := by decide +kernel
theorem dX2_findLook_0 : decode cX2_findLook 0 = .ok (.aload_n 0, 1) := by decide +kernel
theorem dX2_findLook_1 : decode cX2_findLook 1 = .ok (.aload_n 1, 1) := by decide +kernel
theorem dX2_findLook_2 : decode cX2_findLook 2 = .ok (.invokevirtual 52, 3) := by decide +kernel
theorem dX2_findLook_5 : decode cX2_findLook 5 = .ok (.aload_n 0, 1) := by decide +kernel
theorem dX2_findLook_6 : decode cX2_findLook 6 = .ok (.iconst (-1), 1) := by decide +kernel
theorem dX2_findLook_7 : decode cX2_findLook 7 = .ok (.putfield 56, 3) := by decide +kernel
theorem dX2_findLook_10 : decode cX2_findLook 10 = .ok (.aload_n 0, 1) := by decide +kernel
theorem dX2_findLook_11 : decode cX2_findLook 11 = .ok (.iconst (-1), 1) := by decide +kernel
theorem dX2_findLook_12 : decode cX2_findLook 12 = .ok (.putfield 59, 3) := by decide +kernel
theorem dX2_findLook_15 : decode cX2_findLook 15 = .ok (.iconst 0, 1) := by decide +kernel
theorem dX2_findLook_16 : decode cX2_findLook 16 = .ok (.istore_n 2, 1) := by decide +kernel
theorem dX2_findLook_17 : decode cX2_findLook 17 = .ok (.iload_n 2, 1) := by decide +kernel
theorem dX2_findLook_18 : decode cX2_findLook 18 = .ok (.aload_n 0, 1) := by decide +kernel
theorem dX2_findLook_19 : decode cX2_findLook 19 = .ok (.getfield 15, 3) := by decide +kernel
theorem dX2_findLook_22 : decode cX2_findLook 22 = .ok (.getfield 30, 3) := by decide +kernel
theorem dX2_findLook_25 : decode cX2_findLook 25 = .ok (.getfield 36, 3) := by decide +kernel
theorem dX2_findLook_28 : decode cX2_findLook 28 = .ok (.if_icmp .ge 56, 3) := by decide +kernel
theorem dX2_findLook_31 : decode cX2_findLook 31 = .ok (.aload_n 0, 1) := by decide +kernel
theorem dX2_findLook_32 : decode cX2_findLook 32 = .ok (.getfield 19, 3) := by decide +kernel
theorem dX2_findLook_35 : decode cX2_findLook 35 = .ok (.iload_n 2, 1) := by decide +kernel
theorem dX2_findLook_36 : decode cX2_findLook 36 = .ok (.invokevirtual 62, 3) := by decide +kernel
theorem dX2_findLook_39 : decode cX2_findLook 39 = .ok (.ifCond .eq 6, 3) := by decide +kernel
theorem dX2_findLook_42 : decode cX2_findLook 42 = .ok (.goto 36, 3) := by decide +kernel
theorem dX2_findLook_45 : decode cX2_findLook 45 = .ok (.aload_n 0, 1) := by decide +kernel
theorem dX2_findLook_46 : decode cX2_findLook 46 = .ok (.aload_n 1, 1) := by decide +kernel
theorem dX2_findLook_47 : decode cX2_findLook 47 = .ok (.iload_n 2, 1) := by decide +kernel
theorem dX2_findLook_48 : decode cX2_findLook 48 = .ok (.invokevirtual 68, 3) := by decide +kernel
theorem dX2_findLook_51 : decode cX2_findLook 51 = .ok (.istore_n 3, 1) := by decide +kernel
theorem dX2_findLook_52 : decode cX2_findLook 52 = .ok (.aload_n 0, 1) := by decide +kernel
theorem dX2_findLook_53 : decode cX2_findLook 53 = .ok (.getfield 56, 3) := by decide +kernel
theorem dX2_findLook_56 : decode cX2_findLook 56 = .ok (.iconst (-1), 1) := by decide +kernel
theorem dX2_findLook_57 : decode cX2_findLook 57 = .ok (.if_icmp .eq 11, 3) := by decide +kernel
theorem dX2_findLook_60 : decode cX2_findLook 60 = .ok (.iload_n 3, 1) := by decide +kernel
theorem dX2_findLook_61 : decode cX2_findLook 61 = .ok (.aload_n 0, 1) := by decide +kernel
theorem dX2_findLook_62 : decode cX2_findLook 62 = .ok (.getfield 59, 3) := by decide +kernel
theorem dX2_findLook_65 : decode cX2_findLook 65 = .ok (.if_icmp .ge 13, 3) := by decide +kernel
theorem dX2_findLook_68 : decode cX2_findLook 68 = .ok (.aload_n 0, 1) := by decide +kernel
theorem dX2_findLook_69 : decode cX2_findLook 69 = .ok (.iload_n 2, 1) := by decide +kernel
theorem dX2_findLook_70 : decode cX2_findLook 70 = .ok (.putfield 56, 3) := by decide +kernel
theorem dX2_findLook_73 : decode cX2_findLook 73 = .ok (.aload_n 0, 1) := by decide +kernel
theorem dX2_findLook_74 : decode cX2_findLook 74 = .ok (.iload_n 3, 1) := by decide +kernel
theorem dX2_findLook_75 : decode cX2_findLook 75 = .ok (.putfield 59, 3) := by decide +kernel
theorem dX2_findLook_78 : decode cX2_findLook 78 = .ok (.iinc 2 1, 3) := by decide +kernel
theorem dX2_findLook_81 : decode cX2_findLook 81 = .ok (.goto (-64), 3) := by decide +kernel
theorem dX2_findLook_84 : decode cX2_findLook 84 = .ok (.return_, 1) := by decide +kernel
theorem dX2_added_0 : decode cX2_added 0 = .ok (.aload_n 1, 1) := by decide +kernel
theorem dX2_added_1 : decode cX2_added 1 = .ok (.iload_n 2, 1) := by decide +kernel
theorem dX2_added_2 : decode cX2_added 2 = .ok (.invokevirtual 72, 3) := by decide +kernel
theorem dX2_added_5 : decode cX2_added 5 = .ok (.ifCond .eq 7, 3) := by decide +kernel
theorem dX2_added_8 : decode cX2_added 8 = .ok (.iconst 0, 1) := by decide +kernel
theorem dX2_added_9 : decode cX2_added 9 = .ok (.goto 14, 3) := by decide +kernel
theorem dX2_added_12 : decode cX2_added 12 = .ok (.aload_n 0, 1) := by decide +kernel
theorem dX2_added_13 : decode cX2_added 13 = .ok (.getfield 15, 3) := by decide +kernel
theorem dX2_added_16 : decode cX2_added 16 = .ok (.aload_n 1, 1) := by decide +kernel
theorem dX2_added_17 : decode cX2_added 17 = .ok (.iload_n 2, 1) := by decide +kernel
theorem dX2_added_18 : decode cX2_added 18 = .ok (.iload_n 3, 1) := by decide +kernel
theorem dX2_added_19 : decode cX2_added 19 = .ok (.iconst 0, 1) := by decide +kernel
theorem dX2_added_20 : decode cX2_added 20 = .ok (.invokevirtual 77, 3) := by decide +kernel
theorem dX2_added_23 : decode cX2_added 23 = .ok (.ireturn, 1) := by decide +kernel
theorem dX2_isRight_0 : decode cX2_isRight 0 = .ok (.iconst 0, 1) := by decide +kernel
theorem dX2_isRight_1 : decode cX2_isRight 1 = .ok (.istore 4, 2) := by decide +kernel
theorem dX2_isRight_3 : decode cX2_isRight 3 = .ok (.iload 4, 2) := by decide +kernel
theorem dX2_isRight_5 : decode cX2_isRight 5 = .ok (.aload_n 0, 1) := by decide +kernel
theorem dX2_isRight_6 : decode cX2_isRight 6 = .ok (.getfield 15, 3) := by decide +kernel
theorem dX2_isRight_9 : decode cX2_isRight 9 = .ok (.getfield 30, 3) := by decide +kernel
theorem dX2_isRight_12 : decode cX2_isRight 12 = .ok (.getfield 36, 3) := by decide +kernel
theorem dX2_isRight_15 : decode cX2_isRight 15 = .ok (.if_icmp .ge 59, 3) := by decide +kernel
theorem dX2_isRight_18 : decode cX2_isRight 18 = .ok (.aload_n 1, 1) := by decide +kernel
theorem dX2_isRight_19 : decode cX2_isRight 19 = .ok (.getfield 81, 3) := by decide +kernel
theorem dX2_isRight_22 : decode cX2_isRight 22 = .ok (.iload 4, 2) := by decide +kernel
theorem dX2_isRight_24 : decode cX2_isRight 24 = .ok (.iaload, 1) := by decide +kernel
theorem dX2_isRight_25 : decode cX2_isRight 25 = .ok (.iload 4, 2) := by decide +kernel
theorem dX2_isRight_27 : decode cX2_isRight 27 = .ok (.iload_n 2, 1) := by decide +kernel
theorem dX2_isRight_28 : decode cX2_isRight 28 = .ok (.if_icmp .ne 7, 3) := by decide +kernel
theorem dX2_isRight_31 : decode cX2_isRight 31 = .ok (.iload_n 3, 1) := by decide +kernel
theorem dX2_isRight_32 : decode cX2_isRight 32 = .ok (.goto 4, 3) := by decide +kernel
theorem dX2_isRight_35 : decode cX2_isRight 35 = .ok (.iconst 0, 1) := by decide +kernel
theorem dX2_isRight_36 : decode cX2_isRight 36 = .ok (.iadd, 1) := by decide +kernel
theorem dX2_isRight_37 : decode cX2_isRight 37 = .ok (.istore 5, 2) := by decide +kernel
theorem dX2_isRight_39 : decode cX2_isRight 39 = .ok (.aload_n 0, 1) := by decide +kernel
theorem dX2_isRight_40 : decode cX2_isRight 40 = .ok (.getfield 19, 3) := by decide +kernel
theorem dX2_isRight_43 : decode cX2_isRight 43 = .ok (.iload 4, 2) := by decide +kernel
theorem dX2_isRight_45 : decode cX2_isRight 45 = .ok (.invokevirtual 62, 3) := by decide +kernel
theorem dX2_isRight_48 : decode cX2_isRight 48 = .ok (.ifCond .eq 20, 3) := by decide +kernel
theorem dX2_isRight_51 : decode cX2_isRight 51 = .ok (.aload_n 0, 1) := by decide +kernel
theorem dX2_isRight_52 : decode cX2_isRight 52 = .ok (.getfield 19, 3) := by decide +kernel
theorem dX2_isRight_55 : decode cX2_isRight 55 = .ok (.getfield 84, 3) := by decide +kernel
theorem dX2_isRight_58 : decode cX2_isRight 58 = .ok (.iload 4, 2) := by decide +kernel
theorem dX2_isRight_60 : decode cX2_isRight 60 = .ok (.iaload, 1) := by decide +kernel
theorem dX2_isRight_61 : decode cX2_isRight 61 = .ok (.iload 5, 2) := by decide +kernel
theorem dX2_isRight_63 : decode cX2_isRight 63 = .ok (.if_icmp .eq 5, 3) := by decide +kernel
theorem dX2_isRight_66 : decode cX2_isRight 66 = .ok (.iconst 0, 1) := by decide +kernel
theorem dX2_isRight_67 : decode cX2_isRight 67 = .ok (.ireturn, 1) := by decide +kernel
theorem dX2_isRight_68 : decode cX2_isRight 68 = .ok (.iinc 4 1, 3) := by decide +kernel
theorem dX2_isRight_71 : decode cX2_isRight 71 = .ok (.goto (-68), 3) := by decide +kernel
theorem dX2_isRight_74 : decode cX2_isRight 74 = .ok (.iconst 1, 1) := by decide +kernel
theorem dX2_isRight_75 : decode cX2_isRight 75 = .ok (.ireturn, 1) := by decide +kernel
theorem dX2_worstLeft_0 : decode cX2_worstLeft 0 = .ok (.aload_n 0, 1) := by decide +kernel
theorem dX2_worstLeft_1 : decode cX2_worstLeft 1 = .ok (.getfield 11, 3) := by decide +kernel
theorem dX2_worstLeft_4 : decode cX2_worstLeft 4 = .ok (.iconst 0, 1) := by decide +kernel
theorem dX2_worstLeft_5 : decode cX2_worstLeft 5 = .ok (.invokestatic 85, 3) := by decide +kernel
theorem dX2_worstLeft_8 : decode cX2_worstLeft 8 = .ok (.iconst 0, 1) := by decide +kernel
theorem dX2_worstLeft_9 : decode cX2_worstLeft 9 = .ok (.istore_n 3, 1) := by decide +kernel
theorem dX2_worstLeft_10 : decode cX2_worstLeft 10 = .ok (.iconst 0, 1) := by decide +kernel
theorem dX2_worstLeft_11 : decode cX2_worstLeft 11 = .ok (.istore 4, 2) := by decide +kernel
theorem dX2_worstLeft_13 : decode cX2_worstLeft 13 = .ok (.iload 4, 2) := by decide +kernel
theorem dX2_worstLeft_15 : decode cX2_worstLeft 15 = .ok (.aload_n 0, 1) := by decide +kernel
theorem dX2_worstLeft_16 : decode cX2_worstLeft 16 = .ok (.getfield 15, 3) := by decide +kernel
theorem dX2_worstLeft_19 : decode cX2_worstLeft 19 = .ok (.getfield 30, 3) := by decide +kernel
theorem dX2_worstLeft_22 : decode cX2_worstLeft 22 = .ok (.getfield 41, 3) := by decide +kernel
theorem dX2_worstLeft_25 : decode cX2_worstLeft 25 = .ok (.if_icmp .ge 52, 3) := by decide +kernel
theorem dX2_worstLeft_28 : decode cX2_worstLeft 28 = .ok (.aload_n 0, 1) := by decide +kernel
theorem dX2_worstLeft_29 : decode cX2_worstLeft 29 = .ok (.aload_n 1, 1) := by decide +kernel
theorem dX2_worstLeft_30 : decode cX2_worstLeft 30 = .ok (.iload_n 2, 1) := by decide +kernel
theorem dX2_worstLeft_31 : decode cX2_worstLeft 31 = .ok (.iload 4, 2) := by decide +kernel
theorem dX2_worstLeft_33 : decode cX2_worstLeft 33 = .ok (.invokevirtual 44, 3) := by decide +kernel
theorem dX2_worstLeft_36 : decode cX2_worstLeft 36 = .ok (.istore 5, 2) := by decide +kernel
theorem dX2_worstLeft_38 : decode cX2_worstLeft 38 = .ok (.iload 5, 2) := by decide +kernel
theorem dX2_worstLeft_40 : decode cX2_worstLeft 40 = .ok (.sipush 135, 3) := by decide +kernel
theorem dX2_worstLeft_43 : decode cX2_worstLeft 43 = .ok (.if_icmp .gt 28, 3) := by decide +kernel
theorem dX2_worstLeft_46 : decode cX2_worstLeft 46 = .ok (.aload_n 0, 1) := by decide +kernel
theorem dX2_worstLeft_47 : decode cX2_worstLeft 47 = .ok (.aload_n 1, 1) := by decide +kernel
theorem dX2_worstLeft_48 : decode cX2_worstLeft 48 = .ok (.iload_n 2, 1) := by decide +kernel
theorem dX2_worstLeft_49 : decode cX2_worstLeft 49 = .ok (.iload 5, 2) := by decide +kernel
theorem dX2_worstLeft_51 : decode cX2_worstLeft 51 = .ok (.invokevirtual 48, 3) := by decide +kernel
theorem dX2_worstLeft_54 : decode cX2_worstLeft 54 = .ok (.ifCond .eq 17, 3) := by decide +kernel
theorem dX2_worstLeft_57 : decode cX2_worstLeft 57 = .ok (.aload_n 0, 1) := by decide +kernel
theorem dX2_worstLeft_58 : decode cX2_worstLeft 58 = .ok (.getfield 11, 3) := by decide +kernel
theorem dX2_worstLeft_61 : decode cX2_worstLeft 61 = .ok (.iload 5, 2) := by decide +kernel
theorem dX2_worstLeft_63 : decode cX2_worstLeft 63 = .ok (.dup2, 1) := by decide +kernel
theorem dX2_worstLeft_64 : decode cX2_worstLeft 64 = .ok (.iaload, 1) := by decide +kernel
theorem dX2_worstLeft_65 : decode cX2_worstLeft 65 = .ok (.iconst 1, 1) := by decide +kernel
theorem dX2_worstLeft_66 : decode cX2_worstLeft 66 = .ok (.iadd, 1) := by decide +kernel
theorem dX2_worstLeft_67 : decode cX2_worstLeft 67 = .ok (.iastore, 1) := by decide +kernel
theorem dX2_worstLeft_68 : decode cX2_worstLeft 68 = .ok (.iinc 3 1, 3) := by decide +kernel
theorem dX2_worstLeft_71 : decode cX2_worstLeft 71 = .ok (.iinc 4 1, 3) := by decide +kernel
theorem dX2_worstLeft_74 : decode cX2_worstLeft 74 = .ok (.goto (-61), 3) := by decide +kernel
theorem dX2_worstLeft_77 : decode cX2_worstLeft 77 = .ok (.aload_n 0, 1) := by decide +kernel
theorem dX2_worstLeft_78 : decode cX2_worstLeft 78 = .ok (.getfield 11, 3) := by decide +kernel
theorem dX2_worstLeft_81 : decode cX2_worstLeft 81 = .ok (.iconst 0, 1) := by decide +kernel
theorem dX2_worstLeft_82 : decode cX2_worstLeft 82 = .ok (.dup2, 1) := by decide +kernel
theorem dX2_worstLeft_83 : decode cX2_worstLeft 83 = .ok (.iaload, 1) := by decide +kernel
theorem dX2_worstLeft_84 : decode cX2_worstLeft 84 = .ok (.aload_n 0, 1) := by decide +kernel
theorem dX2_worstLeft_85 : decode cX2_worstLeft 85 = .ok (.getfield 23, 3) := by decide +kernel
theorem dX2_worstLeft_88 : decode cX2_worstLeft 88 = .ok (.iload_n 3, 1) := by decide +kernel
theorem dX2_worstLeft_89 : decode cX2_worstLeft 89 = .ok (.isub, 1) := by decide +kernel
theorem dX2_worstLeft_90 : decode cX2_worstLeft 90 = .ok (.iadd, 1) := by decide +kernel
theorem dX2_worstLeft_91 : decode cX2_worstLeft 91 = .ok (.iastore, 1) := by decide +kernel
theorem dX2_worstLeft_92 : decode cX2_worstLeft 92 = .ok (.iconst 0, 1) := by decide +kernel
theorem dX2_worstLeft_93 : decode cX2_worstLeft 93 = .ok (.istore 4, 2) := by decide +kernel
theorem dX2_worstLeft_95 : decode cX2_worstLeft 95 = .ok (.aload_n 0, 1) := by decide +kernel
theorem dX2_worstLeft_96 : decode cX2_worstLeft 96 = .ok (.getfield 11, 3) := by decide +kernel
theorem dX2_worstLeft_99 : decode cX2_worstLeft 99 = .ok (.astore 5, 2) := by decide +kernel
theorem dX2_worstLeft_101 : decode cX2_worstLeft 101 = .ok (.aload 5, 2) := by decide +kernel
theorem dX2_worstLeft_103 : decode cX2_worstLeft 103 = .ok (.arraylength, 1) := by decide +kernel
theorem dX2_worstLeft_104 : decode cX2_worstLeft 104 = .ok (.istore 6, 2) := by decide +kernel
theorem dX2_worstLeft_106 : decode cX2_worstLeft 106 = .ok (.iconst 0, 1) := by decide +kernel
theorem dX2_worstLeft_107 : decode cX2_worstLeft 107 = .ok (.istore 7, 2) := by decide +kernel
theorem dX2_worstLeft_109 : decode cX2_worstLeft 109 = .ok (.iload 7, 2) := by decide +kernel
theorem dX2_worstLeft_111 : decode cX2_worstLeft 111 = .ok (.iload 6, 2) := by decide +kernel
theorem dX2_worstLeft_113 : decode cX2_worstLeft 113 = .ok (.if_icmp .ge 25, 3) := by decide +kernel
theorem dX2_worstLeft_116 : decode cX2_worstLeft 116 = .ok (.aload 5, 2) := by decide +kernel
theorem dX2_worstLeft_118 : decode cX2_worstLeft 118 = .ok (.iload 7, 2) := by decide +kernel
theorem dX2_worstLeft_120 : decode cX2_worstLeft 120 = .ok (.iaload, 1) := by decide +kernel
theorem dX2_worstLeft_121 : decode cX2_worstLeft 121 = .ok (.istore 8, 2) := by decide +kernel
theorem dX2_worstLeft_123 : decode cX2_worstLeft 123 = .ok (.iload 4, 2) := by decide +kernel
theorem dX2_worstLeft_125 : decode cX2_worstLeft 125 = .ok (.iload 8, 2) := by decide +kernel
theorem dX2_worstLeft_127 : decode cX2_worstLeft 127 = .ok (.invokestatic 91, 3) := by decide +kernel
theorem dX2_worstLeft_130 : decode cX2_worstLeft 130 = .ok (.istore 4, 2) := by decide +kernel
theorem dX2_worstLeft_132 : decode cX2_worstLeft 132 = .ok (.iinc 7 1, 3) := by decide +kernel
theorem dX2_worstLeft_135 : decode cX2_worstLeft 135 = .ok (.goto (-26), 3) := by decide +kernel
theorem dX2_worstLeft_138 : decode cX2_worstLeft 138 = .ok (.iload 4, 2) := by decide +kernel
theorem dX2_worstLeft_140 : decode cX2_worstLeft 140 = .ok (.ireturn, 1) := by decide +kernel
theorem dX7_init_0 : decode cX7_init 0 = .ok (.aload_n 0, 1) := by decide +kernel
theorem dX7_init_1 : decode cX7_init 1 = .ok (.invokespecial 3, 3) := by decide +kernel
theorem dX7_init_4 : decode cX7_init 4 = .ok (.aload_n 0, 1) := by decide +kernel
theorem dX7_init_5 : decode cX7_init 5 = .ok (.new 9, 3) := by decide +kernel
theorem dX7_init_8 : decode cX7_init 8 = .ok (.dup, 1) := by decide +kernel
theorem dX7_init_9 : decode cX7_init 9 = .ok (.invokespecial 11, 3) := by decide +kernel
theorem dX7_init_12 : decode cX7_init 12 = .ok (.putfield 12, 3) := by decide +kernel
theorem dX7_init_15 : decode cX7_init 15 = .ok (.aload_n 0, 1) := by decide +kernel
theorem dX7_init_16 : decode cX7_init 16 = .ok (.aload_n 1, 1) := by decide +kernel
theorem dX7_init_17 : decode cX7_init 17 = .ok (.putfield 18, 3) := by decide +kernel
theorem dX7_init_20 : decode cX7_init 20 = .ok (.return_, 1) := by decide +kernel
theorem dX7_run_0 : decode cX7_run 0 = .ok (.aload_n 0, 1) := by decide +kernel
theorem dX7_run_1 : decode cX7_run 1 = .ok (.getfield 12, 3) := by decide +kernel
theorem dX7_run_4 : decode cX7_run 4 = .ok (.aload_n 1, 1) := by decide +kernel
theorem dX7_run_5 : decode cX7_run 5 = .ok (.invokevirtual 22, 3) := by decide +kernel
theorem dX7_run_8 : decode cX7_run 8 = .ok (.aload_n 0, 1) := by decide +kernel
theorem dX7_run_9 : decode cX7_run 9 = .ok (.iload_n 2, 1) := by decide +kernel
theorem dX7_run_10 : decode cX7_run 10 = .ok (.putfield 26, 3) := by decide +kernel
theorem dX7_run_13 : decode cX7_run 13 = .ok (.aload_n 0, 1) := by decide +kernel
theorem dX7_run_14 : decode cX7_run 14 = .ok (.iconst 0, 1) := by decide +kernel
theorem dX7_run_15 : decode cX7_run 15 = .ok (.putfield 30, 3) := by decide +kernel
theorem dX7_run_18 : decode cX7_run 18 = .ok (.aload_n 0, 1) := by decide +kernel
theorem dX7_run_19 : decode cX7_run 19 = .ok (.getfield 18, 3) := by decide +kernel
theorem dX7_run_22 : decode cX7_run 22 = .ok (.getfield 33, 3) := by decide +kernel
theorem dX7_run_25 : decode cX7_run 25 = .ok (.getfield 39, 3) := by decide +kernel
theorem dX7_run_28 : decode cX7_run 28 = .ok (.ifCond .eq 16, 3) := by decide +kernel
theorem dX7_run_31 : decode cX7_run 31 = .ok (.aload_n 0, 1) := by decide +kernel
theorem dX7_run_32 : decode cX7_run 32 = .ok (.getfield 18, 3) := by decide +kernel
theorem dX7_run_35 : decode cX7_run 35 = .ok (.getfield 33, 3) := by decide +kernel
theorem dX7_run_38 : decode cX7_run 38 = .ok (.getfield 44, 3) := by decide +kernel
theorem dX7_run_41 : decode cX7_run 41 = .ok (.ifCond .ne 7, 3) := by decide +kernel
theorem dX7_run_44 : decode cX7_run 44 = .ok (.iconst 1, 1) := by decide +kernel
theorem dX7_run_45 : decode cX7_run 45 = .ok (.goto 4, 3) := by decide +kernel
theorem dX7_run_48 : decode cX7_run 48 = .ok (.iconst 0, 1) := by decide +kernel
theorem dX7_run_49 : decode cX7_run 49 = .ok (.istore 5, 2) := by decide +kernel
theorem dX7_run_51 : decode cX7_run 51 = .ok (.iconst 0, 1) := by decide +kernel
theorem dX7_run_52 : decode cX7_run 52 = .ok (.istore 6, 2) := by decide +kernel
theorem dX7_run_54 : decode cX7_run 54 = .ok (.iload 6, 2) := by decide +kernel
theorem dX7_run_56 : decode cX7_run 56 = .ok (.iload 4, 2) := by decide +kernel
theorem dX7_run_58 : decode cX7_run 58 = .ok (.if_icmp .ge 49, 3) := by decide +kernel
theorem dX7_run_61 : decode cX7_run 61 = .ok (.iconst 0, 1) := by decide +kernel
theorem dX7_run_62 : decode cX7_run 62 = .ok (.istore 7, 2) := by decide +kernel
theorem dX7_run_64 : decode cX7_run 64 = .ok (.iload 7, 2) := by decide +kernel
theorem dX7_run_66 : decode cX7_run 66 = .ok (.iconst 2, 1) := by decide +kernel
theorem dX7_run_67 : decode cX7_run 67 = .ok (.if_icmp .ge 23, 3) := by decide +kernel
theorem dX7_run_70 : decode cX7_run 70 = .ok (.iload 5, 2) := by decide +kernel
theorem dX7_run_72 : decode cX7_run 72 = .ok (.ifCond .ne 18, 3) := by decide +kernel
theorem dX7_run_75 : decode cX7_run 75 = .ok (.aload_n 0, 1) := by decide +kernel
theorem dX7_run_76 : decode cX7_run 76 = .ok (.invokevirtual 47, 3) := by decide +kernel
theorem dX7_run_79 : decode cX7_run 79 = .ok (.aload_n 0, 1) := by decide +kernel
theorem dX7_run_80 : decode cX7_run 80 = .ok (.iload_n 3, 1) := by decide +kernel
theorem dX7_run_81 : decode cX7_run 81 = .ok (.invokevirtual 50, 3) := by decide +kernel
theorem dX7_run_84 : decode cX7_run 84 = .ok (.iinc 7 1, 3) := by decide +kernel
theorem dX7_run_87 : decode cX7_run 87 = .ok (.goto (-23), 3) := by decide +kernel
theorem dX7_run_90 : decode cX7_run 90 = .ok (.aload_n 0, 1) := by decide +kernel
theorem dX7_run_91 : decode cX7_run 91 = .ok (.getfield 18, 3) := by decide +kernel
theorem dX7_run_94 : decode cX7_run 94 = .ok (.aload_n 0, 1) := by decide +kernel
theorem dX7_run_95 : decode cX7_run 95 = .ok (.getfield 12, 3) := by decide +kernel
theorem dX7_run_98 : decode cX7_run 98 = .ok (.invokevirtual 54, 3) := by decide +kernel
theorem dX7_run_101 : decode cX7_run 101 = .ok (.iinc 6 1, 3) := by decide +kernel
theorem dX7_run_104 : decode cX7_run 104 = .ok (.goto (-50), 3) := by decide +kernel
theorem dX7_run_107 : decode cX7_run 107 = .ok (.return_, 1) := by decide +kernel
theorem dX7_bearOrRest_0 : decode cX7_bearOrRest 0 = .ok (.aload_n 0, 1) := by decide +kernel
theorem dX7_bearOrRest_1 : decode cX7_bearOrRest 1 = .ok (.aload_n 0, 1) := by decide +kernel
theorem dX7_bearOrRest_2 : decode cX7_bearOrRest 2 = .ok (.getfield 18, 3) := by decide +kernel
theorem dX7_bearOrRest_5 : decode cX7_bearOrRest 5 = .ok (.getfield 33, 3) := by decide +kernel
theorem dX7_bearOrRest_8 : decode cX7_bearOrRest 8 = .ok (.getfield 39, 3) := by decide +kernel
theorem dX7_bearOrRest_11 : decode cX7_bearOrRest 11 = .ok (.invokevirtual 57, 3) := by decide +kernel
theorem dX7_bearOrRest_14 : decode cX7_bearOrRest 14 = .ok (.istore_n 1, 1) := by decide +kernel
theorem dX7_bearOrRest_15 : decode cX7_bearOrRest 15 = .ok (.aload_n 0, 1) := by decide +kernel
theorem dX7_bearOrRest_16 : decode cX7_bearOrRest 16 = .ok (.aload_n 0, 1) := by decide +kernel
theorem dX7_bearOrRest_17 : decode cX7_bearOrRest 17 = .ok (.getfield 18, 3) := by decide +kernel
theorem dX7_bearOrRest_20 : decode cX7_bearOrRest 20 = .ok (.getfield 33, 3) := by decide +kernel
theorem dX7_bearOrRest_23 : decode cX7_bearOrRest 23 = .ok (.getfield 44, 3) := by decide +kernel
theorem dX7_bearOrRest_26 : decode cX7_bearOrRest 26 = .ok (.invokevirtual 57, 3) := by decide +kernel
theorem dX7_bearOrRest_29 : decode cX7_bearOrRest 29 = .ok (.istore_n 2, 1) := by decide +kernel
theorem dX7_bearOrRest_30 : decode cX7_bearOrRest 30 = .ok (.aload_n 0, 1) := by decide +kernel
theorem dX7_bearOrRest_31 : decode cX7_bearOrRest 31 = .ok (.getfield 18, 3) := by decide +kernel
theorem dX7_bearOrRest_34 : decode cX7_bearOrRest 34 = .ok (.aload_n 0, 1) := by decide +kernel
theorem dX7_bearOrRest_35 : decode cX7_bearOrRest 35 = .ok (.getfield 12, 3) := by decide +kernel
theorem dX7_bearOrRest_38 : decode cX7_bearOrRest 38 = .ok (.iload_n 1, 1) := by decide +kernel
theorem dX7_bearOrRest_39 : decode cX7_bearOrRest 39 = .ok (.iload_n 2, 1) := by decide +kernel
theorem dX7_bearOrRest_40 : decode cX7_bearOrRest 40 = .ok (.invokevirtual 61, 3) := by decide +kernel
theorem dX7_bearOrRest_43 : decode cX7_bearOrRest 43 = .ok (.ifCond .eq 16, 3) := by decide +kernel
theorem dX7_bearOrRest_46 : decode cX7_bearOrRest 46 = .ok (.aload_n 0, 1) := by decide +kernel
theorem dX7_bearOrRest_47 : decode cX7_bearOrRest 47 = .ok (.dup, 1) := by decide +kernel
theorem dX7_bearOrRest_48 : decode cX7_bearOrRest 48 = .ok (.getfield 30, 3) := by decide +kernel
theorem dX7_bearOrRest_51 : decode cX7_bearOrRest 51 = .ok (.iconst 1, 1) := by decide +kernel
theorem dX7_bearOrRest_52 : decode cX7_bearOrRest 52 = .ok (.iadd, 1) := by decide +kernel
theorem dX7_bearOrRest_53 : decode cX7_bearOrRest 53 = .ok (.putfield 30, 3) := by decide +kernel
theorem dX7_bearOrRest_56 : decode cX7_bearOrRest 56 = .ok (.goto 12, 3) := by decide +kernel
theorem dX7_bearOrRest_59 : decode cX7_bearOrRest 59 = .ok (.aload_n 0, 1) := by decide +kernel
theorem dX7_bearOrRest_60 : decode cX7_bearOrRest 60 = .ok (.getfield 12, 3) := by decide +kernel
theorem dX7_bearOrRest_63 : decode cX7_bearOrRest 63 = .ok (.iload_n 1, 1) := by decide +kernel
theorem dX7_bearOrRest_64 : decode cX7_bearOrRest 64 = .ok (.invokevirtual 65, 3) := by decide +kernel
theorem dX7_bearOrRest_67 : decode cX7_bearOrRest 67 = .ok (.pop, 1) := by decide +kernel
theorem dX7_bearOrRest_68 : decode cX7_bearOrRest 68 = .ok (.return_, 1) := by decide +kernel
theorem dX7_tellByChance_0 : decode cX7_tellByChance 0 = .ok (.aload_n 0, 1) := by decide +kernel
theorem dX7_tellByChance_1 : decode cX7_tellByChance 1 = .ok (.bipush 16, 2) := by decide +kernel
theorem dX7_tellByChance_3 : decode cX7_tellByChance 3 = .ok (.invokevirtual 57, 3) := by decide +kernel
theorem dX7_tellByChance_6 : decode cX7_tellByChance 6 = .ok (.iload_n 1, 1) := by decide +kernel
theorem dX7_tellByChance_7 : decode cX7_tellByChance 7 = .ok (.if_icmp .lt 4, 3) := by decide +kernel
theorem dX7_tellByChance_10 : decode cX7_tellByChance 10 = .ok (.return_, 1) := by decide +kernel
theorem dX7_tellByChance_11 : decode cX7_tellByChance 11 = .ok (.aload_n 0, 1) := by decide +kernel
theorem dX7_tellByChance_12 : decode cX7_tellByChance 12 = .ok (.aload_n 0, 1) := by decide +kernel
theorem dX7_tellByChance_13 : decode cX7_tellByChance 13 = .ok (.getfield 18, 3) := by decide +kernel
theorem dX7_tellByChance_16 : decode cX7_tellByChance 16 = .ok (.getfield 33, 3) := by decide +kernel
theorem dX7_tellByChance_19 : decode cX7_tellByChance 19 = .ok (.getfield 39, 3) := by decide +kernel
theorem dX7_tellByChance_22 : decode cX7_tellByChance 22 = .ok (.invokevirtual 57, 3) := by decide +kernel
theorem dX7_tellByChance_25 : decode cX7_tellByChance 25 = .ok (.istore_n 2, 1) := by decide +kernel
theorem dX7_tellByChance_26 : decode cX7_tellByChance 26 = .ok (.aload_n 0, 1) := by decide +kernel
theorem dX7_tellByChance_27 : decode cX7_tellByChance 27 = .ok (.aload_n 0, 1) := by decide +kernel
theorem dX7_tellByChance_28 : decode cX7_tellByChance 28 = .ok (.getfield 18, 3) := by decide +kernel
theorem dX7_tellByChance_31 : decode cX7_tellByChance 31 = .ok (.getfield 33, 3) := by decide +kernel
theorem dX7_tellByChance_34 : decode cX7_tellByChance 34 = .ok (.getfield 39, 3) := by decide +kernel
theorem dX7_tellByChance_37 : decode cX7_tellByChance 37 = .ok (.invokevirtual 57, 3) := by decide +kernel
theorem dX7_tellByChance_40 : decode cX7_tellByChance 40 = .ok (.istore_n 3, 1) := by decide +kernel
theorem dX7_tellByChance_41 : decode cX7_tellByChance 41 = .ok (.aload_n 0, 1) := by decide +kernel
theorem dX7_tellByChance_42 : decode cX7_tellByChance 42 = .ok (.getfield 12, 3) := by decide +kernel
theorem dX7_tellByChance_45 : decode cX7_tellByChance 45 = .ok (.iload_n 2, 1) := by decide +kernel
theorem dX7_tellByChance_46 : decode cX7_tellByChance 46 = .ok (.iload_n 3, 1) := by decide +kernel
theorem dX7_tellByChance_47 : decode cX7_tellByChance 47 = .ok (.invokevirtual 69, 3) := by decide +kernel
theorem dX7_tellByChance_50 : decode cX7_tellByChance 50 = .ok (.pop, 1) := by decide +kernel
theorem dX7_tellByChance_51 : decode cX7_tellByChance 51 = .ok (.return_, 1) := by decide +kernel
theorem dX7_draw_0 : decode cX7_draw 0 = .ok (.aload_n 0, 1) := by decide +kernel
theorem dX7_draw_1 : decode cX7_draw 1 = .ok (.aload_n 0, 1) := by decide +kernel
theorem dX7_draw_2 : decode cX7_draw 2 = .ok (.getfield 26, 3) := by decide +kernel
theorem dX7_draw_5 : decode cX7_draw 5 = .ok (.ldc 73, 2) := by decide +kernel
theorem dX7_draw_7 : decode cX7_draw 7 = .ok (.imul, 1) := by decide +kernel
theorem dX7_draw_8 : decode cX7_draw 8 = .ok (.sipush 12345, 3) := by decide +kernel
theorem dX7_draw_11 : decode cX7_draw 11 = .ok (.iadd, 1) := by decide +kernel
theorem dX7_draw_12 : decode cX7_draw 12 = .ok (.putfield 26, 3) := by decide +kernel
theorem dX7_draw_15 : decode cX7_draw 15 = .ok (.aload_n 0, 1) := by decide +kernel
theorem dX7_draw_16 : decode cX7_draw 16 = .ok (.getfield 26, 3) := by decide +kernel
theorem dX7_draw_19 : decode cX7_draw 19 = .ok (.bipush 16, 2) := by decide +kernel
theorem dX7_draw_21 : decode cX7_draw 21 = .ok (.iushr, 1) := by decide +kernel
theorem dX7_draw_22 : decode cX7_draw 22 = .ok (.sipush 32767, 3) := by decide +kernel
theorem dX7_draw_25 : decode cX7_draw 25 = .ok (.iand, 1) := by decide +kernel
theorem dX7_draw_26 : decode cX7_draw 26 = .ok (.istore_n 2, 1) := by decide +kernel
theorem dX7_draw_27 : decode cX7_draw 27 = .ok (.iload_n 1, 1) := by decide +kernel
theorem dX7_draw_28 : decode cX7_draw 28 = .ok (.ifCond .le 9, 3) := by decide +kernel
theorem dX7_draw_31 : decode cX7_draw 31 = .ok (.iload_n 2, 1) := by decide +kernel
theorem dX7_draw_32 : decode cX7_draw 32 = .ok (.iload_n 1, 1) := by decide +kernel
theorem dX7_draw_33 : decode cX7_draw 33 = .ok (.irem, 1) := by decide +kernel
theorem dX7_draw_34 : decode cX7_draw 34 = .ok (.goto 4, 3) := by decide +kernel
theorem dX7_draw_37 : decode cX7_draw 37 = .ok (.iconst 0, 1) := by decide +kernel
theorem dX7_draw_38 : decode cX7_draw 38 = .ok (.ireturn, 1) := by decide +kernel
theorem dX8_init_0 : decode cX8_init 0 = .ok (.aload_n 0, 1) := by decide +kernel
theorem dX8_init_1 : decode cX8_init 1 = .ok (.invokespecial 3, 3) := by decide +kernel
theorem dX8_init_4 : decode cX8_init 4 = .ok (.aload_n 0, 1) := by decide +kernel
theorem dX8_init_5 : decode cX8_init 5 = .ok (.bipush 6, 2) := by decide +kernel
theorem dX8_init_7 : decode cX8_init 7 = .ok (.newarray .int, 2) := by decide +kernel
theorem dX8_init_9 : decode cX8_init 9 = .ok (.putfield 9, 3) := by decide +kernel
theorem dX8_init_12 : decode cX8_init 12 = .ok (.aload_n 0, 1) := by decide +kernel
theorem dX8_init_13 : decode cX8_init 13 = .ok (.bipush 42, 2) := by decide +kernel
theorem dX8_init_15 : decode cX8_init 15 = .ok (.newarray .int, 2) := by decide +kernel
theorem dX8_init_17 : decode cX8_init 17 = .ok (.putfield 15, 3) := by decide +kernel
theorem dX8_init_20 : decode cX8_init 20 = .ok (.aload_n 0, 1) := by decide +kernel
theorem dX8_init_21 : decode cX8_init 21 = .ok (.bipush 7, 2) := by decide +kernel
theorem dX8_init_23 : decode cX8_init 23 = .ok (.newarray .int, 2) := by decide +kernel
theorem dX8_init_25 : decode cX8_init 25 = .ok (.putfield 18, 3) := by decide +kernel
theorem dX8_init_28 : decode cX8_init 28 = .ok (.aload_n 0, 1) := by decide +kernel
theorem dX8_init_29 : decode cX8_init 29 = .ok (.bipush 7, 2) := by decide +kernel
theorem dX8_init_31 : decode cX8_init 31 = .ok (.newarray .int, 2) := by decide +kernel
theorem dX8_init_33 : decode cX8_init 33 = .ok (.putfield 21, 3) := by decide +kernel
theorem dX8_init_36 : decode cX8_init 36 = .ok (.aload_n 0, 1) := by decide +kernel
theorem dX8_init_37 : decode cX8_init 37 = .ok (.bipush 6, 2) := by decide +kernel
theorem dX8_init_39 : decode cX8_init 39 = .ok (.newarray .int, 2) := by decide +kernel
theorem dX8_init_41 : decode cX8_init 41 = .ok (.putfield 24, 3) := by decide +kernel
theorem dX8_init_44 : decode cX8_init 44 = .ok (.aload_n 0, 1) := by decide +kernel
theorem dX8_init_45 : decode cX8_init 45 = .ok (.bipush 6, 2) := by decide +kernel
theorem dX8_init_47 : decode cX8_init 47 = .ok (.newarray .int, 2) := by decide +kernel
theorem dX8_init_49 : decode cX8_init 49 = .ok (.putfield 27, 3) := by decide +kernel
theorem dX8_init_52 : decode cX8_init 52 = .ok (.aload_n 0, 1) := by decide +kernel
theorem dX8_init_53 : decode cX8_init 53 = .ok (.aload_n 1, 1) := by decide +kernel
theorem dX8_init_54 : decode cX8_init 54 = .ok (.putfield 30, 3) := by decide +kernel
theorem dX8_init_57 : decode cX8_init 57 = .ok (.return_, 1) := by decide +kernel
theorem dX8_search_0 : decode cX8_search 0 = .ok (.aload_n 0, 1) := by decide +kernel
theorem dX8_search_1 : decode cX8_search 1 = .ok (.iconst 0, 1) := by decide +kernel
theorem dX8_search_2 : decode cX8_search 2 = .ok (.putfield 34, 3) := by decide +kernel
theorem dX8_search_5 : decode cX8_search 5 = .ok (.aload_n 0, 1) := by decide +kernel
theorem dX8_search_6 : decode cX8_search 6 = .ok (.iconst (-1), 1) := by decide +kernel
theorem dX8_search_7 : decode cX8_search 7 = .ok (.putfield 38, 3) := by decide +kernel
theorem dX8_search_10 : decode cX8_search 10 = .ok (.iconst 0, 1) := by decide +kernel
theorem dX8_search_11 : decode cX8_search 11 = .ok (.istore_n 3, 1) := by decide +kernel
theorem dX8_search_12 : decode cX8_search 12 = .ok (.iload_n 3, 1) := by decide +kernel
theorem dX8_search_13 : decode cX8_search 13 = .ok (.aload_n 0, 1) := by decide +kernel
theorem dX8_search_14 : decode cX8_search 14 = .ok (.getfield 30, 3) := by decide +kernel
theorem dX8_search_17 : decode cX8_search 17 = .ok (.getfield 41, 3) := by decide +kernel
theorem dX8_search_20 : decode cX8_search 20 = .ok (.getfield 47, 3) := by decide +kernel
theorem dX8_search_23 : decode cX8_search 23 = .ok (.if_icmp .ge 47, 3) := by decide +kernel
theorem dX8_search_26 : decode cX8_search 26 = .ok (.aload_n 0, 1) := by decide +kernel
theorem dX8_search_27 : decode cX8_search 27 = .ok (.getfield 34, 3) := by decide +kernel
theorem dX8_search_30 : decode cX8_search 30 = .ok (.bipush 6, 2) := by decide +kernel
theorem dX8_search_32 : decode cX8_search 32 = .ok (.if_icmp .ge 38, 3) := by decide +kernel
theorem dX8_search_35 : decode cX8_search 35 = .ok (.iload_n 2, 1) := by decide +kernel
theorem dX8_search_36 : decode cX8_search 36 = .ok (.iload_n 3, 1) := by decide +kernel
theorem dX8_search_37 : decode cX8_search 37 = .ok (.ishr, 1) := by decide +kernel
theorem dX8_search_38 : decode cX8_search 38 = .ok (.iconst 1, 1) := by decide +kernel
theorem dX8_search_39 : decode cX8_search 39 = .ok (.iand, 1) := by decide +kernel
theorem dX8_search_40 : decode cX8_search 40 = .ok (.iconst 1, 1) := by decide +kernel
theorem dX8_search_41 : decode cX8_search 41 = .ok (.if_icmp .ne 23, 3) := by decide +kernel
theorem dX8_search_44 : decode cX8_search 44 = .ok (.aload_n 0, 1) := by decide +kernel
theorem dX8_search_45 : decode cX8_search 45 = .ok (.getfield 9, 3) := by decide +kernel
theorem dX8_search_48 : decode cX8_search 48 = .ok (.aload_n 0, 1) := by decide +kernel
theorem dX8_search_49 : decode cX8_search 49 = .ok (.getfield 34, 3) := by decide +kernel
theorem dX8_search_52 : decode cX8_search 52 = .ok (.iload_n 3, 1) := by decide +kernel
theorem dX8_search_53 : decode cX8_search 53 = .ok (.iastore, 1) := by decide +kernel
theorem dX8_search_54 : decode cX8_search 54 = .ok (.aload_n 0, 1) := by decide +kernel
theorem dX8_search_55 : decode cX8_search 55 = .ok (.dup, 1) := by decide +kernel
theorem dX8_search_56 : decode cX8_search 56 = .ok (.getfield 34, 3) := by decide +kernel
theorem dX8_search_59 : decode cX8_search 59 = .ok (.iconst 1, 1) := by decide +kernel
theorem dX8_search_60 : decode cX8_search 60 = .ok (.iadd, 1) := by decide +kernel
theorem dX8_search_61 : decode cX8_search 61 = .ok (.putfield 34, 3) := by decide +kernel
theorem dX8_search_64 : decode cX8_search 64 = .ok (.iinc 3 1, 3) := by decide +kernel
theorem dX8_search_67 : decode cX8_search 67 = .ok (.goto (-55), 3) := by decide +kernel
theorem dX8_search_70 : decode cX8_search 70 = .ok (.iconst 0, 1) := by decide +kernel
theorem dX8_search_71 : decode cX8_search 71 = .ok (.istore_n 3, 1) := by decide +kernel
theorem dX8_search_72 : decode cX8_search 72 = .ok (.iload_n 3, 1) := by decide +kernel
theorem dX8_search_73 : decode cX8_search 73 = .ok (.aload_n 0, 1) := by decide +kernel
theorem dX8_search_74 : decode cX8_search 74 = .ok (.getfield 30, 3) := by decide +kernel
theorem dX8_search_77 : decode cX8_search 77 = .ok (.getfield 41, 3) := by decide +kernel
theorem dX8_search_80 : decode cX8_search 80 = .ok (.getfield 51, 3) := by decide +kernel
theorem dX8_search_83 : decode cX8_search 83 = .ok (.if_icmp .ge 46, 3) := by decide +kernel
theorem dX8_search_86 : decode cX8_search 86 = .ok (.aload_n 0, 1) := by decide +kernel
theorem dX8_search_87 : decode cX8_search 87 = .ok (.getfield 21, 3) := by decide +kernel
theorem dX8_search_90 : decode cX8_search 90 = .ok (.iload_n 3, 1) := by decide +kernel
theorem dX8_search_91 : decode cX8_search 91 = .ok (.aload_n 1, 1) := by decide +kernel
theorem dX8_search_92 : decode cX8_search 92 = .ok (.iload_n 3, 1) := by decide +kernel
theorem dX8_search_93 : decode cX8_search 93 = .ok (.invokevirtual 54, 3) := by decide +kernel
theorem dX8_search_96 : decode cX8_search 96 = .ok (.ifCond .eq 7, 3) := by decide +kernel
theorem dX8_search_99 : decode cX8_search 99 = .ok (.iconst (-1), 1) := by decide +kernel
theorem dX8_search_100 : decode cX8_search 100 = .ok (.goto 22, 3) := by decide +kernel
theorem dX8_search_103 : decode cX8_search 103 = .ok (.aload_n 0, 1) := by decide +kernel
theorem dX8_search_104 : decode cX8_search 104 = .ok (.getfield 30, 3) := by decide +kernel
theorem dX8_search_107 : decode cX8_search 107 = .ok (.getfield 41, 3) := by decide +kernel
theorem dX8_search_110 : decode cX8_search 110 = .ok (.getfield 60, 3) := by decide +kernel
theorem dX8_search_113 : decode cX8_search 113 = .ok (.iload_n 3, 1) := by decide +kernel
theorem dX8_search_114 : decode cX8_search 114 = .ok (.iaload, 1) := by decide +kernel
theorem dX8_search_115 : decode cX8_search 115 = .ok (.aload_n 1, 1) := by decide +kernel
theorem dX8_search_116 : decode cX8_search 116 = .ok (.getfield 63, 3) := by decide +kernel
theorem dX8_search_119 : decode cX8_search 119 = .ok (.iload_n 3, 1) := by decide +kernel
theorem dX8_search_120 : decode cX8_search 120 = .ok (.iaload, 1) := by decide +kernel
theorem dX8_search_121 : decode cX8_search 121 = .ok (.isub, 1) := by decide +kernel
theorem dX8_search_122 : decode cX8_search 122 = .ok (.iastore, 1) := by decide +kernel
theorem dX8_search_123 : decode cX8_search 123 = .ok (.iinc 3 1, 3) := by decide +kernel
theorem dX8_search_126 : decode cX8_search 126 = .ok (.goto (-54), 3) := by decide +kernel
theorem dX8_search_129 : decode cX8_search 129 = .ok (.aload_n 0, 1) := by decide +kernel
theorem dX8_search_130 : decode cX8_search 130 = .ok (.aload_n 1, 1) := by decide +kernel
theorem dX8_search_131 : decode cX8_search 131 = .ok (.invokevirtual 66, 3) := by decide +kernel
theorem dX8_search_134 : decode cX8_search 134 = .ok (.ifCond .eq 9, 3) := by decide +kernel
theorem dX8_search_137 : decode cX8_search 137 = .ok (.aload_n 0, 1) := by decide +kernel
theorem dX8_search_138 : decode cX8_search 138 = .ok (.iconst 0, 1) := by decide +kernel
theorem dX8_search_139 : decode cX8_search 139 = .ok (.iconst 0, 1) := by decide +kernel
theorem dX8_search_140 : decode cX8_search 140 = .ok (.invokevirtual 70, 3) := by decide +kernel
theorem dX8_search_143 : decode cX8_search 143 = .ok (.return_, 1) := by decide +kernel
theorem dX8_givenTo_0 : decode cX8_givenTo 0 = .ok (.iconst 0, 1) := by decide +kernel
theorem dX8_givenTo_1 : decode cX8_givenTo 1 = .ok (.istore_n 2, 1) := by decide +kernel
theorem dX8_givenTo_2 : decode cX8_givenTo 2 = .ok (.iload_n 2, 1) := by decide +kernel
theorem dX8_givenTo_3 : decode cX8_givenTo 3 = .ok (.aload_n 0, 1) := by decide +kernel
theorem dX8_givenTo_4 : decode cX8_givenTo 4 = .ok (.getfield 34, 3) := by decide +kernel
theorem dX8_givenTo_7 : decode cX8_givenTo 7 = .ok (.if_icmp .ge 34, 3) := by decide +kernel
theorem dX8_givenTo_10 : decode cX8_givenTo 10 = .ok (.aload_n 0, 1) := by decide +kernel
theorem dX8_givenTo_11 : decode cX8_givenTo 11 = .ok (.getfield 9, 3) := by decide +kernel
theorem dX8_givenTo_14 : decode cX8_givenTo 14 = .ok (.iload_n 2, 1) := by decide +kernel
theorem dX8_givenTo_15 : decode cX8_givenTo 15 = .ok (.iaload, 1) := by decide +kernel
theorem dX8_givenTo_16 : decode cX8_givenTo 16 = .ok (.iload_n 1, 1) := by decide +kernel
theorem dX8_givenTo_17 : decode cX8_givenTo 17 = .ok (.if_icmp .ne 18, 3) := by decide +kernel
theorem dX8_givenTo_20 : decode cX8_givenTo 20 = .ok (.aload_n 0, 1) := by decide +kernel
theorem dX8_givenTo_21 : decode cX8_givenTo 21 = .ok (.getfield 38, 3) := by decide +kernel
theorem dX8_givenTo_24 : decode cX8_givenTo 24 = .ok (.iconst (-1), 1) := by decide +kernel
theorem dX8_givenTo_25 : decode cX8_givenTo 25 = .ok (.if_icmp .eq 10, 3) := by decide +kernel
theorem dX8_givenTo_28 : decode cX8_givenTo 28 = .ok (.aload_n 0, 1) := by decide +kernel
theorem dX8_givenTo_29 : decode cX8_givenTo 29 = .ok (.getfield 27, 3) := by decide +kernel
theorem dX8_givenTo_32 : decode cX8_givenTo 32 = .ok (.iload_n 2, 1) := by decide +kernel
theorem dX8_givenTo_33 : decode cX8_givenTo 33 = .ok (.iaload, 1) := by decide +kernel
theorem dX8_givenTo_34 : decode cX8_givenTo 34 = .ok (.ireturn, 1) := by decide +kernel
theorem dX8_givenTo_35 : decode cX8_givenTo 35 = .ok (.iinc 2 1, 3) := by decide +kernel
theorem dX8_givenTo_38 : decode cX8_givenTo 38 = .ok (.goto (-36), 3) := by decide +kernel
theorem dX8_givenTo_41 : decode cX8_givenTo 41 = .ok (.iconst (-1), 1) := by decide +kernel
theorem dX8_givenTo_42 : decode cX8_givenTo 42 = .ok (.ireturn, 1) := by decide +kernel
theorem dX8_weigh_0 : decode cX8_weigh 0 = .ok (.aload_n 0, 1) := by decide +kernel
theorem dX8_weigh_1 : decode cX8_weigh 1 = .ok (.getfield 18, 3) := by decide +kernel
theorem dX8_weigh_4 : decode cX8_weigh 4 = .ok (.aload_n 0, 1) := by decide +kernel
theorem dX8_weigh_5 : decode cX8_weigh 5 = .ok (.getfield 34, 3) := by decide +kernel
theorem dX8_weigh_8 : decode cX8_weigh 8 = .ok (.iconst 0, 1) := by decide +kernel
theorem dX8_weigh_9 : decode cX8_weigh 9 = .ok (.iastore, 1) := by decide +kernel
theorem dX8_weigh_10 : decode cX8_weigh 10 = .ok (.aload_n 0, 1) := by decide +kernel
theorem dX8_weigh_11 : decode cX8_weigh 11 = .ok (.getfield 34, 3) := by decide +kernel
theorem dX8_weigh_14 : decode cX8_weigh 14 = .ok (.iconst 1, 1) := by decide +kernel
theorem dX8_weigh_15 : decode cX8_weigh 15 = .ok (.isub, 1) := by decide +kernel
theorem dX8_weigh_16 : decode cX8_weigh 16 = .ok (.istore_n 2, 1) := by decide +kernel
theorem dX8_weigh_17 : decode cX8_weigh 17 = .ok (.iload_n 2, 1) := by decide +kernel
theorem dX8_weigh_18 : decode cX8_weigh 18 = .ok (.ifCond .lt 117, 3) := by decide +kernel
theorem dX8_weigh_21 : decode cX8_weigh 21 = .ok (.iconst (-1), 1) := by decide +kernel
theorem dX8_weigh_22 : decode cX8_weigh 22 = .ok (.istore_n 3, 1) := by decide +kernel
theorem dX8_weigh_23 : decode cX8_weigh 23 = .ok (.iconst 0, 1) := by decide +kernel
theorem dX8_weigh_24 : decode cX8_weigh 24 = .ok (.istore 4, 2) := by decide +kernel
theorem dX8_weigh_26 : decode cX8_weigh 26 = .ok (.iload 4, 2) := by decide +kernel
theorem dX8_weigh_28 : decode cX8_weigh 28 = .ok (.aload_n 0, 1) := by decide +kernel
theorem dX8_weigh_29 : decode cX8_weigh 29 = .ok (.getfield 30, 3) := by decide +kernel
theorem dX8_weigh_32 : decode cX8_weigh 32 = .ok (.getfield 41, 3) := by decide +kernel
theorem dX8_weigh_35 : decode cX8_weigh 35 = .ok (.getfield 51, 3) := by decide +kernel
theorem dX8_weigh_38 : decode cX8_weigh 38 = .ok (.if_icmp .ge 68, 3) := by decide +kernel
theorem dX8_weigh_41 : decode cX8_weigh 41 = .ok (.aload_n 0, 1) := by decide +kernel
theorem dX8_weigh_42 : decode cX8_weigh 42 = .ok (.getfield 30, 3) := by decide +kernel
theorem dX8_weigh_45 : decode cX8_weigh 45 = .ok (.aload_n 1, 1) := by decide +kernel
theorem dX8_weigh_46 : decode cX8_weigh 46 = .ok (.iload 4, 2) := by decide +kernel
theorem dX8_weigh_48 : decode cX8_weigh 48 = .ok (.aload_n 0, 1) := by decide +kernel
theorem dX8_weigh_49 : decode cX8_weigh 49 = .ok (.getfield 9, 3) := by decide +kernel
theorem dX8_weigh_52 : decode cX8_weigh 52 = .ok (.iload_n 2, 1) := by decide +kernel
theorem dX8_weigh_53 : decode cX8_weigh 53 = .ok (.iaload, 1) := by decide +kernel
theorem dX8_weigh_54 : decode cX8_weigh 54 = .ok (.iconst 0, 1) := by decide +kernel
theorem dX8_weigh_55 : decode cX8_weigh 55 = .ok (.invokevirtual 74, 3) := by decide +kernel
theorem dX8_weigh_58 : decode cX8_weigh 58 = .ok (.istore 5, 2) := by decide +kernel
theorem dX8_weigh_60 : decode cX8_weigh 60 = .ok (.aload_n 0, 1) := by decide +kernel
theorem dX8_weigh_61 : decode cX8_weigh 61 = .ok (.getfield 15, 3) := by decide +kernel
theorem dX8_weigh_64 : decode cX8_weigh 64 = .ok (.iload_n 2, 1) := by decide +kernel
theorem dX8_weigh_65 : decode cX8_weigh 65 = .ok (.bipush 7, 2) := by decide +kernel
theorem dX8_weigh_67 : decode cX8_weigh 67 = .ok (.imul, 1) := by decide +kernel
theorem dX8_weigh_68 : decode cX8_weigh 68 = .ok (.iload 4, 2) := by decide +kernel
theorem dX8_weigh_70 : decode cX8_weigh 70 = .ok (.iadd, 1) := by decide +kernel
theorem dX8_weigh_71 : decode cX8_weigh 71 = .ok (.iload 5, 2) := by decide +kernel
theorem dX8_weigh_73 : decode cX8_weigh 73 = .ok (.iastore, 1) := by decide +kernel
theorem dX8_weigh_74 : decode cX8_weigh 74 = .ok (.iload 5, 2) := by decide +kernel
theorem dX8_weigh_76 : decode cX8_weigh 76 = .ok (.aload_n 0, 1) := by decide +kernel
theorem dX8_weigh_77 : decode cX8_weigh 77 = .ok (.getfield 21, 3) := by decide +kernel
theorem dX8_weigh_80 : decode cX8_weigh 80 = .ok (.iload 4, 2) := by decide +kernel
theorem dX8_weigh_82 : decode cX8_weigh 82 = .ok (.iaload, 1) := by decide +kernel
theorem dX8_weigh_83 : decode cX8_weigh 83 = .ok (.if_icmp .gt 17, 3) := by decide +kernel
theorem dX8_weigh_86 : decode cX8_weigh 86 = .ok (.iload_n 3, 1) := by decide +kernel
theorem dX8_weigh_87 : decode cX8_weigh 87 = .ok (.iconst (-1), 1) := by decide +kernel
theorem dX8_weigh_88 : decode cX8_weigh 88 = .ok (.if_icmp .eq 9, 3) := by decide +kernel
theorem dX8_weigh_91 : decode cX8_weigh 91 = .ok (.iload 5, 2) := by decide +kernel
theorem dX8_weigh_93 : decode cX8_weigh 93 = .ok (.iload_n 3, 1) := by decide +kernel
theorem dX8_weigh_94 : decode cX8_weigh 94 = .ok (.if_icmp .ge 6, 3) := by decide +kernel
theorem dX8_weigh_97 : decode cX8_weigh 97 = .ok (.iload 5, 2) := by decide +kernel
theorem dX8_weigh_99 : decode cX8_weigh 99 = .ok (.istore_n 3, 1) := by decide +kernel
theorem dX8_weigh_100 : decode cX8_weigh 100 = .ok (.iinc 4 1, 3) := by decide +kernel
theorem dX8_weigh_103 : decode cX8_weigh 103 = .ok (.goto (-77), 3) := by decide +kernel
theorem dX8_weigh_106 : decode cX8_weigh 106 = .ok (.iload_n 3, 1) := by decide +kernel
theorem dX8_weigh_107 : decode cX8_weigh 107 = .ok (.iconst (-1), 1) := by decide +kernel
theorem dX8_weigh_108 : decode cX8_weigh 108 = .ok (.if_icmp .ne 5, 3) := by decide +kernel
theorem dX8_weigh_111 : decode cX8_weigh 111 = .ok (.iconst 0, 1) := by decide +kernel
theorem dX8_weigh_112 : decode cX8_weigh 112 = .ok (.ireturn, 1) := by decide +kernel
theorem dX8_weigh_113 : decode cX8_weigh 113 = .ok (.aload_n 0, 1) := by decide +kernel
theorem dX8_weigh_114 : decode cX8_weigh 114 = .ok (.getfield 18, 3) := by decide +kernel
theorem dX8_weigh_117 : decode cX8_weigh 117 = .ok (.iload_n 2, 1) := by decide +kernel
theorem dX8_weigh_118 : decode cX8_weigh 118 = .ok (.aload_n 0, 1) := by decide +kernel
theorem dX8_weigh_119 : decode cX8_weigh 119 = .ok (.getfield 18, 3) := by decide +kernel
theorem dX8_weigh_122 : decode cX8_weigh 122 = .ok (.iload_n 2, 1) := by decide +kernel
theorem dX8_weigh_123 : decode cX8_weigh 123 = .ok (.iconst 1, 1) := by decide +kernel
theorem dX8_weigh_124 : decode cX8_weigh 124 = .ok (.iadd, 1) := by decide +kernel
theorem dX8_weigh_125 : decode cX8_weigh 125 = .ok (.iaload, 1) := by decide +kernel
theorem dX8_weigh_126 : decode cX8_weigh 126 = .ok (.iload_n 3, 1) := by decide +kernel
theorem dX8_weigh_127 : decode cX8_weigh 127 = .ok (.iadd, 1) := by decide +kernel
theorem dX8_weigh_128 : decode cX8_weigh 128 = .ok (.iastore, 1) := by decide +kernel
theorem dX8_weigh_129 : decode cX8_weigh 129 = .ok (.iinc 2 (-1), 3) := by decide +kernel
theorem dX8_weigh_132 : decode cX8_weigh 132 = .ok (.goto (-115), 3) := by decide +kernel
theorem dX8_weigh_135 : decode cX8_weigh 135 = .ok (.iconst 1, 1) := by decide +kernel
theorem dX8_weigh_136 : decode cX8_weigh 136 = .ok (.ireturn, 1) := by decide +kernel
theorem dX8_give_0 : decode cX8_give 0 = .ok (.iload_n 1, 1) := by decide +kernel
theorem dX8_give_1 : decode cX8_give 1 = .ok (.aload_n 0, 1) := by decide +kernel
theorem dX8_give_2 : decode cX8_give 2 = .ok (.getfield 34, 3) := by decide +kernel
theorem dX8_give_5 : decode cX8_give 5 = .ok (.if_icmp .lt 24, 3) := by decide +kernel
theorem dX8_give_8 : decode cX8_give 8 = .ok (.aload_n 0, 1) := by decide +kernel
theorem dX8_give_9 : decode cX8_give 9 = .ok (.iload_n 2, 1) := by decide +kernel
theorem dX8_give_10 : decode cX8_give 10 = .ok (.putfield 38, 3) := by decide +kernel
theorem dX8_give_13 : decode cX8_give 13 = .ok (.aload_n 0, 1) := by decide +kernel
theorem dX8_give_14 : decode cX8_give 14 = .ok (.getfield 24, 3) := by decide +kernel
theorem dX8_give_17 : decode cX8_give 17 = .ok (.iconst 0, 1) := by decide +kernel
theorem dX8_give_18 : decode cX8_give 18 = .ok (.aload_n 0, 1) := by decide +kernel
theorem dX8_give_19 : decode cX8_give 19 = .ok (.getfield 27, 3) := by decide +kernel
theorem dX8_give_22 : decode cX8_give 22 = .ok (.iconst 0, 1) := by decide +kernel
theorem dX8_give_23 : decode cX8_give 23 = .ok (.bipush 6, 2) := by decide +kernel
theorem dX8_give_25 : decode cX8_give 25 = .ok (.invokestatic 78, 3) := by decide +kernel
theorem dX8_give_28 : decode cX8_give 28 = .ok (.return_, 1) := by decide +kernel
theorem dX8_give_29 : decode cX8_give 29 = .ok (.iconst 0, 1) := by decide +kernel
theorem dX8_give_30 : decode cX8_give 30 = .ok (.istore_n 3, 1) := by decide +kernel
theorem dX8_give_31 : decode cX8_give 31 = .ok (.iload_n 3, 1) := by decide +kernel
theorem dX8_give_32 : decode cX8_give 32 = .ok (.aload_n 0, 1) := by decide +kernel
theorem dX8_give_33 : decode cX8_give 33 = .ok (.getfield 30, 3) := by decide +kernel
theorem dX8_give_36 : decode cX8_give 36 = .ok (.getfield 41, 3) := by decide +kernel
theorem dX8_give_39 : decode cX8_give 39 = .ok (.getfield 51, 3) := by decide +kernel
theorem dX8_give_42 : decode cX8_give 42 = .ok (.if_icmp .ge 113, 3) := by decide +kernel
theorem dX8_give_45 : decode cX8_give 45 = .ok (.aload_n 0, 1) := by decide +kernel
theorem dX8_give_46 : decode cX8_give 46 = .ok (.getfield 15, 3) := by decide +kernel
theorem dX8_give_49 : decode cX8_give 49 = .ok (.iload_n 1, 1) := by decide +kernel
theorem dX8_give_50 : decode cX8_give 50 = .ok (.bipush 7, 2) := by decide +kernel
theorem dX8_give_52 : decode cX8_give 52 = .ok (.imul, 1) := by decide +kernel
theorem dX8_give_53 : decode cX8_give 53 = .ok (.iload_n 3, 1) := by decide +kernel
theorem dX8_give_54 : decode cX8_give 54 = .ok (.iadd, 1) := by decide +kernel
theorem dX8_give_55 : decode cX8_give 55 = .ok (.iaload, 1) := by decide +kernel
theorem dX8_give_56 : decode cX8_give 56 = .ok (.istore 4, 2) := by decide +kernel
theorem dX8_give_58 : decode cX8_give 58 = .ok (.aload_n 0, 1) := by decide +kernel
theorem dX8_give_59 : decode cX8_give 59 = .ok (.getfield 38, 3) := by decide +kernel
theorem dX8_give_62 : decode cX8_give 62 = .ok (.iconst (-1), 1) := by decide +kernel
theorem dX8_give_63 : decode cX8_give 63 = .ok (.if_icmp .eq 23, 3) := by decide +kernel
theorem dX8_give_66 : decode cX8_give 66 = .ok (.iload_n 2, 1) := by decide +kernel
theorem dX8_give_67 : decode cX8_give 67 = .ok (.iload 4, 2) := by decide +kernel
theorem dX8_give_69 : decode cX8_give 69 = .ok (.iadd, 1) := by decide +kernel
theorem dX8_give_70 : decode cX8_give 70 = .ok (.aload_n 0, 1) := by decide +kernel
theorem dX8_give_71 : decode cX8_give 71 = .ok (.getfield 18, 3) := by decide +kernel
theorem dX8_give_74 : decode cX8_give 74 = .ok (.iload_n 1, 1) := by decide +kernel
theorem dX8_give_75 : decode cX8_give 75 = .ok (.iconst 1, 1) := by decide +kernel
theorem dX8_give_76 : decode cX8_give 76 = .ok (.iadd, 1) := by decide +kernel
theorem dX8_give_77 : decode cX8_give 77 = .ok (.iaload, 1) := by decide +kernel
theorem dX8_give_78 : decode cX8_give 78 = .ok (.iadd, 1) := by decide +kernel
theorem dX8_give_79 : decode cX8_give 79 = .ok (.aload_n 0, 1) := by decide +kernel
theorem dX8_give_80 : decode cX8_give 80 = .ok (.getfield 38, 3) := by decide +kernel
theorem dX8_give_83 : decode cX8_give 83 = .ok (.if_icmp .ge 7, 3) := by decide +kernel
theorem dX8_give_86 : decode cX8_give 86 = .ok (.iconst 1, 1) := by decide +kernel
theorem dX8_give_87 : decode cX8_give 87 = .ok (.goto 4, 3) := by decide +kernel
theorem dX8_give_90 : decode cX8_give 90 = .ok (.iconst 0, 1) := by decide +kernel
theorem dX8_give_91 : decode cX8_give 91 = .ok (.istore 5, 2) := by decide +kernel
theorem dX8_give_93 : decode cX8_give 93 = .ok (.iload 5, 2) := by decide +kernel
theorem dX8_give_95 : decode cX8_give 95 = .ok (.ifCond .eq 54, 3) := by decide +kernel
theorem dX8_give_98 : decode cX8_give 98 = .ok (.iload 4, 2) := by decide +kernel
theorem dX8_give_100 : decode cX8_give 100 = .ok (.aload_n 0, 1) := by decide +kernel
theorem dX8_give_101 : decode cX8_give 101 = .ok (.getfield 21, 3) := by decide +kernel
theorem dX8_give_104 : decode cX8_give 104 = .ok (.iload_n 3, 1) := by decide +kernel
theorem dX8_give_105 : decode cX8_give 105 = .ok (.iaload, 1) := by decide +kernel
theorem dX8_give_106 : decode cX8_give 106 = .ok (.if_icmp .gt 43, 3) := by decide +kernel
theorem dX8_give_109 : decode cX8_give 109 = .ok (.aload_n 0, 1) := by decide +kernel
theorem dX8_give_110 : decode cX8_give 110 = .ok (.getfield 21, 3) := by decide +kernel
theorem dX8_give_113 : decode cX8_give 113 = .ok (.iload_n 3, 1) := by decide +kernel
theorem dX8_give_114 : decode cX8_give 114 = .ok (.dup2, 1) := by decide +kernel
theorem dX8_give_115 : decode cX8_give 115 = .ok (.iaload, 1) := by decide +kernel
theorem dX8_give_116 : decode cX8_give 116 = .ok (.iload 4, 2) := by decide +kernel
theorem dX8_give_118 : decode cX8_give 118 = .ok (.isub, 1) := by decide +kernel
theorem dX8_give_119 : decode cX8_give 119 = .ok (.iastore, 1) := by decide +kernel
theorem dX8_give_120 : decode cX8_give 120 = .ok (.aload_n 0, 1) := by decide +kernel
theorem dX8_give_121 : decode cX8_give 121 = .ok (.getfield 24, 3) := by decide +kernel
theorem dX8_give_124 : decode cX8_give 124 = .ok (.iload_n 1, 1) := by decide +kernel
theorem dX8_give_125 : decode cX8_give 125 = .ok (.iload_n 3, 1) := by decide +kernel
theorem dX8_give_126 : decode cX8_give 126 = .ok (.iastore, 1) := by decide +kernel
theorem dX8_give_127 : decode cX8_give 127 = .ok (.aload_n 0, 1) := by decide +kernel
theorem dX8_give_128 : decode cX8_give 128 = .ok (.iload_n 1, 1) := by decide +kernel
theorem dX8_give_129 : decode cX8_give 129 = .ok (.iconst 1, 1) := by decide +kernel
theorem dX8_give_130 : decode cX8_give 130 = .ok (.iadd, 1) := by decide +kernel
theorem dX8_give_131 : decode cX8_give 131 = .ok (.iload_n 2, 1) := by decide +kernel
theorem dX8_give_132 : decode cX8_give 132 = .ok (.iload 4, 2) := by decide +kernel
theorem dX8_give_134 : decode cX8_give 134 = .ok (.iadd, 1) := by decide +kernel
theorem dX8_give_135 : decode cX8_give 135 = .ok (.invokevirtual 70, 3) := by decide +kernel
theorem dX8_give_138 : decode cX8_give 138 = .ok (.aload_n 0, 1) := by decide +kernel
theorem dX8_give_139 : decode cX8_give 139 = .ok (.getfield 21, 3) := by decide +kernel
theorem dX8_give_142 : decode cX8_give 142 = .ok (.iload_n 3, 1) := by decide +kernel
theorem dX8_give_143 : decode cX8_give 143 = .ok (.dup2, 1) := by decide +kernel
theorem dX8_give_144 : decode cX8_give 144 = .ok (.iaload, 1) := by decide +kernel
theorem dX8_give_145 : decode cX8_give 145 = .ok (.iload 4, 2) := by decide +kernel
theorem dX8_give_147 : decode cX8_give 147 = .ok (.iadd, 1) := by decide +kernel
theorem dX8_give_148 : decode cX8_give 148 = .ok (.iastore, 1) := by decide +kernel
theorem dX8_give_149 : decode cX8_give 149 = .ok (.iinc 3 1, 3) := by decide +kernel
theorem dX8_give_152 : decode cX8_give 152 = .ok (.goto (-121), 3) := by decide +kernel
theorem dX8_give_155 : decode cX8_give 155 = .ok (.return_, 1) := by decide +kernel
end Dec
