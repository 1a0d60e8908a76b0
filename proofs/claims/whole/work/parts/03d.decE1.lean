section Dec
theorem dX12_readUnit_23 : decode cX12_readUnit 23 = .ok (.invokevirtual 245, 3) := by decide +kernel
theorem dX12_readUnit_26 : decode cX12_readUnit 26 = .ok (.aload_n 0, 1) := by decide +kernel
theorem dX12_readUnit_27 : decode cX12_readUnit 27 = .ok (.bipush 41, 2) := by decide +kernel
theorem dX12_readUnit_29 : decode cX12_readUnit 29 = .ok (.invokevirtual 223, 3) := by decide +kernel
theorem dX12_readUnit_32 : decode cX12_readUnit 32 = .ok (.aload_n 0, 1) := by decide +kernel
theorem dX12_readUnit_33 : decode cX12_readUnit 33 = .ok (.dup, 1) := by decide +kernel
theorem dX12_readUnit_34 : decode cX12_readUnit 34 = .ok (.getfield 142, 3) := by decide +kernel
theorem dX12_readUnit_37 : decode cX12_readUnit 37 = .ok (.iconst 1, 1) := by decide +kernel
theorem dX12_readUnit_38 : decode cX12_readUnit 38 = .ok (.isub, 1) := by decide +kernel
theorem dX12_readUnit_39 : decode cX12_readUnit 39 = .ok (.putfield 142, 3) := by decide +kernel
theorem dX12_readUnit_42 : decode cX12_readUnit 42 = .ok (.goto 112, 3) := by decide +kernel
theorem dX12_readUnit_45 : decode cX12_readUnit 45 = .ok (.aload_n 0, 1) := by decide +kernel
theorem dX12_readUnit_46 : decode cX12_readUnit 46 = .ok (.invokevirtual 114, 3) := by decide +kernel
theorem dX12_readUnit_49 : decode cX12_readUnit 49 = .ok (.invokestatic 135, 3) := by decide +kernel
theorem dX12_readUnit_52 : decode cX12_readUnit 52 = .ok (.ifCond .eq 19, 3) := by decide +kernel
theorem dX12_readUnit_55 : decode cX12_readUnit 55 = .ok (.aload_n 0, 1) := by decide +kernel
theorem dX12_readUnit_56 : decode cX12_readUnit 56 = .ok (.iconst 0, 1) := by decide +kernel
theorem dX12_readUnit_57 : decode cX12_readUnit 57 = .ok (.aload_n 0, 1) := by decide +kernel
theorem dX12_readUnit_58 : decode cX12_readUnit 58 = .ok (.iconst 0, 1) := by decide +kernel
theorem dX12_readUnit_59 : decode cX12_readUnit 59 = .ok (.sipush 999, 3) := by decide +kernel
theorem dX12_readUnit_62 : decode cX12_readUnit 62 = .ok (.invokevirtual 188, 3) := by decide +kernel
theorem dX12_readUnit_65 : decode cX12_readUnit 65 = .ok (.invokevirtual 236, 3) := by decide +kernel
theorem dX12_readUnit_68 : decode cX12_readUnit 68 = .ok (.goto 86, 3) := by decide +kernel
theorem dX12_readUnit_71 : decode cX12_readUnit 71 = .ok (.aload_n 0, 1) := by decide +kernel
theorem dX12_readUnit_72 : decode cX12_readUnit 72 = .ok (.invokevirtual 208, 3) := by decide +kernel
theorem dX12_readUnit_75 : decode cX12_readUnit 75 = .ok (.ldc_w 264, 3) := by decide +kernel
theorem dX12_readUnit_78 : decode cX12_readUnit 78 = .ok (.invokestatic 183, 3) := by decide +kernel
theorem dX12_readUnit_81 : decode cX12_readUnit 81 = .ok (.if_icmp .ne 13, 3) := by decide +kernel
theorem dX12_readUnit_84 : decode cX12_readUnit 84 = .ok (.aload_n 0, 1) := by decide +kernel
theorem dX12_readUnit_85 : decode cX12_readUnit 85 = .ok (.iconst 5, 1) := by decide +kernel
theorem dX12_readUnit_86 : decode cX12_readUnit 86 = .ok (.bipush 6, 2) := by decide +kernel
theorem dX12_readUnit_88 : decode cX12_readUnit 88 = .ok (.invokevirtual 266, 3) := by decide +kernel
theorem dX12_readUnit_91 : decode cX12_readUnit 91 = .ok (.goto 63, 3) := by decide +kernel
theorem dX12_readUnit_94 : decode cX12_readUnit 94 = .ok (.aload_n 0, 1) := by decide +kernel
theorem dX12_readUnit_95 : decode cX12_readUnit 95 = .ok (.invokevirtual 208, 3) := by decide +kernel
theorem dX12_readUnit_98 : decode cX12_readUnit 98 = .ok (.ldc_w 269, 3) := by decide +kernel
theorem dX12_readUnit_101 : decode cX12_readUnit 101 = .ok (.invokestatic 183, 3) := by decide +kernel
theorem dX12_readUnit_104 : decode cX12_readUnit 104 = .ok (.if_icmp .ne 13, 3) := by decide +kernel
theorem dX12_readUnit_107 : decode cX12_readUnit 107 = .ok (.aload_n 0, 1) := by decide +kernel
theorem dX12_readUnit_108 : decode cX12_readUnit 108 = .ok (.iconst 4, 1) := by decide +kernel
theorem dX12_readUnit_109 : decode cX12_readUnit 109 = .ok (.bipush 7, 2) := by decide +kernel
theorem dX12_readUnit_111 : decode cX12_readUnit 111 = .ok (.invokevirtual 266, 3) := by decide +kernel
theorem dX12_readUnit_114 : decode cX12_readUnit 114 = .ok (.goto 40, 3) := by decide +kernel
theorem dX12_readUnit_117 : decode cX12_readUnit 117 = .ok (.aload_n 0, 1) := by decide +kernel
theorem dX12_readUnit_118 : decode cX12_readUnit 118 = .ok (.invokevirtual 271, 3) := by decide +kernel
theorem dX12_readUnit_121 : decode cX12_readUnit 121 = .ok (.istore_n 1, 1) := by decide +kernel
theorem dX12_readUnit_122 : decode cX12_readUnit 122 = .ok (.iload_n 1, 1) := by decide +kernel
theorem dX12_readUnit_123 : decode cX12_readUnit 123 = .ok (.iconst (-1), 1) := by decide +kernel
theorem dX12_readUnit_124 : decode cX12_readUnit 124 = .ok (.if_icmp .ne 12, 3) := by decide +kernel
theorem dX12_readUnit_127 : decode cX12_readUnit 127 = .ok (.aload_n 0, 1) := by decide +kernel
theorem dX12_readUnit_128 : decode cX12_readUnit 128 = .ok (.iconst 1, 1) := by decide +kernel
theorem dX12_readUnit_129 : decode cX12_readUnit 129 = .ok (.aload_n 0, 1) := by decide +kernel
theorem dX12_readUnit_130 : decode cX12_readUnit 130 = .ok (.getfield 108, 3) := by decide +kernel
theorem dX12_readUnit_133 : decode cX12_readUnit 133 = .ok (.invokevirtual 138, 3) := by decide +kernel
theorem dX12_readUnit_136 : decode cX12_readUnit 136 = .ok (.aload_n 0, 1) := by decide +kernel
theorem dX12_readUnit_137 : decode cX12_readUnit 137 = .ok (.invokevirtual 131, 3) := by decide +kernel
theorem dX12_readUnit_140 : decode cX12_readUnit 140 = .ok (.ifCond .ne 4, 3) := by decide +kernel
theorem dX12_readUnit_143 : decode cX12_readUnit 143 = .ok (.return_, 1) := by decide +kernel
theorem dX12_readUnit_144 : decode cX12_readUnit 144 = .ok (.aload_n 0, 1) := by decide +kernel
theorem dX12_readUnit_145 : decode cX12_readUnit 145 = .ok (.invokevirtual 217, 3) := by decide +kernel
theorem dX12_readUnit_148 : decode cX12_readUnit 148 = .ok (.aload_n 0, 1) := by decide +kernel
theorem dX12_readUnit_149 : decode cX12_readUnit 149 = .ok (.iconst 1, 1) := by decide +kernel
theorem dX12_readUnit_150 : decode cX12_readUnit 150 = .ok (.iload_n 1, 1) := by decide +kernel
theorem dX12_readUnit_151 : decode cX12_readUnit 151 = .ok (.invokevirtual 236, 3) := by decide +kernel
theorem dX12_readUnit_154 : decode cX12_readUnit 154 = .ok (.return_, 1) := by decide +kernel
theorem dX12_law_0 : decode cX12_law 0 = .ok (.aload_n 0, 1) := by decide +kernel
theorem dX12_law_1 : decode cX12_law 1 = .ok (.iconst 0, 1) := by decide +kernel
theorem dX12_law_2 : decode cX12_law 2 = .ok (.putfield 3, 3) := by decide +kernel
theorem dX12_law_5 : decode cX12_law 5 = .ok (.aload_n 0, 1) := by decide +kernel
theorem dX12_law_6 : decode cX12_law 6 = .ok (.iload_n 1, 1) := by decide +kernel
theorem dX12_law_7 : decode cX12_law 7 = .ok (.ifCond .lt 22, 3) := by decide +kernel
theorem dX12_law_10 : decode cX12_law 10 = .ok (.iload_n 1, 1) := by decide +kernel
theorem dX12_law_11 : decode cX12_law 11 = .ok (.aload_n 0, 1) := by decide +kernel
theorem dX12_law_12 : decode cX12_law 12 = .ok (.getfield 99, 3) := by decide +kernel
theorem dX12_law_15 : decode cX12_law 15 = .ok (.if_icmp .gt 14, 3) := by decide +kernel
theorem dX12_law_18 : decode cX12_law 18 = .ok (.iload_n 1, 1) := by decide +kernel
theorem dX12_law_19 : decode cX12_law 19 = .ok (.sipush 150, 3) := by decide +kernel
theorem dX12_law_22 : decode cX12_law 22 = .ok (.if_icmp .gt 7, 3) := by decide +kernel
theorem dX12_law_25 : decode cX12_law 25 = .ok (.iconst 1, 1) := by decide +kernel
theorem dX12_law_26 : decode cX12_law 26 = .ok (.goto 4, 3) := by decide +kernel
theorem dX12_law_29 : decode cX12_law 29 = .ok (.iconst 0, 1) := by decide +kernel
theorem dX12_law_30 : decode cX12_law 30 = .ok (.iconst 1, 1) := by decide +kernel
theorem dX12_law_31 : decode cX12_law 31 = .ok (.iconst 1, 1) := by decide +kernel
theorem dX12_law_32 : decode cX12_law 32 = .ok (.invokevirtual 192, 3) := by decide +kernel
theorem dX12_law_35 : decode cX12_law 35 = .ok (.ifCond .ne 5, 3) := by decide +kernel
theorem dX12_law_38 : decode cX12_law 38 = .ok (.iconst 0, 1) := by decide +kernel
theorem dX12_law_39 : decode cX12_law 39 = .ok (.ireturn, 1) := by decide +kernel
theorem dX12_law_40 : decode cX12_law 40 = .ok (.aload_n 0, 1) := by decide +kernel
theorem dX12_law_41 : decode cX12_law 41 = .ok (.iload_n 1, 1) := by decide +kernel
theorem dX12_law_42 : decode cX12_law 42 = .ok (.invokevirtual 196, 3) := by decide +kernel
theorem dX12_law_45 : decode cX12_law 45 = .ok (.aload_n 0, 1) := by decide +kernel
theorem dX12_law_46 : decode cX12_law 46 = .ok (.iconst 0, 1) := by decide +kernel
theorem dX12_law_47 : decode cX12_law 47 = .ok (.putfield 230, 3) := by decide +kernel
theorem dX12_law_50 : decode cX12_law 50 = .ok (.aload_n 0, 1) := by decide +kernel
theorem dX12_law_51 : decode cX12_law 51 = .ok (.invokevirtual 245, 3) := by decide +kernel
theorem dX12_law_54 : decode cX12_law 54 = .ok (.aload_n 0, 1) := by decide +kernel
theorem dX12_law_55 : decode cX12_law 55 = .ok (.invokevirtual 131, 3) := by decide +kernel
theorem dX12_law_58 : decode cX12_law 58 = .ok (.ifCond .eq 19, 3) := by decide +kernel
theorem dX12_law_61 : decode cX12_law 61 = .ok (.aload_n 0, 1) := by decide +kernel
theorem dX12_law_62 : decode cX12_law 62 = .ok (.invokevirtual 200, 3) := by decide +kernel
theorem dX12_law_65 : decode cX12_law 65 = .ok (.ifCond .eq 12, 3) := by decide +kernel
theorem dX12_law_68 : decode cX12_law 68 = .ok (.aload_n 0, 1) := by decide +kernel
theorem dX12_law_69 : decode cX12_law 69 = .ok (.iconst 1, 1) := by decide +kernel
theorem dX12_law_70 : decode cX12_law 70 = .ok (.aload_n 0, 1) := by decide +kernel
theorem dX12_law_71 : decode cX12_law 71 = .ok (.getfield 108, 3) := by decide +kernel
theorem dX12_law_74 : decode cX12_law 74 = .ok (.invokevirtual 138, 3) := by decide +kernel
theorem dX12_law_77 : decode cX12_law 77 = .ok (.aload_n 0, 1) := by decide +kernel
theorem dX12_law_78 : decode cX12_law 78 = .ok (.iconst 1, 1) := by decide +kernel
theorem dX12_law_79 : decode cX12_law 79 = .ok (.invokevirtual 226, 3) := by decide +kernel
theorem dX12_law_82 : decode cX12_law 82 = .ok (.istore_n 2, 1) := by decide +kernel
theorem dX12_law_83 : decode cX12_law 83 = .ok (.aload_n 0, 1) := by decide +kernel
theorem dX12_law_84 : decode cX12_law 84 = .ok (.getfield 102, 3) := by decide +kernel
theorem dX12_law_87 : decode cX12_law 87 = .ok (.iconst (-1), 1) := by decide +kernel
theorem dX12_law_88 : decode cX12_law 88 = .ok (.if_icmp .eq 5, 3) := by decide +kernel
theorem dX12_law_91 : decode cX12_law 91 = .ok (.iload_n 2, 1) := by decide +kernel
theorem dX12_law_92 : decode cX12_law 92 = .ok (.ireturn, 1) := by decide +kernel
theorem dX12_law_93 : decode cX12_law 93 = .ok (.aload_n 0, 1) := by decide +kernel
theorem dX12_law_94 : decode cX12_law 94 = .ok (.aload_n 0, 1) := by decide +kernel
theorem dX12_law_95 : decode cX12_law 95 = .ok (.getfield 230, 3) := by decide +kernel
theorem dX12_law_98 : decode cX12_law 98 = .ok (.putfield 167, 3) := by decide +kernel
theorem dX12_law_101 : decode cX12_law 101 = .ok (.aload_n 0, 1) := by decide +kernel
theorem dX12_law_102 : decode cX12_law 102 = .ok (.aload_n 0, 1) := by decide +kernel
theorem dX12_law_103 : decode cX12_law 103 = .ok (.getfield 35, 3) := by decide +kernel
theorem dX12_law_106 : decode cX12_law 106 = .ok (.aload_n 0, 1) := by decide +kernel
theorem dX12_law_107 : decode cX12_law 107 = .ok (.getfield 41, 3) := by decide +kernel
theorem dX12_law_110 : decode cX12_law 110 = .ok (.aload_n 0, 1) := by decide +kernel
theorem dX12_law_111 : decode cX12_law 111 = .ok (.getfield 230, 3) := by decide +kernel
theorem dX12_law_114 : decode cX12_law 114 = .ok (.invokevirtual 163, 3) := by decide +kernel
theorem dX12_law_117 : decode cX12_law 117 = .ok (.aload_n 0, 1) := by decide +kernel
theorem dX12_law_118 : decode cX12_law 118 = .ok (.aload_n 0, 1) := by decide +kernel
theorem dX12_law_119 : decode cX12_law 119 = .ok (.getfield 38, 3) := by decide +kernel
theorem dX12_law_122 : decode cX12_law 122 = .ok (.aload_n 0, 1) := by decide +kernel
theorem dX12_law_123 : decode cX12_law 123 = .ok (.getfield 44, 3) := by decide +kernel
theorem dX12_law_126 : decode cX12_law 126 = .ok (.aload_n 0, 1) := by decide +kernel
theorem dX12_law_127 : decode cX12_law 127 = .ok (.getfield 230, 3) := by decide +kernel
theorem dX12_law_130 : decode cX12_law 130 = .ok (.invokevirtual 163, 3) := by decide +kernel
theorem dX12_law_133 : decode cX12_law 133 = .ok (.iload_n 2, 1) := by decide +kernel
theorem dX12_law_134 : decode cX12_law 134 = .ok (.ireturn, 1) := by decide +kernel
theorem dX12_valueNow_0 : decode cX12_valueNow 0 = .ok (.iconst 0, 1) := by decide +kernel
theorem dX12_valueNow_1 : decode cX12_valueNow 1 = .ok (.istore_n 1, 1) := by decide +kernel
theorem dX12_valueNow_2 : decode cX12_valueNow 2 = .ok (.iconst 0, 1) := by decide +kernel
theorem dX12_valueNow_3 : decode cX12_valueNow 3 = .ok (.istore_n 2, 1) := by decide +kernel
theorem dX12_valueNow_4 : decode cX12_valueNow 4 = .ok (.iload_n 2, 1) := by decide +kernel
theorem dX12_valueNow_5 : decode cX12_valueNow 5 = .ok (.aload_n 0, 1) := by decide +kernel
theorem dX12_valueNow_6 : decode cX12_valueNow 6 = .ok (.getfield 167, 3) := by decide +kernel
theorem dX12_valueNow_9 : decode cX12_valueNow 9 = .ok (.if_icmp .ge 86, 3) := by decide +kernel
theorem dX12_valueNow_12 : decode cX12_valueNow 12 = .ok (.aload_n 0, 1) := by decide +kernel
theorem dX12_valueNow_13 : decode cX12_valueNow 13 = .ok (.getfield 41, 3) := by decide +kernel
theorem dX12_valueNow_16 : decode cX12_valueNow 16 = .ok (.iload_n 2, 1) := by decide +kernel
theorem dX12_valueNow_17 : decode cX12_valueNow 17 = .ok (.iaload, 1) := by decide +kernel
theorem dX12_valueNow_18 : decode cX12_valueNow 18 = .ok (.istore_n 3, 1) := by decide +kernel
theorem dX12_valueNow_19 : decode cX12_valueNow 19 = .ok (.iload_n 3, 1) := by decide +kernel
theorem dX12_valueNow_20 : decode cX12_valueNow 20 = .ok (.iconst 1, 1) := by decide +kernel
theorem dX12_valueNow_21 : decode cX12_valueNow 21 = .ok (.if_icmp .gt 39, 3) := by decide +kernel
theorem dX12_valueNow_24 : decode cX12_valueNow 24 = .ok (.aload_n 0, 1) := by decide +kernel
theorem dX12_valueNow_25 : decode cX12_valueNow 25 = .ok (.getfield 47, 3) := by decide +kernel
theorem dX12_valueNow_28 : decode cX12_valueNow 28 = .ok (.iload_n 1, 1) := by decide +kernel
theorem dX12_valueNow_29 : decode cX12_valueNow 29 = .ok (.iload_n 3, 1) := by decide +kernel
theorem dX12_valueNow_30 : decode cX12_valueNow 30 = .ok (.ifCond .ne 12, 3) := by decide +kernel
theorem dX12_valueNow_33 : decode cX12_valueNow 33 = .ok (.aload_n 0, 1) := by decide +kernel
theorem dX12_valueNow_34 : decode cX12_valueNow 34 = .ok (.getfield 44, 3) := by decide +kernel
theorem dX12_valueNow_37 : decode cX12_valueNow 37 = .ok (.iload_n 2, 1) := by decide +kernel
theorem dX12_valueNow_38 : decode cX12_valueNow 38 = .ok (.iaload, 1) := by decide +kernel
theorem dX12_valueNow_39 : decode cX12_valueNow 39 = .ok (.goto 14, 3) := by decide +kernel
theorem dX12_valueNow_42 : decode cX12_valueNow 42 = .ok (.aload_n 0, 1) := by decide +kernel
theorem dX12_valueNow_43 : decode cX12_valueNow 43 = .ok (.getfield 50, 3) := by decide +kernel
theorem dX12_valueNow_46 : decode cX12_valueNow 46 = .ok (.aload_n 0, 1) := by decide +kernel
theorem dX12_valueNow_47 : decode cX12_valueNow 47 = .ok (.getfield 44, 3) := by decide +kernel
theorem dX12_valueNow_50 : decode cX12_valueNow 50 = .ok (.iload_n 2, 1) := by decide +kernel
theorem dX12_valueNow_51 : decode cX12_valueNow 51 = .ok (.iaload, 1) := by decide +kernel
theorem dX12_valueNow_52 : decode cX12_valueNow 52 = .ok (.iaload, 1) := by decide +kernel
theorem dX12_valueNow_53 : decode cX12_valueNow 53 = .ok (.iastore, 1) := by decide +kernel
theorem dX12_valueNow_54 : decode cX12_valueNow 54 = .ok (.iinc 1 1, 3) := by decide +kernel
theorem dX12_valueNow_57 : decode cX12_valueNow 57 = .ok (.goto 32, 3) := by decide +kernel
theorem dX12_valueNow_60 : decode cX12_valueNow 60 = .ok (.iinc 1 (-1), 3) := by decide +kernel
theorem dX12_valueNow_63 : decode cX12_valueNow 63 = .ok (.aload_n 0, 1) := by decide +kernel
theorem dX12_valueNow_64 : decode cX12_valueNow 64 = .ok (.getfield 47, 3) := by decide +kernel
theorem dX12_valueNow_67 : decode cX12_valueNow 67 = .ok (.iload_n 1, 1) := by decide +kernel
theorem dX12_valueNow_68 : decode cX12_valueNow 68 = .ok (.iconst 1, 1) := by decide +kernel
theorem dX12_valueNow_69 : decode cX12_valueNow 69 = .ok (.isub, 1) := by decide +kernel
theorem dX12_valueNow_70 : decode cX12_valueNow 70 = .ok (.iload_n 3, 1) := by decide +kernel
theorem dX12_valueNow_71 : decode cX12_valueNow 71 = .ok (.aload_n 0, 1) := by decide +kernel
theorem dX12_valueNow_72 : decode cX12_valueNow 72 = .ok (.getfield 47, 3) := by decide +kernel
theorem dX12_valueNow_75 : decode cX12_valueNow 75 = .ok (.iload_n 1, 1) := by decide +kernel
theorem dX12_valueNow_76 : decode cX12_valueNow 76 = .ok (.iconst 1, 1) := by decide +kernel
theorem dX12_valueNow_77 : decode cX12_valueNow 77 = .ok (.isub, 1) := by decide +kernel
theorem dX12_valueNow_78 : decode cX12_valueNow 78 = .ok (.iaload, 1) := by decide +kernel
theorem dX12_valueNow_79 : decode cX12_valueNow 79 = .ok (.aload_n 0, 1) := by decide +kernel
theorem dX12_valueNow_80 : decode cX12_valueNow 80 = .ok (.getfield 47, 3) := by decide +kernel
theorem dX12_valueNow_83 : decode cX12_valueNow 83 = .ok (.iload_n 1, 1) := by decide +kernel
theorem dX12_valueNow_84 : decode cX12_valueNow 84 = .ok (.iaload, 1) := by decide +kernel
theorem dX12_valueNow_85 : decode cX12_valueNow 85 = .ok (.invokestatic 274, 3) := by decide +kernel
theorem dX12_valueNow_88 : decode cX12_valueNow 88 = .ok (.iastore, 1) := by decide +kernel
theorem dX12_valueNow_89 : decode cX12_valueNow 89 = .ok (.iinc 2 1, 3) := by decide +kernel
theorem dX12_valueNow_92 : decode cX12_valueNow 92 = .ok (.goto (-88), 3) := by decide +kernel
theorem dX12_valueNow_95 : decode cX12_valueNow 95 = .ok (.aload_n 0, 1) := by decide +kernel
theorem dX12_valueNow_96 : decode cX12_valueNow 96 = .ok (.getfield 47, 3) := by decide +kernel
theorem dX12_valueNow_99 : decode cX12_valueNow 99 = .ok (.iconst 0, 1) := by decide +kernel
theorem dX12_valueNow_100 : decode cX12_valueNow 100 = .ok (.iaload, 1) := by decide +kernel
theorem dX12_valueNow_101 : decode cX12_valueNow 101 = .ok (.ireturn, 1) := by decide +kernel
theorem dX12_both_0 : decode cX12_both 0 = .ok (.iload_n 0, 1) := by decide +kernel
theorem dX12_both_1 : decode cX12_both 1 = .ok (.iconst 2, 1) := by decide +kernel
theorem dX12_both_2 : decode cX12_both 2 = .ok (.if_icmp .ne 7, 3) := by decide +kernel
theorem dX12_both_5 : decode cX12_both 5 = .ok (.iload_n 1, 1) := by decide +kernel
theorem dX12_both_6 : decode cX12_both 6 = .ok (.iload_n 2, 1) := by decide +kernel
theorem dX12_both_7 : decode cX12_both 7 = .ok (.iadd, 1) := by decide +kernel
theorem dX12_both_8 : decode cX12_both 8 = .ok (.ireturn, 1) := by decide +kernel
theorem dX12_both_9 : decode cX12_both 9 = .ok (.iload_n 0, 1) := by decide +kernel
theorem dX12_both_10 : decode cX12_both 10 = .ok (.iconst 3, 1) := by decide +kernel
theorem dX12_both_11 : decode cX12_both 11 = .ok (.if_icmp .ne 7, 3) := by decide +kernel
theorem dX12_both_14 : decode cX12_both 14 = .ok (.iload_n 1, 1) := by decide +kernel
theorem dX12_both_15 : decode cX12_both 15 = .ok (.iload_n 2, 1) := by decide +kernel
theorem dX12_both_16 : decode cX12_both 16 = .ok (.isub, 1) := by decide +kernel
theorem dX12_both_17 : decode cX12_both 17 = .ok (.ireturn, 1) := by decide +kernel
theorem dX12_both_18 : decode cX12_both 18 = .ok (.iload_n 0, 1) := by decide +kernel
theorem dX12_both_19 : decode cX12_both 19 = .ok (.iconst 4, 1) := by decide +kernel
theorem dX12_both_20 : decode cX12_both 20 = .ok (.if_icmp .ne 7, 3) := by decide +kernel
theorem dX12_both_23 : decode cX12_both 23 = .ok (.iload_n 1, 1) := by decide +kernel
theorem dX12_both_24 : decode cX12_both 24 = .ok (.iload_n 2, 1) := by decide +kernel
theorem dX12_both_25 : decode cX12_both 25 = .ok (.imul, 1) := by decide +kernel
theorem dX12_both_26 : decode cX12_both 26 = .ok (.ireturn, 1) := by decide +kernel
theorem dX12_both_27 : decode cX12_both 27 = .ok (.iload_n 0, 1) := by decide +kernel
theorem dX12_both_28 : decode cX12_both 28 = .ok (.iconst 5, 1) := by decide +kernel
theorem dX12_both_29 : decode cX12_both 29 = .ok (.if_icmp .eq 9, 3) := by decide +kernel
theorem dX12_both_32 : decode cX12_both 32 = .ok (.iload_n 0, 1) := by decide +kernel
theorem dX12_both_33 : decode cX12_both 33 = .ok (.bipush 8, 2) := by decide +kernel
theorem dX12_both_35 : decode cX12_both 35 = .ok (.if_icmp .ne 26, 3) := by decide +kernel
theorem dX12_both_38 : decode cX12_both 38 = .ok (.iload_n 2, 1) := by decide +kernel
theorem dX12_both_39 : decode cX12_both 39 = .ok (.ifCond .ne 7, 3) := by decide +kernel
theorem dX12_both_42 : decode cX12_both 42 = .ok (.iconst 0, 1) := by decide +kernel
theorem dX12_both_43 : decode cX12_both 43 = .ok (.goto 17, 3) := by decide +kernel
theorem dX12_both_46 : decode cX12_both 46 = .ok (.iload_n 0, 1) := by decide +kernel
theorem dX12_both_47 : decode cX12_both 47 = .ok (.iconst 5, 1) := by decide +kernel
theorem dX12_both_48 : decode cX12_both 48 = .ok (.if_icmp .ne 9, 3) := by decide +kernel
theorem dX12_both_51 : decode cX12_both 51 = .ok (.iload_n 1, 1) := by decide +kernel
theorem dX12_both_52 : decode cX12_both 52 = .ok (.iload_n 2, 1) := by decide +kernel
theorem dX12_both_53 : decode cX12_both 53 = .ok (.idiv, 1) := by decide +kernel
theorem dX12_both_54 : decode cX12_both 54 = .ok (.goto 6, 3) := by decide +kernel
theorem dX12_both_57 : decode cX12_both 57 = .ok (.iload_n 1, 1) := by decide +kernel
theorem dX12_both_58 : decode cX12_both 58 = .ok (.iload_n 2, 1) := by decide +kernel
theorem dX12_both_59 : decode cX12_both 59 = .ok (.irem, 1) := by decide +kernel
theorem dX12_both_60 : decode cX12_both 60 = .ok (.ireturn, 1) := by decide +kernel
theorem dX12_both_61 : decode cX12_both 61 = .ok (.iload_n 1, 1) := by decide +kernel
theorem dX12_both_62 : decode cX12_both 62 = .ok (.iload_n 2, 1) := by decide +kernel
theorem dX12_both_63 : decode cX12_both 63 = .ok (.if_icmp .ge 7, 3) := by decide +kernel
theorem dX12_both_66 : decode cX12_both 66 = .ok (.iconst 1, 1) := by decide +kernel
theorem dX12_both_67 : decode cX12_both 67 = .ok (.goto 4, 3) := by decide +kernel
theorem dX12_both_70 : decode cX12_both 70 = .ok (.iconst 0, 1) := by decide +kernel
theorem dX12_both_71 : decode cX12_both 71 = .ok (.iload_n 0, 1) := by decide +kernel
theorem dX12_both_72 : decode cX12_both 72 = .ok (.bipush 6, 2) := by decide +kernel
theorem dX12_both_74 : decode cX12_both 74 = .ok (.if_icmp .ne 7, 3) := by decide +kernel
theorem dX12_both_77 : decode cX12_both 77 = .ok (.iconst 1, 1) := by decide +kernel
theorem dX12_both_78 : decode cX12_both 78 = .ok (.goto 4, 3) := by decide +kernel
theorem dX12_both_81 : decode cX12_both 81 = .ok (.iconst 0, 1) := by decide +kernel
theorem dX12_both_82 : decode cX12_both 82 = .ok (.if_icmp .ne 7, 3) := by decide +kernel
theorem dX12_both_85 : decode cX12_both 85 = .ok (.iload_n 1, 1) := by decide +kernel
theorem dX12_both_86 : decode cX12_both 86 = .ok (.goto 4, 3) := by decide +kernel
theorem dX12_both_89 : decode cX12_both 89 = .ok (.iload_n 2, 1) := by decide +kernel
theorem dX12_both_90 : decode cX12_both 90 = .ok (.ireturn, 1) := by decide +kernel
theorem dX12_loadNow_0 : decode cX12_loadNow 0 = .ok (.aload_n 0, 1) := by decide +kernel
theorem dX12_loadNow_1 : decode cX12_loadNow 1 = .ok (.getfield 167, 3) := by decide +kernel
theorem dX12_loadNow_4 : decode cX12_loadNow 4 = .ok (.ifCond .ne 26, 3) := by decide +kernel
theorem dX12_loadNow_7 : decode cX12_loadNow 7 = .ok (.aload_n 0, 1) := by decide +kernel
theorem dX12_loadNow_8 : decode cX12_loadNow 8 = .ok (.getfield 50, 3) := by decide +kernel
theorem dX12_loadNow_11 : decode cX12_loadNow 11 = .ok (.iconst 0, 1) := by decide +kernel
theorem dX12_loadNow_12 : decode cX12_loadNow 12 = .ok (.iaload, 1) := by decide +kernel
theorem dX12_loadNow_13 : decode cX12_loadNow 13 = .ok (.aload_n 0, 1) := by decide +kernel
theorem dX12_loadNow_14 : decode cX12_loadNow 14 = .ok (.getfield 50, 3) := by decide +kernel
theorem dX12_loadNow_17 : decode cX12_loadNow 17 = .ok (.iconst 1, 1) := by decide +kernel
theorem dX12_loadNow_18 : decode cX12_loadNow 18 = .ok (.iaload, 1) := by decide +kernel
theorem dX12_loadNow_19 : decode cX12_loadNow 19 = .ok (.isub, 1) := by decide +kernel
theorem dX12_loadNow_20 : decode cX12_loadNow 20 = .ok (.aload_n 0, 1) := by decide +kernel
theorem dX12_loadNow_21 : decode cX12_loadNow 21 = .ok (.getfield 50, 3) := by decide +kernel
theorem dX12_loadNow_24 : decode cX12_loadNow 24 = .ok (.iconst 2, 1) := by decide +kernel
theorem dX12_loadNow_25 : decode cX12_loadNow 25 = .ok (.iaload, 1) := by decide +kernel
theorem dX12_loadNow_26 : decode cX12_loadNow 26 = .ok (.iadd, 1) := by decide +kernel
theorem dX12_loadNow_27 : decode cX12_loadNow 27 = .ok (.goto 7, 3) := by decide +kernel
theorem dX12_loadNow_30 : decode cX12_loadNow 30 = .ok (.aload_n 0, 1) := by decide +kernel
theorem dX12_loadNow_31 : decode cX12_loadNow 31 = .ok (.invokevirtual 278, 3) := by decide +kernel
theorem dX12_loadNow_34 : decode cX12_loadNow 34 = .ok (.istore_n 1, 1) := by decide +kernel
theorem dX12_loadNow_35 : decode cX12_loadNow 35 = .ok (.iload_n 1, 1) := by decide +kernel
theorem dX12_loadNow_36 : decode cX12_loadNow 36 = .ok (.ifCond .ge 7, 3) := by decide +kernel
theorem dX12_loadNow_39 : decode cX12_loadNow 39 = .ok (.iconst 0, 1) := by decide +kernel
theorem dX12_loadNow_40 : decode cX12_loadNow 40 = .ok (.goto 15, 3) := by decide +kernel
theorem dX12_loadNow_43 : decode cX12_loadNow 43 = .ok (.iload_n 1, 1) := by decide +kernel
theorem dX12_loadNow_44 : decode cX12_loadNow 44 = .ok (.bipush 60, 2) := by decide +kernel
theorem dX12_loadNow_46 : decode cX12_loadNow 46 = .ok (.if_icmp .le 8, 3) := by decide +kernel
theorem dX12_loadNow_49 : decode cX12_loadNow 49 = .ok (.bipush 60, 2) := by decide +kernel
theorem dX12_loadNow_51 : decode cX12_loadNow 51 = .ok (.goto 4, 3) := by decide +kernel
theorem dX12_loadNow_54 : decode cX12_loadNow 54 = .ok (.iload_n 1, 1) := by decide +kernel
theorem dX12_loadNow_55 : decode cX12_loadNow 55 = .ok (.ireturn, 1) := by decide +kernel
theorem dX12_tellsStep_0 : decode cX12_tellsStep 0 = .ok (.aload_n 0, 1) := by decide +kernel
theorem dX12_tellsStep_1 : decode cX12_tellsStep 1 = .ok (.invokevirtual 131, 3) := by decide +kernel
theorem dX12_tellsStep_4 : decode cX12_tellsStep 4 = .ok (.ifCond .ne 4, 3) := by decide +kernel
theorem dX12_tellsStep_7 : decode cX12_tellsStep 7 = .ok (.return_, 1) := by decide +kernel
theorem dX12_tellsStep_8 : decode cX12_tellsStep 8 = .ok (.aload_n 0, 1) := by decide +kernel
theorem dX12_tellsStep_9 : decode cX12_tellsStep 9 = .ok (.getfield 53, 3) := by decide +kernel
theorem dX12_tellsStep_12 : decode cX12_tellsStep 12 = .ok (.aload_n 0, 1) := by decide +kernel
theorem dX12_tellsStep_13 : decode cX12_tellsStep 13 = .ok (.getfield 281, 3) := by decide +kernel
theorem dX12_tellsStep_16 : decode cX12_tellsStep 16 = .ok (.iload_n 1, 1) := by decide +kernel
theorem dX12_tellsStep_17 : decode cX12_tellsStep 17 = .ok (.iastore, 1) := by decide +kernel
theorem dX12_tellsStep_18 : decode cX12_tellsStep 18 = .ok (.aload_n 0, 1) := by decide +kernel
theorem dX12_tellsStep_19 : decode cX12_tellsStep 19 = .ok (.getfield 53, 3) := by decide +kernel
theorem dX12_tellsStep_22 : decode cX12_tellsStep 22 = .ok (.aload_n 0, 1) := by decide +kernel
theorem dX12_tellsStep_23 : decode cX12_tellsStep 23 = .ok (.getfield 281, 3) := by decide +kernel
theorem dX12_tellsStep_26 : decode cX12_tellsStep 26 = .ok (.iconst 1, 1) := by decide +kernel
theorem dX12_tellsStep_27 : decode cX12_tellsStep 27 = .ok (.iadd, 1) := by decide +kernel
theorem dX12_tellsStep_28 : decode cX12_tellsStep 28 = .ok (.iload_n 2, 1) := by decide +kernel
theorem dX12_tellsStep_29 : decode cX12_tellsStep 29 = .ok (.iastore, 1) := by decide +kernel
theorem dX12_tellsStep_30 : decode cX12_tellsStep 30 = .ok (.aload_n 0, 1) := by decide +kernel
theorem dX12_tellsStep_31 : decode cX12_tellsStep 31 = .ok (.getfield 53, 3) := by decide +kernel
theorem dX12_tellsStep_34 : decode cX12_tellsStep 34 = .ok (.aload_n 0, 1) := by decide +kernel
theorem dX12_tellsStep_35 : decode cX12_tellsStep 35 = .ok (.getfield 281, 3) := by decide +kernel
theorem dX12_tellsStep_38 : decode cX12_tellsStep 38 = .ok (.iconst 2, 1) := by decide +kernel
theorem dX12_tellsStep_39 : decode cX12_tellsStep 39 = .ok (.iadd, 1) := by decide +kernel
theorem dX12_tellsStep_40 : decode cX12_tellsStep 40 = .ok (.iload_n 3, 1) := by decide +kernel
theorem dX12_tellsStep_41 : decode cX12_tellsStep 41 = .ok (.iastore, 1) := by decide +kernel
theorem dX12_tellsStep_42 : decode cX12_tellsStep 42 = .ok (.aload_n 0, 1) := by decide +kernel
theorem dX12_tellsStep_43 : decode cX12_tellsStep 43 = .ok (.dup, 1) := by decide +kernel
theorem dX12_tellsStep_44 : decode cX12_tellsStep 44 = .ok (.getfield 281, 3) := by decide +kernel
theorem dX12_tellsStep_47 : decode cX12_tellsStep 47 = .ok (.iconst 3, 1) := by decide +kernel
theorem dX12_tellsStep_48 : decode cX12_tellsStep 48 = .ok (.iadd, 1) := by decide +kernel
theorem dX12_tellsStep_49 : decode cX12_tellsStep 49 = .ok (.putfield 281, 3) := by decide +kernel
theorem dX12_tellsStep_52 : decode cX12_tellsStep 52 = .ok (.return_, 1) := by decide +kernel
theorem dX12_stepOf_0 : decode cX12_stepOf 0 = .ok (.iload_n 0, 1) := by decide +kernel
theorem dX12_stepOf_1 : decode cX12_stepOf 1 = .ok (.ldc_w 284, 3) := by decide +kernel
theorem dX12_stepOf_4 : decode cX12_stepOf 4 = .ok (.invokestatic 183, 3) := by decide +kernel
theorem dX12_stepOf_7 : decode cX12_stepOf 7 = .ok (.if_icmp .ne 7, 3) := by decide +kernel
theorem dX12_stepOf_10 : decode cX12_stepOf 10 = .ok (.iconst 0, 1) := by decide +kernel
theorem dX12_stepOf_11 : decode cX12_stepOf 11 = .ok (.goto 74, 3) := by decide +kernel
theorem dX12_stepOf_14 : decode cX12_stepOf 14 = .ok (.iload_n 0, 1) := by decide +kernel
theorem dX12_stepOf_15 : decode cX12_stepOf 15 = .ok (.ldc_w 286, 3) := by decide +kernel
theorem dX12_stepOf_18 : decode cX12_stepOf 18 = .ok (.invokestatic 183, 3) := by decide +kernel
theorem dX12_stepOf_21 : decode cX12_stepOf 21 = .ok (.if_icmp .ne 7, 3) := by decide +kernel
theorem dX12_stepOf_24 : decode cX12_stepOf 24 = .ok (.iconst 1, 1) := by decide +kernel
theorem dX12_stepOf_25 : decode cX12_stepOf 25 = .ok (.goto 60, 3) := by decide +kernel
theorem dX12_stepOf_28 : decode cX12_stepOf 28 = .ok (.iload_n 0, 1) := by decide +kernel
theorem dX12_stepOf_29 : decode cX12_stepOf 29 = .ok (.ldc_w 288, 3) := by decide +kernel
theorem dX12_stepOf_32 : decode cX12_stepOf 32 = .ok (.invokestatic 183, 3) := by decide +kernel
theorem dX12_stepOf_35 : decode cX12_stepOf 35 = .ok (.if_icmp .ne 7, 3) := by decide +kernel
theorem dX12_stepOf_38 : decode cX12_stepOf 38 = .ok (.iconst 2, 1) := by decide +kernel
theorem dX12_stepOf_39 : decode cX12_stepOf 39 = .ok (.goto 46, 3) := by decide +kernel
theorem dX12_stepOf_42 : decode cX12_stepOf 42 = .ok (.iload_n 0, 1) := by decide +kernel
theorem dX12_stepOf_43 : decode cX12_stepOf 43 = .ok (.ldc_w 290, 3) := by decide +kernel
theorem dX12_stepOf_46 : decode cX12_stepOf 46 = .ok (.invokestatic 183, 3) := by decide +kernel
theorem dX12_stepOf_49 : decode cX12_stepOf 49 = .ok (.if_icmp .ne 7, 3) := by decide +kernel
theorem dX12_stepOf_52 : decode cX12_stepOf 52 = .ok (.iconst 3, 1) := by decide +kernel
theorem dX12_stepOf_53 : decode cX12_stepOf 53 = .ok (.goto 32, 3) := by decide +kernel
theorem dX12_stepOf_56 : decode cX12_stepOf 56 = .ok (.iload_n 0, 1) := by decide +kernel
theorem dX12_stepOf_57 : decode cX12_stepOf 57 = .ok (.ldc_w 262, 3) := by decide +kernel
theorem dX12_stepOf_60 : decode cX12_stepOf 60 = .ok (.invokestatic 183, 3) := by decide +kernel
theorem dX12_stepOf_63 : decode cX12_stepOf 63 = .ok (.if_icmp .ne 7, 3) := by decide +kernel
theorem dX12_stepOf_66 : decode cX12_stepOf 66 = .ok (.iconst 4, 1) := by decide +kernel
theorem dX12_stepOf_67 : decode cX12_stepOf 67 = .ok (.goto 18, 3) := by decide +kernel
theorem dX12_stepOf_70 : decode cX12_stepOf 70 = .ok (.iload_n 0, 1) := by decide +kernel
theorem dX12_stepOf_71 : decode cX12_stepOf 71 = .ok (.ldc_w 292, 3) := by decide +kernel
theorem dX12_stepOf_74 : decode cX12_stepOf 74 = .ok (.invokestatic 183, 3) := by decide +kernel
theorem dX12_stepOf_77 : decode cX12_stepOf 77 = .ok (.if_icmp .ne 7, 3) := by decide +kernel
theorem dX12_stepOf_80 : decode cX12_stepOf 80 = .ok (.iconst 5, 1) := by decide +kernel
theorem dX12_stepOf_81 : decode cX12_stepOf 81 = .ok (.goto 4, 3) := by decide +kernel
theorem dX12_stepOf_84 : decode cX12_stepOf 84 = .ok (.iconst (-1), 1) := by decide +kernel
theorem dX12_stepOf_85 : decode cX12_stepOf 85 = .ok (.ireturn, 1) := by decide +kernel
theorem dX12_readBack_0 : decode cX12_readBack 0 = .ok (.aload_n 0, 1) := by decide +kernel
theorem dX12_readBack_1 : decode cX12_readBack 1 = .ok (.iconst 0, 1) := by decide +kernel
theorem dX12_readBack_2 : decode cX12_readBack 2 = .ok (.aload_n 0, 1) := by decide +kernel
theorem dX12_readBack_3 : decode cX12_readBack 3 = .ok (.getfield 154, 3) := by decide +kernel
theorem dX12_readBack_6 : decode cX12_readBack 6 = .ok (.iconst 1, 1) := by decide +kernel
theorem dX12_readBack_7 : decode cX12_readBack 7 = .ok (.isub, 1) := by decide +kernel
theorem dX12_readBack_8 : decode cX12_readBack 8 = .ok (.invokevirtual 188, 3) := by decide +kernel
theorem dX12_readBack_11 : decode cX12_readBack 11 = .ok (.ireturn, 1) := by decide +kernel
theorem dX12_readAgain_0 : decode cX12_readAgain 0 = .ok (.aload_n 0, 1) := by decide +kernel
theorem dX12_readAgain_1 : decode cX12_readAgain 1 = .ok (.iconst 5, 1) := by decide +kernel
theorem dX12_readAgain_2 : decode cX12_readAgain 2 = .ok (.invokevirtual 242, 3) := by decide +kernel
theorem dX12_readAgain_5 : decode cX12_readAgain 5 = .ok (.aload_n 0, 1) := by decide +kernel
theorem dX12_readAgain_6 : decode cX12_readAgain 6 = .ok (.iconst 0, 1) := by decide +kernel
theorem dX12_readAgain_7 : decode cX12_readAgain 7 = .ok (.bipush 40, 2) := by decide +kernel
theorem dX12_readAgain_9 : decode cX12_readAgain 9 = .ok (.invokevirtual 188, 3) := by decide +kernel
theorem dX12_readAgain_12 : decode cX12_readAgain 12 = .ok (.istore_n 1, 1) := by decide +kernel
theorem dX12_readAgain_13 : decode cX12_readAgain 13 = .ok (.aload_n 0, 1) := by decide +kernel
theorem dX12_readAgain_14 : decode cX12_readAgain 14 = .ok (.bipush 91, 2) := by decide +kernel
theorem dX12_readAgain_16 : decode cX12_readAgain 16 = .ok (.invokevirtual 223, 3) := by decide +kernel
theorem dX12_readAgain_19 : decode cX12_readAgain 19 = .ok (.aload_n 0, 1) := by decide +kernel
theorem dX12_readAgain_20 : decode cX12_readAgain 20 = .ok (.getfield 281, 3) := by decide +kernel
theorem dX12_readAgain_23 : decode cX12_readAgain 23 = .ok (.istore_n 2, 1) := by decide +kernel
theorem dX12_readAgain_24 : decode cX12_readAgain 24 = .ok (.aload_n 0, 1) := by decide +kernel
theorem dX12_readAgain_25 : decode cX12_readAgain 25 = .ok (.iconst 5, 1) := by decide +kernel
theorem dX12_readAgain_26 : decode cX12_readAgain 26 = .ok (.iload_n 1, 1) := by decide +kernel
theorem dX12_readAgain_27 : decode cX12_readAgain 27 = .ok (.iconst 0, 1) := by decide +kernel
theorem dX12_readAgain_28 : decode cX12_readAgain 28 = .ok (.invokevirtual 294, 3) := by decide +kernel
theorem dX12_readAgain_31 : decode cX12_readAgain 31 = .ok (.aload_n 0, 1) := by decide +kernel
theorem dX12_readAgain_32 : decode cX12_readAgain 32 = .ok (.invokevirtual 131, 3) := by decide +kernel
theorem dX12_readAgain_35 : decode cX12_readAgain 35 = .ok (.ifCond .eq 19, 3) := by decide +kernel
theorem dX12_readAgain_38 : decode cX12_readAgain 38 = .ok (.aload_n 0, 1) := by decide +kernel
theorem dX12_readAgain_39 : decode cX12_readAgain 39 = .ok (.invokevirtual 114, 3) := by decide +kernel
theorem dX12_readAgain_42 : decode cX12_readAgain 42 = .ok (.bipush 93, 2) := by decide +kernel
theorem dX12_readAgain_44 : decode cX12_readAgain 44 = .ok (.if_icmp .eq 10, 3) := by decide +kernel
theorem dX12_readAgain_47 : decode cX12_readAgain 47 = .ok (.aload_n 0, 1) := by decide +kernel
theorem dX12_readAgain_48 : decode cX12_readAgain 48 = .ok (.invokevirtual 298, 3) := by decide +kernel
theorem dX12_readAgain_51 : decode cX12_readAgain 51 = .ok (.goto (-20), 3) := by decide +kernel
theorem dX12_readAgain_54 : decode cX12_readAgain 54 = .ok (.aload_n 0, 1) := by decide +kernel
theorem dX12_readAgain_55 : decode cX12_readAgain 55 = .ok (.bipush 93, 2) := by decide +kernel
theorem dX12_readAgain_57 : decode cX12_readAgain 57 = .ok (.invokevirtual 223, 3) := by decide +kernel
theorem dX12_readAgain_60 : decode cX12_readAgain 60 = .ok (.aload_n 0, 1) := by decide +kernel
theorem dX12_readAgain_61 : decode cX12_readAgain 61 = .ok (.dup, 1) := by decide +kernel
theorem dX12_readAgain_62 : decode cX12_readAgain 62 = .ok (.getfield 142, 3) := by decide +kernel
theorem dX12_readAgain_65 : decode cX12_readAgain 65 = .ok (.iconst 1, 1) := by decide +kernel
theorem dX12_readAgain_66 : decode cX12_readAgain 66 = .ok (.isub, 1) := by decide +kernel
theorem dX12_readAgain_67 : decode cX12_readAgain 67 = .ok (.putfield 142, 3) := by decide +kernel
theorem dX12_readAgain_70 : decode cX12_readAgain 70 = .ok (.aload_n 0, 1) := by decide +kernel
theorem dX12_readAgain_71 : decode cX12_readAgain 71 = .ok (.invokevirtual 131, 3) := by decide +kernel
theorem dX12_readAgain_74 : decode cX12_readAgain 74 = .ok (.ifCond .eq 15, 3) := by decide +kernel
theorem dX12_readAgain_77 : decode cX12_readAgain 77 = .ok (.aload_n 0, 1) := by decide +kernel
theorem dX12_readAgain_78 : decode cX12_readAgain 78 = .ok (.getfield 53, 3) := by decide +kernel
theorem dX12_readAgain_81 : decode cX12_readAgain 81 = .ok (.iload_n 2, 1) := by decide +kernel
theorem dX12_readAgain_82 : decode cX12_readAgain 82 = .ok (.iconst 2, 1) := by decide +kernel
theorem dX12_readAgain_83 : decode cX12_readAgain 83 = .ok (.iadd, 1) := by decide +kernel
theorem dX12_readAgain_84 : decode cX12_readAgain 84 = .ok (.aload_n 0, 1) := by decide +kernel
theorem dX12_readAgain_85 : decode cX12_readAgain 85 = .ok (.getfield 281, 3) := by decide +kernel
theorem dX12_readAgain_88 : decode cX12_readAgain 88 = .ok (.iastore, 1) := by decide +kernel
theorem dX12_readAgain_89 : decode cX12_readAgain 89 = .ok (.return_, 1) := by decide +kernel
theorem dX12_readStep_0 : decode cX12_readStep 0 = .ok (.aload_n 0, 1) := by decide +kernel
theorem dX12_readStep_1 : decode cX12_readStep 1 = .ok (.invokevirtual 208, 3) := by decide +kernel
theorem dX12_readStep_4 : decode cX12_readStep 4 = .ok (.invokestatic 301, 3) := by decide +kernel
theorem dX12_readStep_7 : decode cX12_readStep 7 = .ok (.istore_n 1, 1) := by decide +kernel
theorem dX12_readStep_8 : decode cX12_readStep 8 = .ok (.iload_n 1, 1) := by decide +kernel
theorem dX12_readStep_9 : decode cX12_readStep 9 = .ok (.iconst (-1), 1) := by decide +kernel
theorem dX12_readStep_10 : decode cX12_readStep 10 = .ok (.if_icmp .ne 15, 3) := by decide +kernel
theorem dX12_readStep_13 : decode cX12_readStep 13 = .ok (.aload_n 0, 1) := by decide +kernel
theorem dX12_readStep_14 : decode cX12_readStep 14 = .ok (.iconst 1, 1) := by decide +kernel
theorem dX12_readStep_15 : decode cX12_readStep 15 = .ok (.aload_n 0, 1) := by decide +kernel
theorem dX12_readStep_16 : decode cX12_readStep 16 = .ok (.getfield 108, 3) := by decide +kernel
theorem dX12_readStep_19 : decode cX12_readStep 19 = .ok (.invokevirtual 138, 3) := by decide +kernel
theorem dX12_readStep_22 : decode cX12_readStep 22 = .ok (.goto 85, 3) := by decide +kernel
theorem dX12_readStep_25 : decode cX12_readStep 25 = .ok (.iload_n 1, 1) := by decide +kernel
theorem dX12_readStep_26 : decode cX12_readStep 26 = .ok (.iconst 5, 1) := by decide +kernel
theorem dX12_readStep_27 : decode cX12_readStep 27 = .ok (.if_icmp .ne 10, 3) := by decide +kernel
theorem dX12_readStep_30 : decode cX12_readStep 30 = .ok (.aload_n 0, 1) := by decide +kernel
theorem dX12_readStep_31 : decode cX12_readStep 31 = .ok (.invokevirtual 304, 3) := by decide +kernel
theorem dX12_readStep_34 : decode cX12_readStep 34 = .ok (.goto 73, 3) := by decide +kernel
theorem dX12_readStep_37 : decode cX12_readStep 37 = .ok (.aload_n 0, 1) := by decide +kernel
theorem dX12_readStep_38 : decode cX12_readStep 38 = .ok (.invokevirtual 217, 3) := by decide +kernel
theorem dX12_readStep_41 : decode cX12_readStep 41 = .ok (.iload_n 1, 1) := by decide +kernel
theorem dX12_readStep_42 : decode cX12_readStep 42 = .ok (.iconst 4, 1) := by decide +kernel
theorem dX12_readStep_43 : decode cX12_readStep 43 = .ok (.if_icmp .ne 7, 3) := by decide +kernel
theorem dX12_readStep_46 : decode cX12_readStep 46 = .ok (.iconst 0, 1) := by decide +kernel
theorem dX12_readStep_47 : decode cX12_readStep 47 = .ok (.goto 22, 3) := by decide +kernel
theorem dX12_readStep_50 : decode cX12_readStep 50 = .ok (.iload_n 1, 1) := by decide +kernel
theorem dX12_readStep_51 : decode cX12_readStep 51 = .ok (.iconst 2, 1) := by decide +kernel
theorem dX12_readStep_52 : decode cX12_readStep 52 = .ok (.if_icmp .ne 13, 3) := by decide +kernel
theorem dX12_readStep_55 : decode cX12_readStep 55 = .ok (.aload_n 0, 1) := by decide +kernel
theorem dX12_readStep_56 : decode cX12_readStep 56 = .ok (.iconst 0, 1) := by decide +kernel
theorem dX12_readStep_57 : decode cX12_readStep 57 = .ok (.bipush 40, 2) := by decide +kernel
theorem dX12_readStep_59 : decode cX12_readStep 59 = .ok (.invokevirtual 188, 3) := by decide +kernel
theorem dX12_readStep_62 : decode cX12_readStep 62 = .ok (.goto 7, 3) := by decide +kernel
theorem dX12_readStep_65 : decode cX12_readStep 65 = .ok (.aload_n 0, 1) := by decide +kernel
theorem dX12_readStep_66 : decode cX12_readStep 66 = .ok (.invokevirtual 307, 3) := by decide +kernel
theorem dX12_readStep_69 : decode cX12_readStep 69 = .ok (.istore_n 2, 1) := by decide +kernel
theorem dX12_readStep_70 : decode cX12_readStep 70 = .ok (.aload_n 0, 1) := by decide +kernel
theorem dX12_readStep_71 : decode cX12_readStep 71 = .ok (.iload_n 1, 1) := by decide +kernel
theorem dX12_readStep_72 : decode cX12_readStep 72 = .ok (.iload_n 2, 1) := by decide +kernel
theorem dX12_readStep_73 : decode cX12_readStep 73 = .ok (.iload_n 1, 1) := by decide +kernel
theorem dX12_readStep_74 : decode cX12_readStep 74 = .ok (.ifCond .ne 17, 3) := by decide +kernel
theorem dX12_readStep_77 : decode cX12_readStep 77 = .ok (.aload_n 0, 1) := by decide +kernel
theorem dX12_readStep_78 : decode cX12_readStep 78 = .ok (.iconst 0, 1) := by decide +kernel
theorem dX12_readStep_79 : decode cX12_readStep 79 = .ok (.aload_n 0, 1) := by decide +kernel
theorem dX12_readStep_80 : decode cX12_readStep 80 = .ok (.getfield 157, 3) := by decide +kernel
theorem dX12_readStep_83 : decode cX12_readStep 83 = .ok (.iconst 1, 1) := by decide +kernel
theorem dX12_readStep_84 : decode cX12_readStep 84 = .ok (.isub, 1) := by decide +kernel
theorem dX12_readStep_85 : decode cX12_readStep 85 = .ok (.invokevirtual 188, 3) := by decide +kernel
theorem dX12_readStep_88 : decode cX12_readStep 88 = .ok (.goto 16, 3) := by decide +kernel
theorem dX12_readStep_91 : decode cX12_readStep 91 = .ok (.iload_n 1, 1) := by decide +kernel
theorem dX12_readStep_92 : decode cX12_readStep 92 = .ok (.iconst 1, 1) := by decide +kernel
theorem dX12_readStep_93 : decode cX12_readStep 93 = .ok (.if_icmp .ne 10, 3) := by decide +kernel
theorem dX12_readStep_96 : decode cX12_readStep 96 = .ok (.aload_n 0, 1) := by decide +kernel
theorem dX12_readStep_97 : decode cX12_readStep 97 = .ok (.invokevirtual 307, 3) := by decide +kernel
theorem dX12_readStep_100 : decode cX12_readStep 100 = .ok (.goto 4, 3) := by decide +kernel
theorem dX12_readStep_103 : decode cX12_readStep 103 = .ok (.iconst 0, 1) := by decide +kernel
theorem dX12_readStep_104 : decode cX12_readStep 104 = .ok (.invokevirtual 294, 3) := by decide +kernel
theorem dX12_readStep_107 : decode cX12_readStep 107 = .ok (.aload_n 0, 1) := by decide +kernel
theorem dX12_readStep_108 : decode cX12_readStep 108 = .ok (.bipush 59, 2) := by decide +kernel
theorem dX12_readStep_110 : decode cX12_readStep 110 = .ok (.invokevirtual 223, 3) := by decide +kernel
theorem dX12_readStep_113 : decode cX12_readStep 113 = .ok (.return_, 1) := by decide +kernel
theorem dX12_work_0 : decode cX12_work 0 = .ok (.aload_n 0, 1) := by decide +kernel
theorem dX12_work_1 : decode cX12_work 1 = .ok (.iconst 0, 1) := by decide +kernel
theorem dX12_work_2 : decode cX12_work 2 = .ok (.putfield 3, 3) := by decide +kernel
theorem dX12_work_5 : decode cX12_work 5 = .ok (.aload_n 0, 1) := by decide +kernel
theorem dX12_work_6 : decode cX12_work 6 = .ok (.iload_n 1, 1) := by decide +kernel
theorem dX12_work_7 : decode cX12_work 7 = .ok (.ifCond .lt 22, 3) := by decide +kernel
theorem dX12_work_10 : decode cX12_work 10 = .ok (.iload_n 1, 1) := by decide +kernel
theorem dX12_work_11 : decode cX12_work 11 = .ok (.aload_n 0, 1) := by decide +kernel
theorem dX12_work_12 : decode cX12_work 12 = .ok (.getfield 99, 3) := by decide +kernel
theorem dX12_work_15 : decode cX12_work 15 = .ok (.if_icmp .gt 14, 3) := by decide +kernel
theorem dX12_work_18 : decode cX12_work 18 = .ok (.iload_n 1, 1) := by decide +kernel
theorem dX12_work_19 : decode cX12_work 19 = .ok (.sipush 150, 3) := by decide +kernel
theorem dX12_work_22 : decode cX12_work 22 = .ok (.if_icmp .gt 7, 3) := by decide +kernel
theorem dX12_work_25 : decode cX12_work 25 = .ok (.iconst 1, 1) := by decide +kernel
theorem dX12_work_26 : decode cX12_work 26 = .ok (.goto 4, 3) := by decide +kernel
theorem dX12_work_29 : decode cX12_work 29 = .ok (.iconst 0, 1) := by decide +kernel
theorem dX12_work_30 : decode cX12_work 30 = .ok (.iconst 1, 1) := by decide +kernel
theorem dX12_work_31 : decode cX12_work 31 = .ok (.iconst 1, 1) := by decide +kernel
theorem dX12_work_32 : decode cX12_work 32 = .ok (.invokevirtual 192, 3) := by decide +kernel
theorem dX12_work_35 : decode cX12_work 35 = .ok (.ifCond .ne 5, 3) := by decide +kernel
theorem dX12_work_38 : decode cX12_work 38 = .ok (.iconst 0, 1) := by decide +kernel
theorem dX12_work_39 : decode cX12_work 39 = .ok (.ireturn, 1) := by decide +kernel
theorem dX12_work_40 : decode cX12_work 40 = .ok (.aload_n 0, 1) := by decide +kernel
theorem dX12_work_41 : decode cX12_work 41 = .ok (.iload_n 1, 1) := by decide +kernel
theorem dX12_work_42 : decode cX12_work 42 = .ok (.invokevirtual 196, 3) := by decide +kernel
theorem dX12_work_45 : decode cX12_work 45 = .ok (.aload_n 0, 1) := by decide +kernel
theorem dX12_work_46 : decode cX12_work 46 = .ok (.getfield 173, 3) := by decide +kernel
theorem dX12_work_49 : decode cX12_work 49 = .ok (.bipush 16, 2) := by decide +kernel
theorem dX12_work_51 : decode cX12_work 51 = .ok (.if_icmp .ne 12, 3) := by decide +kernel
theorem dX12_work_54 : decode cX12_work 54 = .ok (.aload_n 0, 1) := by decide +kernel
theorem dX12_work_55 : decode cX12_work 55 = .ok (.iconst 0, 1) := by decide +kernel
theorem dX12_work_56 : decode cX12_work 56 = .ok (.invokevirtual 226, 3) := by decide +kernel
theorem dX12_work_59 : decode cX12_work 59 = .ok (.pop, 1) := by decide +kernel
theorem dX12_work_60 : decode cX12_work 60 = .ok (.bipush (-20), 2) := by decide +kernel
theorem dX12_work_62 : decode cX12_work 62 = .ok (.ireturn, 1) := by decide +kernel
theorem dX12_work_63 : decode cX12_work 63 = .ok (.aload_n 0, 1) := by decide +kernel
theorem dX12_work_64 : decode cX12_work 64 = .ok (.iconst 0, 1) := by decide +kernel
theorem dX12_work_65 : decode cX12_work 65 = .ok (.putfield 281, 3) := by decide +kernel
theorem dX12_work_68 : decode cX12_work 68 = .ok (.aload_n 0, 1) := by decide +kernel
theorem dX12_work_69 : decode cX12_work 69 = .ok (.invokevirtual 131, 3) := by decide +kernel
theorem dX12_work_72 : decode cX12_work 72 = .ok (.ifCond .eq 17, 3) := by decide +kernel
theorem dX12_work_75 : decode cX12_work 75 = .ok (.aload_n 0, 1) := by decide +kernel
theorem dX12_work_76 : decode cX12_work 76 = .ok (.invokevirtual 200, 3) := by decide +kernel
theorem dX12_work_79 : decode cX12_work 79 = .ok (.ifCond .eq 10, 3) := by decide +kernel
theorem dX12_work_82 : decode cX12_work 82 = .ok (.aload_n 0, 1) := by decide +kernel
theorem dX12_work_83 : decode cX12_work 83 = .ok (.invokevirtual 298, 3) := by decide +kernel
theorem dX12_work_86 : decode cX12_work 86 = .ok (.goto (-18), 3) := by decide +kernel
theorem dX12_work_89 : decode cX12_work 89 = .ok (.aload_n 0, 1) := by decide +kernel
theorem dX12_work_90 : decode cX12_work 90 = .ok (.iconst 0, 1) := by decide +kernel
theorem dX12_work_91 : decode cX12_work 91 = .ok (.invokevirtual 226, 3) := by decide +kernel
theorem dX12_work_94 : decode cX12_work 94 = .ok (.istore_n 2, 1) := by decide +kernel
theorem dX12_work_95 : decode cX12_work 95 = .ok (.aload_n 0, 1) := by decide +kernel
theorem dX12_work_96 : decode cX12_work 96 = .ok (.getfield 102, 3) := by decide +kernel
theorem dX12_work_99 : decode cX12_work 99 = .ok (.iconst (-1), 1) := by decide +kernel
theorem dX12_work_100 : decode cX12_work 100 = .ok (.if_icmp .eq 5, 3) := by decide +kernel
theorem dX12_work_103 : decode cX12_work 103 = .ok (.iload_n 2, 1) := by decide +kernel
theorem dX12_work_104 : decode cX12_work 104 = .ok (.ireturn, 1) := by decide +kernel
theorem dX12_work_105 : decode cX12_work 105 = .ok (.aload_n 0, 1) := by decide +kernel
theorem dX12_work_106 : decode cX12_work 106 = .ok (.aload_n 0, 1) := by decide +kernel
theorem dX12_work_107 : decode cX12_work 107 = .ok (.getfield 53, 3) := by decide +kernel
theorem dX12_work_110 : decode cX12_work 110 = .ok (.aload_n 0, 1) := by decide +kernel
theorem dX12_work_111 : decode cX12_work 111 = .ok (.getfield 56, 3) := by decide +kernel
theorem dX12_work_114 : decode cX12_work 114 = .ok (.aload_n 0, 1) := by decide +kernel
theorem dX12_work_115 : decode cX12_work 115 = .ok (.getfield 281, 3) := by decide +kernel
theorem dX12_work_118 : decode cX12_work 118 = .ok (.invokevirtual 163, 3) := by decide +kernel
theorem dX12_work_121 : decode cX12_work 121 = .ok (.iconst 0, 1) := by decide +kernel
theorem dX12_work_122 : decode cX12_work 122 = .ok (.istore_n 3, 1) := by decide +kernel
theorem dX12_work_123 : decode cX12_work 123 = .ok (.iload_n 3, 1) := by decide +kernel
theorem dX12_work_124 : decode cX12_work 124 = .ok (.bipush 126, 2) := by decide +kernel
theorem dX12_work_126 : decode cX12_work 126 = .ok (.if_icmp .ge 29, 3) := by decide +kernel
theorem dX12_work_129 : decode cX12_work 129 = .ok (.aload_n 0, 1) := by decide +kernel
theorem dX12_work_130 : decode cX12_work 130 = .ok (.getfield 65, 3) := by decide +kernel
theorem dX12_work_133 : decode cX12_work 133 = .ok (.bipush 126, 2) := by decide +kernel
theorem dX12_work_135 : decode cX12_work 135 = .ok (.aload_n 0, 1) := by decide +kernel
theorem dX12_work_136 : decode cX12_work 136 = .ok (.getfield 173, 3) := by decide +kernel
theorem dX12_work_139 : decode cX12_work 139 = .ok (.imul, 1) := by decide +kernel
theorem dX12_work_140 : decode cX12_work 140 = .ok (.iload_n 3, 1) := by decide +kernel
theorem dX12_work_141 : decode cX12_work 141 = .ok (.iadd, 1) := by decide +kernel
theorem dX12_work_142 : decode cX12_work 142 = .ok (.aload_n 0, 1) := by decide +kernel
theorem dX12_work_143 : decode cX12_work 143 = .ok (.getfield 59, 3) := by decide +kernel
theorem dX12_work_146 : decode cX12_work 146 = .ok (.iload_n 3, 1) := by decide +kernel
theorem dX12_work_147 : decode cX12_work 147 = .ok (.iaload, 1) := by decide +kernel
theorem dX12_work_148 : decode cX12_work 148 = .ok (.iastore, 1) := by decide +kernel
theorem dX12_work_149 : decode cX12_work 149 = .ok (.iinc 3 1, 3) := by decide +kernel
theorem dX12_work_152 : decode cX12_work 152 = .ok (.goto (-29), 3) := by decide +kernel
theorem dX12_work_155 : decode cX12_work 155 = .ok (.aload_n 0, 1) := by decide +kernel
theorem dX12_work_156 : decode cX12_work 156 = .ok (.dup, 1) := by decide +kernel
theorem dX12_work_157 : decode cX12_work 157 = .ok (.getfield 173, 3) := by decide +kernel
theorem dX12_work_160 : decode cX12_work 160 = .ok (.iconst 1, 1) := by decide +kernel
theorem dX12_work_161 : decode cX12_work 161 = .ok (.iadd, 1) := by decide +kernel
theorem dX12_work_162 : decode cX12_work 162 = .ok (.putfield 173, 3) := by decide +kernel
theorem dX12_work_165 : decode cX12_work 165 = .ok (.aload_n 0, 1) := by decide +kernel
theorem dX12_work_166 : decode cX12_work 166 = .ok (.invokevirtual 310, 3) := by decide +kernel
theorem dX12_work_169 : decode cX12_work 169 = .ok (.aload_n 0, 1) := by decide +kernel
theorem dX12_work_170 : decode cX12_work 170 = .ok (.iconst 0, 1) := by decide +kernel
theorem dX12_work_171 : decode cX12_work 171 = .ok (.putfield 313, 3) := by decide +kernel
theorem dX12_work_174 : decode cX12_work 174 = .ok (.aload_n 0, 1) := by decide +kernel
theorem dX12_work_175 : decode cX12_work 175 = .ok (.iconst 0, 1) := by decide +kernel
theorem dX12_work_176 : decode cX12_work 176 = .ok (.putfield 316, 3) := by decide +kernel
theorem dX12_work_179 : decode cX12_work 179 = .ok (.aload_n 0, 1) := by decide +kernel
theorem dX12_work_180 : decode cX12_work 180 = .ok (.iconst 0, 1) := by decide +kernel
theorem dX12_work_181 : decode cX12_work 181 = .ok (.putfield 319, 3) := by decide +kernel
theorem dX12_work_184 : decode cX12_work 184 = .ok (.aload_n 0, 1) := by decide +kernel
theorem dX12_work_185 : decode cX12_work 185 = .ok (.iconst 0, 1) := by decide +kernel
theorem dX12_work_186 : decode cX12_work 186 = .ok (.aload_n 0, 1) := by decide +kernel
theorem dX12_work_187 : decode cX12_work 187 = .ok (.getfield 281, 3) := by decide +kernel
theorem dX12_work_190 : decode cX12_work 190 = .ok (.invokevirtual 322, 3) := by decide +kernel
theorem dX12_work_193 : decode cX12_work 193 = .ok (.aload_n 0, 1) := by decide +kernel
theorem dX12_work_194 : decode cX12_work 194 = .ok (.aload_n 0, 1) := by decide +kernel
theorem dX12_work_195 : decode cX12_work 195 = .ok (.getfield 62, 3) := by decide +kernel
theorem dX12_work_198 : decode cX12_work 198 = .ok (.aload_n 0, 1) := by decide +kernel
theorem dX12_work_199 : decode cX12_work 199 = .ok (.getfield 59, 3) := by decide +kernel
theorem dX12_work_202 : decode cX12_work 202 = .ok (.bipush 126, 2) := by decide +kernel
theorem dX12_work_204 : decode cX12_work 204 = .ok (.invokevirtual 163, 3) := by decide +kernel
theorem dX12_work_207 : decode cX12_work 207 = .ok (.aload_n 0, 1) := by decide +kernel
theorem dX12_work_208 : decode cX12_work 208 = .ok (.aload_n 0, 1) := by decide +kernel
theorem dX12_work_209 : decode cX12_work 209 = .ok (.getfield 319, 3) := by decide +kernel
theorem dX12_work_212 : decode cX12_work 212 = .ok (.putfield 179, 3) := by decide +kernel
theorem dX12_work_215 : decode cX12_work 215 = .ok (.aload_n 0, 1) := by decide +kernel
theorem dX12_work_216 : decode cX12_work 216 = .ok (.getfield 316, 3) := by decide +kernel
theorem dX12_work_219 : decode cX12_work 219 = .ok (.ireturn, 1) := by decide +kernel
theorem dX12_goesSteps_0 : decode cX12_goesSteps 0 = .ok (.iload_n 1, 1) := by decide +kernel
theorem dX12_goesSteps_1 : decode cX12_goesSteps 1 = .ok (.istore_n 3, 1) := by decide +kernel
theorem dX12_goesSteps_2 : decode cX12_goesSteps 2 = .ok (.iload_n 3, 1) := by decide +kernel
theorem dX12_goesSteps_3 : decode cX12_goesSteps 3 = .ok (.iload_n 2, 1) := by decide +kernel
theorem dX12_goesSteps_4 : decode cX12_goesSteps 4 = .ok (.if_icmp .ge 148, 3) := by decide +kernel
theorem dX12_goesSteps_7 : decode cX12_goesSteps 7 = .ok (.aload_n 0, 1) := by decide +kernel
theorem dX12_goesSteps_8 : decode cX12_goesSteps 8 = .ok (.getfield 313, 3) := by decide +kernel
theorem dX12_goesSteps_11 : decode cX12_goesSteps 11 = .ok (.sipush 200, 3) := by decide +kernel
theorem dX12_goesSteps_14 : decode cX12_goesSteps 14 = .ok (.if_icmp .ge 138, 3) := by decide +kernel
theorem dX12_goesSteps_17 : decode cX12_goesSteps 17 = .ok (.aload_n 0, 1) := by decide +kernel
theorem dX12_goesSteps_18 : decode cX12_goesSteps 18 = .ok (.dup, 1) := by decide +kernel
theorem dX12_goesSteps_19 : decode cX12_goesSteps 19 = .ok (.getfield 313, 3) := by decide +kernel
theorem dX12_goesSteps_22 : decode cX12_goesSteps 22 = .ok (.iconst 1, 1) := by decide +kernel
theorem dX12_goesSteps_23 : decode cX12_goesSteps 23 = .ok (.iadd, 1) := by decide +kernel
theorem dX12_goesSteps_24 : decode cX12_goesSteps 24 = .ok (.putfield 313, 3) := by decide +kernel
theorem dX12_goesSteps_27 : decode cX12_goesSteps 27 = .ok (.aload_n 0, 1) := by decide +kernel
theorem dX12_goesSteps_28 : decode cX12_goesSteps 28 = .ok (.getfield 56, 3) := by decide +kernel
theorem dX12_goesSteps_31 : decode cX12_goesSteps 31 = .ok (.iload_n 3, 1) := by decide +kernel
theorem dX12_goesSteps_32 : decode cX12_goesSteps 32 = .ok (.iaload, 1) := by decide +kernel
theorem dX12_goesSteps_33 : decode cX12_goesSteps 33 = .ok (.iconst 5, 1) := by decide +kernel
theorem dX12_goesSteps_34 : decode cX12_goesSteps 34 = .ok (.if_icmp .ne 60, 3) := by decide +kernel
theorem dX12_goesSteps_37 : decode cX12_goesSteps 37 = .ok (.aload_n 0, 1) := by decide +kernel
theorem dX12_goesSteps_38 : decode cX12_goesSteps 38 = .ok (.getfield 56, 3) := by decide +kernel
theorem dX12_goesSteps_41 : decode cX12_goesSteps 41 = .ok (.iload_n 3, 1) := by decide +kernel
theorem dX12_goesSteps_42 : decode cX12_goesSteps 42 = .ok (.iconst 2, 1) := by decide +kernel
theorem dX12_goesSteps_43 : decode cX12_goesSteps 43 = .ok (.iadd, 1) := by decide +kernel
theorem dX12_goesSteps_44 : decode cX12_goesSteps 44 = .ok (.iaload, 1) := by decide +kernel
theorem dX12_goesSteps_45 : decode cX12_goesSteps 45 = .ok (.istore 4, 2) := by decide +kernel
theorem dX12_goesSteps_47 : decode cX12_goesSteps 47 = .ok (.iconst 0, 1) := by decide +kernel
theorem dX12_goesSteps_48 : decode cX12_goesSteps 48 = .ok (.istore 5, 2) := by decide +kernel
theorem dX12_goesSteps_50 : decode cX12_goesSteps 50 = .ok (.iload 5, 2) := by decide +kernel
theorem dX12_goesSteps_52 : decode cX12_goesSteps 52 = .ok (.aload_n 0, 1) := by decide +kernel
theorem dX12_goesSteps_53 : decode cX12_goesSteps 53 = .ok (.getfield 56, 3) := by decide +kernel
theorem dX12_goesSteps_56 : decode cX12_goesSteps 56 = .ok (.iload_n 3, 1) := by decide +kernel
theorem dX12_goesSteps_57 : decode cX12_goesSteps 57 = .ok (.iconst 1, 1) := by decide +kernel
theorem dX12_goesSteps_58 : decode cX12_goesSteps 58 = .ok (.iadd, 1) := by decide +kernel
theorem dX12_goesSteps_59 : decode cX12_goesSteps 59 = .ok (.iaload, 1) := by decide +kernel
theorem dX12_goesSteps_60 : decode cX12_goesSteps 60 = .ok (.if_icmp .ge 28, 3) := by decide +kernel
theorem dX12_goesSteps_63 : decode cX12_goesSteps 63 = .ok (.aload_n 0, 1) := by decide +kernel
theorem dX12_goesSteps_64 : decode cX12_goesSteps 64 = .ok (.getfield 313, 3) := by decide +kernel
theorem dX12_goesSteps_67 : decode cX12_goesSteps 67 = .ok (.sipush 200, 3) := by decide +kernel
theorem dX12_goesSteps_70 : decode cX12_goesSteps 70 = .ok (.if_icmp .ge 18, 3) := by decide +kernel
theorem dX12_goesSteps_73 : decode cX12_goesSteps 73 = .ok (.aload_n 0, 1) := by decide +kernel
theorem dX12_goesSteps_74 : decode cX12_goesSteps 74 = .ok (.iload_n 3, 1) := by decide +kernel
theorem dX12_goesSteps_75 : decode cX12_goesSteps 75 = .ok (.iconst 3, 1) := by decide +kernel
theorem dX12_goesSteps_76 : decode cX12_goesSteps 76 = .ok (.iadd, 1) := by decide +kernel
theorem dX12_goesSteps_77 : decode cX12_goesSteps 77 = .ok (.iload 4, 2) := by decide +kernel
theorem dX12_goesSteps_79 : decode cX12_goesSteps 79 = .ok (.invokevirtual 322, 3) := by decide +kernel
theorem dX12_goesSteps_82 : decode cX12_goesSteps 82 = .ok (.iinc 5 1, 3) := by decide +kernel
theorem dX12_goesSteps_85 : decode cX12_goesSteps 85 = .ok (.goto (-35), 3) := by decide +kernel
theorem dX12_goesSteps_88 : decode cX12_goesSteps 88 = .ok (.iload 4, 2) := by decide +kernel
theorem dX12_goesSteps_90 : decode cX12_goesSteps 90 = .ok (.istore_n 3, 1) := by decide +kernel
theorem dX12_goesSteps_91 : decode cX12_goesSteps 91 = .ok (.goto (-89), 3) := by decide +kernel
theorem dX12_goesSteps_94 : decode cX12_goesSteps 94 = .ok (.aload_n 0, 1) := by decide +kernel
theorem dX12_goesSteps_95 : decode cX12_goesSteps 95 = .ok (.aload_n 0, 1) := by decide +kernel
theorem dX12_goesSteps_96 : decode cX12_goesSteps 96 = .ok (.getfield 56, 3) := by decide +kernel
theorem dX12_goesSteps_99 : decode cX12_goesSteps 99 = .ok (.iload_n 3, 1) := by decide +kernel
theorem dX12_goesSteps_100 : decode cX12_goesSteps 100 = .ok (.iaload, 1) := by decide +kernel
theorem dX12_goesSteps_101 : decode cX12_goesSteps 101 = .ok (.aload_n 0, 1) := by decide +kernel
theorem dX12_goesSteps_102 : decode cX12_goesSteps 102 = .ok (.getfield 56, 3) := by decide +kernel
theorem dX12_goesSteps_105 : decode cX12_goesSteps 105 = .ok (.iload_n 3, 1) := by decide +kernel
theorem dX12_goesSteps_106 : decode cX12_goesSteps 106 = .ok (.iconst 1, 1) := by decide +kernel
theorem dX12_goesSteps_107 : decode cX12_goesSteps 107 = .ok (.iadd, 1) := by decide +kernel
theorem dX12_goesSteps_108 : decode cX12_goesSteps 108 = .ok (.iaload, 1) := by decide +kernel
theorem dX12_goesSteps_109 : decode cX12_goesSteps 109 = .ok (.aload_n 0, 1) := by decide +kernel
theorem dX12_goesSteps_110 : decode cX12_goesSteps 110 = .ok (.getfield 56, 3) := by decide +kernel
theorem dX12_goesSteps_113 : decode cX12_goesSteps 113 = .ok (.iload_n 3, 1) := by decide +kernel
theorem dX12_goesSteps_114 : decode cX12_goesSteps 114 = .ok (.iconst 2, 1) := by decide +kernel
theorem dX12_goesSteps_115 : decode cX12_goesSteps 115 = .ok (.iadd, 1) := by decide +kernel
theorem dX12_goesSteps_116 : decode cX12_goesSteps 116 = .ok (.iaload, 1) := by decide +kernel
theorem dX12_goesSteps_117 : decode cX12_goesSteps 117 = .ok (.invokevirtual 325, 3) := by decide +kernel
theorem dX12_goesSteps_120 : decode cX12_goesSteps 120 = .ok (.ifCond .eq 16, 3) := by decide +kernel
theorem dX12_goesSteps_123 : decode cX12_goesSteps 123 = .ok (.aload_n 0, 1) := by decide +kernel
theorem dX12_goesSteps_124 : decode cX12_goesSteps 124 = .ok (.dup, 1) := by decide +kernel
theorem dX12_goesSteps_125 : decode cX12_goesSteps 125 = .ok (.getfield 316, 3) := by decide +kernel
theorem dX12_goesSteps_128 : decode cX12_goesSteps 128 = .ok (.iconst 1, 1) := by decide +kernel
theorem dX12_goesSteps_129 : decode cX12_goesSteps 129 = .ok (.iadd, 1) := by decide +kernel
theorem dX12_goesSteps_130 : decode cX12_goesSteps 130 = .ok (.putfield 316, 3) := by decide +kernel
theorem dX12_goesSteps_133 : decode cX12_goesSteps 133 = .ok (.goto 13, 3) := by decide +kernel
theorem dX12_goesSteps_136 : decode cX12_goesSteps 136 = .ok (.aload_n 0, 1) := by decide +kernel
theorem dX12_goesSteps_137 : decode cX12_goesSteps 137 = .ok (.dup, 1) := by decide +kernel
theorem dX12_goesSteps_138 : decode cX12_goesSteps 138 = .ok (.getfield 319, 3) := by decide +kernel
theorem dX12_goesSteps_141 : decode cX12_goesSteps 141 = .ok (.iconst 1, 1) := by decide +kernel
theorem dX12_goesSteps_142 : decode cX12_goesSteps 142 = .ok (.iadd, 1) := by decide +kernel
theorem dX12_goesSteps_143 : decode cX12_goesSteps 143 = .ok (.putfield 319, 3) := by decide +kernel
theorem dX12_goesSteps_146 : decode cX12_goesSteps 146 = .ok (.iinc 3 3, 3) := by decide +kernel
theorem dX12_goesSteps_149 : decode cX12_goesSteps 149 = .ok (.goto (-147), 3) := by decide +kernel
theorem dX12_goesSteps_152 : decode cX12_goesSteps 152 = .ok (.return_, 1) := by decide +kernel
theorem dX12_take_0 : decode cX12_take 0 = .ok (.aload_n 0, 1) := by decide +kernel
theorem dX12_take_1 : decode cX12_take 1 = .ok (.aload_n 0, 1) := by decide +kernel
theorem dX12_take_2 : decode cX12_take 2 = .ok (.getfield 59, 3) := by decide +kernel
theorem dX12_take_5 : decode cX12_take 5 = .ok (.aload_n 0, 1) := by decide +kernel
theorem dX12_take_6 : decode cX12_take 6 = .ok (.getfield 62, 3) := by decide +kernel
theorem dX12_take_9 : decode cX12_take 9 = .ok (.bipush 126, 2) := by decide +kernel
theorem dX12_take_11 : decode cX12_take 11 = .ok (.invokevirtual 163, 3) := by decide +kernel
theorem dX12_take_14 : decode cX12_take 14 = .ok (.return_, 1) := by decide +kernel
theorem dX12_heardOf_0 : decode cX12_heardOf 0 = .ok (.aload_n 0, 1) := by decide +kernel
theorem dX12_heardOf_1 : decode cX12_heardOf 1 = .ok (.getfield 62, 3) := by decide +kernel
theorem dX12_heardOf_4 : decode cX12_heardOf 4 = .ok (.iconst 0, 1) := by decide +kernel
theorem dX12_heardOf_5 : decode cX12_heardOf 5 = .ok (.bipush 12, 2) := by decide +kernel
theorem dX12_heardOf_7 : decode cX12_heardOf 7 = .ok (.iload_n 1, 1) := by decide +kernel
theorem dX12_heardOf_8 : decode cX12_heardOf 8 = .ok (.imul, 1) := by decide +kernel
theorem dX12_heardOf_9 : decode cX12_heardOf 9 = .ok (.iadd, 1) := by decide +kernel
theorem dX12_heardOf_10 : decode cX12_heardOf 10 = .ok (.iload_n 2, 1) := by decide +kernel
theorem dX12_heardOf_11 : decode cX12_heardOf 11 = .ok (.iadd, 1) := by decide +kernel
theorem dX12_heardOf_12 : decode cX12_heardOf 12 = .ok (.iaload, 1) := by decide +kernel
theorem dX12_heardOf_13 : decode cX12_heardOf 13 = .ok (.ireturn, 1) := by decide +kernel
theorem dX12_knownBy_0 : decode cX12_knownBy 0 = .ok (.iconst 0, 1) := by decide +kernel
theorem dX12_knownBy_1 : decode cX12_knownBy 1 = .ok (.istore_n 2, 1) := by decide +kernel
theorem dX12_knownBy_2 : decode cX12_knownBy 2 = .ok (.iconst 0, 1) := by decide +kernel
theorem dX12_knownBy_3 : decode cX12_knownBy 3 = .ok (.istore_n 3, 1) := by decide +kernel
theorem dX12_knownBy_4 : decode cX12_knownBy 4 = .ok (.iload_n 3, 1) := by decide +kernel
theorem dX12_knownBy_5 : decode cX12_knownBy 5 = .ok (.aload_n 0, 1) := by decide +kernel
theorem dX12_knownBy_6 : decode cX12_knownBy 6 = .ok (.getfield 157, 3) := by decide +kernel
theorem dX12_knownBy_9 : decode cX12_knownBy 9 = .ok (.if_icmp .ge 29, 3) := by decide +kernel
theorem dX12_knownBy_12 : decode cX12_knownBy 12 = .ok (.iload_n 2, 1) := by decide +kernel
theorem dX12_knownBy_13 : decode cX12_knownBy 13 = .ok (.aload_n 0, 1) := by decide +kernel
theorem dX12_knownBy_14 : decode cX12_knownBy 14 = .ok (.iload_n 1, 1) := by decide +kernel
theorem dX12_knownBy_15 : decode cX12_knownBy 15 = .ok (.iload_n 3, 1) := by decide +kernel
theorem dX12_knownBy_16 : decode cX12_knownBy 16 = .ok (.invokevirtual 329, 3) := by decide +kernel
theorem dX12_knownBy_19 : decode cX12_knownBy 19 = .ok (.iconst (-1), 1) := by decide +kernel
theorem dX12_knownBy_20 : decode cX12_knownBy 20 = .ok (.if_icmp .eq 9, 3) := by decide +kernel
theorem dX12_knownBy_23 : decode cX12_knownBy 23 = .ok (.iconst 1, 1) := by decide +kernel
theorem dX12_knownBy_24 : decode cX12_knownBy 24 = .ok (.iload_n 3, 1) := by decide +kernel
theorem dX12_knownBy_25 : decode cX12_knownBy 25 = .ok (.ishl, 1) := by decide +kernel
theorem dX12_knownBy_26 : decode cX12_knownBy 26 = .ok (.goto 4, 3) := by decide +kernel
theorem dX12_knownBy_29 : decode cX12_knownBy 29 = .ok (.iconst 0, 1) := by decide +kernel
theorem dX12_knownBy_30 : decode cX12_knownBy 30 = .ok (.ior, 1) := by decide +kernel
theorem dX12_knownBy_31 : decode cX12_knownBy 31 = .ok (.istore_n 2, 1) := by decide +kernel
theorem dX12_knownBy_32 : decode cX12_knownBy 32 = .ok (.iinc 3 1, 3) := by decide +kernel
theorem dX12_knownBy_35 : decode cX12_knownBy 35 = .ok (.goto (-31), 3) := by decide +kernel
theorem dX12_knownBy_38 : decode cX12_knownBy 38 = .ok (.iload_n 2, 1) := by decide +kernel
theorem dX12_knownBy_39 : decode cX12_knownBy 39 = .ok (.ireturn, 1) := by decide +kernel
theorem dX12_ones_0 : decode cX12_ones 0 = .ok (.iconst 0, 1) := by decide +kernel
theorem dX12_ones_1 : decode cX12_ones 1 = .ok (.istore_n 1, 1) := by decide +kernel
theorem dX12_ones_2 : decode cX12_ones 2 = .ok (.iconst 0, 1) := by decide +kernel
theorem dX12_ones_3 : decode cX12_ones 3 = .ok (.istore_n 2, 1) := by decide +kernel
theorem dX12_ones_4 : decode cX12_ones 4 = .ok (.iload_n 2, 1) := by decide +kernel
theorem dX12_ones_5 : decode cX12_ones 5 = .ok (.bipush 12, 2) := by decide +kernel
theorem dX12_ones_7 : decode cX12_ones 7 = .ok (.if_icmp .ge 17, 3) := by decide +kernel
theorem dX12_ones_10 : decode cX12_ones 10 = .ok (.iload_n 1, 1) := by decide +kernel
theorem dX12_ones_11 : decode cX12_ones 11 = .ok (.iload_n 0, 1) := by decide +kernel
theorem dX12_ones_12 : decode cX12_ones 12 = .ok (.iload_n 2, 1) := by decide +kernel
theorem dX12_ones_13 : decode cX12_ones 13 = .ok (.ishr, 1) := by decide +kernel
theorem dX12_ones_14 : decode cX12_ones 14 = .ok (.iconst 1, 1) := by decide +kernel
theorem dX12_ones_15 : decode cX12_ones 15 = .ok (.iand, 1) := by decide +kernel
theorem dX12_ones_16 : decode cX12_ones 16 = .ok (.iadd, 1) := by decide +kernel
theorem dX12_ones_17 : decode cX12_ones 17 = .ok (.istore_n 1, 1) := by decide +kernel
theorem dX12_ones_18 : decode cX12_ones 18 = .ok (.iinc 2 1, 3) := by decide +kernel
theorem dX12_ones_21 : decode cX12_ones 21 = .ok (.goto (-17), 3) := by decide +kernel
theorem dX12_ones_24 : decode cX12_ones 24 = .ok (.iload_n 1, 1) := by decide +kernel
theorem dX12_ones_25 : decode cX12_ones 25 = .ok (.ireturn, 1) := by decide +kernel
theorem dX12_loadOf_0 : decode cX12_loadOf 0 = .ok (.aload_n 0, 1) := by decide +kernel
theorem dX12_loadOf_1 : decode cX12_loadOf 1 = .ok (.getfield 50, 3) := by decide +kernel
theorem dX12_loadOf_4 : decode cX12_loadOf 4 = .ok (.iconst 0, 1) := by decide +kernel
theorem dX12_loadOf_5 : decode cX12_loadOf 5 = .ok (.iload_n 1, 1) := by decide +kernel
theorem dX12_loadOf_6 : decode cX12_loadOf 6 = .ok (.iastore, 1) := by decide +kernel
theorem dX12_loadOf_7 : decode cX12_loadOf 7 = .ok (.aload_n 0, 1) := by decide +kernel
theorem dX12_loadOf_8 : decode cX12_loadOf 8 = .ok (.getfield 50, 3) := by decide +kernel
theorem dX12_loadOf_11 : decode cX12_loadOf 11 = .ok (.iconst 1, 1) := by decide +kernel
theorem dX12_loadOf_12 : decode cX12_loadOf 12 = .ok (.iload_n 2, 1) := by decide +kernel
theorem dX12_loadOf_13 : decode cX12_loadOf 13 = .ok (.iastore, 1) := by decide +kernel
theorem dX12_loadOf_14 : decode cX12_loadOf 14 = .ok (.aload_n 0, 1) := by decide +kernel
theorem dX12_loadOf_15 : decode cX12_loadOf 15 = .ok (.getfield 50, 3) := by decide +kernel
theorem dX12_loadOf_18 : decode cX12_loadOf 18 = .ok (.iconst 2, 1) := by decide +kernel
theorem dX12_loadOf_19 : decode cX12_loadOf 19 = .ok (.iload_n 3, 1) := by decide +kernel
theorem dX12_loadOf_20 : decode cX12_loadOf 20 = .ok (.iastore, 1) := by decide +kernel
theorem dX12_loadOf_21 : decode cX12_loadOf 21 = .ok (.aload_n 0, 1) := by decide +kernel
theorem dX12_loadOf_22 : decode cX12_loadOf 22 = .ok (.getfield 50, 3) := by decide +kernel
theorem dX12_loadOf_25 : decode cX12_loadOf 25 = .ok (.iconst 3, 1) := by decide +kernel
theorem dX12_loadOf_26 : decode cX12_loadOf 26 = .ok (.iload 4, 2) := by decide +kernel
theorem dX12_loadOf_28 : decode cX12_loadOf 28 = .ok (.iastore, 1) := by decide +kernel
theorem dX12_loadOf_29 : decode cX12_loadOf 29 = .ok (.aload_n 0, 1) := by decide +kernel
theorem dX12_loadOf_30 : decode cX12_loadOf 30 = .ok (.getfield 50, 3) := by decide +kernel
theorem dX12_loadOf_33 : decode cX12_loadOf 33 = .ok (.iconst 4, 1) := by decide +kernel
theorem dX12_loadOf_34 : decode cX12_loadOf 34 = .ok (.iload 5, 2) := by decide +kernel
theorem dX12_loadOf_36 : decode cX12_loadOf 36 = .ok (.iastore, 1) := by decide +kernel
theorem dX12_loadOf_37 : decode cX12_loadOf 37 = .ok (.aload_n 0, 1) := by decide +kernel
theorem dX12_loadOf_38 : decode cX12_loadOf 38 = .ok (.getfield 50, 3) := by decide +kernel
theorem dX12_loadOf_41 : decode cX12_loadOf 41 = .ok (.iconst 5, 1) := by decide +kernel
theorem dX12_loadOf_42 : decode cX12_loadOf 42 = .ok (.iload 6, 2) := by decide +kernel
theorem dX12_loadOf_44 : decode cX12_loadOf 44 = .ok (.iastore, 1) := by decide +kernel
theorem dX12_loadOf_45 : decode cX12_loadOf 45 = .ok (.aload_n 0, 1) := by decide +kernel
theorem dX12_loadOf_46 : decode cX12_loadOf 46 = .ok (.getfield 50, 3) := by decide +kernel
theorem dX12_loadOf_49 : decode cX12_loadOf 49 = .ok (.bipush 6, 2) := by decide +kernel
theorem dX12_loadOf_51 : decode cX12_loadOf 51 = .ok (.iload 7, 2) := by decide +kernel
theorem dX12_loadOf_53 : decode cX12_loadOf 53 = .ok (.iastore, 1) := by decide +kernel
theorem dX12_loadOf_54 : decode cX12_loadOf 54 = .ok (.aload_n 0, 1) := by decide +kernel
theorem dX12_loadOf_55 : decode cX12_loadOf 55 = .ok (.getfield 50, 3) := by decide +kernel
theorem dX12_loadOf_58 : decode cX12_loadOf 58 = .ok (.bipush 7, 2) := by decide +kernel
theorem dX12_loadOf_60 : decode cX12_loadOf 60 = .ok (.iload 8, 2) := by decide +kernel
theorem dX12_loadOf_62 : decode cX12_loadOf 62 = .ok (.iastore, 1) := by decide +kernel
theorem dX12_loadOf_63 : decode cX12_loadOf 63 = .ok (.aload_n 0, 1) := by decide +kernel
theorem dX12_loadOf_64 : decode cX12_loadOf 64 = .ok (.getfield 50, 3) := by decide +kernel
theorem dX12_loadOf_67 : decode cX12_loadOf 67 = .ok (.bipush 8, 2) := by decide +kernel
theorem dX12_loadOf_69 : decode cX12_loadOf 69 = .ok (.iload 9, 2) := by decide +kernel
theorem dX12_loadOf_71 : decode cX12_loadOf 71 = .ok (.iastore, 1) := by decide +kernel
theorem dX12_loadOf_72 : decode cX12_loadOf 72 = .ok (.aload_n 0, 1) := by decide +kernel
theorem dX12_loadOf_73 : decode cX12_loadOf 73 = .ok (.invokevirtual 332, 3) := by decide +kernel
theorem dX12_loadOf_76 : decode cX12_loadOf 76 = .ok (.ireturn, 1) := by decide +kernel
theorem dX12_loadBy_0 : decode cX12_loadBy 0 = .ok (.aload_n 0, 1) := by decide +kernel
theorem dX12_loadBy_1 : decode cX12_loadBy 1 = .ok (.aload_n 0, 1) := by decide +kernel
theorem dX12_loadBy_2 : decode cX12_loadBy 2 = .ok (.getfield 160, 3) := by decide +kernel
theorem dX12_loadBy_5 : decode cX12_loadBy 5 = .ok (.aload_n 0, 1) := by decide +kernel
theorem dX12_loadBy_6 : decode cX12_loadBy 6 = .ok (.getfield 62, 3) := by decide +kernel
theorem dX12_loadBy_9 : decode cX12_loadBy 9 = .ok (.bipush 124, 2) := by decide +kernel
theorem dX12_loadBy_11 : decode cX12_loadBy 11 = .ok (.iaload, 1) := by decide +kernel
theorem dX12_loadBy_12 : decode cX12_loadBy 12 = .ok (.aload_n 0, 1) := by decide +kernel
theorem dX12_loadBy_13 : decode cX12_loadBy 13 = .ok (.getfield 32, 3) := by decide +kernel
theorem dX12_loadBy_16 : decode cX12_loadBy 16 = .ok (.iconst 2, 1) := by decide +kernel
theorem dX12_loadBy_17 : decode cX12_loadBy 17 = .ok (.iload_n 2, 1) := by decide +kernel
theorem dX12_loadBy_18 : decode cX12_loadBy 18 = .ok (.imul, 1) := by decide +kernel
theorem dX12_loadBy_19 : decode cX12_loadBy 19 = .ok (.iconst 1, 1) := by decide +kernel
theorem dX12_loadBy_20 : decode cX12_loadBy 20 = .ok (.iadd, 1) := by decide +kernel
theorem dX12_loadBy_21 : decode cX12_loadBy 21 = .ok (.iaload, 1) := by decide +kernel
theorem dX12_loadBy_22 : decode cX12_loadBy 22 = .ok (.aload_n 0, 1) := by decide +kernel
theorem dX12_loadBy_23 : decode cX12_loadBy 23 = .ok (.getfield 32, 3) := by decide +kernel
theorem dX12_loadBy_26 : decode cX12_loadBy 26 = .ok (.iconst 2, 1) := by decide +kernel
theorem dX12_loadBy_27 : decode cX12_loadBy 27 = .ok (.iload_n 2, 1) := by decide +kernel
theorem dX12_loadBy_28 : decode cX12_loadBy 28 = .ok (.imul, 1) := by decide +kernel
theorem dX12_loadBy_29 : decode cX12_loadBy 29 = .ok (.iaload, 1) := by decide +kernel
theorem dX12_loadBy_30 : decode cX12_loadBy 30 = .ok (.aload_n 0, 1) := by decide +kernel
theorem dX12_loadBy_31 : decode cX12_loadBy 31 = .ok (.getfield 29, 3) := by decide +kernel
theorem dX12_loadBy_34 : decode cX12_loadBy 34 = .ok (.iconst 2, 1) := by decide +kernel
theorem dX12_loadBy_35 : decode cX12_loadBy 35 = .ok (.iload_n 1, 1) := by decide +kernel
theorem dX12_loadBy_36 : decode cX12_loadBy 36 = .ok (.imul, 1) := by decide +kernel
theorem dX12_loadBy_37 : decode cX12_loadBy 37 = .ok (.iconst 1, 1) := by decide +kernel
theorem dX12_loadBy_38 : decode cX12_loadBy 38 = .ok (.iadd, 1) := by decide +kernel
theorem dX12_loadBy_39 : decode cX12_loadBy 39 = .ok (.iaload, 1) := by decide +kernel
theorem dX12_loadBy_40 : decode cX12_loadBy 40 = .ok (.aload_n 0, 1) := by decide +kernel
theorem dX12_loadBy_41 : decode cX12_loadBy 41 = .ok (.getfield 62, 3) := by decide +kernel
theorem dX12_loadBy_44 : decode cX12_loadBy 44 = .ok (.bipush 84, 2) := by decide +kernel
theorem dX12_loadBy_46 : decode cX12_loadBy 46 = .ok (.iload_n 1, 1) := by decide +kernel
theorem dX12_loadBy_47 : decode cX12_loadBy 47 = .ok (.iadd, 1) := by decide +kernel
theorem dX12_loadBy_48 : decode cX12_loadBy 48 = .ok (.iaload, 1) := by decide +kernel
theorem dX12_loadBy_49 : decode cX12_loadBy 49 = .ok (.aload_n 0, 1) := by decide +kernel
theorem dX12_loadBy_50 : decode cX12_loadBy 50 = .ok (.iload_n 1, 1) := by decide +kernel
theorem dX12_loadBy_51 : decode cX12_loadBy 51 = .ok (.invokevirtual 335, 3) := by decide +kernel
theorem dX12_loadBy_54 : decode cX12_loadBy 54 = .ok (.invokestatic 338, 3) := by decide +kernel
theorem dX12_loadBy_57 : decode cX12_loadBy 57 = .ok (.aload_n 0, 1) := by decide +kernel
theorem dX12_loadBy_58 : decode cX12_loadBy 58 = .ok (.getfield 62, 3) := by decide +kernel
theorem dX12_loadBy_61 : decode cX12_loadBy 61 = .ok (.bipush 125, 2) := by decide +kernel
theorem dX12_loadBy_63 : decode cX12_loadBy 63 = .ok (.iaload, 1) := by decide +kernel
theorem dX12_loadBy_64 : decode cX12_loadBy 64 = .ok (.iload_n 1, 1) := by decide +kernel
theorem dX12_loadBy_65 : decode cX12_loadBy 65 = .ok (.invokevirtual 341, 3) := by decide +kernel
theorem dX12_loadBy_68 : decode cX12_loadBy 68 = .ok (.ireturn, 1) := by decide +kernel
theorem dX12_burdenBy_0 : decode cX12_burdenBy 0 = .ok (.aload_n 0, 1) := by decide +kernel
theorem dX12_burdenBy_1 : decode cX12_burdenBy 1 = .ok (.iload_n 1, 1) := by decide +kernel
theorem dX12_burdenBy_2 : decode cX12_burdenBy 2 = .ok (.iload_n 2, 1) := by decide +kernel
theorem dX12_burdenBy_3 : decode cX12_burdenBy 3 = .ok (.invokevirtual 345, 3) := by decide +kernel
theorem dX12_burdenBy_6 : decode cX12_burdenBy 6 = .ok (.aload_n 0, 1) := by decide +kernel
theorem dX12_burdenBy_7 : decode cX12_burdenBy 7 = .ok (.getfield 32, 3) := by decide +kernel
theorem dX12_burdenBy_10 : decode cX12_burdenBy 10 = .ok (.iconst 2, 1) := by decide +kernel
theorem dX12_burdenBy_11 : decode cX12_burdenBy 11 = .ok (.iload_n 2, 1) := by decide +kernel
theorem dX12_burdenBy_12 : decode cX12_burdenBy 12 = .ok (.imul, 1) := by decide +kernel
theorem dX12_burdenBy_13 : decode cX12_burdenBy 13 = .ok (.iaload, 1) := by decide +kernel
theorem dX12_burdenBy_14 : decode cX12_burdenBy 14 = .ok (.imul, 1) := by decide +kernel
theorem dX12_burdenBy_15 : decode cX12_burdenBy 15 = .ok (.iconst 4, 1) := by decide +kernel
theorem dX12_burdenBy_16 : decode cX12_burdenBy 16 = .ok (.idiv, 1) := by decide +kernel
theorem dX12_burdenBy_17 : decode cX12_burdenBy 17 = .ok (.ireturn, 1) := by decide +kernel
theorem dX12_isSat_0 : decode cX12_isSat 0 = .ok (.aload_n 0, 1) := by decide +kernel
theorem dX12_isSat_1 : decode cX12_isSat 1 = .ok (.getfield 62, 3) := by decide +kernel
theorem dX12_isSat_4 : decode cX12_isSat 4 = .ok (.bipush 91, 2) := by decide +kernel
theorem dX12_isSat_6 : decode cX12_isSat 6 = .ok (.iload_n 1, 1) := by decide +kernel
theorem dX12_isSat_7 : decode cX12_isSat 7 = .ok (.iadd, 1) := by decide +kernel
theorem dX12_isSat_8 : decode cX12_isSat 8 = .ok (.iaload, 1) := by decide +kernel
theorem dX12_isSat_9 : decode cX12_isSat 9 = .ok (.iconst 1, 1) := by decide +kernel
theorem dX12_isSat_10 : decode cX12_isSat 10 = .ok (.if_icmp .ne 5, 3) := by decide +kernel
theorem dX12_isSat_13 : decode cX12_isSat 13 = .ok (.iconst 0, 1) := by decide +kernel
theorem dX12_isSat_14 : decode cX12_isSat 14 = .ok (.ireturn, 1) := by decide +kernel
theorem dX12_isSat_15 : decode cX12_isSat 15 = .ok (.aload_n 0, 1) := by decide +kernel
theorem dX12_isSat_16 : decode cX12_isSat 16 = .ok (.getfield 62, 3) := by decide +kernel
theorem dX12_isSat_19 : decode cX12_isSat 19 = .ok (.bipush 84, 2) := by decide +kernel
theorem dX12_isSat_21 : decode cX12_isSat 21 = .ok (.iload_n 1, 1) := by decide +kernel
theorem dX12_isSat_22 : decode cX12_isSat 22 = .ok (.iadd, 1) := by decide +kernel
theorem dX12_isSat_23 : decode cX12_isSat 23 = .ok (.dup2, 1) := by decide +kernel
theorem dX12_isSat_24 : decode cX12_isSat 24 = .ok (.iaload, 1) := by decide +kernel
theorem dX12_isSat_25 : decode cX12_isSat 25 = .ok (.aload_n 0, 1) := by decide +kernel
theorem dX12_isSat_26 : decode cX12_isSat 26 = .ok (.iload_n 1, 1) := by decide +kernel
theorem dX12_isSat_27 : decode cX12_isSat 27 = .ok (.iload_n 2, 1) := by decide +kernel
theorem dX12_isSat_28 : decode cX12_isSat 28 = .ok (.invokevirtual 348, 3) := by decide +kernel
theorem dX12_isSat_31 : decode cX12_isSat 31 = .ok (.iadd, 1) := by decide +kernel
theorem dX12_isSat_32 : decode cX12_isSat 32 = .ok (.iastore, 1) := by decide +kernel
theorem dX12_isSat_33 : decode cX12_isSat 33 = .ok (.aload_n 0, 1) := by decide +kernel
theorem dX12_isSat_34 : decode cX12_isSat 34 = .ok (.getfield 62, 3) := by decide +kernel
theorem dX12_isSat_37 : decode cX12_isSat 37 = .ok (.bipush 84, 2) := by decide +kernel
theorem dX12_isSat_39 : decode cX12_isSat 39 = .ok (.iload_n 1, 1) := by decide +kernel
theorem dX12_isSat_40 : decode cX12_isSat 40 = .ok (.iadd, 1) := by decide +kernel
theorem dX12_isSat_41 : decode cX12_isSat 41 = .ok (.iaload, 1) := by decide +kernel
theorem dX12_isSat_42 : decode cX12_isSat 42 = .ok (.aload_n 0, 1) := by decide +kernel
theorem dX12_isSat_43 : decode cX12_isSat 43 = .ok (.getfield 29, 3) := by decide +kernel
theorem dX12_isSat_46 : decode cX12_isSat 46 = .ok (.iconst 2, 1) := by decide +kernel
theorem dX12_isSat_47 : decode cX12_isSat 47 = .ok (.iload_n 1, 1) := by decide +kernel
theorem dX12_isSat_48 : decode cX12_isSat 48 = .ok (.imul, 1) := by decide +kernel
theorem dX12_isSat_49 : decode cX12_isSat 49 = .ok (.iaload, 1) := by decide +kernel
theorem dX12_isSat_50 : decode cX12_isSat 50 = .ok (.if_icmp .le 16, 3) := by decide +kernel
theorem dX12_isSat_53 : decode cX12_isSat 53 = .ok (.aload_n 0, 1) := by decide +kernel
theorem dX12_isSat_54 : decode cX12_isSat 54 = .ok (.getfield 62, 3) := by decide +kernel
theorem dX12_isSat_57 : decode cX12_isSat 57 = .ok (.bipush 91, 2) := by decide +kernel
theorem dX12_isSat_59 : decode cX12_isSat 59 = .ok (.iload_n 1, 1) := by decide +kernel
theorem dX12_isSat_60 : decode cX12_isSat 60 = .ok (.iadd, 1) := by decide +kernel
theorem dX12_isSat_61 : decode cX12_isSat 61 = .ok (.iconst 1, 1) := by decide +kernel
theorem dX12_isSat_62 : decode cX12_isSat 62 = .ok (.iastore, 1) := by decide +kernel
theorem dX12_isSat_63 : decode cX12_isSat 63 = .ok (.goto 43, 3) := by decide +kernel
theorem dX12_isSat_66 : decode cX12_isSat 66 = .ok (.aload_n 0, 1) := by decide +kernel
theorem dX12_isSat_67 : decode cX12_isSat 67 = .ok (.getfield 32, 3) := by decide +kernel
theorem dX12_isSat_70 : decode cX12_isSat 70 = .ok (.iconst 2, 1) := by decide +kernel
theorem dX12_isSat_71 : decode cX12_isSat 71 = .ok (.iload_n 2, 1) := by decide +kernel
theorem dX12_isSat_72 : decode cX12_isSat 72 = .ok (.imul, 1) := by decide +kernel
theorem dX12_isSat_73 : decode cX12_isSat 73 = .ok (.iconst 1, 1) := by decide +kernel
theorem dX12_isSat_74 : decode cX12_isSat 74 = .ok (.iadd, 1) := by decide +kernel
theorem dX12_isSat_75 : decode cX12_isSat 75 = .ok (.iaload, 1) := by decide +kernel
theorem dX12_isSat_76 : decode cX12_isSat 76 = .ok (.aload_n 0, 1) := by decide +kernel
theorem dX12_isSat_77 : decode cX12_isSat 77 = .ok (.getfield 29, 3) := by decide +kernel
theorem dX12_isSat_80 : decode cX12_isSat 80 = .ok (.iconst 2, 1) := by decide +kernel
theorem dX12_isSat_81 : decode cX12_isSat 81 = .ok (.iload_n 1, 1) := by decide +kernel
theorem dX12_isSat_82 : decode cX12_isSat 82 = .ok (.imul, 1) := by decide +kernel
theorem dX12_isSat_83 : decode cX12_isSat 83 = .ok (.iconst 1, 1) := by decide +kernel
theorem dX12_isSat_84 : decode cX12_isSat 84 = .ok (.iadd, 1) := by decide +kernel
theorem dX12_isSat_85 : decode cX12_isSat 85 = .ok (.iaload, 1) := by decide +kernel
theorem dX12_isSat_86 : decode cX12_isSat 86 = .ok (.iadd, 1) := by decide +kernel
theorem dX12_isSat_87 : decode cX12_isSat 87 = .ok (.bipush 10, 2) := by decide +kernel
theorem dX12_isSat_89 : decode cX12_isSat 89 = .ok (.if_icmp .lt 17, 3) := by decide +kernel
theorem dX12_isSat_92 : decode cX12_isSat 92 = .ok (.aload_n 0, 1) := by decide +kernel
theorem dX12_isSat_93 : decode cX12_isSat 93 = .ok (.getfield 62, 3) := by decide +kernel
theorem dX12_isSat_96 : decode cX12_isSat 96 = .ok (.iconst 0, 1) := by decide +kernel
theorem dX12_isSat_97 : decode cX12_isSat 97 = .ok (.bipush 12, 2) := by decide +kernel
theorem dX12_isSat_99 : decode cX12_isSat 99 = .ok (.iload_n 1, 1) := by decide +kernel
theorem dX12_isSat_100 : decode cX12_isSat 100 = .ok (.imul, 1) := by decide +kernel
theorem dX12_isSat_101 : decode cX12_isSat 101 = .ok (.iadd, 1) := by decide +kernel
theorem dX12_isSat_102 : decode cX12_isSat 102 = .ok (.iload_n 2, 1) := by decide +kernel
theorem dX12_isSat_103 : decode cX12_isSat 103 = .ok (.iadd, 1) := by decide +kernel
theorem dX12_isSat_104 : decode cX12_isSat 104 = .ok (.iconst 0, 1) := by decide +kernel
theorem dX12_isSat_105 : decode cX12_isSat 105 = .ok (.iastore, 1) := by decide +kernel
theorem dX12_isSat_106 : decode cX12_isSat 106 = .ok (.aload_n 0, 1) := by decide +kernel
theorem dX12_isSat_107 : decode cX12_isSat 107 = .ok (.getfield 62, 3) := by decide +kernel
theorem dX12_isSat_110 : decode cX12_isSat 110 = .ok (.bipush 98, 2) := by decide +kernel
theorem dX12_isSat_112 : decode cX12_isSat 112 = .ok (.iload_n 1, 1) := by decide +kernel
theorem dX12_isSat_113 : decode cX12_isSat 113 = .ok (.iadd, 1) := by decide +kernel
theorem dX12_isSat_114 : decode cX12_isSat 114 = .ok (.dup2, 1) := by decide +kernel
theorem dX12_isSat_115 : decode cX12_isSat 115 = .ok (.iaload, 1) := by decide +kernel
theorem dX12_isSat_116 : decode cX12_isSat 116 = .ok (.iconst 1, 1) := by decide +kernel
theorem dX12_isSat_117 : decode cX12_isSat 117 = .ok (.iadd, 1) := by decide +kernel
theorem dX12_isSat_118 : decode cX12_isSat 118 = .ok (.iastore, 1) := by decide +kernel
theorem dX12_isSat_119 : decode cX12_isSat 119 = .ok (.aload_n 0, 1) := by decide +kernel
theorem dX12_isSat_120 : decode cX12_isSat 120 = .ok (.getfield 62, 3) := by decide +kernel
theorem dX12_isSat_123 : decode cX12_isSat 123 = .ok (.bipush 105, 2) := by decide +kernel
theorem dX12_isSat_125 : decode cX12_isSat 125 = .ok (.iload_n 1, 1) := by decide +kernel
theorem dX12_isSat_126 : decode cX12_isSat 126 = .ok (.iadd, 1) := by decide +kernel
theorem dX12_isSat_127 : decode cX12_isSat 127 = .ok (.dup2, 1) := by decide +kernel
theorem dX12_isSat_128 : decode cX12_isSat 128 = .ok (.iaload, 1) := by decide +kernel
theorem dX12_isSat_129 : decode cX12_isSat 129 = .ok (.iconst 1, 1) := by decide +kernel
theorem dX12_isSat_130 : decode cX12_isSat 130 = .ok (.iload_n 2, 1) := by decide +kernel
theorem dX12_isSat_131 : decode cX12_isSat 131 = .ok (.ishl, 1) := by decide +kernel
theorem dX12_isSat_132 : decode cX12_isSat 132 = .ok (.ior, 1) := by decide +kernel
theorem dX12_isSat_133 : decode cX12_isSat 133 = .ok (.iastore, 1) := by decide +kernel
theorem dX12_isSat_134 : decode cX12_isSat 134 = .ok (.aload_n 0, 1) := by decide +kernel
theorem dX12_isSat_135 : decode cX12_isSat 135 = .ok (.getfield 62, 3) := by decide +kernel
theorem dX12_isSat_138 : decode cX12_isSat 138 = .ok (.bipush 112, 2) := by decide +kernel
theorem dX12_isSat_140 : decode cX12_isSat 140 = .ok (.iload_n 2, 1) := by decide +kernel
theorem dX12_isSat_141 : decode cX12_isSat 141 = .ok (.iadd, 1) := by decide +kernel
theorem dX12_isSat_142 : decode cX12_isSat 142 = .ok (.dup2, 1) := by decide +kernel
theorem dX12_isSat_143 : decode cX12_isSat 143 = .ok (.iaload, 1) := by decide +kernel
theorem dX12_isSat_144 : decode cX12_isSat 144 = .ok (.iconst 1, 1) := by decide +kernel
theorem dX12_isSat_145 : decode cX12_isSat 145 = .ok (.iadd, 1) := by decide +kernel
theorem dX12_isSat_146 : decode cX12_isSat 146 = .ok (.iastore, 1) := by decide +kernel
theorem dX12_isSat_147 : decode cX12_isSat 147 = .ok (.iconst 1, 1) := by decide +kernel
theorem dX12_isSat_148 : decode cX12_isSat 148 = .ok (.ireturn, 1) := by decide +kernel
theorem dX12_newsOf_0 : decode cX12_newsOf 0 = .ok (.iload_n 1, 1) := by decide +kernel
theorem dX12_newsOf_1 : decode cX12_newsOf 1 = .ok (.iload_n 2, 1) := by decide +kernel
theorem dX12_newsOf_2 : decode cX12_newsOf 2 = .ok (.if_icmp .eq 29, 3) := by decide +kernel
theorem dX12_newsOf_5 : decode cX12_newsOf 5 = .ok (.aload_n 0, 1) := by decide +kernel
theorem dX12_newsOf_6 : decode cX12_newsOf 6 = .ok (.getfield 62, 3) := by decide +kernel
theorem dX12_newsOf_9 : decode cX12_newsOf 9 = .ok (.bipush 91, 2) := by decide +kernel
theorem dX12_newsOf_11 : decode cX12_newsOf 11 = .ok (.iload_n 1, 1) := by decide +kernel
theorem dX12_newsOf_12 : decode cX12_newsOf 12 = .ok (.iadd, 1) := by decide +kernel
theorem dX12_newsOf_13 : decode cX12_newsOf 13 = .ok (.iaload, 1) := by decide +kernel
theorem dX12_newsOf_14 : decode cX12_newsOf 14 = .ok (.iconst 1, 1) := by decide +kernel
theorem dX12_newsOf_15 : decode cX12_newsOf 15 = .ok (.if_icmp .eq 16, 3) := by decide +kernel
theorem dX12_newsOf_18 : decode cX12_newsOf 18 = .ok (.aload_n 0, 1) := by decide +kernel
theorem dX12_newsOf_19 : decode cX12_newsOf 19 = .ok (.getfield 62, 3) := by decide +kernel
theorem dX12_newsOf_22 : decode cX12_newsOf 22 = .ok (.bipush 91, 2) := by decide +kernel
theorem dX12_newsOf_24 : decode cX12_newsOf 24 = .ok (.iload_n 2, 1) := by decide +kernel
theorem dX12_newsOf_25 : decode cX12_newsOf 25 = .ok (.iadd, 1) := by decide +kernel
theorem dX12_newsOf_26 : decode cX12_newsOf 26 = .ok (.iaload, 1) := by decide +kernel
theorem dX12_newsOf_27 : decode cX12_newsOf 27 = .ok (.iconst 1, 1) := by decide +kernel
theorem dX12_newsOf_28 : decode cX12_newsOf 28 = .ok (.if_icmp .ne 7, 3) := by decide +kernel
theorem dX12_newsOf_31 : decode cX12_newsOf 31 = .ok (.iconst 0, 1) := by decide +kernel
theorem dX12_newsOf_32 : decode cX12_newsOf 32 = .ok (.goto 16, 3) := by decide +kernel
theorem dX12_newsOf_35 : decode cX12_newsOf 35 = .ok (.aload_n 0, 1) := by decide +kernel
theorem dX12_newsOf_36 : decode cX12_newsOf 36 = .ok (.iload_n 1, 1) := by decide +kernel
theorem dX12_newsOf_37 : decode cX12_newsOf 37 = .ok (.invokevirtual 335, 3) := by decide +kernel
theorem dX12_newsOf_40 : decode cX12_newsOf 40 = .ok (.aload_n 0, 1) := by decide +kernel
theorem dX12_newsOf_41 : decode cX12_newsOf 41 = .ok (.iload_n 2, 1) := by decide +kernel
theorem dX12_newsOf_42 : decode cX12_newsOf 42 = .ok (.invokevirtual 335, 3) := by decide +kernel
theorem dX12_newsOf_45 : decode cX12_newsOf 45 = .ok (.iconst (-1), 1) := by decide +kernel
theorem dX12_newsOf_46 : decode cX12_newsOf 46 = .ok (.ixor, 1) := by decide +kernel
theorem dX12_newsOf_47 : decode cX12_newsOf 47 = .ok (.iand, 1) := by decide +kernel
theorem dX12_newsOf_48 : decode cX12_newsOf 48 = .ok (.ireturn, 1) := by decide +kernel
theorem dX12_isToldOn_0 : decode cX12_isToldOn 0 = .ok (.aload_n 0, 1) := by decide +kernel
theorem dX12_isToldOn_1 : decode cX12_isToldOn 1 = .ok (.iload_n 1, 1) := by decide +kernel
theorem dX12_isToldOn_2 : decode cX12_isToldOn 2 = .ok (.iload_n 2, 1) := by decide +kernel
theorem dX12_isToldOn_3 : decode cX12_isToldOn 3 = .ok (.invokevirtual 351, 3) := by decide +kernel
theorem dX12_isToldOn_6 : decode cX12_isToldOn 6 = .ok (.istore_n 3, 1) := by decide +kernel
theorem dX12_isToldOn_7 : decode cX12_isToldOn 7 = .ok (.iconst 0, 1) := by decide +kernel
theorem dX12_isToldOn_8 : decode cX12_isToldOn 8 = .ok (.istore 4, 2) := by decide +kernel
theorem dX12_isToldOn_10 : decode cX12_isToldOn 10 = .ok (.iload 4, 2) := by decide +kernel
theorem dX12_isToldOn_12 : decode cX12_isToldOn 12 = .ok (.aload_n 0, 1) := by decide +kernel
theorem dX12_isToldOn_13 : decode cX12_isToldOn 13 = .ok (.getfield 157, 3) := by decide +kernel
theorem dX12_isToldOn_16 : decode cX12_isToldOn 16 = .ok (.if_icmp .ge 59, 3) := by decide +kernel
theorem dX12_isToldOn_19 : decode cX12_isToldOn 19 = .ok (.iload_n 3, 1) := by decide +kernel
theorem dX12_isToldOn_20 : decode cX12_isToldOn 20 = .ok (.iload 4, 2) := by decide +kernel
theorem dX12_isToldOn_22 : decode cX12_isToldOn 22 = .ok (.ishr, 1) := by decide +kernel
theorem dX12_isToldOn_23 : decode cX12_isToldOn 23 = .ok (.iconst 1, 1) := by decide +kernel
theorem dX12_isToldOn_24 : decode cX12_isToldOn 24 = .ok (.iand, 1) := by decide +kernel
theorem dX12_isToldOn_25 : decode cX12_isToldOn 25 = .ok (.iconst 1, 1) := by decide +kernel
theorem dX12_isToldOn_26 : decode cX12_isToldOn 26 = .ok (.if_icmp .ne 43, 3) := by decide +kernel
theorem dX12_isToldOn_29 : decode cX12_isToldOn 29 = .ok (.aload_n 0, 1) := by decide +kernel
theorem dX12_isToldOn_30 : decode cX12_isToldOn 30 = .ok (.getfield 62, 3) := by decide +kernel
theorem dX12_isToldOn_33 : decode cX12_isToldOn 33 = .ok (.iconst 0, 1) := by decide +kernel
theorem dX12_isToldOn_34 : decode cX12_isToldOn 34 = .ok (.bipush 12, 2) := by decide +kernel
theorem dX12_isToldOn_36 : decode cX12_isToldOn 36 = .ok (.iload_n 2, 1) := by decide +kernel
theorem dX12_isToldOn_37 : decode cX12_isToldOn 37 = .ok (.imul, 1) := by decide +kernel
theorem dX12_isToldOn_38 : decode cX12_isToldOn 38 = .ok (.iadd, 1) := by decide +kernel
theorem dX12_isToldOn_39 : decode cX12_isToldOn 39 = .ok (.iload 4, 2) := by decide +kernel
theorem dX12_isToldOn_41 : decode cX12_isToldOn 41 = .ok (.iadd, 1) := by decide +kernel
theorem dX12_isToldOn_42 : decode cX12_isToldOn 42 = .ok (.aload_n 0, 1) := by decide +kernel
theorem dX12_isToldOn_43 : decode cX12_isToldOn 43 = .ok (.iload_n 1, 1) := by decide +kernel
theorem dX12_isToldOn_44 : decode cX12_isToldOn 44 = .ok (.iload 4, 2) := by decide +kernel
theorem dX12_isToldOn_46 : decode cX12_isToldOn 46 = .ok (.invokevirtual 329, 3) := by decide +kernel
theorem dX12_isToldOn_49 : decode cX12_isToldOn 49 = .ok (.bipush 9, 2) := by decide +kernel
theorem dX12_isToldOn_51 : decode cX12_isToldOn 51 = .ok (.if_icmp .ge 15, 3) := by decide +kernel
theorem dX12_isToldOn_54 : decode cX12_isToldOn 54 = .ok (.aload_n 0, 1) := by decide +kernel
theorem dX12_isToldOn_55 : decode cX12_isToldOn 55 = .ok (.iload_n 1, 1) := by decide +kernel
theorem dX12_isToldOn_56 : decode cX12_isToldOn 56 = .ok (.iload 4, 2) := by decide +kernel
theorem dX12_isToldOn_58 : decode cX12_isToldOn 58 = .ok (.invokevirtual 329, 3) := by decide +kernel
theorem dX12_isToldOn_61 : decode cX12_isToldOn 61 = .ok (.iconst 1, 1) := by decide +kernel
theorem dX12_isToldOn_62 : decode cX12_isToldOn 62 = .ok (.iadd, 1) := by decide +kernel
theorem dX12_isToldOn_63 : decode cX12_isToldOn 63 = .ok (.goto 5, 3) := by decide +kernel
theorem dX12_isToldOn_66 : decode cX12_isToldOn 66 = .ok (.bipush 9, 2) := by decide +kernel
theorem dX12_isToldOn_68 : decode cX12_isToldOn 68 = .ok (.iastore, 1) := by decide +kernel
theorem dX12_isToldOn_69 : decode cX12_isToldOn 69 = .ok (.iinc 4 1, 3) := by decide +kernel
theorem dX12_isToldOn_72 : decode cX12_isToldOn 72 = .ok (.goto (-62), 3) := by decide +kernel
theorem dX12_isToldOn_75 : decode cX12_isToldOn 75 = .ok (.iload_n 3, 1) := by decide +kernel
theorem dX12_isToldOn_76 : decode cX12_isToldOn 76 = .ok (.ifCond .eq 7, 3) := by decide +kernel
theorem dX12_isToldOn_79 : decode cX12_isToldOn 79 = .ok (.iconst 1, 1) := by decide +kernel
theorem dX12_isToldOn_80 : decode cX12_isToldOn 80 = .ok (.goto 4, 3) := by decide +kernel
theorem dX12_isToldOn_83 : decode cX12_isToldOn 83 = .ok (.iconst 0, 1) := by decide +kernel
theorem dX12_isToldOn_84 : decode cX12_isToldOn 84 = .ok (.ireturn, 1) := by decide +kernel
theorem dX12_isRaised_0 : decode cX12_isRaised 0 = .ok (.iload_n 1, 1) := by decide +kernel
theorem dX12_isRaised_1 : decode cX12_isRaised 1 = .ok (.aload_n 0, 1) := by decide +kernel
theorem dX12_isRaised_2 : decode cX12_isRaised 2 = .ok (.getfield 160, 3) := by decide +kernel
theorem dX12_isRaised_5 : decode cX12_isRaised 5 = .ok (.if_icmp .gt 14, 3) := by decide +kernel
theorem dX12_isRaised_8 : decode cX12_isRaised 8 = .ok (.iload_n 1, 1) := by decide +kernel
theorem dX12_isRaised_9 : decode cX12_isRaised 9 = .ok (.aload_n 0, 1) := by decide +kernel
theorem dX12_isRaised_10 : decode cX12_isRaised 10 = .ok (.getfield 62, 3) := by decide +kernel
theorem dX12_isRaised_13 : decode cX12_isRaised 13 = .ok (.bipush 124, 2) := by decide +kernel
theorem dX12_isRaised_15 : decode cX12_isRaised 15 = .ok (.iaload, 1) := by decide +kernel
theorem dX12_isRaised_16 : decode cX12_isRaised 16 = .ok (.if_icmp .ne 5, 3) := by decide +kernel
theorem dX12_isRaised_19 : decode cX12_isRaised 19 = .ok (.iconst 0, 1) := by decide +kernel
theorem dX12_isRaised_20 : decode cX12_isRaised 20 = .ok (.ireturn, 1) := by decide +kernel
theorem dX12_isRaised_21 : decode cX12_isRaised 21 = .ok (.aload_n 0, 1) := by decide +kernel
theorem dX12_isRaised_22 : decode cX12_isRaised 22 = .ok (.getfield 62, 3) := by decide +kernel
theorem dX12_isRaised_25 : decode cX12_isRaised 25 = .ok (.bipush 124, 2) := by decide +kernel
theorem dX12_isRaised_27 : decode cX12_isRaised 27 = .ok (.iload_n 1, 1) := by decide +kernel
theorem dX12_isRaised_28 : decode cX12_isRaised 28 = .ok (.iastore, 1) := by decide +kernel
theorem dX12_isRaised_29 : decode cX12_isRaised 29 = .ok (.iconst 1, 1) := by decide +kernel
theorem dX12_isRaised_30 : decode cX12_isRaised 30 = .ok (.ireturn, 1) := by decide +kernel
theorem dX12_isRested_0 : decode cX12_isRested 0 = .ok (.aload_n 0, 1) := by decide +kernel
theorem dX12_isRested_1 : decode cX12_isRested 1 = .ok (.getfield 62, 3) := by decide +kernel
theorem dX12_isRested_4 : decode cX12_isRested 4 = .ok (.bipush 84, 2) := by decide +kernel
theorem dX12_isRested_6 : decode cX12_isRested 6 = .ok (.iload_n 1, 1) := by decide +kernel
theorem dX12_isRested_7 : decode cX12_isRested 7 = .ok (.iadd, 1) := by decide +kernel
theorem dX12_isRested_8 : decode cX12_isRested 8 = .ok (.iaload, 1) := by decide +kernel
theorem dX12_isRested_9 : decode cX12_isRested 9 = .ok (.ifCond .ne 5, 3) := by decide +kernel
theorem dX12_isRested_12 : decode cX12_isRested 12 = .ok (.iconst 0, 1) := by decide +kernel
theorem dX12_isRested_13 : decode cX12_isRested 13 = .ok (.ireturn, 1) := by decide +kernel
theorem dX12_isRested_14 : decode cX12_isRested 14 = .ok (.aload_n 0, 1) := by decide +kernel
theorem dX12_isRested_15 : decode cX12_isRested 15 = .ok (.getfield 62, 3) := by decide +kernel
theorem dX12_isRested_18 : decode cX12_isRested 18 = .ok (.bipush 84, 2) := by decide +kernel
theorem dX12_isRested_20 : decode cX12_isRested 20 = .ok (.iload_n 1, 1) := by decide +kernel
theorem dX12_isRested_21 : decode cX12_isRested 21 = .ok (.iadd, 1) := by decide +kernel
theorem dX12_isRested_22 : decode cX12_isRested 22 = .ok (.dup2, 1) := by decide +kernel
theorem dX12_isRested_23 : decode cX12_isRested 23 = .ok (.iaload, 1) := by decide +kernel
theorem dX12_isRested_24 : decode cX12_isRested 24 = .ok (.iconst 2, 1) := by decide +kernel
theorem dX12_isRested_25 : decode cX12_isRested 25 = .ok (.idiv, 1) := by decide +kernel
theorem dX12_isRested_26 : decode cX12_isRested 26 = .ok (.iastore, 1) := by decide +kernel
theorem dX12_isRested_27 : decode cX12_isRested 27 = .ok (.aload_n 0, 1) := by decide +kernel
theorem dX12_isRested_28 : decode cX12_isRested 28 = .ok (.getfield 62, 3) := by decide +kernel
theorem dX12_isRested_31 : decode cX12_isRested 31 = .ok (.bipush 91, 2) := by decide +kernel
theorem dX12_isRested_33 : decode cX12_isRested 33 = .ok (.iload_n 1, 1) := by decide +kernel
theorem dX12_isRested_34 : decode cX12_isRested 34 = .ok (.iadd, 1) := by decide +kernel
theorem dX12_isRested_35 : decode cX12_isRested 35 = .ok (.iconst 0, 1) := by decide +kernel
theorem dX12_isRested_36 : decode cX12_isRested 36 = .ok (.iastore, 1) := by decide +kernel
theorem dX12_isRested_37 : decode cX12_isRested 37 = .ok (.iconst 1, 1) := by decide +kernel
theorem dX12_isRested_38 : decode cX12_isRested 38 = .ok (.ireturn, 1) := by decide +kernel
theorem dX12_passes_0 : decode cX12_passes 0 = .ok (.iconst 0, 1) := by decide +kernel
end Dec
