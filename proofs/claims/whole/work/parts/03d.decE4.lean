section Dec
theorem dX12_kneel_160 : decode cX12_kneel 160 = .ok (.iload 4, 2) := by decide +kernel
theorem dX12_kneel_162 : decode cX12_kneel 162 = .ok (.goto 54, 3) := by decide +kernel
theorem dX12_kneel_165 : decode cX12_kneel 165 = .ok (.iload_n 3, 1) := by decide +kernel
theorem dX12_kneel_166 : decode cX12_kneel 166 = .ok (.iconst 1, 1) := by decide +kernel
theorem dX12_kneel_167 : decode cX12_kneel 167 = .ok (.if_icmp .ne 8, 3) := by decide +kernel
theorem dX12_kneel_170 : decode cX12_kneel 170 = .ok (.iload 5, 2) := by decide +kernel
theorem dX12_kneel_172 : decode cX12_kneel 172 = .ok (.goto 44, 3) := by decide +kernel
theorem dX12_kneel_175 : decode cX12_kneel 175 = .ok (.iload 5, 2) := by decide +kernel
theorem dX12_kneel_177 : decode cX12_kneel 177 = .ok (.iconst (-1), 1) := by decide +kernel
theorem dX12_kneel_178 : decode cX12_kneel 178 = .ok (.if_icmp .ne 7, 3) := by decide +kernel
theorem dX12_kneel_181 : decode cX12_kneel 181 = .ok (.iconst 0, 1) := by decide +kernel
theorem dX12_kneel_182 : decode cX12_kneel 182 = .ok (.goto 34, 3) := by decide +kernel
theorem dX12_kneel_185 : decode cX12_kneel 185 = .ok (.iload 5, 2) := by decide +kernel
theorem dX12_kneel_187 : decode cX12_kneel 187 = .ok (.bipush 10, 2) := by decide +kernel
theorem dX12_kneel_189 : decode cX12_kneel 189 = .ok (.idiv, 1) := by decide +kernel
theorem dX12_kneel_190 : decode cX12_kneel 190 = .ok (.iload 5, 2) := by decide +kernel
theorem dX12_kneel_192 : decode cX12_kneel 192 = .ok (.bipush 10, 2) := by decide +kernel
theorem dX12_kneel_194 : decode cX12_kneel 194 = .ok (.irem, 1) := by decide +kernel
theorem dX12_kneel_195 : decode cX12_kneel 195 = .ok (.iload_n 1, 1) := by decide +kernel
theorem dX12_kneel_196 : decode cX12_kneel 196 = .ok (.iload_n 2, 1) := by decide +kernel
theorem dX12_kneel_197 : decode cX12_kneel 197 = .ok (.invokestatic 436, 3) := by decide +kernel
theorem dX12_kneel_200 : decode cX12_kneel 200 = .ok (.iload 5, 2) := by decide +kernel
theorem dX12_kneel_202 : decode cX12_kneel 202 = .ok (.bipush 10, 2) := by decide +kernel
theorem dX12_kneel_204 : decode cX12_kneel 204 = .ok (.irem, 1) := by decide +kernel
theorem dX12_kneel_205 : decode cX12_kneel 205 = .ok (.iload 5, 2) := by decide +kernel
theorem dX12_kneel_207 : decode cX12_kneel 207 = .ok (.bipush 10, 2) := by decide +kernel
theorem dX12_kneel_209 : decode cX12_kneel 209 = .ok (.idiv, 1) := by decide +kernel
theorem dX12_kneel_210 : decode cX12_kneel 210 = .ok (.iload_n 1, 1) := by decide +kernel
theorem dX12_kneel_211 : decode cX12_kneel 211 = .ok (.iload_n 2, 1) := by decide +kernel
theorem dX12_kneel_212 : decode cX12_kneel 212 = .ok (.invokestatic 436, 3) := by decide +kernel
theorem dX12_kneel_215 : decode cX12_kneel 215 = .ok (.iadd, 1) := by decide +kernel
theorem dX12_kneel_216 : decode cX12_kneel 216 = .ok (.ireturn, 1) := by decide +kernel
theorem dX12_bounded_0 : decode cX12_bounded 0 = .ok (.aload_n 0, 1) := by decide +kernel
theorem dX12_bounded_1 : decode cX12_bounded 1 = .ok (.getfield 59, 3) := by decide +kernel
theorem dX12_bounded_4 : decode cX12_bounded 4 = .ok (.bipush 84, 2) := by decide +kernel
theorem dX12_bounded_6 : decode cX12_bounded 6 = .ok (.iload_n 1, 1) := by decide +kernel
theorem dX12_bounded_7 : decode cX12_bounded 7 = .ok (.iadd, 1) := by decide +kernel
theorem dX12_bounded_8 : decode cX12_bounded 8 = .ok (.iaload, 1) := by decide +kernel
theorem dX12_bounded_9 : decode cX12_bounded 9 = .ok (.iload_n 2, 1) := by decide +kernel
theorem dX12_bounded_10 : decode cX12_bounded 10 = .ok (.if_icmp .ge 15, 3) := by decide +kernel
theorem dX12_bounded_13 : decode cX12_bounded 13 = .ok (.aload_n 0, 1) := by decide +kernel
theorem dX12_bounded_14 : decode cX12_bounded 14 = .ok (.getfield 59, 3) := by decide +kernel
theorem dX12_bounded_17 : decode cX12_bounded 17 = .ok (.bipush 84, 2) := by decide +kernel
theorem dX12_bounded_19 : decode cX12_bounded 19 = .ok (.iload_n 1, 1) := by decide +kernel
theorem dX12_bounded_20 : decode cX12_bounded 20 = .ok (.iadd, 1) := by decide +kernel
theorem dX12_bounded_21 : decode cX12_bounded 21 = .ok (.iaload, 1) := by decide +kernel
theorem dX12_bounded_22 : decode cX12_bounded 22 = .ok (.goto 4, 3) := by decide +kernel
theorem dX12_bounded_25 : decode cX12_bounded 25 = .ok (.iload_n 2, 1) := by decide +kernel
theorem dX12_bounded_26 : decode cX12_bounded 26 = .ok (.ireturn, 1) := by decide +kernel
theorem dX12_balmBy_0 : decode cX12_balmBy 0 = .ok (.iconst 0, 1) := by decide +kernel
theorem dX12_balmBy_1 : decode cX12_balmBy 1 = .ok (.istore_n 3, 1) := by decide +kernel
theorem dX12_balmBy_2 : decode cX12_balmBy 2 = .ok (.iconst 0, 1) := by decide +kernel
theorem dX12_balmBy_3 : decode cX12_balmBy 3 = .ok (.istore 4, 2) := by decide +kernel
theorem dX12_balmBy_5 : decode cX12_balmBy 5 = .ok (.iload 4, 2) := by decide +kernel
theorem dX12_balmBy_7 : decode cX12_balmBy 7 = .ok (.aload_n 0, 1) := by decide +kernel
theorem dX12_balmBy_8 : decode cX12_balmBy 8 = .ok (.getfield 154, 3) := by decide +kernel
theorem dX12_balmBy_11 : decode cX12_balmBy 11 = .ok (.if_icmp .ge 26, 3) := by decide +kernel
theorem dX12_balmBy_14 : decode cX12_balmBy 14 = .ok (.iload_n 3, 1) := by decide +kernel
theorem dX12_balmBy_15 : decode cX12_balmBy 15 = .ok (.iload_n 1, 1) := by decide +kernel
theorem dX12_balmBy_16 : decode cX12_balmBy 16 = .ok (.iload 4, 2) := by decide +kernel
theorem dX12_balmBy_18 : decode cX12_balmBy 18 = .ok (.ishr, 1) := by decide +kernel
theorem dX12_balmBy_19 : decode cX12_balmBy 19 = .ok (.iconst 1, 1) := by decide +kernel
theorem dX12_balmBy_20 : decode cX12_balmBy 20 = .ok (.iand, 1) := by decide +kernel
theorem dX12_balmBy_21 : decode cX12_balmBy 21 = .ok (.aload_n 0, 1) := by decide +kernel
theorem dX12_balmBy_22 : decode cX12_balmBy 22 = .ok (.iload 4, 2) := by decide +kernel
theorem dX12_balmBy_24 : decode cX12_balmBy 24 = .ok (.iload_n 2, 1) := by decide +kernel
theorem dX12_balmBy_25 : decode cX12_balmBy 25 = .ok (.invokevirtual 440, 3) := by decide +kernel
theorem dX12_balmBy_28 : decode cX12_balmBy 28 = .ok (.imul, 1) := by decide +kernel
theorem dX12_balmBy_29 : decode cX12_balmBy 29 = .ok (.iadd, 1) := by decide +kernel
theorem dX12_balmBy_30 : decode cX12_balmBy 30 = .ok (.istore_n 3, 1) := by decide +kernel
theorem dX12_balmBy_31 : decode cX12_balmBy 31 = .ok (.iinc 4 1, 3) := by decide +kernel
theorem dX12_balmBy_34 : decode cX12_balmBy 34 = .ok (.goto (-29), 3) := by decide +kernel
theorem dX12_balmBy_37 : decode cX12_balmBy 37 = .ok (.iload_n 3, 1) := by decide +kernel
theorem dX12_balmBy_38 : decode cX12_balmBy 38 = .ok (.ireturn, 1) := by decide +kernel
theorem dX12_balm_0 : decode cX12_balm 0 = .ok (.aload_n 0, 1) := by decide +kernel
theorem dX12_balm_1 : decode cX12_balm 1 = .ok (.iconst 0, 1) := by decide +kernel
theorem dX12_balm_2 : decode cX12_balm 2 = .ok (.putfield 3, 3) := by decide +kernel
theorem dX12_balm_5 : decode cX12_balm 5 = .ok (.aload_n 0, 1) := by decide +kernel
theorem dX12_balm_6 : decode cX12_balm 6 = .ok (.iload_n 1, 1) := by decide +kernel
theorem dX12_balm_7 : decode cX12_balm 7 = .ok (.iconst 1, 1) := by decide +kernel
theorem dX12_balm_8 : decode cX12_balm 8 = .ok (.invokevirtual 385, 3) := by decide +kernel
theorem dX12_balm_11 : decode cX12_balm 11 = .ok (.ifCond .eq 42, 3) := by decide +kernel
theorem dX12_balm_14 : decode cX12_balm 14 = .ok (.aload_n 0, 1) := by decide +kernel
theorem dX12_balm_15 : decode cX12_balm 15 = .ok (.iload_n 2, 1) := by decide +kernel
theorem dX12_balm_16 : decode cX12_balm 16 = .ok (.ifCond .lt 28, 3) := by decide +kernel
theorem dX12_balm_19 : decode cX12_balm 19 = .ok (.iload_n 2, 1) := by decide +kernel
theorem dX12_balm_20 : decode cX12_balm 20 = .ok (.iconst 1, 1) := by decide +kernel
theorem dX12_balm_21 : decode cX12_balm 21 = .ok (.aload_n 0, 1) := by decide +kernel
theorem dX12_balm_22 : decode cX12_balm 22 = .ok (.getfield 154, 3) := by decide +kernel
theorem dX12_balm_25 : decode cX12_balm 25 = .ok (.ishl, 1) := by decide +kernel
theorem dX12_balm_26 : decode cX12_balm 26 = .ok (.if_icmp .ge 18, 3) := by decide +kernel
theorem dX12_balm_29 : decode cX12_balm 29 = .ok (.iload_n 3, 1) := by decide +kernel
theorem dX12_balm_30 : decode cX12_balm 30 = .ok (.iconst 0, 1) := by decide +kernel
theorem dX12_balm_31 : decode cX12_balm 31 = .ok (.sipush 9999, 3) := by decide +kernel
theorem dX12_balm_34 : decode cX12_balm 34 = .ok (.invokestatic 373, 3) := by decide +kernel
theorem dX12_balm_37 : decode cX12_balm 37 = .ok (.ifCond .eq 7, 3) := by decide +kernel
theorem dX12_balm_40 : decode cX12_balm 40 = .ok (.iconst 1, 1) := by decide +kernel
theorem dX12_balm_41 : decode cX12_balm 41 = .ok (.goto 4, 3) := by decide +kernel
theorem dX12_balm_44 : decode cX12_balm 44 = .ok (.iconst 0, 1) := by decide +kernel
theorem dX12_balm_45 : decode cX12_balm 45 = .ok (.iconst 2, 1) := by decide +kernel
theorem dX12_balm_46 : decode cX12_balm 46 = .ok (.iconst 1, 1) := by decide +kernel
theorem dX12_balm_47 : decode cX12_balm 47 = .ok (.invokevirtual 192, 3) := by decide +kernel
theorem dX12_balm_50 : decode cX12_balm 50 = .ok (.ifCond .ne 5, 3) := by decide +kernel
theorem dX12_balm_53 : decode cX12_balm 53 = .ok (.iconst 0, 1) := by decide +kernel
theorem dX12_balm_54 : decode cX12_balm 54 = .ok (.ireturn, 1) := by decide +kernel
theorem dX12_balm_55 : decode cX12_balm 55 = .ok (.sipush 999, 3) := by decide +kernel
theorem dX12_balm_58 : decode cX12_balm 58 = .ok (.istore 4, 2) := by decide +kernel
theorem dX12_balm_60 : decode cX12_balm 60 = .ok (.aload_n 0, 1) := by decide +kernel
theorem dX12_balm_61 : decode cX12_balm 61 = .ok (.iload_n 2, 1) := by decide +kernel
theorem dX12_balm_62 : decode cX12_balm 62 = .ok (.iload 4, 2) := by decide +kernel
theorem dX12_balm_64 : decode cX12_balm 64 = .ok (.invokevirtual 443, 3) := by decide +kernel
theorem dX12_balm_67 : decode cX12_balm 67 = .ok (.iload_n 3, 1) := by decide +kernel
theorem dX12_balm_68 : decode cX12_balm 68 = .ok (.if_icmp .le 9, 3) := by decide +kernel
theorem dX12_balm_71 : decode cX12_balm 71 = .ok (.iinc 4 (-1), 3) := by decide +kernel
theorem dX12_balm_74 : decode cX12_balm 74 = .ok (.goto (-14), 3) := by decide +kernel
theorem dX12_balm_77 : decode cX12_balm 77 = .ok (.iload_n 2, 1) := by decide +kernel
theorem dX12_balm_78 : decode cX12_balm 78 = .ok (.iload_n 1, 1) := by decide +kernel
theorem dX12_balm_79 : decode cX12_balm 79 = .ok (.ishr, 1) := by decide +kernel
theorem dX12_balm_80 : decode cX12_balm 80 = .ok (.iconst 1, 1) := by decide +kernel
theorem dX12_balm_81 : decode cX12_balm 81 = .ok (.iand, 1) := by decide +kernel
theorem dX12_balm_82 : decode cX12_balm 82 = .ok (.ifCond .ne 7, 3) := by decide +kernel
theorem dX12_balm_85 : decode cX12_balm 85 = .ok (.iconst 0, 1) := by decide +kernel
theorem dX12_balm_86 : decode cX12_balm 86 = .ok (.goto 10, 3) := by decide +kernel
theorem dX12_balm_89 : decode cX12_balm 89 = .ok (.aload_n 0, 1) := by decide +kernel
theorem dX12_balm_90 : decode cX12_balm 90 = .ok (.iload_n 1, 1) := by decide +kernel
theorem dX12_balm_91 : decode cX12_balm 91 = .ok (.iload 4, 2) := by decide +kernel
theorem dX12_balm_93 : decode cX12_balm 93 = .ok (.invokevirtual 440, 3) := by decide +kernel
theorem dX12_balm_96 : decode cX12_balm 96 = .ok (.ireturn, 1) := by decide +kernel
theorem dX12_weariest_0 : decode cX12_weariest 0 = .ok (.aload_n 0, 1) := by decide +kernel
theorem dX12_weariest_1 : decode cX12_weariest 1 = .ok (.iconst 0, 1) := by decide +kernel
theorem dX12_weariest_2 : decode cX12_weariest 2 = .ok (.putfield 3, 3) := by decide +kernel
theorem dX12_weariest_5 : decode cX12_weariest 5 = .ok (.aload_n 0, 1) := by decide +kernel
theorem dX12_weariest_6 : decode cX12_weariest 6 = .ok (.iload_n 1, 1) := by decide +kernel
theorem dX12_weariest_7 : decode cX12_weariest 7 = .ok (.iconst 0, 1) := by decide +kernel
theorem dX12_weariest_8 : decode cX12_weariest 8 = .ok (.iconst 1, 1) := by decide +kernel
theorem dX12_weariest_9 : decode cX12_weariest 9 = .ok (.invokestatic 373, 3) := by decide +kernel
theorem dX12_weariest_12 : decode cX12_weariest 12 = .ok (.iconst 1, 1) := by decide +kernel
theorem dX12_weariest_13 : decode cX12_weariest 13 = .ok (.iconst 1, 1) := by decide +kernel
theorem dX12_weariest_14 : decode cX12_weariest 14 = .ok (.invokevirtual 192, 3) := by decide +kernel
theorem dX12_weariest_17 : decode cX12_weariest 17 = .ok (.ifCond .ne 5, 3) := by decide +kernel
theorem dX12_weariest_20 : decode cX12_weariest 20 = .ok (.iconst 0, 1) := by decide +kernel
theorem dX12_weariest_21 : decode cX12_weariest 21 = .ok (.ireturn, 1) := by decide +kernel
theorem dX12_weariest_22 : decode cX12_weariest 22 = .ok (.iconst (-1), 1) := by decide +kernel
theorem dX12_weariest_23 : decode cX12_weariest 23 = .ok (.istore_n 2, 1) := by decide +kernel
theorem dX12_weariest_24 : decode cX12_weariest 24 = .ok (.iconst 0, 1) := by decide +kernel
theorem dX12_weariest_25 : decode cX12_weariest 25 = .ok (.istore_n 3, 1) := by decide +kernel
theorem dX12_weariest_26 : decode cX12_weariest 26 = .ok (.iload_n 3, 1) := by decide +kernel
theorem dX12_weariest_27 : decode cX12_weariest 27 = .ok (.aload_n 0, 1) := by decide +kernel
theorem dX12_weariest_28 : decode cX12_weariest 28 = .ok (.getfield 154, 3) := by decide +kernel
theorem dX12_weariest_31 : decode cX12_weariest 31 = .ok (.if_icmp .ge 37, 3) := by decide +kernel
theorem dX12_weariest_34 : decode cX12_weariest 34 = .ok (.iload_n 2, 1) := by decide +kernel
theorem dX12_weariest_35 : decode cX12_weariest 35 = .ok (.iconst (-1), 1) := by decide +kernel
theorem dX12_weariest_36 : decode cX12_weariest 36 = .ok (.if_icmp .eq 24, 3) := by decide +kernel
theorem dX12_weariest_39 : decode cX12_weariest 39 = .ok (.aload_n 0, 1) := by decide +kernel
theorem dX12_weariest_40 : decode cX12_weariest 40 = .ok (.getfield 59, 3) := by decide +kernel
theorem dX12_weariest_43 : decode cX12_weariest 43 = .ok (.bipush 84, 2) := by decide +kernel
theorem dX12_weariest_45 : decode cX12_weariest 45 = .ok (.iload_n 3, 1) := by decide +kernel
theorem dX12_weariest_46 : decode cX12_weariest 46 = .ok (.iadd, 1) := by decide +kernel
theorem dX12_weariest_47 : decode cX12_weariest 47 = .ok (.iaload, 1) := by decide +kernel
theorem dX12_weariest_48 : decode cX12_weariest 48 = .ok (.aload_n 0, 1) := by decide +kernel
theorem dX12_weariest_49 : decode cX12_weariest 49 = .ok (.getfield 59, 3) := by decide +kernel
theorem dX12_weariest_52 : decode cX12_weariest 52 = .ok (.bipush 84, 2) := by decide +kernel
theorem dX12_weariest_54 : decode cX12_weariest 54 = .ok (.iload_n 2, 1) := by decide +kernel
theorem dX12_weariest_55 : decode cX12_weariest 55 = .ok (.iadd, 1) := by decide +kernel
theorem dX12_weariest_56 : decode cX12_weariest 56 = .ok (.iaload, 1) := by decide +kernel
theorem dX12_weariest_57 : decode cX12_weariest 57 = .ok (.if_icmp .le 5, 3) := by decide +kernel
theorem dX12_weariest_60 : decode cX12_weariest 60 = .ok (.iload_n 3, 1) := by decide +kernel
theorem dX12_weariest_61 : decode cX12_weariest 61 = .ok (.istore_n 2, 1) := by decide +kernel
theorem dX12_weariest_62 : decode cX12_weariest 62 = .ok (.iinc 3 1, 3) := by decide +kernel
theorem dX12_weariest_65 : decode cX12_weariest 65 = .ok (.goto (-39), 3) := by decide +kernel
theorem dX12_weariest_68 : decode cX12_weariest 68 = .ok (.iload_n 1, 1) := by decide +kernel
theorem dX12_weariest_69 : decode cX12_weariest 69 = .ok (.ifCond .eq 8, 3) := by decide +kernel
theorem dX12_weariest_72 : decode cX12_weariest 72 = .ok (.iload_n 2, 1) := by decide +kernel
theorem dX12_weariest_73 : decode cX12_weariest 73 = .ok (.iconst (-1), 1) := by decide +kernel
theorem dX12_weariest_74 : decode cX12_weariest 74 = .ok (.if_icmp .ne 7, 3) := by decide +kernel
theorem dX12_weariest_77 : decode cX12_weariest 77 = .ok (.iload_n 2, 1) := by decide +kernel
theorem dX12_weariest_78 : decode cX12_weariest 78 = .ok (.goto 12, 3) := by decide +kernel
theorem dX12_weariest_81 : decode cX12_weariest 81 = .ok (.aload_n 0, 1) := by decide +kernel
theorem dX12_weariest_82 : decode cX12_weariest 82 = .ok (.getfield 59, 3) := by decide +kernel
theorem dX12_weariest_85 : decode cX12_weariest 85 = .ok (.bipush 84, 2) := by decide +kernel
theorem dX12_weariest_87 : decode cX12_weariest 87 = .ok (.iload_n 2, 1) := by decide +kernel
theorem dX12_weariest_88 : decode cX12_weariest 88 = .ok (.iadd, 1) := by decide +kernel
theorem dX12_weariest_89 : decode cX12_weariest 89 = .ok (.iaload, 1) := by decide +kernel
theorem dX12_weariest_90 : decode cX12_weariest 90 = .ok (.ireturn, 1) := by decide +kernel
theorem dX12_heaviest_0 : decode cX12_heaviest 0 = .ok (.aload_n 0, 1) := by decide +kernel
theorem dX12_heaviest_1 : decode cX12_heaviest 1 = .ok (.iconst 0, 1) := by decide +kernel
theorem dX12_heaviest_2 : decode cX12_heaviest 2 = .ok (.putfield 3, 3) := by decide +kernel
theorem dX12_heaviest_5 : decode cX12_heaviest 5 = .ok (.aload_n 0, 1) := by decide +kernel
theorem dX12_heaviest_6 : decode cX12_heaviest 6 = .ok (.iload_n 1, 1) := by decide +kernel
theorem dX12_heaviest_7 : decode cX12_heaviest 7 = .ok (.iconst 1, 1) := by decide +kernel
theorem dX12_heaviest_8 : decode cX12_heaviest 8 = .ok (.invokevirtual 385, 3) := by decide +kernel
theorem dX12_heaviest_11 : decode cX12_heaviest 11 = .ok (.ifCond .eq 18, 3) := by decide +kernel
theorem dX12_heaviest_14 : decode cX12_heaviest 14 = .ok (.aload_n 0, 1) := by decide +kernel
theorem dX12_heaviest_15 : decode cX12_heaviest 15 = .ok (.iload_n 2, 1) := by decide +kernel
theorem dX12_heaviest_16 : decode cX12_heaviest 16 = .ok (.iconst 0, 1) := by decide +kernel
theorem dX12_heaviest_17 : decode cX12_heaviest 17 = .ok (.iconst 1, 1) := by decide +kernel
theorem dX12_heaviest_18 : decode cX12_heaviest 18 = .ok (.invokestatic 373, 3) := by decide +kernel
theorem dX12_heaviest_21 : decode cX12_heaviest 21 = .ok (.iconst 2, 1) := by decide +kernel
theorem dX12_heaviest_22 : decode cX12_heaviest 22 = .ok (.iconst 1, 1) := by decide +kernel
theorem dX12_heaviest_23 : decode cX12_heaviest 23 = .ok (.invokevirtual 192, 3) := by decide +kernel
theorem dX12_heaviest_26 : decode cX12_heaviest 26 = .ok (.ifCond .ne 5, 3) := by decide +kernel
theorem dX12_heaviest_29 : decode cX12_heaviest 29 = .ok (.iconst 0, 1) := by decide +kernel
theorem dX12_heaviest_30 : decode cX12_heaviest 30 = .ok (.ireturn, 1) := by decide +kernel
theorem dX12_heaviest_31 : decode cX12_heaviest 31 = .ok (.aload_n 0, 1) := by decide +kernel
theorem dX12_heaviest_32 : decode cX12_heaviest 32 = .ok (.invokevirtual 310, 3) := by decide +kernel
theorem dX12_heaviest_35 : decode cX12_heaviest 35 = .ok (.iconst (-1), 1) := by decide +kernel
theorem dX12_heaviest_36 : decode cX12_heaviest 36 = .ok (.istore_n 3, 1) := by decide +kernel
theorem dX12_heaviest_37 : decode cX12_heaviest 37 = .ok (.iconst 0, 1) := by decide +kernel
theorem dX12_heaviest_38 : decode cX12_heaviest 38 = .ok (.istore 4, 2) := by decide +kernel
theorem dX12_heaviest_40 : decode cX12_heaviest 40 = .ok (.iload 4, 2) := by decide +kernel
theorem dX12_heaviest_42 : decode cX12_heaviest 42 = .ok (.aload_n 0, 1) := by decide +kernel
theorem dX12_heaviest_43 : decode cX12_heaviest 43 = .ok (.getfield 157, 3) := by decide +kernel
theorem dX12_heaviest_46 : decode cX12_heaviest 46 = .ok (.if_icmp .ge 33, 3) := by decide +kernel
theorem dX12_heaviest_49 : decode cX12_heaviest 49 = .ok (.iload_n 3, 1) := by decide +kernel
theorem dX12_heaviest_50 : decode cX12_heaviest 50 = .ok (.iconst (-1), 1) := by decide +kernel
theorem dX12_heaviest_51 : decode cX12_heaviest 51 = .ok (.if_icmp .eq 19, 3) := by decide +kernel
theorem dX12_heaviest_54 : decode cX12_heaviest 54 = .ok (.aload_n 0, 1) := by decide +kernel
theorem dX12_heaviest_55 : decode cX12_heaviest 55 = .ok (.iload_n 1, 1) := by decide +kernel
theorem dX12_heaviest_56 : decode cX12_heaviest 56 = .ok (.iload 4, 2) := by decide +kernel
theorem dX12_heaviest_58 : decode cX12_heaviest 58 = .ok (.invokevirtual 348, 3) := by decide +kernel
theorem dX12_heaviest_61 : decode cX12_heaviest 61 = .ok (.aload_n 0, 1) := by decide +kernel
theorem dX12_heaviest_62 : decode cX12_heaviest 62 = .ok (.iload_n 1, 1) := by decide +kernel
theorem dX12_heaviest_63 : decode cX12_heaviest 63 = .ok (.iload_n 3, 1) := by decide +kernel
theorem dX12_heaviest_64 : decode cX12_heaviest 64 = .ok (.invokevirtual 348, 3) := by decide +kernel
theorem dX12_heaviest_67 : decode cX12_heaviest 67 = .ok (.if_icmp .le 6, 3) := by decide +kernel
theorem dX12_heaviest_70 : decode cX12_heaviest 70 = .ok (.iload 4, 2) := by decide +kernel
theorem dX12_heaviest_72 : decode cX12_heaviest 72 = .ok (.istore_n 3, 1) := by decide +kernel
theorem dX12_heaviest_73 : decode cX12_heaviest 73 = .ok (.iinc 4 1, 3) := by decide +kernel
theorem dX12_heaviest_76 : decode cX12_heaviest 76 = .ok (.goto (-36), 3) := by decide +kernel
theorem dX12_heaviest_79 : decode cX12_heaviest 79 = .ok (.iload_n 2, 1) := by decide +kernel
theorem dX12_heaviest_80 : decode cX12_heaviest 80 = .ok (.ifCond .eq 8, 3) := by decide +kernel
theorem dX12_heaviest_83 : decode cX12_heaviest 83 = .ok (.iload_n 3, 1) := by decide +kernel
theorem dX12_heaviest_84 : decode cX12_heaviest 84 = .ok (.iconst (-1), 1) := by decide +kernel
theorem dX12_heaviest_85 : decode cX12_heaviest 85 = .ok (.if_icmp .ne 7, 3) := by decide +kernel
theorem dX12_heaviest_88 : decode cX12_heaviest 88 = .ok (.iload_n 3, 1) := by decide +kernel
theorem dX12_heaviest_89 : decode cX12_heaviest 89 = .ok (.goto 9, 3) := by decide +kernel
theorem dX12_heaviest_92 : decode cX12_heaviest 92 = .ok (.aload_n 0, 1) := by decide +kernel
theorem dX12_heaviest_93 : decode cX12_heaviest 93 = .ok (.iload_n 1, 1) := by decide +kernel
theorem dX12_heaviest_94 : decode cX12_heaviest 94 = .ok (.iload_n 3, 1) := by decide +kernel
theorem dX12_heaviest_95 : decode cX12_heaviest 95 = .ok (.invokevirtual 348, 3) := by decide +kernel
theorem dX12_heaviest_98 : decode cX12_heaviest 98 = .ok (.ireturn, 1) := by decide +kernel
theorem dX12_listeners_0 : decode cX12_listeners 0 = .ok (.aload_n 0, 1) := by decide +kernel
theorem dX12_listeners_1 : decode cX12_listeners 1 = .ok (.iconst 0, 1) := by decide +kernel
theorem dX12_listeners_2 : decode cX12_listeners 2 = .ok (.putfield 3, 3) := by decide +kernel
theorem dX12_listeners_5 : decode cX12_listeners 5 = .ok (.aload_n 0, 1) := by decide +kernel
theorem dX12_listeners_6 : decode cX12_listeners 6 = .ok (.iload_n 1, 1) := by decide +kernel
theorem dX12_listeners_7 : decode cX12_listeners 7 = .ok (.iconst 1, 1) := by decide +kernel
theorem dX12_listeners_8 : decode cX12_listeners 8 = .ok (.invokevirtual 385, 3) := by decide +kernel
theorem dX12_listeners_11 : decode cX12_listeners 11 = .ok (.ifCond .ne 5, 3) := by decide +kernel
theorem dX12_listeners_14 : decode cX12_listeners 14 = .ok (.iconst 0, 1) := by decide +kernel
theorem dX12_listeners_15 : decode cX12_listeners 15 = .ok (.ireturn, 1) := by decide +kernel
theorem dX12_listeners_16 : decode cX12_listeners 16 = .ok (.aload_n 0, 1) := by decide +kernel
theorem dX12_listeners_17 : decode cX12_listeners 17 = .ok (.invokevirtual 310, 3) := by decide +kernel
theorem dX12_listeners_20 : decode cX12_listeners 20 = .ok (.iconst 0, 1) := by decide +kernel
theorem dX12_listeners_21 : decode cX12_listeners 21 = .ok (.istore_n 2, 1) := by decide +kernel
theorem dX12_listeners_22 : decode cX12_listeners 22 = .ok (.iconst 0, 1) := by decide +kernel
theorem dX12_listeners_23 : decode cX12_listeners 23 = .ok (.istore_n 3, 1) := by decide +kernel
theorem dX12_listeners_24 : decode cX12_listeners 24 = .ok (.iload_n 3, 1) := by decide +kernel
theorem dX12_listeners_25 : decode cX12_listeners 25 = .ok (.aload_n 0, 1) := by decide +kernel
theorem dX12_listeners_26 : decode cX12_listeners 26 = .ok (.getfield 154, 3) := by decide +kernel
theorem dX12_listeners_29 : decode cX12_listeners 29 = .ok (.if_icmp .ge 28, 3) := by decide +kernel
theorem dX12_listeners_32 : decode cX12_listeners 32 = .ok (.iload_n 2, 1) := by decide +kernel
theorem dX12_listeners_33 : decode cX12_listeners 33 = .ok (.aload_n 0, 1) := by decide +kernel
theorem dX12_listeners_34 : decode cX12_listeners 34 = .ok (.iload_n 1, 1) := by decide +kernel
theorem dX12_listeners_35 : decode cX12_listeners 35 = .ok (.iload_n 3, 1) := by decide +kernel
theorem dX12_listeners_36 : decode cX12_listeners 36 = .ok (.invokevirtual 351, 3) := by decide +kernel
theorem dX12_listeners_39 : decode cX12_listeners 39 = .ok (.ifCond .eq 9, 3) := by decide +kernel
theorem dX12_listeners_42 : decode cX12_listeners 42 = .ok (.iconst 1, 1) := by decide +kernel
theorem dX12_listeners_43 : decode cX12_listeners 43 = .ok (.iload_n 3, 1) := by decide +kernel
theorem dX12_listeners_44 : decode cX12_listeners 44 = .ok (.ishl, 1) := by decide +kernel
theorem dX12_listeners_45 : decode cX12_listeners 45 = .ok (.goto 4, 3) := by decide +kernel
theorem dX12_listeners_48 : decode cX12_listeners 48 = .ok (.iconst 0, 1) := by decide +kernel
theorem dX12_listeners_49 : decode cX12_listeners 49 = .ok (.ior, 1) := by decide +kernel
theorem dX12_listeners_50 : decode cX12_listeners 50 = .ok (.istore_n 2, 1) := by decide +kernel
theorem dX12_listeners_51 : decode cX12_listeners 51 = .ok (.iinc 3 1, 3) := by decide +kernel
theorem dX12_listeners_54 : decode cX12_listeners 54 = .ok (.goto (-30), 3) := by decide +kernel
theorem dX12_listeners_57 : decode cX12_listeners 57 = .ok (.iload_n 2, 1) := by decide +kernel
theorem dX12_listeners_58 : decode cX12_listeners 58 = .ok (.ireturn, 1) := by decide +kernel
theorem dX12_sure_0 : decode cX12_sure 0 = .ok (.aload_n 0, 1) := by decide +kernel
theorem dX12_sure_1 : decode cX12_sure 1 = .ok (.iconst 0, 1) := by decide +kernel
theorem dX12_sure_2 : decode cX12_sure 2 = .ok (.putfield 3, 3) := by decide +kernel
theorem dX12_sure_5 : decode cX12_sure 5 = .ok (.aload_n 0, 1) := by decide +kernel
theorem dX12_sure_6 : decode cX12_sure 6 = .ok (.iload_n 1, 1) := by decide +kernel
theorem dX12_sure_7 : decode cX12_sure 7 = .ok (.iconst 1, 1) := by decide +kernel
theorem dX12_sure_8 : decode cX12_sure 8 = .ok (.invokevirtual 385, 3) := by decide +kernel
theorem dX12_sure_11 : decode cX12_sure 11 = .ok (.ifCond .eq 18, 3) := by decide +kernel
theorem dX12_sure_14 : decode cX12_sure 14 = .ok (.aload_n 0, 1) := by decide +kernel
theorem dX12_sure_15 : decode cX12_sure 15 = .ok (.iload_n 2, 1) := by decide +kernel
theorem dX12_sure_16 : decode cX12_sure 16 = .ok (.iconst 0, 1) := by decide +kernel
theorem dX12_sure_17 : decode cX12_sure 17 = .ok (.iconst 1, 1) := by decide +kernel
theorem dX12_sure_18 : decode cX12_sure 18 = .ok (.invokestatic 373, 3) := by decide +kernel
theorem dX12_sure_21 : decode cX12_sure 21 = .ok (.iconst 2, 1) := by decide +kernel
theorem dX12_sure_22 : decode cX12_sure 22 = .ok (.iconst 1, 1) := by decide +kernel
theorem dX12_sure_23 : decode cX12_sure 23 = .ok (.invokevirtual 192, 3) := by decide +kernel
theorem dX12_sure_26 : decode cX12_sure 26 = .ok (.ifCond .ne 5, 3) := by decide +kernel
theorem dX12_sure_29 : decode cX12_sure 29 = .ok (.iconst 0, 1) := by decide +kernel
theorem dX12_sure_30 : decode cX12_sure 30 = .ok (.ireturn, 1) := by decide +kernel
theorem dX12_sure_31 : decode cX12_sure 31 = .ok (.aload_n 0, 1) := by decide +kernel
theorem dX12_sure_32 : decode cX12_sure 32 = .ok (.invokevirtual 310, 3) := by decide +kernel
theorem dX12_sure_35 : decode cX12_sure 35 = .ok (.iconst 0, 1) := by decide +kernel
theorem dX12_sure_36 : decode cX12_sure 36 = .ok (.istore_n 3, 1) := by decide +kernel
theorem dX12_sure_37 : decode cX12_sure 37 = .ok (.iconst 0, 1) := by decide +kernel
theorem dX12_sure_38 : decode cX12_sure 38 = .ok (.istore 4, 2) := by decide +kernel
theorem dX12_sure_40 : decode cX12_sure 40 = .ok (.iload 4, 2) := by decide +kernel
theorem dX12_sure_42 : decode cX12_sure 42 = .ok (.aload_n 0, 1) := by decide +kernel
theorem dX12_sure_43 : decode cX12_sure 43 = .ok (.getfield 157, 3) := by decide +kernel
theorem dX12_sure_46 : decode cX12_sure 46 = .ok (.if_icmp .ge 47, 3) := by decide +kernel
theorem dX12_sure_49 : decode cX12_sure 49 = .ok (.iload_n 3, 1) := by decide +kernel
theorem dX12_sure_50 : decode cX12_sure 50 = .ok (.iload_n 2, 1) := by decide +kernel
theorem dX12_sure_51 : decode cX12_sure 51 = .ok (.ifCond .ne 16, 3) := by decide +kernel
theorem dX12_sure_54 : decode cX12_sure 54 = .ok (.aload_n 0, 1) := by decide +kernel
theorem dX12_sure_55 : decode cX12_sure 55 = .ok (.iload_n 1, 1) := by decide +kernel
theorem dX12_sure_56 : decode cX12_sure 56 = .ok (.iload 4, 2) := by decide +kernel
theorem dX12_sure_58 : decode cX12_sure 58 = .ok (.invokevirtual 329, 3) := by decide +kernel
theorem dX12_sure_61 : decode cX12_sure 61 = .ok (.ifCond .ne 23, 3) := by decide +kernel
theorem dX12_sure_64 : decode cX12_sure 64 = .ok (.goto 13, 3) := by decide +kernel
theorem dX12_sure_67 : decode cX12_sure 67 = .ok (.aload_n 0, 1) := by decide +kernel
theorem dX12_sure_68 : decode cX12_sure 68 = .ok (.iload_n 1, 1) := by decide +kernel
theorem dX12_sure_69 : decode cX12_sure 69 = .ok (.iload 4, 2) := by decide +kernel
theorem dX12_sure_71 : decode cX12_sure 71 = .ok (.invokevirtual 329, 3) := by decide +kernel
theorem dX12_sure_74 : decode cX12_sure 74 = .ok (.ifCond .le 10, 3) := by decide +kernel
theorem dX12_sure_77 : decode cX12_sure 77 = .ok (.iconst 1, 1) := by decide +kernel
theorem dX12_sure_78 : decode cX12_sure 78 = .ok (.iload 4, 2) := by decide +kernel
theorem dX12_sure_80 : decode cX12_sure 80 = .ok (.ishl, 1) := by decide +kernel
theorem dX12_sure_81 : decode cX12_sure 81 = .ok (.goto 4, 3) := by decide +kernel
theorem dX12_sure_84 : decode cX12_sure 84 = .ok (.iconst 0, 1) := by decide +kernel
theorem dX12_sure_85 : decode cX12_sure 85 = .ok (.ior, 1) := by decide +kernel
theorem dX12_sure_86 : decode cX12_sure 86 = .ok (.istore_n 3, 1) := by decide +kernel
theorem dX12_sure_87 : decode cX12_sure 87 = .ok (.iinc 4 1, 3) := by decide +kernel
theorem dX12_sure_90 : decode cX12_sure 90 = .ok (.goto (-50), 3) := by decide +kernel
theorem dX12_sure_93 : decode cX12_sure 93 = .ok (.iload_n 3, 1) := by decide +kernel
theorem dX12_sure_94 : decode cX12_sure 94 = .ok (.ireturn, 1) := by decide +kernel
theorem dX12_bearers_0 : decode cX12_bearers 0 = .ok (.aload_n 0, 1) := by decide +kernel
theorem dX12_bearers_1 : decode cX12_bearers 1 = .ok (.iconst 0, 1) := by decide +kernel
theorem dX12_bearers_2 : decode cX12_bearers 2 = .ok (.putfield 3, 3) := by decide +kernel
theorem dX12_bearers_5 : decode cX12_bearers 5 = .ok (.aload_n 0, 1) := by decide +kernel
theorem dX12_bearers_6 : decode cX12_bearers 6 = .ok (.iload_n 1, 1) := by decide +kernel
theorem dX12_bearers_7 : decode cX12_bearers 7 = .ok (.iconst 1, 1) := by decide +kernel
theorem dX12_bearers_8 : decode cX12_bearers 8 = .ok (.invokevirtual 388, 3) := by decide +kernel
theorem dX12_bearers_11 : decode cX12_bearers 11 = .ok (.ifCond .ne 5, 3) := by decide +kernel
theorem dX12_bearers_14 : decode cX12_bearers 14 = .ok (.iconst 0, 1) := by decide +kernel
theorem dX12_bearers_15 : decode cX12_bearers 15 = .ok (.ireturn, 1) := by decide +kernel
theorem dX12_bearers_16 : decode cX12_bearers 16 = .ok (.aload_n 0, 1) := by decide +kernel
theorem dX12_bearers_17 : decode cX12_bearers 17 = .ok (.invokevirtual 310, 3) := by decide +kernel
theorem dX12_bearers_20 : decode cX12_bearers 20 = .ok (.iconst 0, 1) := by decide +kernel
theorem dX12_bearers_21 : decode cX12_bearers 21 = .ok (.istore_n 2, 1) := by decide +kernel
theorem dX12_bearers_22 : decode cX12_bearers 22 = .ok (.iconst 0, 1) := by decide +kernel
theorem dX12_bearers_23 : decode cX12_bearers 23 = .ok (.istore_n 3, 1) := by decide +kernel
theorem dX12_bearers_24 : decode cX12_bearers 24 = .ok (.iload_n 3, 1) := by decide +kernel
theorem dX12_bearers_25 : decode cX12_bearers 25 = .ok (.aload_n 0, 1) := by decide +kernel
theorem dX12_bearers_26 : decode cX12_bearers 26 = .ok (.getfield 154, 3) := by decide +kernel
theorem dX12_bearers_29 : decode cX12_bearers 29 = .ok (.if_icmp .ge 28, 3) := by decide +kernel
theorem dX12_bearers_32 : decode cX12_bearers 32 = .ok (.iload_n 2, 1) := by decide +kernel
theorem dX12_bearers_33 : decode cX12_bearers 33 = .ok (.aload_n 0, 1) := by decide +kernel
theorem dX12_bearers_34 : decode cX12_bearers 34 = .ok (.iload_n 3, 1) := by decide +kernel
theorem dX12_bearers_35 : decode cX12_bearers 35 = .ok (.iload_n 1, 1) := by decide +kernel
theorem dX12_bearers_36 : decode cX12_bearers 36 = .ok (.invokevirtual 391, 3) := by decide +kernel
theorem dX12_bearers_39 : decode cX12_bearers 39 = .ok (.ifCond .eq 9, 3) := by decide +kernel
theorem dX12_bearers_42 : decode cX12_bearers 42 = .ok (.iconst 1, 1) := by decide +kernel
theorem dX12_bearers_43 : decode cX12_bearers 43 = .ok (.iload_n 3, 1) := by decide +kernel
theorem dX12_bearers_44 : decode cX12_bearers 44 = .ok (.ishl, 1) := by decide +kernel
theorem dX12_bearers_45 : decode cX12_bearers 45 = .ok (.goto 4, 3) := by decide +kernel
theorem dX12_bearers_48 : decode cX12_bearers 48 = .ok (.iconst 0, 1) := by decide +kernel
theorem dX12_bearers_49 : decode cX12_bearers 49 = .ok (.ior, 1) := by decide +kernel
theorem dX12_bearers_50 : decode cX12_bearers 50 = .ok (.istore_n 2, 1) := by decide +kernel
theorem dX12_bearers_51 : decode cX12_bearers 51 = .ok (.iinc 3 1, 3) := by decide +kernel
theorem dX12_bearers_54 : decode cX12_bearers 54 = .ok (.goto (-30), 3) := by decide +kernel
theorem dX12_bearers_57 : decode cX12_bearers 57 = .ok (.iload_n 2, 1) := by decide +kernel
theorem dX12_bearers_58 : decode cX12_bearers 58 = .ok (.ireturn, 1) := by decide +kernel
theorem dX12_rumour_0 : decode cX12_rumour 0 = .ok (.aload_n 0, 1) := by decide +kernel
theorem dX12_rumour_1 : decode cX12_rumour 1 = .ok (.iconst 0, 1) := by decide +kernel
theorem dX12_rumour_2 : decode cX12_rumour 2 = .ok (.putfield 3, 3) := by decide +kernel
theorem dX12_rumour_5 : decode cX12_rumour 5 = .ok (.aload_n 0, 1) := by decide +kernel
theorem dX12_rumour_6 : decode cX12_rumour 6 = .ok (.iload_n 1, 1) := by decide +kernel
theorem dX12_rumour_7 : decode cX12_rumour 7 = .ok (.iconst 1, 1) := by decide +kernel
theorem dX12_rumour_8 : decode cX12_rumour 8 = .ok (.invokevirtual 388, 3) := by decide +kernel
theorem dX12_rumour_11 : decode cX12_rumour 11 = .ok (.ifCond .eq 18, 3) := by decide +kernel
theorem dX12_rumour_14 : decode cX12_rumour 14 = .ok (.aload_n 0, 1) := by decide +kernel
theorem dX12_rumour_15 : decode cX12_rumour 15 = .ok (.iload_n 2, 1) := by decide +kernel
theorem dX12_rumour_16 : decode cX12_rumour 16 = .ok (.iconst 0, 1) := by decide +kernel
theorem dX12_rumour_17 : decode cX12_rumour 17 = .ok (.iconst 1, 1) := by decide +kernel
theorem dX12_rumour_18 : decode cX12_rumour 18 = .ok (.invokestatic 373, 3) := by decide +kernel
theorem dX12_rumour_21 : decode cX12_rumour 21 = .ok (.iconst 2, 1) := by decide +kernel
theorem dX12_rumour_22 : decode cX12_rumour 22 = .ok (.iconst 1, 1) := by decide +kernel
theorem dX12_rumour_23 : decode cX12_rumour 23 = .ok (.invokevirtual 192, 3) := by decide +kernel
theorem dX12_rumour_26 : decode cX12_rumour 26 = .ok (.ifCond .ne 5, 3) := by decide +kernel
theorem dX12_rumour_29 : decode cX12_rumour 29 = .ok (.iconst 0, 1) := by decide +kernel
theorem dX12_rumour_30 : decode cX12_rumour 30 = .ok (.ireturn, 1) := by decide +kernel
theorem dX12_rumour_31 : decode cX12_rumour 31 = .ok (.iconst (-1), 1) := by decide +kernel
theorem dX12_rumour_32 : decode cX12_rumour 32 = .ok (.istore_n 3, 1) := by decide +kernel
theorem dX12_rumour_33 : decode cX12_rumour 33 = .ok (.iconst (-1), 1) := by decide +kernel
theorem dX12_rumour_34 : decode cX12_rumour 34 = .ok (.istore 4, 2) := by decide +kernel
theorem dX12_rumour_36 : decode cX12_rumour 36 = .ok (.iconst 0, 1) := by decide +kernel
theorem dX12_rumour_37 : decode cX12_rumour 37 = .ok (.istore 5, 2) := by decide +kernel
theorem dX12_rumour_39 : decode cX12_rumour 39 = .ok (.iload 5, 2) := by decide +kernel
theorem dX12_rumour_41 : decode cX12_rumour 41 = .ok (.aload_n 0, 1) := by decide +kernel
theorem dX12_rumour_42 : decode cX12_rumour 42 = .ok (.getfield 154, 3) := by decide +kernel
theorem dX12_rumour_45 : decode cX12_rumour 45 = .ok (.if_icmp .ge 42, 3) := by decide +kernel
theorem dX12_rumour_48 : decode cX12_rumour 48 = .ok (.aload_n 0, 1) := by decide +kernel
theorem dX12_rumour_49 : decode cX12_rumour 49 = .ok (.getfield 59, 3) := by decide +kernel
theorem dX12_rumour_52 : decode cX12_rumour 52 = .ok (.iconst 0, 1) := by decide +kernel
theorem dX12_rumour_53 : decode cX12_rumour 53 = .ok (.bipush 12, 2) := by decide +kernel
theorem dX12_rumour_55 : decode cX12_rumour 55 = .ok (.iload 5, 2) := by decide +kernel
theorem dX12_rumour_57 : decode cX12_rumour 57 = .ok (.imul, 1) := by decide +kernel
theorem dX12_rumour_58 : decode cX12_rumour 58 = .ok (.iadd, 1) := by decide +kernel
theorem dX12_rumour_59 : decode cX12_rumour 59 = .ok (.iload_n 1, 1) := by decide +kernel
theorem dX12_rumour_60 : decode cX12_rumour 60 = .ok (.iadd, 1) := by decide +kernel
theorem dX12_rumour_61 : decode cX12_rumour 61 = .ok (.iaload, 1) := by decide +kernel
theorem dX12_rumour_62 : decode cX12_rumour 62 = .ok (.istore 6, 2) := by decide +kernel
theorem dX12_rumour_64 : decode cX12_rumour 64 = .ok (.iload 6, 2) := by decide +kernel
theorem dX12_rumour_66 : decode cX12_rumour 66 = .ok (.iload 4, 2) := by decide +kernel
theorem dX12_rumour_68 : decode cX12_rumour 68 = .ok (.if_icmp .gt 6, 3) := by decide +kernel
theorem dX12_rumour_71 : decode cX12_rumour 71 = .ok (.goto 10, 3) := by decide +kernel
theorem dX12_rumour_74 : decode cX12_rumour 74 = .ok (.iload 5, 2) := by decide +kernel
theorem dX12_rumour_76 : decode cX12_rumour 76 = .ok (.istore_n 3, 1) := by decide +kernel
theorem dX12_rumour_77 : decode cX12_rumour 77 = .ok (.iload 6, 2) := by decide +kernel
theorem dX12_rumour_79 : decode cX12_rumour 79 = .ok (.istore 4, 2) := by decide +kernel
theorem dX12_rumour_81 : decode cX12_rumour 81 = .ok (.iinc 5 1, 3) := by decide +kernel
theorem dX12_rumour_84 : decode cX12_rumour 84 = .ok (.goto (-45), 3) := by decide +kernel
theorem dX12_rumour_87 : decode cX12_rumour 87 = .ok (.iload_n 2, 1) := by decide +kernel
theorem dX12_rumour_88 : decode cX12_rumour 88 = .ok (.ifCond .ne 7, 3) := by decide +kernel
theorem dX12_rumour_91 : decode cX12_rumour 91 = .ok (.iload_n 3, 1) := by decide +kernel
theorem dX12_rumour_92 : decode cX12_rumour 92 = .ok (.goto 5, 3) := by decide +kernel
theorem dX12_rumour_95 : decode cX12_rumour 95 = .ok (.iload 4, 2) := by decide +kernel
theorem dX12_rumour_97 : decode cX12_rumour 97 = .ok (.ireturn, 1) := by decide +kernel
theorem dX12_lied_0 : decode cX12_lied 0 = .ok (.aload_n 0, 1) := by decide +kernel
theorem dX12_lied_1 : decode cX12_lied 1 = .ok (.iconst 0, 1) := by decide +kernel
theorem dX12_lied_2 : decode cX12_lied 2 = .ok (.putfield 3, 3) := by decide +kernel
theorem dX12_lied_5 : decode cX12_lied 5 = .ok (.aload_n 0, 1) := by decide +kernel
theorem dX12_lied_6 : decode cX12_lied 6 = .ok (.iload_n 1, 1) := by decide +kernel
theorem dX12_lied_7 : decode cX12_lied 7 = .ok (.iconst 0, 1) := by decide +kernel
theorem dX12_lied_8 : decode cX12_lied 8 = .ok (.bipush 9, 2) := by decide +kernel
theorem dX12_lied_10 : decode cX12_lied 10 = .ok (.invokestatic 373, 3) := by decide +kernel
theorem dX12_lied_13 : decode cX12_lied 13 = .ok (.ifCond .eq 16, 3) := by decide +kernel
theorem dX12_lied_16 : decode cX12_lied 16 = .ok (.iload_n 2, 1) := by decide +kernel
theorem dX12_lied_17 : decode cX12_lied 17 = .ok (.iconst 0, 1) := by decide +kernel
theorem dX12_lied_18 : decode cX12_lied 18 = .ok (.iconst 1, 1) := by decide +kernel
theorem dX12_lied_19 : decode cX12_lied 19 = .ok (.invokestatic 373, 3) := by decide +kernel
theorem dX12_lied_22 : decode cX12_lied 22 = .ok (.ifCond .eq 7, 3) := by decide +kernel
theorem dX12_lied_25 : decode cX12_lied 25 = .ok (.iconst 1, 1) := by decide +kernel
theorem dX12_lied_26 : decode cX12_lied 26 = .ok (.goto 4, 3) := by decide +kernel
theorem dX12_lied_29 : decode cX12_lied 29 = .ok (.iconst 0, 1) := by decide +kernel
theorem dX12_lied_30 : decode cX12_lied 30 = .ok (.iconst 1, 1) := by decide +kernel
theorem dX12_lied_31 : decode cX12_lied 31 = .ok (.iconst 1, 1) := by decide +kernel
theorem dX12_lied_32 : decode cX12_lied 32 = .ok (.invokevirtual 192, 3) := by decide +kernel
theorem dX12_lied_35 : decode cX12_lied 35 = .ok (.ifCond .ne 5, 3) := by decide +kernel
theorem dX12_lied_38 : decode cX12_lied 38 = .ok (.iconst 0, 1) := by decide +kernel
theorem dX12_lied_39 : decode cX12_lied 39 = .ok (.ireturn, 1) := by decide +kernel
theorem dX12_lied_40 : decode cX12_lied 40 = .ok (.iconst 0, 1) := by decide +kernel
theorem dX12_lied_41 : decode cX12_lied 41 = .ok (.istore_n 3, 1) := by decide +kernel
theorem dX12_lied_42 : decode cX12_lied 42 = .ok (.iconst 0, 1) := by decide +kernel
theorem dX12_lied_43 : decode cX12_lied 43 = .ok (.istore 4, 2) := by decide +kernel
theorem dX12_lied_45 : decode cX12_lied 45 = .ok (.iload 4, 2) := by decide +kernel
theorem dX12_lied_47 : decode cX12_lied 47 = .ok (.aload_n 0, 1) := by decide +kernel
theorem dX12_lied_48 : decode cX12_lied 48 = .ok (.getfield 157, 3) := by decide +kernel
theorem dX12_lied_51 : decode cX12_lied 51 = .ok (.if_icmp .ge 57, 3) := by decide +kernel
theorem dX12_lied_54 : decode cX12_lied 54 = .ok (.iload_n 3, 1) := by decide +kernel
theorem dX12_lied_55 : decode cX12_lied 55 = .ok (.aload_n 0, 1) := by decide +kernel
theorem dX12_lied_56 : decode cX12_lied 56 = .ok (.getfield 32, 3) := by decide +kernel
theorem dX12_lied_59 : decode cX12_lied 59 = .ok (.iconst 2, 1) := by decide +kernel
theorem dX12_lied_60 : decode cX12_lied 60 = .ok (.iload 4, 2) := by decide +kernel
theorem dX12_lied_62 : decode cX12_lied 62 = .ok (.imul, 1) := by decide +kernel
theorem dX12_lied_63 : decode cX12_lied 63 = .ok (.iconst 1, 1) := by decide +kernel
theorem dX12_lied_64 : decode cX12_lied 64 = .ok (.iadd, 1) := by decide +kernel
theorem dX12_lied_65 : decode cX12_lied 65 = .ok (.iaload, 1) := by decide +kernel
theorem dX12_lied_66 : decode cX12_lied 66 = .ok (.iload_n 1, 1) := by decide +kernel
theorem dX12_lied_67 : decode cX12_lied 67 = .ok (.if_icmp .lt 32, 3) := by decide +kernel
theorem dX12_lied_70 : decode cX12_lied 70 = .ok (.aload_n 0, 1) := by decide +kernel
theorem dX12_lied_71 : decode cX12_lied 71 = .ok (.getfield 59, 3) := by decide +kernel
theorem dX12_lied_74 : decode cX12_lied 74 = .ok (.bipush 112, 2) := by decide +kernel
theorem dX12_lied_76 : decode cX12_lied 76 = .ok (.iload 4, 2) := by decide +kernel
theorem dX12_lied_78 : decode cX12_lied 78 = .ok (.iadd, 1) := by decide +kernel
theorem dX12_lied_79 : decode cX12_lied 79 = .ok (.iaload, 1) := by decide +kernel
theorem dX12_lied_80 : decode cX12_lied 80 = .ok (.ifCond .le 7, 3) := by decide +kernel
theorem dX12_lied_83 : decode cX12_lied 83 = .ok (.iconst 0, 1) := by decide +kernel
theorem dX12_lied_84 : decode cX12_lied 84 = .ok (.goto 4, 3) := by decide +kernel
theorem dX12_lied_87 : decode cX12_lied 87 = .ok (.iconst 1, 1) := by decide +kernel
theorem dX12_lied_88 : decode cX12_lied 88 = .ok (.iload_n 2, 1) := by decide +kernel
theorem dX12_lied_89 : decode cX12_lied 89 = .ok (.if_icmp .ne 10, 3) := by decide +kernel
theorem dX12_lied_92 : decode cX12_lied 92 = .ok (.iconst 1, 1) := by decide +kernel
theorem dX12_lied_93 : decode cX12_lied 93 = .ok (.iload 4, 2) := by decide +kernel
theorem dX12_lied_95 : decode cX12_lied 95 = .ok (.ishl, 1) := by decide +kernel
theorem dX12_lied_96 : decode cX12_lied 96 = .ok (.goto 4, 3) := by decide +kernel
theorem dX12_lied_99 : decode cX12_lied 99 = .ok (.iconst 0, 1) := by decide +kernel
theorem dX12_lied_100 : decode cX12_lied 100 = .ok (.ior, 1) := by decide +kernel
theorem dX12_lied_101 : decode cX12_lied 101 = .ok (.istore_n 3, 1) := by decide +kernel
theorem dX12_lied_102 : decode cX12_lied 102 = .ok (.iinc 4 1, 3) := by decide +kernel
theorem dX12_lied_105 : decode cX12_lied 105 = .ok (.goto (-60), 3) := by decide +kernel
theorem dX12_lied_108 : decode cX12_lied 108 = .ok (.iload_n 3, 1) := by decide +kernel
theorem dX12_lied_109 : decode cX12_lied 109 = .ok (.ireturn, 1) := by decide +kernel
theorem dX12_draws_0 : decode cX12_draws 0 = .ok (.aload_n 0, 1) := by decide +kernel
theorem dX12_draws_1 : decode cX12_draws 1 = .ok (.aload_n 0, 1) := by decide +kernel
theorem dX12_draws_2 : decode cX12_draws 2 = .ok (.getfield 446, 3) := by decide +kernel
theorem dX12_draws_5 : decode cX12_draws 5 = .ok (.ldc_w 449, 3) := by decide +kernel
theorem dX12_draws_8 : decode cX12_draws 8 = .ok (.imul, 1) := by decide +kernel
theorem dX12_draws_9 : decode cX12_draws 9 = .ok (.sipush 12345, 3) := by decide +kernel
theorem dX12_draws_12 : decode cX12_draws 12 = .ok (.iadd, 1) := by decide +kernel
theorem dX12_draws_13 : decode cX12_draws 13 = .ok (.putfield 446, 3) := by decide +kernel
theorem dX12_draws_16 : decode cX12_draws 16 = .ok (.aload_n 0, 1) := by decide +kernel
theorem dX12_draws_17 : decode cX12_draws 17 = .ok (.getfield 446, 3) := by decide +kernel
theorem dX12_draws_20 : decode cX12_draws 20 = .ok (.bipush 16, 2) := by decide +kernel
theorem dX12_draws_22 : decode cX12_draws 22 = .ok (.ishr, 1) := by decide +kernel
theorem dX12_draws_23 : decode cX12_draws 23 = .ok (.sipush 32767, 3) := by decide +kernel
theorem dX12_draws_26 : decode cX12_draws 26 = .ok (.iand, 1) := by decide +kernel
theorem dX12_draws_27 : decode cX12_draws 27 = .ok (.iload_n 1, 1) := by decide +kernel
theorem dX12_draws_28 : decode cX12_draws 28 = .ok (.irem, 1) := by decide +kernel
theorem dX12_draws_29 : decode cX12_draws 29 = .ok (.ireturn, 1) := by decide +kernel
theorem dX12_reignGoes_0 : decode cX12_reignGoes 0 = .ok (.aload_n 0, 1) := by decide +kernel
theorem dX12_reignGoes_1 : decode cX12_reignGoes 1 = .ok (.invokevirtual 310, 3) := by decide +kernel
theorem dX12_reignGoes_4 : decode cX12_reignGoes 4 = .ok (.aload_n 0, 1) := by decide +kernel
theorem dX12_reignGoes_5 : decode cX12_reignGoes 5 = .ok (.iload_n 1, 1) := by decide +kernel
theorem dX12_reignGoes_6 : decode cX12_reignGoes 6 = .ok (.putfield 446, 3) := by decide +kernel
theorem dX12_reignGoes_9 : decode cX12_reignGoes 9 = .ok (.iconst 0, 1) := by decide +kernel
theorem dX12_reignGoes_10 : decode cX12_reignGoes 10 = .ok (.istore 4, 2) := by decide +kernel
theorem dX12_reignGoes_12 : decode cX12_reignGoes 12 = .ok (.iload 4, 2) := by decide +kernel
theorem dX12_reignGoes_14 : decode cX12_reignGoes 14 = .ok (.iconst 2, 1) := by decide +kernel
theorem dX12_reignGoes_15 : decode cX12_reignGoes 15 = .ok (.iload_n 3, 1) := by decide +kernel
theorem dX12_reignGoes_16 : decode cX12_reignGoes 16 = .ok (.imul, 1) := by decide +kernel
theorem dX12_reignGoes_17 : decode cX12_reignGoes 17 = .ok (.if_icmp .ge 108, 3) := by decide +kernel
theorem dX12_reignGoes_20 : decode cX12_reignGoes 20 = .ok (.aload_n 0, 1) := by decide +kernel
theorem dX12_reignGoes_21 : decode cX12_reignGoes 21 = .ok (.getfield 154, 3) := by decide +kernel
theorem dX12_reignGoes_24 : decode cX12_reignGoes 24 = .ok (.ifCond .le 83, 3) := by decide +kernel
theorem dX12_reignGoes_27 : decode cX12_reignGoes 27 = .ok (.aload_n 0, 1) := by decide +kernel
theorem dX12_reignGoes_28 : decode cX12_reignGoes 28 = .ok (.getfield 157, 3) := by decide +kernel
theorem dX12_reignGoes_31 : decode cX12_reignGoes 31 = .ok (.ifCond .le 76, 3) := by decide +kernel
theorem dX12_reignGoes_34 : decode cX12_reignGoes 34 = .ok (.aload_n 0, 1) := by decide +kernel
theorem dX12_reignGoes_35 : decode cX12_reignGoes 35 = .ok (.aload_n 0, 1) := by decide +kernel
theorem dX12_reignGoes_36 : decode cX12_reignGoes 36 = .ok (.getfield 154, 3) := by decide +kernel
theorem dX12_reignGoes_39 : decode cX12_reignGoes 39 = .ok (.invokevirtual 450, 3) := by decide +kernel
theorem dX12_reignGoes_42 : decode cX12_reignGoes 42 = .ok (.istore 5, 2) := by decide +kernel
theorem dX12_reignGoes_44 : decode cX12_reignGoes 44 = .ok (.aload_n 0, 1) := by decide +kernel
theorem dX12_reignGoes_45 : decode cX12_reignGoes 45 = .ok (.aload_n 0, 1) := by decide +kernel
theorem dX12_reignGoes_46 : decode cX12_reignGoes 46 = .ok (.getfield 157, 3) := by decide +kernel
theorem dX12_reignGoes_49 : decode cX12_reignGoes 49 = .ok (.invokevirtual 450, 3) := by decide +kernel
theorem dX12_reignGoes_52 : decode cX12_reignGoes 52 = .ok (.istore 6, 2) := by decide +kernel
theorem dX12_reignGoes_54 : decode cX12_reignGoes 54 = .ok (.aload_n 0, 1) := by decide +kernel
theorem dX12_reignGoes_55 : decode cX12_reignGoes 55 = .ok (.iload 5, 2) := by decide +kernel
theorem dX12_reignGoes_57 : decode cX12_reignGoes 57 = .ok (.iload 6, 2) := by decide +kernel
theorem dX12_reignGoes_59 : decode cX12_reignGoes 59 = .ok (.invokevirtual 354, 3) := by decide +kernel
theorem dX12_reignGoes_62 : decode cX12_reignGoes 62 = .ok (.ifCond .ne 10, 3) := by decide +kernel
theorem dX12_reignGoes_65 : decode cX12_reignGoes 65 = .ok (.aload_n 0, 1) := by decide +kernel
theorem dX12_reignGoes_66 : decode cX12_reignGoes 66 = .ok (.iload 5, 2) := by decide +kernel
theorem dX12_reignGoes_68 : decode cX12_reignGoes 68 = .ok (.invokevirtual 364, 3) := by decide +kernel
theorem dX12_reignGoes_71 : decode cX12_reignGoes 71 = .ok (.pop, 1) := by decide +kernel
theorem dX12_reignGoes_72 : decode cX12_reignGoes 72 = .ok (.aload_n 0, 1) := by decide +kernel
theorem dX12_reignGoes_73 : decode cX12_reignGoes 73 = .ok (.bipush 16, 2) := by decide +kernel
theorem dX12_reignGoes_75 : decode cX12_reignGoes 75 = .ok (.invokevirtual 450, 3) := by decide +kernel
theorem dX12_reignGoes_78 : decode cX12_reignGoes 78 = .ok (.iload_n 2, 1) := by decide +kernel
theorem dX12_reignGoes_79 : decode cX12_reignGoes 79 = .ok (.if_icmp .ge 28, 3) := by decide +kernel
theorem dX12_reignGoes_82 : decode cX12_reignGoes 82 = .ok (.aload_n 0, 1) := by decide +kernel
theorem dX12_reignGoes_83 : decode cX12_reignGoes 83 = .ok (.aload_n 0, 1) := by decide +kernel
theorem dX12_reignGoes_84 : decode cX12_reignGoes 84 = .ok (.getfield 154, 3) := by decide +kernel
theorem dX12_reignGoes_87 : decode cX12_reignGoes 87 = .ok (.invokevirtual 450, 3) := by decide +kernel
theorem dX12_reignGoes_90 : decode cX12_reignGoes 90 = .ok (.istore 7, 2) := by decide +kernel
theorem dX12_reignGoes_92 : decode cX12_reignGoes 92 = .ok (.aload_n 0, 1) := by decide +kernel
theorem dX12_reignGoes_93 : decode cX12_reignGoes 93 = .ok (.iload 7, 2) := by decide +kernel
theorem dX12_reignGoes_95 : decode cX12_reignGoes 95 = .ok (.aload_n 0, 1) := by decide +kernel
theorem dX12_reignGoes_96 : decode cX12_reignGoes 96 = .ok (.aload_n 0, 1) := by decide +kernel
theorem dX12_reignGoes_97 : decode cX12_reignGoes 97 = .ok (.getfield 154, 3) := by decide +kernel
theorem dX12_reignGoes_100 : decode cX12_reignGoes 100 = .ok (.invokevirtual 450, 3) := by decide +kernel
theorem dX12_reignGoes_103 : decode cX12_reignGoes 103 = .ok (.invokevirtual 358, 3) := by decide +kernel
theorem dX12_reignGoes_106 : decode cX12_reignGoes 106 = .ok (.pop, 1) := by decide +kernel
theorem dX12_reignGoes_107 : decode cX12_reignGoes 107 = .ok (.iload 4, 2) := by decide +kernel
theorem dX12_reignGoes_109 : decode cX12_reignGoes 109 = .ok (.iconst 2, 1) := by decide +kernel
theorem dX12_reignGoes_110 : decode cX12_reignGoes 110 = .ok (.irem, 1) := by decide +kernel
theorem dX12_reignGoes_111 : decode cX12_reignGoes 111 = .ok (.iconst 1, 1) := by decide +kernel
theorem dX12_reignGoes_112 : decode cX12_reignGoes 112 = .ok (.if_icmp .ne 7, 3) := by decide +kernel
theorem dX12_reignGoes_115 : decode cX12_reignGoes 115 = .ok (.aload_n 0, 1) := by decide +kernel
theorem dX12_reignGoes_116 : decode cX12_reignGoes 116 = .ok (.invokevirtual 367, 3) := by decide +kernel
theorem dX12_reignGoes_119 : decode cX12_reignGoes 119 = .ok (.iinc 4 1, 3) := by decide +kernel
theorem dX12_reignGoes_122 : decode cX12_reignGoes 122 = .ok (.goto (-110), 3) := by decide +kernel
theorem dX12_reignGoes_125 : decode cX12_reignGoes 125 = .ok (.return_, 1) := by decide +kernel
theorem dX12_isReign_0 : decode cX12_isReign 0 = .ok (.iload_n 0, 1) := by decide +kernel
theorem dX12_isReign_1 : decode cX12_isReign 1 = .ok (.ifCond .lt 24, 3) := by decide +kernel
theorem dX12_isReign_4 : decode cX12_isReign 4 = .ok (.iload_n 0, 1) := by decide +kernel
theorem dX12_isReign_5 : decode cX12_isReign 5 = .ok (.bipush 16, 2) := by decide +kernel
theorem dX12_isReign_7 : decode cX12_isReign 7 = .ok (.if_icmp .gt 18, 3) := by decide +kernel
theorem dX12_isReign_10 : decode cX12_isReign 10 = .ok (.iload_n 1, 1) := by decide +kernel
theorem dX12_isReign_11 : decode cX12_isReign 11 = .ok (.iconst 1, 1) := by decide +kernel
theorem dX12_isReign_12 : decode cX12_isReign 12 = .ok (.if_icmp .lt 13, 3) := by decide +kernel
theorem dX12_isReign_15 : decode cX12_isReign 15 = .ok (.iload_n 1, 1) := by decide +kernel
theorem dX12_isReign_16 : decode cX12_isReign 16 = .ok (.bipush 48, 2) := by decide +kernel
theorem dX12_isReign_18 : decode cX12_isReign 18 = .ok (.if_icmp .gt 7, 3) := by decide +kernel
theorem dX12_isReign_21 : decode cX12_isReign 21 = .ok (.iconst 1, 1) := by decide +kernel
theorem dX12_isReign_22 : decode cX12_isReign 22 = .ok (.goto 4, 3) := by decide +kernel
theorem dX12_isReign_25 : decode cX12_isReign 25 = .ok (.iconst 0, 1) := by decide +kernel
theorem dX12_isReign_26 : decode cX12_isReign 26 = .ok (.ireturn, 1) := by decide +kernel
theorem dX12_borneMore_0 : decode cX12_borneMore 0 = .ok (.iconst 0, 1) := by decide +kernel
theorem dX12_borneMore_1 : decode cX12_borneMore 1 = .ok (.istore_n 1, 1) := by decide +kernel
theorem dX12_borneMore_2 : decode cX12_borneMore 2 = .ok (.iconst 0, 1) := by decide +kernel
theorem dX12_borneMore_3 : decode cX12_borneMore 3 = .ok (.istore_n 2, 1) := by decide +kernel
theorem dX12_borneMore_4 : decode cX12_borneMore 4 = .ok (.iload_n 2, 1) := by decide +kernel
theorem dX12_borneMore_5 : decode cX12_borneMore 5 = .ok (.aload_n 0, 1) := by decide +kernel
theorem dX12_borneMore_6 : decode cX12_borneMore 6 = .ok (.getfield 157, 3) := by decide +kernel
theorem dX12_borneMore_9 : decode cX12_borneMore 9 = .ok (.if_icmp .ge 31, 3) := by decide +kernel
theorem dX12_borneMore_12 : decode cX12_borneMore 12 = .ok (.iload_n 1, 1) := by decide +kernel
theorem dX12_borneMore_13 : decode cX12_borneMore 13 = .ok (.aload_n 0, 1) := by decide +kernel
theorem dX12_borneMore_14 : decode cX12_borneMore 14 = .ok (.getfield 62, 3) := by decide +kernel
theorem dX12_borneMore_17 : decode cX12_borneMore 17 = .ok (.bipush 112, 2) := by decide +kernel
theorem dX12_borneMore_19 : decode cX12_borneMore 19 = .ok (.iload_n 2, 1) := by decide +kernel
theorem dX12_borneMore_20 : decode cX12_borneMore 20 = .ok (.iadd, 1) := by decide +kernel
theorem dX12_borneMore_21 : decode cX12_borneMore 21 = .ok (.iaload, 1) := by decide +kernel
theorem dX12_borneMore_22 : decode cX12_borneMore 22 = .ok (.aload_n 0, 1) := by decide +kernel
theorem dX12_borneMore_23 : decode cX12_borneMore 23 = .ok (.getfield 59, 3) := by decide +kernel
theorem dX12_borneMore_26 : decode cX12_borneMore 26 = .ok (.bipush 112, 2) := by decide +kernel
theorem dX12_borneMore_28 : decode cX12_borneMore 28 = .ok (.iload_n 2, 1) := by decide +kernel
theorem dX12_borneMore_29 : decode cX12_borneMore 29 = .ok (.iadd, 1) := by decide +kernel
theorem dX12_borneMore_30 : decode cX12_borneMore 30 = .ok (.iaload, 1) := by decide +kernel
theorem dX12_borneMore_31 : decode cX12_borneMore 31 = .ok (.isub, 1) := by decide +kernel
theorem dX12_borneMore_32 : decode cX12_borneMore 32 = .ok (.iadd, 1) := by decide +kernel
theorem dX12_borneMore_33 : decode cX12_borneMore 33 = .ok (.istore_n 1, 1) := by decide +kernel
theorem dX12_borneMore_34 : decode cX12_borneMore 34 = .ok (.iinc 2 1, 3) := by decide +kernel
theorem dX12_borneMore_37 : decode cX12_borneMore 37 = .ok (.goto (-33), 3) := by decide +kernel
theorem dX12_borneMore_40 : decode cX12_borneMore 40 = .ok (.iload_n 1, 1) := by decide +kernel
theorem dX12_borneMore_41 : decode cX12_borneMore 41 = .ok (.ireturn, 1) := by decide +kernel
theorem dX12_reign_0 : decode cX12_reign 0 = .ok (.aload_n 0, 1) := by decide +kernel
theorem dX12_reign_1 : decode cX12_reign 1 = .ok (.iconst 0, 1) := by decide +kernel
theorem dX12_reign_2 : decode cX12_reign 2 = .ok (.putfield 3, 3) := by decide +kernel
theorem dX12_reign_5 : decode cX12_reign 5 = .ok (.aload_n 0, 1) := by decide +kernel
theorem dX12_reign_6 : decode cX12_reign 6 = .ok (.iload_n 2, 1) := by decide +kernel
theorem dX12_reign_7 : decode cX12_reign 7 = .ok (.iload_n 3, 1) := by decide +kernel
theorem dX12_reign_8 : decode cX12_reign 8 = .ok (.invokestatic 453, 3) := by decide +kernel
theorem dX12_reign_11 : decode cX12_reign 11 = .ok (.ifCond .eq 17, 3) := by decide +kernel
theorem dX12_reign_14 : decode cX12_reign 14 = .ok (.iload 4, 2) := by decide +kernel
theorem dX12_reign_16 : decode cX12_reign 16 = .ok (.iconst 0, 1) := by decide +kernel
theorem dX12_reign_17 : decode cX12_reign 17 = .ok (.iconst 3, 1) := by decide +kernel
theorem dX12_reign_18 : decode cX12_reign 18 = .ok (.invokestatic 373, 3) := by decide +kernel
theorem dX12_reign_21 : decode cX12_reign 21 = .ok (.ifCond .eq 7, 3) := by decide +kernel
theorem dX12_reign_24 : decode cX12_reign 24 = .ok (.iconst 1, 1) := by decide +kernel
theorem dX12_reign_25 : decode cX12_reign 25 = .ok (.goto 4, 3) := by decide +kernel
theorem dX12_reign_28 : decode cX12_reign 28 = .ok (.iconst 0, 1) := by decide +kernel
theorem dX12_reign_29 : decode cX12_reign 29 = .ok (.iconst 1, 1) := by decide +kernel
theorem dX12_reign_30 : decode cX12_reign 30 = .ok (.iconst 1, 1) := by decide +kernel
theorem dX12_reign_31 : decode cX12_reign 31 = .ok (.invokevirtual 192, 3) := by decide +kernel
theorem dX12_reign_34 : decode cX12_reign 34 = .ok (.ifCond .ne 5, 3) := by decide +kernel
theorem dX12_reign_37 : decode cX12_reign 37 = .ok (.iconst 0, 1) := by decide +kernel
theorem dX12_reign_38 : decode cX12_reign 38 = .ok (.ireturn, 1) := by decide +kernel
theorem dX12_reign_39 : decode cX12_reign 39 = .ok (.aload_n 0, 1) := by decide +kernel
theorem dX12_reign_40 : decode cX12_reign 40 = .ok (.iload_n 1, 1) := by decide +kernel
theorem dX12_reign_41 : decode cX12_reign 41 = .ok (.iload_n 2, 1) := by decide +kernel
theorem dX12_reign_42 : decode cX12_reign 42 = .ok (.iload_n 3, 1) := by decide +kernel
theorem dX12_reign_43 : decode cX12_reign 43 = .ok (.invokevirtual 456, 3) := by decide +kernel
theorem dX12_reign_46 : decode cX12_reign 46 = .ok (.iload 4, 2) := by decide +kernel
theorem dX12_reign_48 : decode cX12_reign 48 = .ok (.ifCond .ne 10, 3) := by decide +kernel
theorem dX12_reign_51 : decode cX12_reign 51 = .ok (.aload_n 0, 1) := by decide +kernel
theorem dX12_reign_52 : decode cX12_reign 52 = .ok (.invokevirtual 459, 3) := by decide +kernel
theorem dX12_reign_55 : decode cX12_reign 55 = .ok (.goto 41, 3) := by decide +kernel
theorem dX12_reign_58 : decode cX12_reign 58 = .ok (.iload 4, 2) := by decide +kernel
theorem dX12_reign_60 : decode cX12_reign 60 = .ok (.iconst 1, 1) := by decide +kernel
theorem dX12_reign_61 : decode cX12_reign 61 = .ok (.if_icmp .ne 12, 3) := by decide +kernel
theorem dX12_reign_64 : decode cX12_reign 64 = .ok (.aload_n 0, 1) := by decide +kernel
theorem dX12_reign_65 : decode cX12_reign 65 = .ok (.bipush 91, 2) := by decide +kernel
theorem dX12_reign_67 : decode cX12_reign 67 = .ok (.invokevirtual 370, 3) := by decide +kernel
theorem dX12_reign_70 : decode cX12_reign 70 = .ok (.goto 26, 3) := by decide +kernel
theorem dX12_reign_73 : decode cX12_reign 73 = .ok (.iload 4, 2) := by decide +kernel
theorem dX12_reign_75 : decode cX12_reign 75 = .ok (.iconst 2, 1) := by decide +kernel
theorem dX12_reign_76 : decode cX12_reign 76 = .ok (.if_icmp .ne 16, 3) := by decide +kernel
theorem dX12_reign_79 : decode cX12_reign 79 = .ok (.aload_n 0, 1) := by decide +kernel
theorem dX12_reign_80 : decode cX12_reign 80 = .ok (.bipush 84, 2) := by decide +kernel
theorem dX12_reign_82 : decode cX12_reign 82 = .ok (.aload_n 0, 1) := by decide +kernel
theorem dX12_reign_83 : decode cX12_reign 83 = .ok (.getfield 154, 3) := by decide +kernel
theorem dX12_reign_86 : decode cX12_reign 86 = .ok (.invokevirtual 376, 3) := by decide +kernel
theorem dX12_reign_89 : decode cX12_reign 89 = .ok (.goto 7, 3) := by decide +kernel
theorem dX12_reign_92 : decode cX12_reign 92 = .ok (.aload_n 0, 1) := by decide +kernel
theorem dX12_reign_93 : decode cX12_reign 93 = .ok (.invokevirtual 379, 3) := by decide +kernel
theorem dX12_reign_96 : decode cX12_reign 96 = .ok (.ireturn, 1) := by decide +kernel
theorem dX12_span_0 : decode cX12_span 0 = .ok (.aload_n 0, 1) := by decide +kernel
theorem dX12_span_1 : decode cX12_span 1 = .ok (.iconst 0, 1) := by decide +kernel
theorem dX12_span_2 : decode cX12_span 2 = .ok (.putfield 3, 3) := by decide +kernel
theorem dX12_span_5 : decode cX12_span 5 = .ok (.aload_n 0, 1) := by decide +kernel
theorem dX12_span_6 : decode cX12_span 6 = .ok (.iload_n 2, 1) := by decide +kernel
theorem dX12_span_7 : decode cX12_span 7 = .ok (.iconst 1, 1) := by decide +kernel
theorem dX12_span_8 : decode cX12_span 8 = .ok (.bipush 10, 2) := by decide +kernel
theorem dX12_span_10 : decode cX12_span 10 = .ok (.invokestatic 373, 3) := by decide +kernel
theorem dX12_span_13 : decode cX12_span 13 = .ok (.ifCond .eq 41, 3) := by decide +kernel
theorem dX12_span_16 : decode cX12_span 16 = .ok (.iload_n 3, 1) := by decide +kernel
theorem dX12_span_17 : decode cX12_span 17 = .ok (.iload 4, 2) := by decide +kernel
theorem dX12_span_19 : decode cX12_span 19 = .ok (.invokestatic 453, 3) := by decide +kernel
theorem dX12_span_22 : decode cX12_span 22 = .ok (.ifCond .eq 32, 3) := by decide +kernel
theorem dX12_span_25 : decode cX12_span 25 = .ok (.iload 5, 2) := by decide +kernel
theorem dX12_span_27 : decode cX12_span 27 = .ok (.iconst 0, 1) := by decide +kernel
theorem dX12_span_28 : decode cX12_span 28 = .ok (.iconst 2, 1) := by decide +kernel
theorem dX12_span_29 : decode cX12_span 29 = .ok (.invokestatic 373, 3) := by decide +kernel
theorem dX12_span_32 : decode cX12_span 32 = .ok (.ifCond .eq 22, 3) := by decide +kernel
theorem dX12_span_35 : decode cX12_span 35 = .ok (.iload 6, 2) := by decide +kernel
theorem dX12_span_37 : decode cX12_span 37 = .ok (.iconst 0, 1) := by decide +kernel
theorem dX12_span_38 : decode cX12_span 38 = .ok (.aload_n 0, 1) := by decide +kernel
theorem dX12_span_39 : decode cX12_span 39 = .ok (.getfield 154, 3) := by decide +kernel
theorem dX12_span_42 : decode cX12_span 42 = .ok (.iconst 1, 1) := by decide +kernel
theorem dX12_span_43 : decode cX12_span 43 = .ok (.isub, 1) := by decide +kernel
theorem dX12_span_44 : decode cX12_span 44 = .ok (.invokestatic 373, 3) := by decide +kernel
theorem dX12_span_47 : decode cX12_span 47 = .ok (.ifCond .eq 7, 3) := by decide +kernel
theorem dX12_span_50 : decode cX12_span 50 = .ok (.iconst 1, 1) := by decide +kernel
theorem dX12_span_51 : decode cX12_span 51 = .ok (.goto 4, 3) := by decide +kernel
theorem dX12_span_54 : decode cX12_span 54 = .ok (.iconst 0, 1) := by decide +kernel
theorem dX12_span_55 : decode cX12_span 55 = .ok (.iconst 1, 1) := by decide +kernel
theorem dX12_span_56 : decode cX12_span 56 = .ok (.iconst 1, 1) := by decide +kernel
theorem dX12_span_57 : decode cX12_span 57 = .ok (.invokevirtual 192, 3) := by decide +kernel
theorem dX12_span_60 : decode cX12_span 60 = .ok (.ifCond .ne 5, 3) := by decide +kernel
theorem dX12_span_63 : decode cX12_span 63 = .ok (.iconst 0, 1) := by decide +kernel
theorem dX12_span_64 : decode cX12_span 64 = .ok (.ireturn, 1) := by decide +kernel
theorem dX12_span_65 : decode cX12_span 65 = .ok (.iconst (-1), 1) := by decide +kernel
theorem dX12_span_66 : decode cX12_span 66 = .ok (.istore 7, 2) := by decide +kernel
theorem dX12_span_68 : decode cX12_span 68 = .ok (.iconst 0, 1) := by decide +kernel
theorem dX12_span_69 : decode cX12_span 69 = .ok (.istore 8, 2) := by decide +kernel
theorem dX12_span_71 : decode cX12_span 71 = .ok (.iconst 0, 1) := by decide +kernel
theorem dX12_span_72 : decode cX12_span 72 = .ok (.istore 9, 2) := by decide +kernel
theorem dX12_span_74 : decode cX12_span 74 = .ok (.iconst 0, 1) := by decide +kernel
theorem dX12_span_75 : decode cX12_span 75 = .ok (.istore 10, 2) := by decide +kernel
theorem dX12_span_77 : decode cX12_span 77 = .ok (.iload 10, 2) := by decide +kernel
theorem dX12_span_79 : decode cX12_span 79 = .ok (.iload_n 2, 1) := by decide +kernel
theorem dX12_span_80 : decode cX12_span 80 = .ok (.if_icmp .ge 79, 3) := by decide +kernel
theorem dX12_span_83 : decode cX12_span 83 = .ok (.aload_n 0, 1) := by decide +kernel
theorem dX12_span_84 : decode cX12_span 84 = .ok (.iload_n 1, 1) := by decide +kernel
theorem dX12_span_85 : decode cX12_span 85 = .ok (.iload 10, 2) := by decide +kernel
theorem dX12_span_87 : decode cX12_span 87 = .ok (.iadd, 1) := by decide +kernel
theorem dX12_span_88 : decode cX12_span 88 = .ok (.iload_n 3, 1) := by decide +kernel
theorem dX12_span_89 : decode cX12_span 89 = .ok (.iload 4, 2) := by decide +kernel
theorem dX12_span_91 : decode cX12_span 91 = .ok (.invokevirtual 456, 3) := by decide +kernel
theorem dX12_span_94 : decode cX12_span 94 = .ok (.aload_n 0, 1) := by decide +kernel
theorem dX12_span_95 : decode cX12_span 95 = .ok (.invokevirtual 459, 3) := by decide +kernel
theorem dX12_span_98 : decode cX12_span 98 = .ok (.istore 11, 2) := by decide +kernel
theorem dX12_span_100 : decode cX12_span 100 = .ok (.iload 7, 2) := by decide +kernel
theorem dX12_span_102 : decode cX12_span 102 = .ok (.iconst (-1), 1) := by decide +kernel
theorem dX12_span_103 : decode cX12_span 103 = .ok (.if_icmp .eq 10, 3) := by decide +kernel
theorem dX12_span_106 : decode cX12_span 106 = .ok (.iload 11, 2) := by decide +kernel
theorem dX12_span_108 : decode cX12_span 108 = .ok (.iload 7, 2) := by decide +kernel
theorem dX12_span_110 : decode cX12_span 110 = .ok (.if_icmp .ge 8, 3) := by decide +kernel
theorem dX12_span_113 : decode cX12_span 113 = .ok (.iload 11, 2) := by decide +kernel
theorem dX12_span_115 : decode cX12_span 115 = .ok (.goto 5, 3) := by decide +kernel
theorem dX12_span_118 : decode cX12_span 118 = .ok (.iload 7, 2) := by decide +kernel
theorem dX12_span_120 : decode cX12_span 120 = .ok (.istore 7, 2) := by decide +kernel
theorem dX12_span_122 : decode cX12_span 122 = .ok (.iload 11, 2) := by decide +kernel
theorem dX12_span_124 : decode cX12_span 124 = .ok (.iload 8, 2) := by decide +kernel
theorem dX12_span_126 : decode cX12_span 126 = .ok (.if_icmp .le 8, 3) := by decide +kernel
theorem dX12_span_129 : decode cX12_span 129 = .ok (.iload 11, 2) := by decide +kernel
theorem dX12_span_131 : decode cX12_span 131 = .ok (.goto 5, 3) := by decide +kernel
theorem dX12_span_134 : decode cX12_span 134 = .ok (.iload 8, 2) := by decide +kernel
theorem dX12_span_136 : decode cX12_span 136 = .ok (.istore 8, 2) := by decide +kernel
theorem dX12_span_138 : decode cX12_span 138 = .ok (.iload 9, 2) := by decide +kernel
theorem dX12_span_140 : decode cX12_span 140 = .ok (.aload_n 0, 1) := by decide +kernel
theorem dX12_span_141 : decode cX12_span 141 = .ok (.getfield 62, 3) := by decide +kernel
theorem dX12_span_144 : decode cX12_span 144 = .ok (.bipush 91, 2) := by decide +kernel
theorem dX12_span_146 : decode cX12_span 146 = .ok (.iload 6, 2) := by decide +kernel
theorem dX12_span_148 : decode cX12_span 148 = .ok (.iadd, 1) := by decide +kernel
theorem dX12_span_149 : decode cX12_span 149 = .ok (.iaload, 1) := by decide +kernel
theorem dX12_span_150 : decode cX12_span 150 = .ok (.iadd, 1) := by decide +kernel
theorem dX12_span_151 : decode cX12_span 151 = .ok (.istore 9, 2) := by decide +kernel
theorem dX12_span_153 : decode cX12_span 153 = .ok (.iinc 10 1, 3) := by decide +kernel
theorem dX12_span_156 : decode cX12_span 156 = .ok (.goto (-79), 3) := by decide +kernel
theorem dX12_span_159 : decode cX12_span 159 = .ok (.iload 5, 2) := by decide +kernel
theorem dX12_span_161 : decode cX12_span 161 = .ok (.ifCond .ne 8, 3) := by decide +kernel
theorem dX12_span_164 : decode cX12_span 164 = .ok (.iload 7, 2) := by decide +kernel
theorem dX12_span_166 : decode cX12_span 166 = .ok (.goto 16, 3) := by decide +kernel
theorem dX12_span_169 : decode cX12_span 169 = .ok (.iload 5, 2) := by decide +kernel
theorem dX12_span_171 : decode cX12_span 171 = .ok (.iconst 1, 1) := by decide +kernel
theorem dX12_span_172 : decode cX12_span 172 = .ok (.if_icmp .ne 8, 3) := by decide +kernel
theorem dX12_span_175 : decode cX12_span 175 = .ok (.iload 8, 2) := by decide +kernel
theorem dX12_span_177 : decode cX12_span 177 = .ok (.goto 5, 3) := by decide +kernel
theorem dX12_span_180 : decode cX12_span 180 = .ok (.iload 9, 2) := by decide +kernel
theorem dX12_span_182 : decode cX12_span 182 = .ok (.ireturn, 1) := by decide +kernel
theorem dX12_keepsRow_0 : decode cX12_keepsRow 0 = .ok (.iconst 0, 1) := by decide +kernel
theorem dX12_keepsRow_1 : decode cX12_keepsRow 1 = .ok (.istore 5, 2) := by decide +kernel
theorem dX12_keepsRow_3 : decode cX12_keepsRow 3 = .ok (.iload 5, 2) := by decide +kernel
theorem dX12_keepsRow_5 : decode cX12_keepsRow 5 = .ok (.iload_n 3, 1) := by decide +kernel
theorem dX12_keepsRow_6 : decode cX12_keepsRow 6 = .ok (.if_icmp .ge 43, 3) := by decide +kernel
theorem dX12_keepsRow_9 : decode cX12_keepsRow 9 = .ok (.iload 4, 2) := by decide +kernel
theorem dX12_keepsRow_11 : decode cX12_keepsRow 11 = .ok (.ifCond .eq 19, 3) := by decide +kernel
theorem dX12_keepsRow_14 : decode cX12_keepsRow 14 = .ok (.aload_n 0, 1) := by decide +kernel
theorem dX12_keepsRow_15 : decode cX12_keepsRow 15 = .ok (.getfield 90, 3) := by decide +kernel
theorem dX12_keepsRow_18 : decode cX12_keepsRow 18 = .ok (.iload_n 1, 1) := by decide +kernel
theorem dX12_keepsRow_19 : decode cX12_keepsRow 19 = .ok (.iload 5, 2) := by decide +kernel
theorem dX12_keepsRow_21 : decode cX12_keepsRow 21 = .ok (.iadd, 1) := by decide +kernel
theorem dX12_keepsRow_22 : decode cX12_keepsRow 22 = .ok (.aload_n 2, 1) := by decide +kernel
theorem dX12_keepsRow_23 : decode cX12_keepsRow 23 = .ok (.iload 5, 2) := by decide +kernel
theorem dX12_keepsRow_25 : decode cX12_keepsRow 25 = .ok (.iaload, 1) := by decide +kernel
theorem dX12_keepsRow_26 : decode cX12_keepsRow 26 = .ok (.iastore, 1) := by decide +kernel
theorem dX12_keepsRow_27 : decode cX12_keepsRow 27 = .ok (.goto 16, 3) := by decide +kernel
theorem dX12_keepsRow_30 : decode cX12_keepsRow 30 = .ok (.aload_n 2, 1) := by decide +kernel
theorem dX12_keepsRow_31 : decode cX12_keepsRow 31 = .ok (.iload 5, 2) := by decide +kernel
theorem dX12_keepsRow_33 : decode cX12_keepsRow 33 = .ok (.aload_n 0, 1) := by decide +kernel
theorem dX12_keepsRow_34 : decode cX12_keepsRow 34 = .ok (.getfield 90, 3) := by decide +kernel
theorem dX12_keepsRow_37 : decode cX12_keepsRow 37 = .ok (.iload_n 1, 1) := by decide +kernel
theorem dX12_keepsRow_38 : decode cX12_keepsRow 38 = .ok (.iload 5, 2) := by decide +kernel
theorem dX12_keepsRow_40 : decode cX12_keepsRow 40 = .ok (.iadd, 1) := by decide +kernel
theorem dX12_keepsRow_41 : decode cX12_keepsRow 41 = .ok (.iaload, 1) := by decide +kernel
theorem dX12_keepsRow_42 : decode cX12_keepsRow 42 = .ok (.iastore, 1) := by decide +kernel
theorem dX12_keepsRow_43 : decode cX12_keepsRow 43 = .ok (.iinc 5 1, 3) := by decide +kernel
theorem dX12_keepsRow_46 : decode cX12_keepsRow 46 = .ok (.goto (-43), 3) := by decide +kernel
theorem dX12_keepsRow_49 : decode cX12_keepsRow 49 = .ok (.iload_n 1, 1) := by decide +kernel
theorem dX12_keepsRow_50 : decode cX12_keepsRow 50 = .ok (.iload_n 3, 1) := by decide +kernel
theorem dX12_keepsRow_51 : decode cX12_keepsRow 51 = .ok (.iadd, 1) := by decide +kernel
theorem dX12_keepsRow_52 : decode cX12_keepsRow 52 = .ok (.ireturn, 1) := by decide +kernel
theorem dX12_keepsAll_0 : decode cX12_keepsAll 0 = .ok (.aload_n 0, 1) := by decide +kernel
theorem dX12_keepsAll_1 : decode cX12_keepsAll 1 = .ok (.sipush 2143, 3) := by decide +kernel
theorem dX12_keepsAll_4 : decode cX12_keepsAll 4 = .ok (.iload_n 1, 1) := by decide +kernel
theorem dX12_keepsAll_5 : decode cX12_keepsAll 5 = .ok (.imul, 1) := by decide +kernel
theorem dX12_keepsAll_6 : decode cX12_keepsAll 6 = .ok (.aload_n 0, 1) := by decide +kernel
theorem dX12_keepsAll_7 : decode cX12_keepsAll 7 = .ok (.getfield 59, 3) := by decide +kernel
theorem dX12_keepsAll_10 : decode cX12_keepsAll 10 = .ok (.bipush 126, 2) := by decide +kernel
theorem dX12_keepsAll_12 : decode cX12_keepsAll 12 = .ok (.iload_n 2, 1) := by decide +kernel
theorem dX12_keepsAll_13 : decode cX12_keepsAll 13 = .ok (.invokevirtual 462, 3) := by decide +kernel
theorem dX12_keepsAll_16 : decode cX12_keepsAll 16 = .ok (.istore_n 3, 1) := by decide +kernel
theorem dX12_keepsAll_17 : decode cX12_keepsAll 17 = .ok (.aload_n 0, 1) := by decide +kernel
theorem dX12_keepsAll_18 : decode cX12_keepsAll 18 = .ok (.iload_n 3, 1) := by decide +kernel
theorem dX12_keepsAll_19 : decode cX12_keepsAll 19 = .ok (.aload_n 0, 1) := by decide +kernel
theorem dX12_keepsAll_20 : decode cX12_keepsAll 20 = .ok (.getfield 65, 3) := by decide +kernel
theorem dX12_keepsAll_23 : decode cX12_keepsAll 23 = .ok (.sipush 2016, 3) := by decide +kernel
theorem dX12_keepsAll_26 : decode cX12_keepsAll 26 = .ok (.iload_n 2, 1) := by decide +kernel
theorem dX12_keepsAll_27 : decode cX12_keepsAll 27 = .ok (.invokevirtual 462, 3) := by decide +kernel
theorem dX12_keepsAll_30 : decode cX12_keepsAll 30 = .ok (.istore_n 3, 1) := by decide +kernel
theorem dX12_keepsAll_31 : decode cX12_keepsAll 31 = .ok (.iload_n 2, 1) := by decide +kernel
theorem dX12_keepsAll_32 : decode cX12_keepsAll 32 = .ok (.ifCond .eq 16, 3) := by decide +kernel
theorem dX12_keepsAll_35 : decode cX12_keepsAll 35 = .ok (.aload_n 0, 1) := by decide +kernel
theorem dX12_keepsAll_36 : decode cX12_keepsAll 36 = .ok (.getfield 90, 3) := by decide +kernel
theorem dX12_keepsAll_39 : decode cX12_keepsAll 39 = .ok (.iload_n 3, 1) := by decide +kernel
theorem dX12_keepsAll_40 : decode cX12_keepsAll 40 = .ok (.aload_n 0, 1) := by decide +kernel
theorem dX12_keepsAll_41 : decode cX12_keepsAll 41 = .ok (.getfield 173, 3) := by decide +kernel
theorem dX12_keepsAll_44 : decode cX12_keepsAll 44 = .ok (.iastore, 1) := by decide +kernel
theorem dX12_keepsAll_45 : decode cX12_keepsAll 45 = .ok (.goto 13, 3) := by decide +kernel
theorem dX12_keepsAll_48 : decode cX12_keepsAll 48 = .ok (.aload_n 0, 1) := by decide +kernel
theorem dX12_keepsAll_49 : decode cX12_keepsAll 49 = .ok (.aload_n 0, 1) := by decide +kernel
theorem dX12_keepsAll_50 : decode cX12_keepsAll 50 = .ok (.getfield 90, 3) := by decide +kernel
theorem dX12_keepsAll_53 : decode cX12_keepsAll 53 = .ok (.iload_n 3, 1) := by decide +kernel
theorem dX12_keepsAll_54 : decode cX12_keepsAll 54 = .ok (.iaload, 1) := by decide +kernel
theorem dX12_keepsAll_55 : decode cX12_keepsAll 55 = .ok (.putfield 173, 3) := by decide +kernel
theorem dX12_keepsAll_58 : decode cX12_keepsAll 58 = .ok (.return_, 1) := by decide +kernel
theorem dX12_image_0 : decode cX12_image 0 = .ok (.aload_n 0, 1) := by decide +kernel
theorem dX12_image_1 : decode cX12_image 1 = .ok (.iconst 0, 1) := by decide +kernel
theorem dX12_image_2 : decode cX12_image 2 = .ok (.putfield 3, 3) := by decide +kernel
theorem dX12_image_5 : decode cX12_image 5 = .ok (.aload_n 0, 1) := by decide +kernel
theorem dX12_image_6 : decode cX12_image 6 = .ok (.getfield 176, 3) := by decide +kernel
theorem dX12_image_9 : decode cX12_image 9 = .ok (.iconst 3, 1) := by decide +kernel
theorem dX12_image_10 : decode cX12_image 10 = .ok (.if_icmp .ne 5, 3) := by decide +kernel
theorem dX12_image_13 : decode cX12_image 13 = .ok (.iconst (-1), 1) := by decide +kernel
theorem dX12_image_14 : decode cX12_image 14 = .ok (.ireturn, 1) := by decide +kernel
theorem dX12_image_15 : decode cX12_image 15 = .ok (.aload_n 0, 1) := by decide +kernel
theorem dX12_image_16 : decode cX12_image 16 = .ok (.aload_n 0, 1) := by decide +kernel
theorem dX12_image_17 : decode cX12_image 17 = .ok (.getfield 176, 3) := by decide +kernel
theorem dX12_image_20 : decode cX12_image 20 = .ok (.iconst 1, 1) := by decide +kernel
theorem dX12_image_21 : decode cX12_image 21 = .ok (.invokevirtual 466, 3) := by decide +kernel
theorem dX12_image_24 : decode cX12_image 24 = .ok (.aload_n 0, 1) := by decide +kernel
theorem dX12_image_25 : decode cX12_image 25 = .ok (.dup, 1) := by decide +kernel
theorem dX12_image_26 : decode cX12_image 26 = .ok (.getfield 176, 3) := by decide +kernel
theorem dX12_image_29 : decode cX12_image 29 = .ok (.iconst 1, 1) := by decide +kernel
theorem dX12_image_30 : decode cX12_image 30 = .ok (.iadd, 1) := by decide +kernel
theorem dX12_image_31 : decode cX12_image 31 = .ok (.putfield 176, 3) := by decide +kernel
theorem dX12_image_34 : decode cX12_image 34 = .ok (.aload_n 0, 1) := by decide +kernel
theorem dX12_image_35 : decode cX12_image 35 = .ok (.getfield 176, 3) := by decide +kernel
theorem dX12_image_38 : decode cX12_image 38 = .ok (.ireturn, 1) := by decide +kernel
theorem dX12_restore_0 : decode cX12_restore 0 = .ok (.aload_n 0, 1) := by decide +kernel
theorem dX12_restore_1 : decode cX12_restore 1 = .ok (.iconst 0, 1) := by decide +kernel
theorem dX12_restore_2 : decode cX12_restore 2 = .ok (.putfield 3, 3) := by decide +kernel
theorem dX12_restore_5 : decode cX12_restore 5 = .ok (.aload_n 0, 1) := by decide +kernel
theorem dX12_restore_6 : decode cX12_restore 6 = .ok (.getfield 176, 3) := by decide +kernel
theorem dX12_restore_9 : decode cX12_restore 9 = .ok (.ifCond .ne 5, 3) := by decide +kernel
theorem dX12_restore_12 : decode cX12_restore 12 = .ok (.iconst (-1), 1) := by decide +kernel
theorem dX12_restore_13 : decode cX12_restore 13 = .ok (.ireturn, 1) := by decide +kernel
theorem dX12_restore_14 : decode cX12_restore 14 = .ok (.aload_n 0, 1) := by decide +kernel
theorem dX12_restore_15 : decode cX12_restore 15 = .ok (.dup, 1) := by decide +kernel
theorem dX12_restore_16 : decode cX12_restore 16 = .ok (.getfield 176, 3) := by decide +kernel
theorem dX12_restore_19 : decode cX12_restore 19 = .ok (.iconst 1, 1) := by decide +kernel
theorem dX12_restore_20 : decode cX12_restore 20 = .ok (.isub, 1) := by decide +kernel
theorem dX12_restore_21 : decode cX12_restore 21 = .ok (.putfield 176, 3) := by decide +kernel
theorem dX12_restore_24 : decode cX12_restore 24 = .ok (.aload_n 0, 1) := by decide +kernel
theorem dX12_restore_25 : decode cX12_restore 25 = .ok (.aload_n 0, 1) := by decide +kernel
theorem dX12_restore_26 : decode cX12_restore 26 = .ok (.getfield 176, 3) := by decide +kernel
theorem dX12_restore_29 : decode cX12_restore 29 = .ok (.iconst 0, 1) := by decide +kernel
theorem dX12_restore_30 : decode cX12_restore 30 = .ok (.invokevirtual 466, 3) := by decide +kernel
theorem dX12_restore_33 : decode cX12_restore 33 = .ok (.aload_n 0, 1) := by decide +kernel
theorem dX12_restore_34 : decode cX12_restore 34 = .ok (.iconst 0, 1) := by decide +kernel
theorem dX12_restore_35 : decode cX12_restore 35 = .ok (.putfield 179, 3) := by decide +kernel
theorem dX12_restore_38 : decode cX12_restore 38 = .ok (.aload_n 0, 1) := by decide +kernel
theorem dX12_restore_39 : decode cX12_restore 39 = .ok (.getfield 176, 3) := by decide +kernel
theorem dX12_restore_42 : decode cX12_restore 42 = .ok (.ireturn, 1) := by decide +kernel
theorem dX12_status_0 : decode cX12_status 0 = .ok (.aload_n 0, 1) := by decide +kernel
theorem dX12_status_1 : decode cX12_status 1 = .ok (.iconst 0, 1) := by decide +kernel
theorem dX12_status_2 : decode cX12_status 2 = .ok (.putfield 3, 3) := by decide +kernel
theorem dX12_status_5 : decode cX12_status 5 = .ok (.iload_n 1, 1) := by decide +kernel
theorem dX12_status_6 : decode cX12_status 6 = .ok (.iconst 0, 1) := by decide +kernel
theorem dX12_status_7 : decode cX12_status 7 = .ok (.iconst 1, 1) := by decide +kernel
theorem dX12_status_8 : decode cX12_status 8 = .ok (.invokestatic 373, 3) := by decide +kernel
theorem dX12_status_11 : decode cX12_status 11 = .ok (.ifCond .eq 12, 3) := by decide +kernel
theorem dX12_status_14 : decode cX12_status 14 = .ok (.aload_n 0, 1) := by decide +kernel
theorem dX12_status_15 : decode cX12_status 15 = .ok (.getfield 7, 3) := by decide +kernel
theorem dX12_status_18 : decode cX12_status 18 = .ok (.iload_n 1, 1) := by decide +kernel
theorem dX12_status_19 : decode cX12_status 19 = .ok (.iaload, 1) := by decide +kernel
theorem dX12_status_20 : decode cX12_status 20 = .ok (.goto 4, 3) := by decide +kernel
theorem dX12_status_23 : decode cX12_status 23 = .ok (.iconst (-1), 1) := by decide +kernel
theorem dX12_status_24 : decode cX12_status 24 = .ok (.ireturn, 1) := by decide +kernel
theorem dX12_count_0 : decode cX12_count 0 = .ok (.aload_n 0, 1) := by decide +kernel
theorem dX12_count_1 : decode cX12_count 1 = .ok (.iconst 0, 1) := by decide +kernel
theorem dX12_count_2 : decode cX12_count 2 = .ok (.putfield 3, 3) := by decide +kernel
theorem dX12_count_5 : decode cX12_count 5 = .ok (.iload_n 1, 1) := by decide +kernel
theorem dX12_count_6 : decode cX12_count 6 = .ok (.ifCond .ne 10, 3) := by decide +kernel
theorem dX12_count_9 : decode cX12_count 9 = .ok (.aload_n 0, 1) := by decide +kernel
theorem dX12_count_10 : decode cX12_count 10 = .ok (.getfield 176, 3) := by decide +kernel
theorem dX12_count_13 : decode cX12_count 13 = .ok (.goto 28, 3) := by decide +kernel
theorem dX12_count_16 : decode cX12_count 16 = .ok (.iload_n 1, 1) := by decide +kernel
theorem dX12_count_17 : decode cX12_count 17 = .ok (.iconst 1, 1) := by decide +kernel
theorem dX12_count_18 : decode cX12_count 18 = .ok (.if_icmp .ne 10, 3) := by decide +kernel
theorem dX12_count_21 : decode cX12_count 21 = .ok (.aload_n 0, 1) := by decide +kernel
theorem dX12_count_22 : decode cX12_count 22 = .ok (.getfield 99, 3) := by decide +kernel
theorem dX12_count_25 : decode cX12_count 25 = .ok (.goto 16, 3) := by decide +kernel
theorem dX12_count_28 : decode cX12_count 28 = .ok (.iload_n 1, 1) := by decide +kernel
theorem dX12_count_29 : decode cX12_count 29 = .ok (.iconst 2, 1) := by decide +kernel
theorem dX12_count_30 : decode cX12_count 30 = .ok (.if_icmp .ne 10, 3) := by decide +kernel
theorem dX12_count_33 : decode cX12_count 33 = .ok (.aload_n 0, 1) := by decide +kernel
theorem dX12_count_34 : decode cX12_count 34 = .ok (.getfield 173, 3) := by decide +kernel
theorem dX12_count_37 : decode cX12_count 37 = .ok (.goto 4, 3) := by decide +kernel
theorem dX12_count_40 : decode cX12_count 40 = .ok (.iconst (-1), 1) := by decide +kernel
theorem dX12_count_41 : decode cX12_count 41 = .ok (.ireturn, 1) := by decide +kernel
end Dec
