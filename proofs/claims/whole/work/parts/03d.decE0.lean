section Dec
theorem dX12_thrown_0 : decode cX12_thrown 0 = .ok (.aload_n 0, 1) := by decide +kernel
theorem dX12_thrown_1 : decode cX12_thrown 1 = .ok (.getfield 3, 3) := by decide +kernel
theorem dX12_thrown_4 : decode cX12_thrown 4 = .ok (.ireturn, 1) := by decide +kernel
theorem dX12_may_0 : decode cX12_may 0 = .ok (.iload_n 1, 1) := by decide +kernel
theorem dX12_may_1 : decode cX12_may 1 = .ok (.ifCond .ne 25, 3) := by decide +kernel
theorem dX12_may_4 : decode cX12_may 4 = .ok (.aload_n 0, 1) := by decide +kernel
theorem dX12_may_5 : decode cX12_may 5 = .ok (.getfield 3, 3) := by decide +kernel
theorem dX12_may_8 : decode cX12_may 8 = .ok (.ifCond .ne 18, 3) := by decide +kernel
theorem dX12_may_11 : decode cX12_may 11 = .ok (.aload_n 0, 1) := by decide +kernel
theorem dX12_may_12 : decode cX12_may 12 = .ok (.iload_n 2, 1) := by decide +kernel
theorem dX12_may_13 : decode cX12_may 13 = .ok (.putfield 3, 3) := by decide +kernel
theorem dX12_may_16 : decode cX12_may 16 = .ok (.aload_n 0, 1) := by decide +kernel
theorem dX12_may_17 : decode cX12_may 17 = .ok (.getfield 7, 3) := by decide +kernel
theorem dX12_may_20 : decode cX12_may 20 = .ok (.iload_n 3, 1) := by decide +kernel
theorem dX12_may_21 : decode cX12_may 21 = .ok (.dup2, 1) := by decide +kernel
theorem dX12_may_22 : decode cX12_may 22 = .ok (.iaload, 1) := by decide +kernel
theorem dX12_may_23 : decode cX12_may 23 = .ok (.iconst 1, 1) := by decide +kernel
theorem dX12_may_24 : decode cX12_may 24 = .ok (.iadd, 1) := by decide +kernel
theorem dX12_may_25 : decode cX12_may 25 = .ok (.iastore, 1) := by decide +kernel
theorem dX12_may_26 : decode cX12_may 26 = .ok (.aload_n 0, 1) := by decide +kernel
theorem dX12_may_27 : decode cX12_may 27 = .ok (.getfield 3, 3) := by decide +kernel
theorem dX12_may_30 : decode cX12_may 30 = .ok (.ifCond .ne 7, 3) := by decide +kernel
theorem dX12_may_33 : decode cX12_may 33 = .ok (.iconst 1, 1) := by decide +kernel
theorem dX12_may_34 : decode cX12_may 34 = .ok (.goto 4, 3) := by decide +kernel
theorem dX12_may_37 : decode cX12_may 37 = .ok (.iconst 0, 1) := by decide +kernel
theorem dX12_may_38 : decode cX12_may 38 = .ok (.ireturn, 1) := by decide +kernel
theorem dX12_within_0 : decode cX12_within 0 = .ok (.iload_n 0, 1) := by decide +kernel
theorem dX12_within_1 : decode cX12_within 1 = .ok (.iload_n 1, 1) := by decide +kernel
theorem dX12_within_2 : decode cX12_within 2 = .ok (.if_icmp .lt 12, 3) := by decide +kernel
theorem dX12_within_5 : decode cX12_within 5 = .ok (.iload_n 0, 1) := by decide +kernel
theorem dX12_within_6 : decode cX12_within 6 = .ok (.iload_n 2, 1) := by decide +kernel
theorem dX12_within_7 : decode cX12_within 7 = .ok (.if_icmp .gt 7, 3) := by decide +kernel
theorem dX12_within_10 : decode cX12_within 10 = .ok (.iconst 1, 1) := by decide +kernel
theorem dX12_within_11 : decode cX12_within 11 = .ok (.goto 4, 3) := by decide +kernel
theorem dX12_within_14 : decode cX12_within 14 = .ok (.iconst 0, 1) := by decide +kernel
theorem dX12_within_15 : decode cX12_within 15 = .ok (.ireturn, 1) := by decide +kernel
theorem dX12_init_0 : decode cX12_init 0 = .ok (.aload_n 0, 1) := by decide +kernel
theorem dX12_init_1 : decode cX12_init 1 = .ok (.invokespecial 11, 3) := by decide +kernel
theorem dX12_init_4 : decode cX12_init 4 = .ok (.aload_n 0, 1) := by decide +kernel
theorem dX12_init_5 : decode cX12_init 5 = .ok (.iconst 2, 1) := by decide +kernel
theorem dX12_init_6 : decode cX12_init 6 = .ok (.newarray .int, 2) := by decide +kernel
theorem dX12_init_8 : decode cX12_init 8 = .ok (.putfield 7, 3) := by decide +kernel
theorem dX12_init_11 : decode cX12_init 11 = .ok (.aload_n 0, 1) := by decide +kernel
theorem dX12_init_12 : decode cX12_init 12 = .ok (.iconst (-1), 1) := by decide +kernel
theorem dX12_init_13 : decode cX12_init 13 = .ok (.putfield 17, 3) := by decide +kernel
theorem dX12_init_16 : decode cX12_init 16 = .ok (.aload_n 0, 1) := by decide +kernel
theorem dX12_init_17 : decode cX12_init 17 = .ok (.sipush 600, 3) := by decide +kernel
theorem dX12_init_20 : decode cX12_init 20 = .ok (.newarray .int, 2) := by decide +kernel
theorem dX12_init_22 : decode cX12_init 22 = .ok (.putfield 20, 3) := by decide +kernel
theorem dX12_init_25 : decode cX12_init 25 = .ok (.aload_n 0, 1) := by decide +kernel
theorem dX12_init_26 : decode cX12_init 26 = .ok (.bipush 14, 2) := by decide +kernel
theorem dX12_init_28 : decode cX12_init 28 = .ok (.newarray .int, 2) := by decide +kernel
theorem dX12_init_30 : decode cX12_init 30 = .ok (.putfield 23, 3) := by decide +kernel
theorem dX12_init_33 : decode cX12_init 33 = .ok (.aload_n 0, 1) := by decide +kernel
theorem dX12_init_34 : decode cX12_init 34 = .ok (.bipush 24, 2) := by decide +kernel
theorem dX12_init_36 : decode cX12_init 36 = .ok (.newarray .int, 2) := by decide +kernel
theorem dX12_init_38 : decode cX12_init 38 = .ok (.putfield 26, 3) := by decide +kernel
theorem dX12_init_41 : decode cX12_init 41 = .ok (.aload_n 0, 1) := by decide +kernel
theorem dX12_init_42 : decode cX12_init 42 = .ok (.bipush 14, 2) := by decide +kernel
theorem dX12_init_44 : decode cX12_init 44 = .ok (.newarray .int, 2) := by decide +kernel
theorem dX12_init_46 : decode cX12_init 46 = .ok (.putfield 29, 3) := by decide +kernel
theorem dX12_init_49 : decode cX12_init 49 = .ok (.aload_n 0, 1) := by decide +kernel
theorem dX12_init_50 : decode cX12_init 50 = .ok (.bipush 24, 2) := by decide +kernel
theorem dX12_init_52 : decode cX12_init 52 = .ok (.newarray .int, 2) := by decide +kernel
theorem dX12_init_54 : decode cX12_init 54 = .ok (.putfield 32, 3) := by decide +kernel
theorem dX12_init_57 : decode cX12_init 57 = .ok (.aload_n 0, 1) := by decide +kernel
theorem dX12_init_58 : decode cX12_init 58 = .ok (.sipush 150, 3) := by decide +kernel
theorem dX12_init_61 : decode cX12_init 61 = .ok (.newarray .int, 2) := by decide +kernel
theorem dX12_init_63 : decode cX12_init 63 = .ok (.putfield 35, 3) := by decide +kernel
theorem dX12_init_66 : decode cX12_init 66 = .ok (.aload_n 0, 1) := by decide +kernel
theorem dX12_init_67 : decode cX12_init 67 = .ok (.sipush 150, 3) := by decide +kernel
theorem dX12_init_70 : decode cX12_init 70 = .ok (.newarray .int, 2) := by decide +kernel
theorem dX12_init_72 : decode cX12_init 72 = .ok (.putfield 38, 3) := by decide +kernel
theorem dX12_init_75 : decode cX12_init 75 = .ok (.aload_n 0, 1) := by decide +kernel
theorem dX12_init_76 : decode cX12_init 76 = .ok (.sipush 150, 3) := by decide +kernel
theorem dX12_init_79 : decode cX12_init 79 = .ok (.newarray .int, 2) := by decide +kernel
theorem dX12_init_81 : decode cX12_init 81 = .ok (.putfield 41, 3) := by decide +kernel
theorem dX12_init_84 : decode cX12_init 84 = .ok (.aload_n 0, 1) := by decide +kernel
theorem dX12_init_85 : decode cX12_init 85 = .ok (.sipush 150, 3) := by decide +kernel
theorem dX12_init_88 : decode cX12_init 88 = .ok (.newarray .int, 2) := by decide +kernel
theorem dX12_init_90 : decode cX12_init 90 = .ok (.putfield 44, 3) := by decide +kernel
theorem dX12_init_93 : decode cX12_init 93 = .ok (.aload_n 0, 1) := by decide +kernel
theorem dX12_init_94 : decode cX12_init 94 = .ok (.sipush 150, 3) := by decide +kernel
theorem dX12_init_97 : decode cX12_init 97 = .ok (.newarray .int, 2) := by decide +kernel
theorem dX12_init_99 : decode cX12_init 99 = .ok (.putfield 47, 3) := by decide +kernel
theorem dX12_init_102 : decode cX12_init 102 = .ok (.aload_n 0, 1) := by decide +kernel
theorem dX12_init_103 : decode cX12_init 103 = .ok (.bipush 9, 2) := by decide +kernel
theorem dX12_init_105 : decode cX12_init 105 = .ok (.newarray .int, 2) := by decide +kernel
theorem dX12_init_107 : decode cX12_init 107 = .ok (.putfield 50, 3) := by decide +kernel
theorem dX12_init_110 : decode cX12_init 110 = .ok (.aload_n 0, 1) := by decide +kernel
theorem dX12_init_111 : decode cX12_init 111 = .ok (.sipush 150, 3) := by decide +kernel
theorem dX12_init_114 : decode cX12_init 114 = .ok (.newarray .int, 2) := by decide +kernel
theorem dX12_init_116 : decode cX12_init 116 = .ok (.putfield 53, 3) := by decide +kernel
theorem dX12_init_119 : decode cX12_init 119 = .ok (.aload_n 0, 1) := by decide +kernel
theorem dX12_init_120 : decode cX12_init 120 = .ok (.sipush 150, 3) := by decide +kernel
theorem dX12_init_123 : decode cX12_init 123 = .ok (.newarray .int, 2) := by decide +kernel
theorem dX12_init_125 : decode cX12_init 125 = .ok (.putfield 56, 3) := by decide +kernel
theorem dX12_init_128 : decode cX12_init 128 = .ok (.aload_n 0, 1) := by decide +kernel
theorem dX12_init_129 : decode cX12_init 129 = .ok (.bipush 126, 2) := by decide +kernel
theorem dX12_init_131 : decode cX12_init 131 = .ok (.newarray .int, 2) := by decide +kernel
theorem dX12_init_133 : decode cX12_init 133 = .ok (.putfield 59, 3) := by decide +kernel
theorem dX12_init_136 : decode cX12_init 136 = .ok (.aload_n 0, 1) := by decide +kernel
theorem dX12_init_137 : decode cX12_init 137 = .ok (.bipush 126, 2) := by decide +kernel
theorem dX12_init_139 : decode cX12_init 139 = .ok (.newarray .int, 2) := by decide +kernel
theorem dX12_init_141 : decode cX12_init 141 = .ok (.putfield 62, 3) := by decide +kernel
theorem dX12_init_144 : decode cX12_init 144 = .ok (.aload_n 0, 1) := by decide +kernel
theorem dX12_init_145 : decode cX12_init 145 = .ok (.sipush 2016, 3) := by decide +kernel
theorem dX12_init_148 : decode cX12_init 148 = .ok (.newarray .int, 2) := by decide +kernel
theorem dX12_init_150 : decode cX12_init 150 = .ok (.putfield 65, 3) := by decide +kernel
theorem dX12_init_153 : decode cX12_init 153 = .ok (.aload_n 0, 1) := by decide +kernel
theorem dX12_init_154 : decode cX12_init 154 = .ok (.bipush 7, 2) := by decide +kernel
theorem dX12_init_156 : decode cX12_init 156 = .ok (.newarray .int, 2) := by decide +kernel
theorem dX12_init_158 : decode cX12_init 158 = .ok (.putfield 68, 3) := by decide +kernel
theorem dX12_init_161 : decode cX12_init 161 = .ok (.aload_n 0, 1) := by decide +kernel
theorem dX12_init_162 : decode cX12_init 162 = .ok (.bipush 7, 2) := by decide +kernel
theorem dX12_init_164 : decode cX12_init 164 = .ok (.newarray .int, 2) := by decide +kernel
theorem dX12_init_166 : decode cX12_init 166 = .ok (.putfield 71, 3) := by decide +kernel
theorem dX12_init_169 : decode cX12_init 169 = .ok (.aload_n 0, 1) := by decide +kernel
theorem dX12_init_170 : decode cX12_init 170 = .ok (.bipush 6, 2) := by decide +kernel
theorem dX12_init_172 : decode cX12_init 172 = .ok (.newarray .int, 2) := by decide +kernel
theorem dX12_init_174 : decode cX12_init 174 = .ok (.putfield 74, 3) := by decide +kernel
theorem dX12_init_177 : decode cX12_init 177 = .ok (.aload_n 0, 1) := by decide +kernel
theorem dX12_init_178 : decode cX12_init 178 = .ok (.sipush 512, 3) := by decide +kernel
theorem dX12_init_181 : decode cX12_init 181 = .ok (.newarray .int, 2) := by decide +kernel
theorem dX12_init_183 : decode cX12_init 183 = .ok (.putfield 77, 3) := by decide +kernel
theorem dX12_init_186 : decode cX12_init 186 = .ok (.aload_n 0, 1) := by decide +kernel
theorem dX12_init_187 : decode cX12_init 187 = .ok (.bipush 6, 2) := by decide +kernel
theorem dX12_init_189 : decode cX12_init 189 = .ok (.newarray .int, 2) := by decide +kernel
theorem dX12_init_191 : decode cX12_init 191 = .ok (.putfield 80, 3) := by decide +kernel
theorem dX12_init_194 : decode cX12_init 194 = .ok (.aload_n 0, 1) := by decide +kernel
theorem dX12_init_195 : decode cX12_init 195 = .ok (.sipush 1000, 3) := by decide +kernel
theorem dX12_init_198 : decode cX12_init 198 = .ok (.newarray .int, 2) := by decide +kernel
theorem dX12_init_200 : decode cX12_init 200 = .ok (.putfield 83, 3) := by decide +kernel
theorem dX12_init_203 : decode cX12_init 203 = .ok (.aload_n 0, 1) := by decide +kernel
theorem dX12_init_204 : decode cX12_init 204 = .ok (.bipush 14, 2) := by decide +kernel
theorem dX12_init_206 : decode cX12_init 206 = .ok (.newarray .long, 2) := by decide +kernel
theorem dX12_init_208 : decode cX12_init 208 = .ok (.putfield 86, 3) := by decide +kernel
theorem dX12_init_211 : decode cX12_init 211 = .ok (.aload_n 0, 1) := by decide +kernel
theorem dX12_init_212 : decode cX12_init 212 = .ok (.sipush 6429, 3) := by decide +kernel
theorem dX12_init_215 : decode cX12_init 215 = .ok (.newarray .int, 2) := by decide +kernel
theorem dX12_init_217 : decode cX12_init 217 = .ok (.putfield 90, 3) := by decide +kernel
theorem dX12_init_220 : decode cX12_init 220 = .ok (.aload_n 0, 1) := by decide +kernel
theorem dX12_init_221 : decode cX12_init 221 = .ok (.invokevirtual 93, 3) := by decide +kernel
theorem dX12_init_224 : decode cX12_init 224 = .ok (.aload_n 0, 1) := by decide +kernel
theorem dX12_init_225 : decode cX12_init 225 = .ok (.invokevirtual 96, 3) := by decide +kernel
theorem dX12_init_228 : decode cX12_init 228 = .ok (.return_, 1) := by decide +kernel
theorem dX12_feed_0 : decode cX12_feed 0 = .ok (.aload_n 0, 1) := by decide +kernel
theorem dX12_feed_1 : decode cX12_feed 1 = .ok (.iconst 0, 1) := by decide +kernel
theorem dX12_feed_2 : decode cX12_feed 2 = .ok (.putfield 3, 3) := by decide +kernel
theorem dX12_feed_5 : decode cX12_feed 5 = .ok (.aload_n 0, 1) := by decide +kernel
theorem dX12_feed_6 : decode cX12_feed 6 = .ok (.getfield 99, 3) := by decide +kernel
theorem dX12_feed_9 : decode cX12_feed 9 = .ok (.bipush 20, 2) := by decide +kernel
theorem dX12_feed_11 : decode cX12_feed 11 = .ok (.iadd, 1) := by decide +kernel
theorem dX12_feed_12 : decode cX12_feed 12 = .ok (.sipush 600, 3) := by decide +kernel
theorem dX12_feed_15 : decode cX12_feed 15 = .ok (.if_icmp .le 5, 3) := by decide +kernel
theorem dX12_feed_18 : decode cX12_feed 18 = .ok (.iconst (-1), 1) := by decide +kernel
theorem dX12_feed_19 : decode cX12_feed 19 = .ok (.ireturn, 1) := by decide +kernel
theorem dX12_feed_20 : decode cX12_feed 20 = .ok (.iconst 0, 1) := by decide +kernel
theorem dX12_feed_21 : decode cX12_feed 21 = .ok (.istore 6, 2) := by decide +kernel
theorem dX12_feed_23 : decode cX12_feed 23 = .ok (.iload 6, 2) := by decide +kernel
theorem dX12_feed_25 : decode cX12_feed 25 = .ok (.bipush 20, 2) := by decide +kernel
theorem dX12_feed_27 : decode cX12_feed 27 = .ok (.if_icmp .ge 93, 3) := by decide +kernel
theorem dX12_feed_30 : decode cX12_feed 30 = .ok (.iload 6, 2) := by decide +kernel
theorem dX12_feed_32 : decode cX12_feed 32 = .ok (.iconst 4, 1) := by decide +kernel
theorem dX12_feed_33 : decode cX12_feed 33 = .ok (.if_icmp .ge 7, 3) := by decide +kernel
theorem dX12_feed_36 : decode cX12_feed 36 = .ok (.iload_n 1, 1) := by decide +kernel
theorem dX12_feed_37 : decode cX12_feed 37 = .ok (.goto 39, 3) := by decide +kernel
theorem dX12_feed_40 : decode cX12_feed 40 = .ok (.iload 6, 2) := by decide +kernel
theorem dX12_feed_42 : decode cX12_feed 42 = .ok (.bipush 8, 2) := by decide +kernel
theorem dX12_feed_44 : decode cX12_feed 44 = .ok (.if_icmp .ge 7, 3) := by decide +kernel
theorem dX12_feed_47 : decode cX12_feed 47 = .ok (.iload_n 2, 1) := by decide +kernel
theorem dX12_feed_48 : decode cX12_feed 48 = .ok (.goto 28, 3) := by decide +kernel
theorem dX12_feed_51 : decode cX12_feed 51 = .ok (.iload 6, 2) := by decide +kernel
theorem dX12_feed_53 : decode cX12_feed 53 = .ok (.bipush 12, 2) := by decide +kernel
theorem dX12_feed_55 : decode cX12_feed 55 = .ok (.if_icmp .ge 7, 3) := by decide +kernel
theorem dX12_feed_58 : decode cX12_feed 58 = .ok (.iload_n 3, 1) := by decide +kernel
theorem dX12_feed_59 : decode cX12_feed 59 = .ok (.goto 17, 3) := by decide +kernel
theorem dX12_feed_62 : decode cX12_feed 62 = .ok (.iload 6, 2) := by decide +kernel
theorem dX12_feed_64 : decode cX12_feed 64 = .ok (.bipush 16, 2) := by decide +kernel
theorem dX12_feed_66 : decode cX12_feed 66 = .ok (.if_icmp .ge 8, 3) := by decide +kernel
theorem dX12_feed_69 : decode cX12_feed 69 = .ok (.iload 4, 2) := by decide +kernel
theorem dX12_feed_71 : decode cX12_feed 71 = .ok (.goto 5, 3) := by decide +kernel
theorem dX12_feed_74 : decode cX12_feed 74 = .ok (.iload 5, 2) := by decide +kernel
theorem dX12_feed_76 : decode cX12_feed 76 = .ok (.istore 7, 2) := by decide +kernel
theorem dX12_feed_78 : decode cX12_feed 78 = .ok (.aload_n 0, 1) := by decide +kernel
theorem dX12_feed_79 : decode cX12_feed 79 = .ok (.getfield 20, 3) := by decide +kernel
theorem dX12_feed_82 : decode cX12_feed 82 = .ok (.aload_n 0, 1) := by decide +kernel
theorem dX12_feed_83 : decode cX12_feed 83 = .ok (.getfield 99, 3) := by decide +kernel
theorem dX12_feed_86 : decode cX12_feed 86 = .ok (.iload 7, 2) := by decide +kernel
theorem dX12_feed_88 : decode cX12_feed 88 = .ok (.bipush 24, 2) := by decide +kernel
theorem dX12_feed_90 : decode cX12_feed 90 = .ok (.bipush 8, 2) := by decide +kernel
theorem dX12_feed_92 : decode cX12_feed 92 = .ok (.iload 6, 2) := by decide +kernel
theorem dX12_feed_94 : decode cX12_feed 94 = .ok (.iconst 4, 1) := by decide +kernel
theorem dX12_feed_95 : decode cX12_feed 95 = .ok (.irem, 1) := by decide +kernel
theorem dX12_feed_96 : decode cX12_feed 96 = .ok (.imul, 1) := by decide +kernel
theorem dX12_feed_97 : decode cX12_feed 97 = .ok (.isub, 1) := by decide +kernel
theorem dX12_feed_98 : decode cX12_feed 98 = .ok (.ishr, 1) := by decide +kernel
theorem dX12_feed_99 : decode cX12_feed 99 = .ok (.sipush 255, 3) := by decide +kernel
theorem dX12_feed_102 : decode cX12_feed 102 = .ok (.iand, 1) := by decide +kernel
theorem dX12_feed_103 : decode cX12_feed 103 = .ok (.iastore, 1) := by decide +kernel
theorem dX12_feed_104 : decode cX12_feed 104 = .ok (.aload_n 0, 1) := by decide +kernel
theorem dX12_feed_105 : decode cX12_feed 105 = .ok (.dup, 1) := by decide +kernel
theorem dX12_feed_106 : decode cX12_feed 106 = .ok (.getfield 99, 3) := by decide +kernel
theorem dX12_feed_109 : decode cX12_feed 109 = .ok (.iconst 1, 1) := by decide +kernel
theorem dX12_feed_110 : decode cX12_feed 110 = .ok (.iadd, 1) := by decide +kernel
theorem dX12_feed_111 : decode cX12_feed 111 = .ok (.putfield 99, 3) := by decide +kernel
theorem dX12_feed_114 : decode cX12_feed 114 = .ok (.iinc 6 1, 3) := by decide +kernel
theorem dX12_feed_117 : decode cX12_feed 117 = .ok (.goto (-94), 3) := by decide +kernel
theorem dX12_feed_120 : decode cX12_feed 120 = .ok (.aload_n 0, 1) := by decide +kernel
theorem dX12_feed_121 : decode cX12_feed 121 = .ok (.getfield 99, 3) := by decide +kernel
theorem dX12_feed_124 : decode cX12_feed 124 = .ok (.ireturn, 1) := by decide +kernel
theorem dX12_fine_0 : decode cX12_fine 0 = .ok (.aload_n 0, 1) := by decide +kernel
theorem dX12_fine_1 : decode cX12_fine 1 = .ok (.getfield 102, 3) := by decide +kernel
theorem dX12_fine_4 : decode cX12_fine 4 = .ok (.iconst (-1), 1) := by decide +kernel
theorem dX12_fine_5 : decode cX12_fine 5 = .ok (.if_icmp .ne 7, 3) := by decide +kernel
theorem dX12_fine_8 : decode cX12_fine 8 = .ok (.iconst 1, 1) := by decide +kernel
theorem dX12_fine_9 : decode cX12_fine 9 = .ok (.goto 4, 3) := by decide +kernel
theorem dX12_fine_12 : decode cX12_fine 12 = .ok (.iconst 0, 1) := by decide +kernel
theorem dX12_fine_13 : decode cX12_fine 13 = .ok (.ireturn, 1) := by decide +kernel
theorem dX12_wrong_0 : decode cX12_wrong 0 = .ok (.aload_n 0, 1) := by decide +kernel
theorem dX12_wrong_1 : decode cX12_wrong 1 = .ok (.getfield 102, 3) := by decide +kernel
theorem dX12_wrong_4 : decode cX12_wrong 4 = .ok (.iconst (-1), 1) := by decide +kernel
theorem dX12_wrong_5 : decode cX12_wrong 5 = .ok (.if_icmp .eq 4, 3) := by decide +kernel
theorem dX12_wrong_8 : decode cX12_wrong 8 = .ok (.return_, 1) := by decide +kernel
theorem dX12_wrong_9 : decode cX12_wrong 9 = .ok (.aload_n 0, 1) := by decide +kernel
theorem dX12_wrong_10 : decode cX12_wrong 10 = .ok (.iload_n 2, 1) := by decide +kernel
theorem dX12_wrong_11 : decode cX12_wrong 11 = .ok (.putfield 102, 3) := by decide +kernel
theorem dX12_wrong_14 : decode cX12_wrong 14 = .ok (.aload_n 0, 1) := by decide +kernel
theorem dX12_wrong_15 : decode cX12_wrong 15 = .ok (.iload_n 1, 1) := by decide +kernel
theorem dX12_wrong_16 : decode cX12_wrong 16 = .ok (.putfield 105, 3) := by decide +kernel
theorem dX12_wrong_19 : decode cX12_wrong 19 = .ok (.return_, 1) := by decide +kernel
theorem dX12_here_0 : decode cX12_here 0 = .ok (.aload_n 0, 1) := by decide +kernel
theorem dX12_here_1 : decode cX12_here 1 = .ok (.getfield 108, 3) := by decide +kernel
theorem dX12_here_4 : decode cX12_here 4 = .ok (.aload_n 0, 1) := by decide +kernel
theorem dX12_here_5 : decode cX12_here 5 = .ok (.getfield 111, 3) := by decide +kernel
theorem dX12_here_8 : decode cX12_here 8 = .ok (.if_icmp .ge 30, 3) := by decide +kernel
theorem dX12_here_11 : decode cX12_here 11 = .ok (.aload_n 0, 1) := by decide +kernel
theorem dX12_here_12 : decode cX12_here 12 = .ok (.getfield 20, 3) := by decide +kernel
theorem dX12_here_15 : decode cX12_here 15 = .ok (.aload_n 0, 1) := by decide +kernel
theorem dX12_here_16 : decode cX12_here 16 = .ok (.getfield 108, 3) := by decide +kernel
theorem dX12_here_19 : decode cX12_here 19 = .ok (.iaload, 1) := by decide +kernel
theorem dX12_here_20 : decode cX12_here 20 = .ok (.bipush 32, 2) := by decide +kernel
theorem dX12_here_22 : decode cX12_here 22 = .ok (.if_icmp .ne 16, 3) := by decide +kernel
theorem dX12_here_25 : decode cX12_here 25 = .ok (.aload_n 0, 1) := by decide +kernel
theorem dX12_here_26 : decode cX12_here 26 = .ok (.dup, 1) := by decide +kernel
theorem dX12_here_27 : decode cX12_here 27 = .ok (.getfield 108, 3) := by decide +kernel
theorem dX12_here_30 : decode cX12_here 30 = .ok (.iconst 1, 1) := by decide +kernel
theorem dX12_here_31 : decode cX12_here 31 = .ok (.iadd, 1) := by decide +kernel
theorem dX12_here_32 : decode cX12_here 32 = .ok (.putfield 108, 3) := by decide +kernel
theorem dX12_here_35 : decode cX12_here 35 = .ok (.goto (-35), 3) := by decide +kernel
theorem dX12_here_38 : decode cX12_here 38 = .ok (.aload_n 0, 1) := by decide +kernel
theorem dX12_here_39 : decode cX12_here 39 = .ok (.getfield 108, 3) := by decide +kernel
theorem dX12_here_42 : decode cX12_here 42 = .ok (.aload_n 0, 1) := by decide +kernel
theorem dX12_here_43 : decode cX12_here 43 = .ok (.getfield 111, 3) := by decide +kernel
theorem dX12_here_46 : decode cX12_here 46 = .ok (.if_icmp .ge 15, 3) := by decide +kernel
theorem dX12_here_49 : decode cX12_here 49 = .ok (.aload_n 0, 1) := by decide +kernel
theorem dX12_here_50 : decode cX12_here 50 = .ok (.getfield 20, 3) := by decide +kernel
theorem dX12_here_53 : decode cX12_here 53 = .ok (.aload_n 0, 1) := by decide +kernel
theorem dX12_here_54 : decode cX12_here 54 = .ok (.getfield 108, 3) := by decide +kernel
theorem dX12_here_57 : decode cX12_here 57 = .ok (.iaload, 1) := by decide +kernel
theorem dX12_here_58 : decode cX12_here 58 = .ok (.goto 4, 3) := by decide +kernel
theorem dX12_here_61 : decode cX12_here 61 = .ok (.iconst 0, 1) := by decide +kernel
theorem dX12_here_62 : decode cX12_here 62 = .ok (.ireturn, 1) := by decide +kernel
theorem dX12_isSmall_0 : decode cX12_isSmall 0 = .ok (.iload_n 0, 1) := by decide +kernel
theorem dX12_isSmall_1 : decode cX12_isSmall 1 = .ok (.bipush 97, 2) := by decide +kernel
theorem dX12_isSmall_3 : decode cX12_isSmall 3 = .ok (.if_icmp .lt 13, 3) := by decide +kernel
theorem dX12_isSmall_6 : decode cX12_isSmall 6 = .ok (.iload_n 0, 1) := by decide +kernel
theorem dX12_isSmall_7 : decode cX12_isSmall 7 = .ok (.bipush 122, 2) := by decide +kernel
theorem dX12_isSmall_9 : decode cX12_isSmall 9 = .ok (.if_icmp .gt 7, 3) := by decide +kernel
theorem dX12_isSmall_12 : decode cX12_isSmall 12 = .ok (.iconst 1, 1) := by decide +kernel
theorem dX12_isSmall_13 : decode cX12_isSmall 13 = .ok (.goto 4, 3) := by decide +kernel
theorem dX12_isSmall_16 : decode cX12_isSmall 16 = .ok (.iconst 0, 1) := by decide +kernel
theorem dX12_isSmall_17 : decode cX12_isSmall 17 = .ok (.ireturn, 1) := by decide +kernel
theorem dX12_isDigit_0 : decode cX12_isDigit 0 = .ok (.iload_n 0, 1) := by decide +kernel
theorem dX12_isDigit_1 : decode cX12_isDigit 1 = .ok (.bipush 48, 2) := by decide +kernel
theorem dX12_isDigit_3 : decode cX12_isDigit 3 = .ok (.if_icmp .lt 13, 3) := by decide +kernel
theorem dX12_isDigit_6 : decode cX12_isDigit 6 = .ok (.iload_n 0, 1) := by decide +kernel
theorem dX12_isDigit_7 : decode cX12_isDigit 7 = .ok (.bipush 57, 2) := by decide +kernel
theorem dX12_isDigit_9 : decode cX12_isDigit 9 = .ok (.if_icmp .gt 7, 3) := by decide +kernel
theorem dX12_isDigit_12 : decode cX12_isDigit 12 = .ok (.iconst 1, 1) := by decide +kernel
theorem dX12_isDigit_13 : decode cX12_isDigit 13 = .ok (.goto 4, 3) := by decide +kernel
theorem dX12_isDigit_16 : decode cX12_isDigit 16 = .ok (.iconst 0, 1) := by decide +kernel
theorem dX12_isDigit_17 : decode cX12_isDigit 17 = .ok (.ireturn, 1) := by decide +kernel
theorem dX12_wordHere_0 : decode cX12_wordHere 0 = .ok (.aload_n 0, 1) := by decide +kernel
theorem dX12_wordHere_1 : decode cX12_wordHere 1 = .ok (.invokevirtual 114, 3) := by decide +kernel
theorem dX12_wordHere_4 : decode cX12_wordHere 4 = .ok (.pop, 1) := by decide +kernel
theorem dX12_wordHere_5 : decode cX12_wordHere 5 = .ok (.iconst 0, 1) := by decide +kernel
theorem dX12_wordHere_6 : decode cX12_wordHere 6 = .ok (.istore_n 1, 1) := by decide +kernel
theorem dX12_wordHere_7 : decode cX12_wordHere 7 = .ok (.iconst 0, 1) := by decide +kernel
theorem dX12_wordHere_8 : decode cX12_wordHere 8 = .ok (.istore_n 2, 1) := by decide +kernel
theorem dX12_wordHere_9 : decode cX12_wordHere 9 = .ok (.aload_n 0, 1) := by decide +kernel
theorem dX12_wordHere_10 : decode cX12_wordHere 10 = .ok (.getfield 108, 3) := by decide +kernel
theorem dX12_wordHere_13 : decode cX12_wordHere 13 = .ok (.istore_n 3, 1) := by decide +kernel
theorem dX12_wordHere_14 : decode cX12_wordHere 14 = .ok (.iload_n 3, 1) := by decide +kernel
theorem dX12_wordHere_15 : decode cX12_wordHere 15 = .ok (.aload_n 0, 1) := by decide +kernel
theorem dX12_wordHere_16 : decode cX12_wordHere 16 = .ok (.getfield 111, 3) := by decide +kernel
theorem dX12_wordHere_19 : decode cX12_wordHere 19 = .ok (.if_icmp .ge 48, 3) := by decide +kernel
theorem dX12_wordHere_22 : decode cX12_wordHere 22 = .ok (.aload_n 0, 1) := by decide +kernel
theorem dX12_wordHere_23 : decode cX12_wordHere 23 = .ok (.getfield 20, 3) := by decide +kernel
theorem dX12_wordHere_26 : decode cX12_wordHere 26 = .ok (.iload_n 3, 1) := by decide +kernel
theorem dX12_wordHere_27 : decode cX12_wordHere 27 = .ok (.iaload, 1) := by decide +kernel
theorem dX12_wordHere_28 : decode cX12_wordHere 28 = .ok (.invokestatic 118, 3) := by decide +kernel
theorem dX12_wordHere_31 : decode cX12_wordHere 31 = .ok (.ifCond .eq 36, 3) := by decide +kernel
theorem dX12_wordHere_34 : decode cX12_wordHere 34 = .ok (.iload_n 2, 1) := by decide +kernel
theorem dX12_wordHere_35 : decode cX12_wordHere 35 = .ok (.bipush 6, 2) := by decide +kernel
theorem dX12_wordHere_37 : decode cX12_wordHere 37 = .ok (.if_icmp .ge 19, 3) := by decide +kernel
theorem dX12_wordHere_40 : decode cX12_wordHere 40 = .ok (.iload_n 1, 1) := by decide +kernel
theorem dX12_wordHere_41 : decode cX12_wordHere 41 = .ok (.iconst 5, 1) := by decide +kernel
theorem dX12_wordHere_42 : decode cX12_wordHere 42 = .ok (.ishl, 1) := by decide +kernel
theorem dX12_wordHere_43 : decode cX12_wordHere 43 = .ok (.aload_n 0, 1) := by decide +kernel
theorem dX12_wordHere_44 : decode cX12_wordHere 44 = .ok (.getfield 20, 3) := by decide +kernel
theorem dX12_wordHere_47 : decode cX12_wordHere 47 = .ok (.iload_n 3, 1) := by decide +kernel
theorem dX12_wordHere_48 : decode cX12_wordHere 48 = .ok (.iaload, 1) := by decide +kernel
theorem dX12_wordHere_49 : decode cX12_wordHere 49 = .ok (.bipush 96, 2) := by decide +kernel
theorem dX12_wordHere_51 : decode cX12_wordHere 51 = .ok (.isub, 1) := by decide +kernel
theorem dX12_wordHere_52 : decode cX12_wordHere 52 = .ok (.ior, 1) := by decide +kernel
theorem dX12_wordHere_53 : decode cX12_wordHere 53 = .ok (.goto 4, 3) := by decide +kernel
theorem dX12_wordHere_56 : decode cX12_wordHere 56 = .ok (.iconst 0, 1) := by decide +kernel
theorem dX12_wordHere_57 : decode cX12_wordHere 57 = .ok (.istore_n 1, 1) := by decide +kernel
theorem dX12_wordHere_58 : decode cX12_wordHere 58 = .ok (.iinc 2 1, 3) := by decide +kernel
theorem dX12_wordHere_61 : decode cX12_wordHere 61 = .ok (.iinc 3 1, 3) := by decide +kernel
theorem dX12_wordHere_64 : decode cX12_wordHere 64 = .ok (.goto (-50), 3) := by decide +kernel
theorem dX12_wordHere_67 : decode cX12_wordHere 67 = .ok (.iload_n 2, 1) := by decide +kernel
theorem dX12_wordHere_68 : decode cX12_wordHere 68 = .ok (.bipush 6, 2) := by decide +kernel
theorem dX12_wordHere_70 : decode cX12_wordHere 70 = .ok (.if_icmp .le 7, 3) := by decide +kernel
theorem dX12_wordHere_73 : decode cX12_wordHere 73 = .ok (.iconst 0, 1) := by decide +kernel
theorem dX12_wordHere_74 : decode cX12_wordHere 74 = .ok (.goto 4, 3) := by decide +kernel
theorem dX12_wordHere_77 : decode cX12_wordHere 77 = .ok (.iload_n 1, 1) := by decide +kernel
theorem dX12_wordHere_78 : decode cX12_wordHere 78 = .ok (.ireturn, 1) := by decide +kernel
theorem dX12_of_0 : decode cX12_of 0 = .ok (.iconst 0, 1) := by decide +kernel
theorem dX12_of_1 : decode cX12_of 1 = .ok (.istore_n 1, 1) := by decide +kernel
theorem dX12_of_2 : decode cX12_of 2 = .ok (.iconst 0, 1) := by decide +kernel
theorem dX12_of_3 : decode cX12_of 3 = .ok (.istore_n 2, 1) := by decide +kernel
theorem dX12_of_4 : decode cX12_of 4 = .ok (.iload_n 2, 1) := by decide +kernel
theorem dX12_of_5 : decode cX12_of 5 = .ok (.aload_n 0, 1) := by decide +kernel
theorem dX12_of_6 : decode cX12_of 6 = .ok (.invokevirtual 122, 3) := by decide +kernel
theorem dX12_of_9 : decode cX12_of 9 = .ok (.if_icmp .ge 22, 3) := by decide +kernel
theorem dX12_of_12 : decode cX12_of 12 = .ok (.iload_n 1, 1) := by decide +kernel
theorem dX12_of_13 : decode cX12_of 13 = .ok (.iconst 5, 1) := by decide +kernel
theorem dX12_of_14 : decode cX12_of 14 = .ok (.ishl, 1) := by decide +kernel
theorem dX12_of_15 : decode cX12_of 15 = .ok (.aload_n 0, 1) := by decide +kernel
theorem dX12_of_16 : decode cX12_of 16 = .ok (.iload_n 2, 1) := by decide +kernel
theorem dX12_of_17 : decode cX12_of 17 = .ok (.invokevirtual 127, 3) := by decide +kernel
theorem dX12_of_20 : decode cX12_of 20 = .ok (.bipush 96, 2) := by decide +kernel
theorem dX12_of_22 : decode cX12_of 22 = .ok (.isub, 1) := by decide +kernel
theorem dX12_of_23 : decode cX12_of 23 = .ok (.ior, 1) := by decide +kernel
theorem dX12_of_24 : decode cX12_of 24 = .ok (.istore_n 1, 1) := by decide +kernel
theorem dX12_of_25 : decode cX12_of 25 = .ok (.iinc 2 1, 3) := by decide +kernel
theorem dX12_of_28 : decode cX12_of 28 = .ok (.goto (-24), 3) := by decide +kernel
theorem dX12_of_31 : decode cX12_of 31 = .ok (.iload_n 1, 1) := by decide +kernel
theorem dX12_of_32 : decode cX12_of 32 = .ok (.ireturn, 1) := by decide +kernel
theorem dX12_pass_0 : decode cX12_pass 0 = .ok (.aload_n 0, 1) := by decide +kernel
theorem dX12_pass_1 : decode cX12_pass 1 = .ok (.getfield 108, 3) := by decide +kernel
theorem dX12_pass_4 : decode cX12_pass 4 = .ok (.aload_n 0, 1) := by decide +kernel
theorem dX12_pass_5 : decode cX12_pass 5 = .ok (.getfield 111, 3) := by decide +kernel
theorem dX12_pass_8 : decode cX12_pass 8 = .ok (.if_icmp .ge 31, 3) := by decide +kernel
theorem dX12_pass_11 : decode cX12_pass 11 = .ok (.aload_n 0, 1) := by decide +kernel
theorem dX12_pass_12 : decode cX12_pass 12 = .ok (.getfield 20, 3) := by decide +kernel
theorem dX12_pass_15 : decode cX12_pass 15 = .ok (.aload_n 0, 1) := by decide +kernel
theorem dX12_pass_16 : decode cX12_pass 16 = .ok (.getfield 108, 3) := by decide +kernel
theorem dX12_pass_19 : decode cX12_pass 19 = .ok (.iaload, 1) := by decide +kernel
theorem dX12_pass_20 : decode cX12_pass 20 = .ok (.invokestatic 118, 3) := by decide +kernel
theorem dX12_pass_23 : decode cX12_pass 23 = .ok (.ifCond .eq 16, 3) := by decide +kernel
theorem dX12_pass_26 : decode cX12_pass 26 = .ok (.aload_n 0, 1) := by decide +kernel
theorem dX12_pass_27 : decode cX12_pass 27 = .ok (.dup, 1) := by decide +kernel
theorem dX12_pass_28 : decode cX12_pass 28 = .ok (.getfield 108, 3) := by decide +kernel
theorem dX12_pass_31 : decode cX12_pass 31 = .ok (.iconst 1, 1) := by decide +kernel
theorem dX12_pass_32 : decode cX12_pass 32 = .ok (.iadd, 1) := by decide +kernel
theorem dX12_pass_33 : decode cX12_pass 33 = .ok (.putfield 108, 3) := by decide +kernel
theorem dX12_pass_36 : decode cX12_pass 36 = .ok (.goto (-36), 3) := by decide +kernel
theorem dX12_pass_39 : decode cX12_pass 39 = .ok (.return_, 1) := by decide +kernel
theorem dX12_readNumber_0 : decode cX12_readNumber 0 = .ok (.aload_n 0, 1) := by decide +kernel
theorem dX12_readNumber_1 : decode cX12_readNumber 1 = .ok (.invokevirtual 131, 3) := by decide +kernel
theorem dX12_readNumber_4 : decode cX12_readNumber 4 = .ok (.ifCond .ne 5, 3) := by decide +kernel
theorem dX12_readNumber_7 : decode cX12_readNumber 7 = .ok (.iconst 0, 1) := by decide +kernel
theorem dX12_readNumber_8 : decode cX12_readNumber 8 = .ok (.ireturn, 1) := by decide +kernel
theorem dX12_readNumber_9 : decode cX12_readNumber 9 = .ok (.aload_n 0, 1) := by decide +kernel
theorem dX12_readNumber_10 : decode cX12_readNumber 10 = .ok (.invokevirtual 114, 3) := by decide +kernel
theorem dX12_readNumber_13 : decode cX12_readNumber 13 = .ok (.istore_n 3, 1) := by decide +kernel
theorem dX12_readNumber_14 : decode cX12_readNumber 14 = .ok (.aload_n 0, 1) := by decide +kernel
theorem dX12_readNumber_15 : decode cX12_readNumber 15 = .ok (.getfield 108, 3) := by decide +kernel
theorem dX12_readNumber_18 : decode cX12_readNumber 18 = .ok (.istore 4, 2) := by decide +kernel
theorem dX12_readNumber_20 : decode cX12_readNumber 20 = .ok (.iconst 0, 1) := by decide +kernel
theorem dX12_readNumber_21 : decode cX12_readNumber 21 = .ok (.istore 5, 2) := by decide +kernel
theorem dX12_readNumber_23 : decode cX12_readNumber 23 = .ok (.iload_n 3, 1) := by decide +kernel
theorem dX12_readNumber_24 : decode cX12_readNumber 24 = .ok (.invokestatic 135, 3) := by decide +kernel
theorem dX12_readNumber_27 : decode cX12_readNumber 27 = .ok (.ifCond .ne 14, 3) := by decide +kernel
theorem dX12_readNumber_30 : decode cX12_readNumber 30 = .ok (.aload_n 0, 1) := by decide +kernel
theorem dX12_readNumber_31 : decode cX12_readNumber 31 = .ok (.iconst 1, 1) := by decide +kernel
theorem dX12_readNumber_32 : decode cX12_readNumber 32 = .ok (.aload_n 0, 1) := by decide +kernel
theorem dX12_readNumber_33 : decode cX12_readNumber 33 = .ok (.getfield 108, 3) := by decide +kernel
theorem dX12_readNumber_36 : decode cX12_readNumber 36 = .ok (.invokevirtual 138, 3) := by decide +kernel
theorem dX12_readNumber_39 : decode cX12_readNumber 39 = .ok (.iconst 0, 1) := by decide +kernel
theorem dX12_readNumber_40 : decode cX12_readNumber 40 = .ok (.ireturn, 1) := by decide +kernel
theorem dX12_readNumber_41 : decode cX12_readNumber 41 = .ok (.aload_n 0, 1) := by decide +kernel
theorem dX12_readNumber_42 : decode cX12_readNumber 42 = .ok (.getfield 108, 3) := by decide +kernel
theorem dX12_readNumber_45 : decode cX12_readNumber 45 = .ok (.aload_n 0, 1) := by decide +kernel
theorem dX12_readNumber_46 : decode cX12_readNumber 46 = .ok (.getfield 111, 3) := by decide +kernel
theorem dX12_readNumber_49 : decode cX12_readNumber 49 = .ok (.if_icmp .ge 65, 3) := by decide +kernel
theorem dX12_readNumber_52 : decode cX12_readNumber 52 = .ok (.aload_n 0, 1) := by decide +kernel
theorem dX12_readNumber_53 : decode cX12_readNumber 53 = .ok (.getfield 20, 3) := by decide +kernel
theorem dX12_readNumber_56 : decode cX12_readNumber 56 = .ok (.aload_n 0, 1) := by decide +kernel
theorem dX12_readNumber_57 : decode cX12_readNumber 57 = .ok (.getfield 108, 3) := by decide +kernel
theorem dX12_readNumber_60 : decode cX12_readNumber 60 = .ok (.iaload, 1) := by decide +kernel
theorem dX12_readNumber_61 : decode cX12_readNumber 61 = .ok (.invokestatic 135, 3) := by decide +kernel
theorem dX12_readNumber_64 : decode cX12_readNumber 64 = .ok (.ifCond .eq 50, 3) := by decide +kernel
theorem dX12_readNumber_67 : decode cX12_readNumber 67 = .ok (.iload 5, 2) := by decide +kernel
theorem dX12_readNumber_69 : decode cX12_readNumber 69 = .ok (.sipush 9999, 3) := by decide +kernel
theorem dX12_readNumber_72 : decode cX12_readNumber 72 = .ok (.if_icmp .le 9, 3) := by decide +kernel
theorem dX12_readNumber_75 : decode cX12_readNumber 75 = .ok (.sipush 10000, 3) := by decide +kernel
theorem dX12_readNumber_78 : decode cX12_readNumber 78 = .ok (.goto 21, 3) := by decide +kernel
theorem dX12_readNumber_81 : decode cX12_readNumber 81 = .ok (.bipush 10, 2) := by decide +kernel
theorem dX12_readNumber_83 : decode cX12_readNumber 83 = .ok (.iload 5, 2) := by decide +kernel
theorem dX12_readNumber_85 : decode cX12_readNumber 85 = .ok (.imul, 1) := by decide +kernel
theorem dX12_readNumber_86 : decode cX12_readNumber 86 = .ok (.aload_n 0, 1) := by decide +kernel
theorem dX12_readNumber_87 : decode cX12_readNumber 87 = .ok (.getfield 20, 3) := by decide +kernel
theorem dX12_readNumber_90 : decode cX12_readNumber 90 = .ok (.aload_n 0, 1) := by decide +kernel
theorem dX12_readNumber_91 : decode cX12_readNumber 91 = .ok (.getfield 108, 3) := by decide +kernel
theorem dX12_readNumber_94 : decode cX12_readNumber 94 = .ok (.iaload, 1) := by decide +kernel
theorem dX12_readNumber_95 : decode cX12_readNumber 95 = .ok (.iadd, 1) := by decide +kernel
theorem dX12_readNumber_96 : decode cX12_readNumber 96 = .ok (.bipush 48, 2) := by decide +kernel
theorem dX12_readNumber_98 : decode cX12_readNumber 98 = .ok (.isub, 1) := by decide +kernel
theorem dX12_readNumber_99 : decode cX12_readNumber 99 = .ok (.istore 5, 2) := by decide +kernel
theorem dX12_readNumber_101 : decode cX12_readNumber 101 = .ok (.aload_n 0, 1) := by decide +kernel
theorem dX12_readNumber_102 : decode cX12_readNumber 102 = .ok (.dup, 1) := by decide +kernel
theorem dX12_readNumber_103 : decode cX12_readNumber 103 = .ok (.getfield 108, 3) := by decide +kernel
theorem dX12_readNumber_106 : decode cX12_readNumber 106 = .ok (.iconst 1, 1) := by decide +kernel
theorem dX12_readNumber_107 : decode cX12_readNumber 107 = .ok (.iadd, 1) := by decide +kernel
theorem dX12_readNumber_108 : decode cX12_readNumber 108 = .ok (.putfield 108, 3) := by decide +kernel
theorem dX12_readNumber_111 : decode cX12_readNumber 111 = .ok (.goto (-70), 3) := by decide +kernel
theorem dX12_readNumber_114 : decode cX12_readNumber 114 = .ok (.iload 5, 2) := by decide +kernel
theorem dX12_readNumber_116 : decode cX12_readNumber 116 = .ok (.iload_n 1, 1) := by decide +kernel
theorem dX12_readNumber_117 : decode cX12_readNumber 117 = .ok (.if_icmp .lt 9, 3) := by decide +kernel
theorem dX12_readNumber_120 : decode cX12_readNumber 120 = .ok (.iload 5, 2) := by decide +kernel
theorem dX12_readNumber_122 : decode cX12_readNumber 122 = .ok (.iload_n 2, 1) := by decide +kernel
theorem dX12_readNumber_123 : decode cX12_readNumber 123 = .ok (.if_icmp .le 12, 3) := by decide +kernel
theorem dX12_readNumber_126 : decode cX12_readNumber 126 = .ok (.aload_n 0, 1) := by decide +kernel
theorem dX12_readNumber_127 : decode cX12_readNumber 127 = .ok (.iconst 2, 1) := by decide +kernel
theorem dX12_readNumber_128 : decode cX12_readNumber 128 = .ok (.iload 4, 2) := by decide +kernel
theorem dX12_readNumber_130 : decode cX12_readNumber 130 = .ok (.invokevirtual 138, 3) := by decide +kernel
theorem dX12_readNumber_133 : decode cX12_readNumber 133 = .ok (.iconst 0, 1) := by decide +kernel
theorem dX12_readNumber_134 : decode cX12_readNumber 134 = .ok (.ireturn, 1) := by decide +kernel
theorem dX12_readNumber_135 : decode cX12_readNumber 135 = .ok (.iload 5, 2) := by decide +kernel
theorem dX12_readNumber_137 : decode cX12_readNumber 137 = .ok (.ireturn, 1) := by decide +kernel
theorem dX12_sign_0 : decode cX12_sign 0 = .ok (.aload_n 0, 1) := by decide +kernel
theorem dX12_sign_1 : decode cX12_sign 1 = .ok (.invokevirtual 131, 3) := by decide +kernel
theorem dX12_sign_4 : decode cX12_sign 4 = .ok (.ifCond .eq 20, 3) := by decide +kernel
theorem dX12_sign_7 : decode cX12_sign 7 = .ok (.aload_n 0, 1) := by decide +kernel
theorem dX12_sign_8 : decode cX12_sign 8 = .ok (.invokevirtual 114, 3) := by decide +kernel
theorem dX12_sign_11 : decode cX12_sign 11 = .ok (.iload_n 1, 1) := by decide +kernel
theorem dX12_sign_12 : decode cX12_sign 12 = .ok (.if_icmp .eq 12, 3) := by decide +kernel
theorem dX12_sign_15 : decode cX12_sign 15 = .ok (.aload_n 0, 1) := by decide +kernel
theorem dX12_sign_16 : decode cX12_sign 16 = .ok (.iconst 1, 1) := by decide +kernel
theorem dX12_sign_17 : decode cX12_sign 17 = .ok (.aload_n 0, 1) := by decide +kernel
theorem dX12_sign_18 : decode cX12_sign 18 = .ok (.getfield 108, 3) := by decide +kernel
theorem dX12_sign_21 : decode cX12_sign 21 = .ok (.invokevirtual 138, 3) := by decide +kernel
theorem dX12_sign_24 : decode cX12_sign 24 = .ok (.aload_n 0, 1) := by decide +kernel
theorem dX12_sign_25 : decode cX12_sign 25 = .ok (.invokevirtual 131, 3) := by decide +kernel
theorem dX12_sign_28 : decode cX12_sign 28 = .ok (.ifCond .eq 13, 3) := by decide +kernel
theorem dX12_sign_31 : decode cX12_sign 31 = .ok (.aload_n 0, 1) := by decide +kernel
theorem dX12_sign_32 : decode cX12_sign 32 = .ok (.dup, 1) := by decide +kernel
theorem dX12_sign_33 : decode cX12_sign 33 = .ok (.getfield 108, 3) := by decide +kernel
theorem dX12_sign_36 : decode cX12_sign 36 = .ok (.iconst 1, 1) := by decide +kernel
theorem dX12_sign_37 : decode cX12_sign 37 = .ok (.iadd, 1) := by decide +kernel
theorem dX12_sign_38 : decode cX12_sign 38 = .ok (.putfield 108, 3) := by decide +kernel
theorem dX12_sign_41 : decode cX12_sign 41 = .ok (.return_, 1) := by decide +kernel
theorem dX12_isMore_0 : decode cX12_isMore 0 = .ok (.aload_n 0, 1) := by decide +kernel
theorem dX12_isMore_1 : decode cX12_isMore 1 = .ok (.invokevirtual 114, 3) := by decide +kernel
theorem dX12_isMore_4 : decode cX12_isMore 4 = .ok (.pop, 1) := by decide +kernel
theorem dX12_isMore_5 : decode cX12_isMore 5 = .ok (.aload_n 0, 1) := by decide +kernel
theorem dX12_isMore_6 : decode cX12_isMore 6 = .ok (.getfield 108, 3) := by decide +kernel
theorem dX12_isMore_9 : decode cX12_isMore 9 = .ok (.aload_n 0, 1) := by decide +kernel
theorem dX12_isMore_10 : decode cX12_isMore 10 = .ok (.getfield 111, 3) := by decide +kernel
theorem dX12_isMore_13 : decode cX12_isMore 13 = .ok (.if_icmp .ge 7, 3) := by decide +kernel
theorem dX12_isMore_16 : decode cX12_isMore 16 = .ok (.iconst 1, 1) := by decide +kernel
theorem dX12_isMore_17 : decode cX12_isMore 17 = .ok (.goto 4, 3) := by decide +kernel
theorem dX12_isMore_20 : decode cX12_isMore 20 = .ok (.iconst 0, 1) := by decide +kernel
theorem dX12_isMore_21 : decode cX12_isMore 21 = .ok (.ireturn, 1) := by decide +kernel
theorem dX12_begins_0 : decode cX12_begins 0 = .ok (.aload_n 0, 1) := by decide +kernel
theorem dX12_begins_1 : decode cX12_begins 1 = .ok (.iconst 0, 1) := by decide +kernel
theorem dX12_begins_2 : decode cX12_begins 2 = .ok (.putfield 99, 3) := by decide +kernel
theorem dX12_begins_5 : decode cX12_begins 5 = .ok (.aload_n 0, 1) := by decide +kernel
theorem dX12_begins_6 : decode cX12_begins 6 = .ok (.iconst (-1), 1) := by decide +kernel
theorem dX12_begins_7 : decode cX12_begins 7 = .ok (.putfield 17, 3) := by decide +kernel
theorem dX12_begins_10 : decode cX12_begins 10 = .ok (.aload_n 0, 1) := by decide +kernel
theorem dX12_begins_11 : decode cX12_begins 11 = .ok (.iload_n 1, 1) := by decide +kernel
theorem dX12_begins_12 : decode cX12_begins 12 = .ok (.putfield 111, 3) := by decide +kernel
theorem dX12_begins_15 : decode cX12_begins 15 = .ok (.aload_n 0, 1) := by decide +kernel
theorem dX12_begins_16 : decode cX12_begins 16 = .ok (.iconst 0, 1) := by decide +kernel
theorem dX12_begins_17 : decode cX12_begins 17 = .ok (.putfield 108, 3) := by decide +kernel
theorem dX12_begins_20 : decode cX12_begins 20 = .ok (.aload_n 0, 1) := by decide +kernel
theorem dX12_begins_21 : decode cX12_begins 21 = .ok (.iconst (-1), 1) := by decide +kernel
theorem dX12_begins_22 : decode cX12_begins 22 = .ok (.putfield 102, 3) := by decide +kernel
theorem dX12_begins_25 : decode cX12_begins 25 = .ok (.aload_n 0, 1) := by decide +kernel
theorem dX12_begins_26 : decode cX12_begins 26 = .ok (.iconst 0, 1) := by decide +kernel
theorem dX12_begins_27 : decode cX12_begins 27 = .ok (.putfield 142, 3) := by decide +kernel
theorem dX12_begins_30 : decode cX12_begins 30 = .ok (.return_, 1) := by decide +kernel
theorem dX12_result_0 : decode cX12_result 0 = .ok (.aload_n 0, 1) := by decide +kernel
theorem dX12_result_1 : decode cX12_result 1 = .ok (.aload_n 0, 1) := by decide +kernel
theorem dX12_result_2 : decode cX12_result 2 = .ok (.getfield 102, 3) := by decide +kernel
theorem dX12_result_5 : decode cX12_result 5 = .ok (.putfield 17, 3) := by decide +kernel
theorem dX12_result_8 : decode cX12_result 8 = .ok (.aload_n 0, 1) := by decide +kernel
theorem dX12_result_9 : decode cX12_result 9 = .ok (.invokevirtual 131, 3) := by decide +kernel
theorem dX12_result_12 : decode cX12_result 12 = .ok (.ifCond .eq 7, 3) := by decide +kernel
theorem dX12_result_15 : decode cX12_result 15 = .ok (.iload_n 1, 1) := by decide +kernel
theorem dX12_result_16 : decode cX12_result 16 = .ok (.goto 10, 3) := by decide +kernel
theorem dX12_result_19 : decode cX12_result 19 = .ok (.aload_n 0, 1) := by decide +kernel
theorem dX12_result_20 : decode cX12_result 20 = .ok (.getfield 105, 3) := by decide +kernel
theorem dX12_result_23 : decode cX12_result 23 = .ok (.bipush 10, 2) := by decide +kernel
theorem dX12_result_25 : decode cX12_result 25 = .ok (.isub, 1) := by decide +kernel
theorem dX12_result_26 : decode cX12_result 26 = .ok (.ireturn, 1) := by decide +kernel
theorem dX12_fault_0 : decode cX12_fault 0 = .ok (.aload_n 0, 1) := by decide +kernel
theorem dX12_fault_1 : decode cX12_fault 1 = .ok (.iconst 0, 1) := by decide +kernel
theorem dX12_fault_2 : decode cX12_fault 2 = .ok (.putfield 3, 3) := by decide +kernel
theorem dX12_fault_5 : decode cX12_fault 5 = .ok (.aload_n 0, 1) := by decide +kernel
theorem dX12_fault_6 : decode cX12_fault 6 = .ok (.getfield 17, 3) := by decide +kernel
theorem dX12_fault_9 : decode cX12_fault 9 = .ok (.ireturn, 1) := by decide +kernel
theorem dX12_copies_0 : decode cX12_copies 0 = .ok (.iconst 0, 1) := by decide +kernel
theorem dX12_copies_1 : decode cX12_copies 1 = .ok (.istore 4, 2) := by decide +kernel
theorem dX12_copies_3 : decode cX12_copies 3 = .ok (.iload 4, 2) := by decide +kernel
theorem dX12_copies_5 : decode cX12_copies 5 = .ok (.iload_n 3, 1) := by decide +kernel
theorem dX12_copies_6 : decode cX12_copies 6 = .ok (.if_icmp .ge 17, 3) := by decide +kernel
theorem dX12_copies_9 : decode cX12_copies 9 = .ok (.aload_n 2, 1) := by decide +kernel
theorem dX12_copies_10 : decode cX12_copies 10 = .ok (.iload 4, 2) := by decide +kernel
theorem dX12_copies_12 : decode cX12_copies 12 = .ok (.aload_n 1, 1) := by decide +kernel
theorem dX12_copies_13 : decode cX12_copies 13 = .ok (.iload 4, 2) := by decide +kernel
theorem dX12_copies_15 : decode cX12_copies 15 = .ok (.iaload, 1) := by decide +kernel
theorem dX12_copies_16 : decode cX12_copies 16 = .ok (.iastore, 1) := by decide +kernel
theorem dX12_copies_17 : decode cX12_copies 17 = .ok (.iinc 4 1, 3) := by decide +kernel
theorem dX12_copies_20 : decode cX12_copies 20 = .ok (.goto (-17), 3) := by decide +kernel
theorem dX12_copies_23 : decode cX12_copies 23 = .ok (.return_, 1) := by decide +kernel
theorem dX12_clears_0 : decode cX12_clears 0 = .ok (.aload_n 0, 1) := by decide +kernel
theorem dX12_clears_1 : decode cX12_clears 1 = .ok (.iconst 0, 1) := by decide +kernel
theorem dX12_clears_2 : decode cX12_clears 2 = .ok (.putfield 145, 3) := by decide +kernel
theorem dX12_clears_5 : decode cX12_clears 5 = .ok (.aload_n 0, 1) := by decide +kernel
theorem dX12_clears_6 : decode cX12_clears 6 = .ok (.iconst 0, 1) := by decide +kernel
theorem dX12_clears_7 : decode cX12_clears 7 = .ok (.putfield 148, 3) := by decide +kernel
theorem dX12_clears_10 : decode cX12_clears 10 = .ok (.aload_n 0, 1) := by decide +kernel
theorem dX12_clears_11 : decode cX12_clears 11 = .ok (.bipush 20, 2) := by decide +kernel
theorem dX12_clears_13 : decode cX12_clears 13 = .ok (.putfield 151, 3) := by decide +kernel
theorem dX12_clears_16 : decode cX12_clears 16 = .ok (.return_, 1) := by decide +kernel
theorem dX12_sets_0 : decode cX12_sets 0 = .ok (.aload_n 0, 1) := by decide +kernel
theorem dX12_sets_1 : decode cX12_sets 1 = .ok (.aload_n 0, 1) := by decide +kernel
theorem dX12_sets_2 : decode cX12_sets 2 = .ok (.getfield 145, 3) := by decide +kernel
theorem dX12_sets_5 : decode cX12_sets 5 = .ok (.putfield 154, 3) := by decide +kernel
theorem dX12_sets_8 : decode cX12_sets 8 = .ok (.aload_n 0, 1) := by decide +kernel
theorem dX12_sets_9 : decode cX12_sets 9 = .ok (.aload_n 0, 1) := by decide +kernel
theorem dX12_sets_10 : decode cX12_sets 10 = .ok (.getfield 148, 3) := by decide +kernel
theorem dX12_sets_13 : decode cX12_sets 13 = .ok (.putfield 157, 3) := by decide +kernel
theorem dX12_sets_16 : decode cX12_sets 16 = .ok (.aload_n 0, 1) := by decide +kernel
theorem dX12_sets_17 : decode cX12_sets 17 = .ok (.aload_n 0, 1) := by decide +kernel
theorem dX12_sets_18 : decode cX12_sets 18 = .ok (.getfield 151, 3) := by decide +kernel
theorem dX12_sets_21 : decode cX12_sets 21 = .ok (.putfield 160, 3) := by decide +kernel
theorem dX12_sets_24 : decode cX12_sets 24 = .ok (.aload_n 0, 1) := by decide +kernel
theorem dX12_sets_25 : decode cX12_sets 25 = .ok (.aload_n 0, 1) := by decide +kernel
theorem dX12_sets_26 : decode cX12_sets 26 = .ok (.getfield 23, 3) := by decide +kernel
theorem dX12_sets_29 : decode cX12_sets 29 = .ok (.aload_n 0, 1) := by decide +kernel
theorem dX12_sets_30 : decode cX12_sets 30 = .ok (.getfield 29, 3) := by decide +kernel
theorem dX12_sets_33 : decode cX12_sets 33 = .ok (.bipush 14, 2) := by decide +kernel
theorem dX12_sets_35 : decode cX12_sets 35 = .ok (.invokevirtual 163, 3) := by decide +kernel
theorem dX12_sets_38 : decode cX12_sets 38 = .ok (.aload_n 0, 1) := by decide +kernel
theorem dX12_sets_39 : decode cX12_sets 39 = .ok (.aload_n 0, 1) := by decide +kernel
theorem dX12_sets_40 : decode cX12_sets 40 = .ok (.getfield 26, 3) := by decide +kernel
theorem dX12_sets_43 : decode cX12_sets 43 = .ok (.aload_n 0, 1) := by decide +kernel
theorem dX12_sets_44 : decode cX12_sets 44 = .ok (.getfield 32, 3) := by decide +kernel
theorem dX12_sets_47 : decode cX12_sets 47 = .ok (.bipush 24, 2) := by decide +kernel
theorem dX12_sets_49 : decode cX12_sets 49 = .ok (.invokevirtual 163, 3) := by decide +kernel
theorem dX12_sets_52 : decode cX12_sets 52 = .ok (.aload_n 0, 1) := by decide +kernel
theorem dX12_sets_53 : decode cX12_sets 53 = .ok (.iconst 0, 1) := by decide +kernel
theorem dX12_sets_54 : decode cX12_sets 54 = .ok (.putfield 167, 3) := by decide +kernel
theorem dX12_sets_57 : decode cX12_sets 57 = .ok (.aload_n 0, 1) := by decide +kernel
theorem dX12_sets_58 : decode cX12_sets 58 = .ok (.iconst 0, 1) := by decide +kernel
theorem dX12_sets_59 : decode cX12_sets 59 = .ok (.putfield 170, 3) := by decide +kernel
theorem dX12_sets_62 : decode cX12_sets 62 = .ok (.aload_n 0, 1) := by decide +kernel
theorem dX12_sets_63 : decode cX12_sets 63 = .ok (.iconst 0, 1) := by decide +kernel
theorem dX12_sets_64 : decode cX12_sets 64 = .ok (.putfield 173, 3) := by decide +kernel
theorem dX12_sets_67 : decode cX12_sets 67 = .ok (.aload_n 0, 1) := by decide +kernel
theorem dX12_sets_68 : decode cX12_sets 68 = .ok (.iconst 0, 1) := by decide +kernel
theorem dX12_sets_69 : decode cX12_sets 69 = .ok (.putfield 176, 3) := by decide +kernel
theorem dX12_sets_72 : decode cX12_sets 72 = .ok (.aload_n 0, 1) := by decide +kernel
theorem dX12_sets_73 : decode cX12_sets 73 = .ok (.iconst 0, 1) := by decide +kernel
theorem dX12_sets_74 : decode cX12_sets 74 = .ok (.putfield 179, 3) := by decide +kernel
theorem dX12_sets_77 : decode cX12_sets 77 = .ok (.iconst 0, 1) := by decide +kernel
theorem dX12_sets_78 : decode cX12_sets 78 = .ok (.istore_n 1, 1) := by decide +kernel
theorem dX12_sets_79 : decode cX12_sets 79 = .ok (.iload_n 1, 1) := by decide +kernel
theorem dX12_sets_80 : decode cX12_sets 80 = .ok (.bipush 7, 2) := by decide +kernel
theorem dX12_sets_82 : decode cX12_sets 82 = .ok (.if_icmp .ge 16, 3) := by decide +kernel
theorem dX12_sets_85 : decode cX12_sets 85 = .ok (.aload_n 0, 1) := by decide +kernel
theorem dX12_sets_86 : decode cX12_sets 86 = .ok (.getfield 71, 3) := by decide +kernel
theorem dX12_sets_89 : decode cX12_sets 89 = .ok (.iload_n 1, 1) := by decide +kernel
theorem dX12_sets_90 : decode cX12_sets 90 = .ok (.iconst (-1), 1) := by decide +kernel
theorem dX12_sets_91 : decode cX12_sets 91 = .ok (.iastore, 1) := by decide +kernel
theorem dX12_sets_92 : decode cX12_sets 92 = .ok (.iinc 1 1, 3) := by decide +kernel
theorem dX12_sets_95 : decode cX12_sets 95 = .ok (.goto (-16), 3) := by decide +kernel
theorem dX12_sets_98 : decode cX12_sets 98 = .ok (.iconst 0, 1) := by decide +kernel
theorem dX12_sets_99 : decode cX12_sets 99 = .ok (.istore_n 1, 1) := by decide +kernel
theorem dX12_sets_100 : decode cX12_sets 100 = .ok (.iload_n 1, 1) := by decide +kernel
theorem dX12_sets_101 : decode cX12_sets 101 = .ok (.bipush 126, 2) := by decide +kernel
theorem dX12_sets_103 : decode cX12_sets 103 = .ok (.if_icmp .ge 26, 3) := by decide +kernel
theorem dX12_sets_106 : decode cX12_sets 106 = .ok (.aload_n 0, 1) := by decide +kernel
theorem dX12_sets_107 : decode cX12_sets 107 = .ok (.getfield 59, 3) := by decide +kernel
theorem dX12_sets_110 : decode cX12_sets 110 = .ok (.iload_n 1, 1) := by decide +kernel
theorem dX12_sets_111 : decode cX12_sets 111 = .ok (.iload_n 1, 1) := by decide +kernel
theorem dX12_sets_112 : decode cX12_sets 112 = .ok (.bipush 84, 2) := by decide +kernel
theorem dX12_sets_114 : decode cX12_sets 114 = .ok (.if_icmp .ge 7, 3) := by decide +kernel
theorem dX12_sets_117 : decode cX12_sets 117 = .ok (.iconst (-1), 1) := by decide +kernel
theorem dX12_sets_118 : decode cX12_sets 118 = .ok (.goto 4, 3) := by decide +kernel
theorem dX12_sets_121 : decode cX12_sets 121 = .ok (.iconst 0, 1) := by decide +kernel
theorem dX12_sets_122 : decode cX12_sets 122 = .ok (.iastore, 1) := by decide +kernel
theorem dX12_sets_123 : decode cX12_sets 123 = .ok (.iinc 1 1, 3) := by decide +kernel
theorem dX12_sets_126 : decode cX12_sets 126 = .ok (.goto (-26), 3) := by decide +kernel
theorem dX12_sets_129 : decode cX12_sets 129 = .ok (.return_, 1) := by decide +kernel
theorem dX12_standsHere_0 : decode cX12_standsHere 0 = .ok (.aload_n 0, 1) := by decide +kernel
theorem dX12_standsHere_1 : decode cX12_standsHere 1 = .ok (.invokevirtual 114, 3) := by decide +kernel
theorem dX12_standsHere_4 : decode cX12_standsHere 4 = .ok (.pop, 1) := by decide +kernel
theorem dX12_standsHere_5 : decode cX12_standsHere 5 = .ok (.iconst 0, 1) := by decide +kernel
theorem dX12_standsHere_6 : decode cX12_standsHere 6 = .ok (.istore_n 2, 1) := by decide +kernel
theorem dX12_standsHere_7 : decode cX12_standsHere 7 = .ok (.iload_n 2, 1) := by decide +kernel
theorem dX12_standsHere_8 : decode cX12_standsHere 8 = .ok (.aload_n 1, 1) := by decide +kernel
theorem dX12_standsHere_9 : decode cX12_standsHere 9 = .ok (.invokevirtual 122, 3) := by decide +kernel
theorem dX12_standsHere_12 : decode cX12_standsHere 12 = .ok (.if_icmp .ge 43, 3) := by decide +kernel
theorem dX12_standsHere_15 : decode cX12_standsHere 15 = .ok (.aload_n 0, 1) := by decide +kernel
theorem dX12_standsHere_16 : decode cX12_standsHere 16 = .ok (.getfield 108, 3) := by decide +kernel
theorem dX12_standsHere_19 : decode cX12_standsHere 19 = .ok (.iload_n 2, 1) := by decide +kernel
theorem dX12_standsHere_20 : decode cX12_standsHere 20 = .ok (.iadd, 1) := by decide +kernel
theorem dX12_standsHere_21 : decode cX12_standsHere 21 = .ok (.aload_n 0, 1) := by decide +kernel
theorem dX12_standsHere_22 : decode cX12_standsHere 22 = .ok (.getfield 111, 3) := by decide +kernel
theorem dX12_standsHere_25 : decode cX12_standsHere 25 = .ok (.if_icmp .ge 22, 3) := by decide +kernel
theorem dX12_standsHere_28 : decode cX12_standsHere 28 = .ok (.aload_n 0, 1) := by decide +kernel
theorem dX12_standsHere_29 : decode cX12_standsHere 29 = .ok (.getfield 20, 3) := by decide +kernel
theorem dX12_standsHere_32 : decode cX12_standsHere 32 = .ok (.aload_n 0, 1) := by decide +kernel
theorem dX12_standsHere_33 : decode cX12_standsHere 33 = .ok (.getfield 108, 3) := by decide +kernel
theorem dX12_standsHere_36 : decode cX12_standsHere 36 = .ok (.iload_n 2, 1) := by decide +kernel
theorem dX12_standsHere_37 : decode cX12_standsHere 37 = .ok (.iadd, 1) := by decide +kernel
theorem dX12_standsHere_38 : decode cX12_standsHere 38 = .ok (.iaload, 1) := by decide +kernel
theorem dX12_standsHere_39 : decode cX12_standsHere 39 = .ok (.aload_n 1, 1) := by decide +kernel
theorem dX12_standsHere_40 : decode cX12_standsHere 40 = .ok (.iload_n 2, 1) := by decide +kernel
theorem dX12_standsHere_41 : decode cX12_standsHere 41 = .ok (.invokevirtual 127, 3) := by decide +kernel
theorem dX12_standsHere_44 : decode cX12_standsHere 44 = .ok (.if_icmp .eq 5, 3) := by decide +kernel
theorem dX12_standsHere_47 : decode cX12_standsHere 47 = .ok (.iconst 0, 1) := by decide +kernel
theorem dX12_standsHere_48 : decode cX12_standsHere 48 = .ok (.ireturn, 1) := by decide +kernel
theorem dX12_standsHere_49 : decode cX12_standsHere 49 = .ok (.iinc 2 1, 3) := by decide +kernel
theorem dX12_standsHere_52 : decode cX12_standsHere 52 = .ok (.goto (-45), 3) := by decide +kernel
theorem dX12_standsHere_55 : decode cX12_standsHere 55 = .ok (.aload_n 0, 1) := by decide +kernel
theorem dX12_standsHere_56 : decode cX12_standsHere 56 = .ok (.getfield 108, 3) := by decide +kernel
theorem dX12_standsHere_59 : decode cX12_standsHere 59 = .ok (.aload_n 1, 1) := by decide +kernel
theorem dX12_standsHere_60 : decode cX12_standsHere 60 = .ok (.invokevirtual 122, 3) := by decide +kernel
theorem dX12_standsHere_63 : decode cX12_standsHere 63 = .ok (.iadd, 1) := by decide +kernel
theorem dX12_standsHere_64 : decode cX12_standsHere 64 = .ok (.aload_n 0, 1) := by decide +kernel
theorem dX12_standsHere_65 : decode cX12_standsHere 65 = .ok (.getfield 111, 3) := by decide +kernel
theorem dX12_standsHere_68 : decode cX12_standsHere 68 = .ok (.if_icmp .ge 23, 3) := by decide +kernel
theorem dX12_standsHere_71 : decode cX12_standsHere 71 = .ok (.aload_n 0, 1) := by decide +kernel
theorem dX12_standsHere_72 : decode cX12_standsHere 72 = .ok (.getfield 20, 3) := by decide +kernel
theorem dX12_standsHere_75 : decode cX12_standsHere 75 = .ok (.aload_n 0, 1) := by decide +kernel
theorem dX12_standsHere_76 : decode cX12_standsHere 76 = .ok (.getfield 108, 3) := by decide +kernel
theorem dX12_standsHere_79 : decode cX12_standsHere 79 = .ok (.aload_n 1, 1) := by decide +kernel
theorem dX12_standsHere_80 : decode cX12_standsHere 80 = .ok (.invokevirtual 122, 3) := by decide +kernel
theorem dX12_standsHere_83 : decode cX12_standsHere 83 = .ok (.iadd, 1) := by decide +kernel
theorem dX12_standsHere_84 : decode cX12_standsHere 84 = .ok (.iaload, 1) := by decide +kernel
theorem dX12_standsHere_85 : decode cX12_standsHere 85 = .ok (.invokestatic 118, 3) := by decide +kernel
theorem dX12_standsHere_88 : decode cX12_standsHere 88 = .ok (.ifCond .ne 7, 3) := by decide +kernel
theorem dX12_standsHere_91 : decode cX12_standsHere 91 = .ok (.iconst 1, 1) := by decide +kernel
theorem dX12_standsHere_92 : decode cX12_standsHere 92 = .ok (.goto 4, 3) := by decide +kernel
theorem dX12_standsHere_95 : decode cX12_standsHere 95 = .ok (.iconst 0, 1) := by decide +kernel
theorem dX12_standsHere_96 : decode cX12_standsHere 96 = .ok (.ireturn, 1) := by decide +kernel
theorem dX12_isRow_0 : decode cX12_isRow 0 = .ok (.iload_n 0, 1) := by decide +kernel
theorem dX12_isRow_1 : decode cX12_isRow 1 = .ok (.ldc 182, 2) := by decide +kernel
theorem dX12_isRow_3 : decode cX12_isRow 3 = .ok (.invokestatic 183, 3) := by decide +kernel
theorem dX12_isRow_6 : decode cX12_isRow 6 = .ok (.if_icmp .eq 18, 3) := by decide +kernel
theorem dX12_isRow_9 : decode cX12_isRow 9 = .ok (.iload_n 0, 1) := by decide +kernel
theorem dX12_isRow_10 : decode cX12_isRow 10 = .ok (.bipush (-7), 2) := by decide +kernel
theorem dX12_isRow_12 : decode cX12_isRow 12 = .ok (.if_icmp .eq 12, 3) := by decide +kernel
theorem dX12_isRow_15 : decode cX12_isRow 15 = .ok (.iload_n 0, 1) := by decide +kernel
theorem dX12_isRow_16 : decode cX12_isRow 16 = .ok (.ldc 187, 2) := by decide +kernel
theorem dX12_isRow_18 : decode cX12_isRow 18 = .ok (.invokestatic 183, 3) := by decide +kernel
theorem dX12_isRow_21 : decode cX12_isRow 21 = .ok (.if_icmp .ne 7, 3) := by decide +kernel
theorem dX12_isRow_24 : decode cX12_isRow 24 = .ok (.iconst 1, 1) := by decide +kernel
theorem dX12_isRow_25 : decode cX12_isRow 25 = .ok (.goto 4, 3) := by decide +kernel
theorem dX12_isRow_28 : decode cX12_isRow 28 = .ok (.iconst 0, 1) := by decide +kernel
theorem dX12_isRow_29 : decode cX12_isRow 29 = .ok (.ireturn, 1) := by decide +kernel
theorem dX12_isFull_0 : decode cX12_isFull 0 = .ok (.iload_n 1, 1) := by decide +kernel
theorem dX12_isFull_1 : decode cX12_isFull 1 = .ok (.ldc 182, 2) := by decide +kernel
theorem dX12_isFull_3 : decode cX12_isFull 3 = .ok (.invokestatic 183, 3) := by decide +kernel
theorem dX12_isFull_6 : decode cX12_isFull 6 = .ok (.if_icmp .ne 20, 3) := by decide +kernel
theorem dX12_isFull_9 : decode cX12_isFull 9 = .ok (.aload_n 0, 1) := by decide +kernel
theorem dX12_isFull_10 : decode cX12_isFull 10 = .ok (.getfield 145, 3) := by decide +kernel
theorem dX12_isFull_13 : decode cX12_isFull 13 = .ok (.bipush 7, 2) := by decide +kernel
theorem dX12_isFull_15 : decode cX12_isFull 15 = .ok (.if_icmp .ne 7, 3) := by decide +kernel
theorem dX12_isFull_18 : decode cX12_isFull 18 = .ok (.iconst 1, 1) := by decide +kernel
theorem dX12_isFull_19 : decode cX12_isFull 19 = .ok (.goto 27, 3) := by decide +kernel
theorem dX12_isFull_22 : decode cX12_isFull 22 = .ok (.iconst 0, 1) := by decide +kernel
theorem dX12_isFull_23 : decode cX12_isFull 23 = .ok (.goto 23, 3) := by decide +kernel
theorem dX12_isFull_26 : decode cX12_isFull 26 = .ok (.iload_n 1, 1) := by decide +kernel
theorem dX12_isFull_27 : decode cX12_isFull 27 = .ok (.bipush (-7), 2) := by decide +kernel
theorem dX12_isFull_29 : decode cX12_isFull 29 = .ok (.if_icmp .ne 16, 3) := by decide +kernel
theorem dX12_isFull_32 : decode cX12_isFull 32 = .ok (.aload_n 0, 1) := by decide +kernel
theorem dX12_isFull_33 : decode cX12_isFull 33 = .ok (.getfield 148, 3) := by decide +kernel
theorem dX12_isFull_36 : decode cX12_isFull 36 = .ok (.bipush 12, 2) := by decide +kernel
theorem dX12_isFull_38 : decode cX12_isFull 38 = .ok (.if_icmp .ne 7, 3) := by decide +kernel
theorem dX12_isFull_41 : decode cX12_isFull 41 = .ok (.iconst 1, 1) := by decide +kernel
theorem dX12_isFull_42 : decode cX12_isFull 42 = .ok (.goto 4, 3) := by decide +kernel
theorem dX12_isFull_45 : decode cX12_isFull 45 = .ok (.iconst 0, 1) := by decide +kernel
theorem dX12_isFull_46 : decode cX12_isFull 46 = .ok (.ireturn, 1) := by decide +kernel
theorem dX12_readRow_0 : decode cX12_readRow 0 = .ok (.iload_n 1, 1) := by decide +kernel
theorem dX12_readRow_1 : decode cX12_readRow 1 = .ok (.ldc 182, 2) := by decide +kernel
theorem dX12_readRow_3 : decode cX12_readRow 3 = .ok (.invokestatic 183, 3) := by decide +kernel
theorem dX12_readRow_6 : decode cX12_readRow 6 = .ok (.if_icmp .ne 54, 3) := by decide +kernel
theorem dX12_readRow_9 : decode cX12_readRow 9 = .ok (.aload_n 0, 1) := by decide +kernel
theorem dX12_readRow_10 : decode cX12_readRow 10 = .ok (.getfield 23, 3) := by decide +kernel
theorem dX12_readRow_13 : decode cX12_readRow 13 = .ok (.iconst 2, 1) := by decide +kernel
theorem dX12_readRow_14 : decode cX12_readRow 14 = .ok (.aload_n 0, 1) := by decide +kernel
theorem dX12_readRow_15 : decode cX12_readRow 15 = .ok (.getfield 145, 3) := by decide +kernel
theorem dX12_readRow_18 : decode cX12_readRow 18 = .ok (.imul, 1) := by decide +kernel
theorem dX12_readRow_19 : decode cX12_readRow 19 = .ok (.aload_n 0, 1) := by decide +kernel
theorem dX12_readRow_20 : decode cX12_readRow 20 = .ok (.iconst 1, 1) := by decide +kernel
theorem dX12_readRow_21 : decode cX12_readRow 21 = .ok (.bipush 99, 2) := by decide +kernel
theorem dX12_readRow_23 : decode cX12_readRow 23 = .ok (.invokevirtual 188, 3) := by decide +kernel
theorem dX12_readRow_26 : decode cX12_readRow 26 = .ok (.iastore, 1) := by decide +kernel
theorem dX12_readRow_27 : decode cX12_readRow 27 = .ok (.aload_n 0, 1) := by decide +kernel
theorem dX12_readRow_28 : decode cX12_readRow 28 = .ok (.getfield 23, 3) := by decide +kernel
theorem dX12_readRow_31 : decode cX12_readRow 31 = .ok (.iconst 2, 1) := by decide +kernel
theorem dX12_readRow_32 : decode cX12_readRow 32 = .ok (.aload_n 0, 1) := by decide +kernel
theorem dX12_readRow_33 : decode cX12_readRow 33 = .ok (.getfield 145, 3) := by decide +kernel
theorem dX12_readRow_36 : decode cX12_readRow 36 = .ok (.imul, 1) := by decide +kernel
theorem dX12_readRow_37 : decode cX12_readRow 37 = .ok (.iconst 1, 1) := by decide +kernel
theorem dX12_readRow_38 : decode cX12_readRow 38 = .ok (.iadd, 1) := by decide +kernel
theorem dX12_readRow_39 : decode cX12_readRow 39 = .ok (.aload_n 0, 1) := by decide +kernel
theorem dX12_readRow_40 : decode cX12_readRow 40 = .ok (.iconst 0, 1) := by decide +kernel
theorem dX12_readRow_41 : decode cX12_readRow 41 = .ok (.bipush 9, 2) := by decide +kernel
theorem dX12_readRow_43 : decode cX12_readRow 43 = .ok (.invokevirtual 188, 3) := by decide +kernel
theorem dX12_readRow_46 : decode cX12_readRow 46 = .ok (.iastore, 1) := by decide +kernel
theorem dX12_readRow_47 : decode cX12_readRow 47 = .ok (.aload_n 0, 1) := by decide +kernel
theorem dX12_readRow_48 : decode cX12_readRow 48 = .ok (.dup, 1) := by decide +kernel
theorem dX12_readRow_49 : decode cX12_readRow 49 = .ok (.getfield 145, 3) := by decide +kernel
theorem dX12_readRow_52 : decode cX12_readRow 52 = .ok (.iconst 1, 1) := by decide +kernel
theorem dX12_readRow_53 : decode cX12_readRow 53 = .ok (.iadd, 1) := by decide +kernel
theorem dX12_readRow_54 : decode cX12_readRow 54 = .ok (.putfield 145, 3) := by decide +kernel
theorem dX12_readRow_57 : decode cX12_readRow 57 = .ok (.goto 74, 3) := by decide +kernel
theorem dX12_readRow_60 : decode cX12_readRow 60 = .ok (.iload_n 1, 1) := by decide +kernel
theorem dX12_readRow_61 : decode cX12_readRow 61 = .ok (.ldc 187, 2) := by decide +kernel
theorem dX12_readRow_63 : decode cX12_readRow 63 = .ok (.invokestatic 183, 3) := by decide +kernel
theorem dX12_readRow_66 : decode cX12_readRow 66 = .ok (.if_icmp .ne 17, 3) := by decide +kernel
theorem dX12_readRow_69 : decode cX12_readRow 69 = .ok (.aload_n 0, 1) := by decide +kernel
theorem dX12_readRow_70 : decode cX12_readRow 70 = .ok (.aload_n 0, 1) := by decide +kernel
theorem dX12_readRow_71 : decode cX12_readRow 71 = .ok (.iconst 1, 1) := by decide +kernel
theorem dX12_readRow_72 : decode cX12_readRow 72 = .ok (.bipush 40, 2) := by decide +kernel
theorem dX12_readRow_74 : decode cX12_readRow 74 = .ok (.invokevirtual 188, 3) := by decide +kernel
theorem dX12_readRow_77 : decode cX12_readRow 77 = .ok (.putfield 151, 3) := by decide +kernel
theorem dX12_readRow_80 : decode cX12_readRow 80 = .ok (.goto 51, 3) := by decide +kernel
theorem dX12_readRow_83 : decode cX12_readRow 83 = .ok (.aload_n 0, 1) := by decide +kernel
theorem dX12_readRow_84 : decode cX12_readRow 84 = .ok (.getfield 26, 3) := by decide +kernel
theorem dX12_readRow_87 : decode cX12_readRow 87 = .ok (.iconst 2, 1) := by decide +kernel
theorem dX12_readRow_88 : decode cX12_readRow 88 = .ok (.aload_n 0, 1) := by decide +kernel
theorem dX12_readRow_89 : decode cX12_readRow 89 = .ok (.getfield 148, 3) := by decide +kernel
theorem dX12_readRow_92 : decode cX12_readRow 92 = .ok (.imul, 1) := by decide +kernel
theorem dX12_readRow_93 : decode cX12_readRow 93 = .ok (.aload_n 0, 1) := by decide +kernel
theorem dX12_readRow_94 : decode cX12_readRow 94 = .ok (.iconst 1, 1) := by decide +kernel
theorem dX12_readRow_95 : decode cX12_readRow 95 = .ok (.bipush 9, 2) := by decide +kernel
theorem dX12_readRow_97 : decode cX12_readRow 97 = .ok (.invokevirtual 188, 3) := by decide +kernel
theorem dX12_readRow_100 : decode cX12_readRow 100 = .ok (.iastore, 1) := by decide +kernel
theorem dX12_readRow_101 : decode cX12_readRow 101 = .ok (.aload_n 0, 1) := by decide +kernel
theorem dX12_readRow_102 : decode cX12_readRow 102 = .ok (.getfield 26, 3) := by decide +kernel
theorem dX12_readRow_105 : decode cX12_readRow 105 = .ok (.iconst 2, 1) := by decide +kernel
theorem dX12_readRow_106 : decode cX12_readRow 106 = .ok (.aload_n 0, 1) := by decide +kernel
theorem dX12_readRow_107 : decode cX12_readRow 107 = .ok (.getfield 148, 3) := by decide +kernel
theorem dX12_readRow_110 : decode cX12_readRow 110 = .ok (.imul, 1) := by decide +kernel
theorem dX12_readRow_111 : decode cX12_readRow 111 = .ok (.iconst 1, 1) := by decide +kernel
theorem dX12_readRow_112 : decode cX12_readRow 112 = .ok (.iadd, 1) := by decide +kernel
theorem dX12_readRow_113 : decode cX12_readRow 113 = .ok (.aload_n 0, 1) := by decide +kernel
theorem dX12_readRow_114 : decode cX12_readRow 114 = .ok (.iconst 0, 1) := by decide +kernel
theorem dX12_readRow_115 : decode cX12_readRow 115 = .ok (.bipush 9, 2) := by decide +kernel
theorem dX12_readRow_117 : decode cX12_readRow 117 = .ok (.invokevirtual 188, 3) := by decide +kernel
theorem dX12_readRow_120 : decode cX12_readRow 120 = .ok (.iastore, 1) := by decide +kernel
theorem dX12_readRow_121 : decode cX12_readRow 121 = .ok (.aload_n 0, 1) := by decide +kernel
theorem dX12_readRow_122 : decode cX12_readRow 122 = .ok (.dup, 1) := by decide +kernel
theorem dX12_readRow_123 : decode cX12_readRow 123 = .ok (.getfield 148, 3) := by decide +kernel
theorem dX12_readRow_126 : decode cX12_readRow 126 = .ok (.iconst 1, 1) := by decide +kernel
theorem dX12_readRow_127 : decode cX12_readRow 127 = .ok (.iadd, 1) := by decide +kernel
theorem dX12_readRow_128 : decode cX12_readRow 128 = .ok (.putfield 148, 3) := by decide +kernel
theorem dX12_readRow_131 : decode cX12_readRow 131 = .ok (.return_, 1) := by decide +kernel
theorem dX12_court_0 : decode cX12_court 0 = .ok (.aload_n 0, 1) := by decide +kernel
theorem dX12_court_1 : decode cX12_court 1 = .ok (.iconst 0, 1) := by decide +kernel
theorem dX12_court_2 : decode cX12_court 2 = .ok (.putfield 3, 3) := by decide +kernel
theorem dX12_court_5 : decode cX12_court 5 = .ok (.aload_n 0, 1) := by decide +kernel
theorem dX12_court_6 : decode cX12_court 6 = .ok (.iload_n 1, 1) := by decide +kernel
theorem dX12_court_7 : decode cX12_court 7 = .ok (.ifCond .lt 15, 3) := by decide +kernel
theorem dX12_court_10 : decode cX12_court 10 = .ok (.iload_n 1, 1) := by decide +kernel
theorem dX12_court_11 : decode cX12_court 11 = .ok (.aload_n 0, 1) := by decide +kernel
theorem dX12_court_12 : decode cX12_court 12 = .ok (.getfield 99, 3) := by decide +kernel
theorem dX12_court_15 : decode cX12_court 15 = .ok (.if_icmp .gt 7, 3) := by decide +kernel
theorem dX12_court_18 : decode cX12_court 18 = .ok (.iconst 1, 1) := by decide +kernel
theorem dX12_court_19 : decode cX12_court 19 = .ok (.goto 4, 3) := by decide +kernel
theorem dX12_court_22 : decode cX12_court 22 = .ok (.iconst 0, 1) := by decide +kernel
theorem dX12_court_23 : decode cX12_court 23 = .ok (.iconst 1, 1) := by decide +kernel
theorem dX12_court_24 : decode cX12_court 24 = .ok (.iconst 1, 1) := by decide +kernel
theorem dX12_court_25 : decode cX12_court 25 = .ok (.invokevirtual 192, 3) := by decide +kernel
theorem dX12_court_28 : decode cX12_court 28 = .ok (.ifCond .ne 5, 3) := by decide +kernel
theorem dX12_court_31 : decode cX12_court 31 = .ok (.iconst 0, 1) := by decide +kernel
theorem dX12_court_32 : decode cX12_court 32 = .ok (.ireturn, 1) := by decide +kernel
theorem dX12_court_33 : decode cX12_court 33 = .ok (.aload_n 0, 1) := by decide +kernel
theorem dX12_court_34 : decode cX12_court 34 = .ok (.iload_n 1, 1) := by decide +kernel
theorem dX12_court_35 : decode cX12_court 35 = .ok (.invokevirtual 196, 3) := by decide +kernel
theorem dX12_court_38 : decode cX12_court 38 = .ok (.aload_n 0, 1) := by decide +kernel
theorem dX12_court_39 : decode cX12_court 39 = .ok (.invokevirtual 93, 3) := by decide +kernel
theorem dX12_court_42 : decode cX12_court 42 = .ok (.iconst 0, 1) := by decide +kernel
theorem dX12_court_43 : decode cX12_court 43 = .ok (.istore_n 2, 1) := by decide +kernel
theorem dX12_court_44 : decode cX12_court 44 = .ok (.aload_n 0, 1) := by decide +kernel
theorem dX12_court_45 : decode cX12_court 45 = .ok (.invokevirtual 131, 3) := by decide +kernel
theorem dX12_court_48 : decode cX12_court 48 = .ok (.ifCond .eq 108, 3) := by decide +kernel
theorem dX12_court_51 : decode cX12_court 51 = .ok (.aload_n 0, 1) := by decide +kernel
theorem dX12_court_52 : decode cX12_court 52 = .ok (.invokevirtual 200, 3) := by decide +kernel
theorem dX12_court_55 : decode cX12_court 55 = .ok (.ifCond .eq 101, 3) := by decide +kernel
theorem dX12_court_58 : decode cX12_court 58 = .ok (.aload_n 0, 1) := by decide +kernel
theorem dX12_court_59 : decode cX12_court 59 = .ok (.ldc 203, 2) := by decide +kernel
theorem dX12_court_61 : decode cX12_court 61 = .ok (.invokevirtual 204, 3) := by decide +kernel
theorem dX12_court_64 : decode cX12_court 64 = .ok (.istore_n 3, 1) := by decide +kernel
theorem dX12_court_65 : decode cX12_court 65 = .ok (.iload_n 3, 1) := by decide +kernel
theorem dX12_court_66 : decode cX12_court 66 = .ok (.ifCond .eq 8, 3) := by decide +kernel
theorem dX12_court_69 : decode cX12_court 69 = .ok (.bipush (-7), 2) := by decide +kernel
theorem dX12_court_71 : decode cX12_court 71 = .ok (.goto 7, 3) := by decide +kernel
theorem dX12_court_74 : decode cX12_court 74 = .ok (.aload_n 0, 1) := by decide +kernel
theorem dX12_court_75 : decode cX12_court 75 = .ok (.invokevirtual 208, 3) := by decide +kernel
theorem dX12_court_78 : decode cX12_court 78 = .ok (.istore 4, 2) := by decide +kernel
theorem dX12_court_80 : decode cX12_court 80 = .ok (.iload 4, 2) := by decide +kernel
theorem dX12_court_82 : decode cX12_court 82 = .ok (.invokestatic 211, 3) := by decide +kernel
theorem dX12_court_85 : decode cX12_court 85 = .ok (.ifCond .ne 15, 3) := by decide +kernel
theorem dX12_court_88 : decode cX12_court 88 = .ok (.aload_n 0, 1) := by decide +kernel
theorem dX12_court_89 : decode cX12_court 89 = .ok (.iconst 1, 1) := by decide +kernel
theorem dX12_court_90 : decode cX12_court 90 = .ok (.aload_n 0, 1) := by decide +kernel
theorem dX12_court_91 : decode cX12_court 91 = .ok (.getfield 108, 3) := by decide +kernel
theorem dX12_court_94 : decode cX12_court 94 = .ok (.invokevirtual 138, 3) := by decide +kernel
theorem dX12_court_97 : decode cX12_court 97 = .ok (.goto 27, 3) := by decide +kernel
theorem dX12_court_100 : decode cX12_court 100 = .ok (.iload_n 2, 1) := by decide +kernel
theorem dX12_court_101 : decode cX12_court 101 = .ok (.bipush 60, 2) := by decide +kernel
theorem dX12_court_103 : decode cX12_court 103 = .ok (.if_icmp .eq 12, 3) := by decide +kernel
theorem dX12_court_106 : decode cX12_court 106 = .ok (.aload_n 0, 1) := by decide +kernel
theorem dX12_court_107 : decode cX12_court 107 = .ok (.iload 4, 2) := by decide +kernel
theorem dX12_court_109 : decode cX12_court 109 = .ok (.invokevirtual 214, 3) := by decide +kernel
theorem dX12_court_112 : decode cX12_court 112 = .ok (.ifCond .eq 12, 3) := by decide +kernel
theorem dX12_court_115 : decode cX12_court 115 = .ok (.aload_n 0, 1) := by decide +kernel
theorem dX12_court_116 : decode cX12_court 116 = .ok (.iconst 3, 1) := by decide +kernel
theorem dX12_court_117 : decode cX12_court 117 = .ok (.aload_n 0, 1) := by decide +kernel
theorem dX12_court_118 : decode cX12_court 118 = .ok (.getfield 108, 3) := by decide +kernel
theorem dX12_court_121 : decode cX12_court 121 = .ok (.invokevirtual 138, 3) := by decide +kernel
theorem dX12_court_124 : decode cX12_court 124 = .ok (.aload_n 0, 1) := by decide +kernel
theorem dX12_court_125 : decode cX12_court 125 = .ok (.invokevirtual 131, 3) := by decide +kernel
theorem dX12_court_128 : decode cX12_court 128 = .ok (.ifCond .ne 6, 3) := by decide +kernel
theorem dX12_court_131 : decode cX12_court 131 = .ok (.goto 25, 3) := by decide +kernel
theorem dX12_court_134 : decode cX12_court 134 = .ok (.aload_n 0, 1) := by decide +kernel
theorem dX12_court_135 : decode cX12_court 135 = .ok (.invokevirtual 217, 3) := by decide +kernel
theorem dX12_court_138 : decode cX12_court 138 = .ok (.aload_n 0, 1) := by decide +kernel
theorem dX12_court_139 : decode cX12_court 139 = .ok (.iload 4, 2) := by decide +kernel
theorem dX12_court_141 : decode cX12_court 141 = .ok (.invokevirtual 220, 3) := by decide +kernel
theorem dX12_court_144 : decode cX12_court 144 = .ok (.aload_n 0, 1) := by decide +kernel
theorem dX12_court_145 : decode cX12_court 145 = .ok (.bipush 59, 2) := by decide +kernel
theorem dX12_court_147 : decode cX12_court 147 = .ok (.invokevirtual 223, 3) := by decide +kernel
theorem dX12_court_150 : decode cX12_court 150 = .ok (.iinc 2 1, 3) := by decide +kernel
theorem dX12_court_153 : decode cX12_court 153 = .ok (.goto (-109), 3) := by decide +kernel
theorem dX12_court_156 : decode cX12_court 156 = .ok (.aload_n 0, 1) := by decide +kernel
theorem dX12_court_157 : decode cX12_court 157 = .ok (.aload_n 0, 1) := by decide +kernel
theorem dX12_court_158 : decode cX12_court 158 = .ok (.getfield 145, 3) := by decide +kernel
theorem dX12_court_161 : decode cX12_court 161 = .ok (.invokevirtual 226, 3) := by decide +kernel
theorem dX12_court_164 : decode cX12_court 164 = .ok (.istore_n 3, 1) := by decide +kernel
theorem dX12_court_165 : decode cX12_court 165 = .ok (.aload_n 0, 1) := by decide +kernel
theorem dX12_court_166 : decode cX12_court 166 = .ok (.getfield 102, 3) := by decide +kernel
theorem dX12_court_169 : decode cX12_court 169 = .ok (.iconst (-1), 1) := by decide +kernel
theorem dX12_court_170 : decode cX12_court 170 = .ok (.if_icmp .ne 7, 3) := by decide +kernel
theorem dX12_court_173 : decode cX12_court 173 = .ok (.aload_n 0, 1) := by decide +kernel
theorem dX12_court_174 : decode cX12_court 174 = .ok (.invokevirtual 96, 3) := by decide +kernel
theorem dX12_court_177 : decode cX12_court 177 = .ok (.iload_n 3, 1) := by decide +kernel
theorem dX12_court_178 : decode cX12_court 178 = .ok (.ireturn, 1) := by decide +kernel
theorem dX12_emit_0 : decode cX12_emit 0 = .ok (.aload_n 0, 1) := by decide +kernel
theorem dX12_emit_1 : decode cX12_emit 1 = .ok (.invokevirtual 131, 3) := by decide +kernel
theorem dX12_emit_4 : decode cX12_emit 4 = .ok (.ifCond .ne 4, 3) := by decide +kernel
theorem dX12_emit_7 : decode cX12_emit 7 = .ok (.return_, 1) := by decide +kernel
theorem dX12_emit_8 : decode cX12_emit 8 = .ok (.aload_n 0, 1) := by decide +kernel
theorem dX12_emit_9 : decode cX12_emit 9 = .ok (.getfield 35, 3) := by decide +kernel
theorem dX12_emit_12 : decode cX12_emit 12 = .ok (.aload_n 0, 1) := by decide +kernel
theorem dX12_emit_13 : decode cX12_emit 13 = .ok (.getfield 230, 3) := by decide +kernel
theorem dX12_emit_16 : decode cX12_emit 16 = .ok (.iload_n 1, 1) := by decide +kernel
theorem dX12_emit_17 : decode cX12_emit 17 = .ok (.iastore, 1) := by decide +kernel
theorem dX12_emit_18 : decode cX12_emit 18 = .ok (.aload_n 0, 1) := by decide +kernel
theorem dX12_emit_19 : decode cX12_emit 19 = .ok (.getfield 38, 3) := by decide +kernel
theorem dX12_emit_22 : decode cX12_emit 22 = .ok (.aload_n 0, 1) := by decide +kernel
theorem dX12_emit_23 : decode cX12_emit 23 = .ok (.getfield 230, 3) := by decide +kernel
theorem dX12_emit_26 : decode cX12_emit 26 = .ok (.iload_n 2, 1) := by decide +kernel
theorem dX12_emit_27 : decode cX12_emit 27 = .ok (.iastore, 1) := by decide +kernel
theorem dX12_emit_28 : decode cX12_emit 28 = .ok (.aload_n 0, 1) := by decide +kernel
theorem dX12_emit_29 : decode cX12_emit 29 = .ok (.dup, 1) := by decide +kernel
theorem dX12_emit_30 : decode cX12_emit 30 = .ok (.getfield 230, 3) := by decide +kernel
theorem dX12_emit_33 : decode cX12_emit 33 = .ok (.iconst 1, 1) := by decide +kernel
theorem dX12_emit_34 : decode cX12_emit 34 = .ok (.iadd, 1) := by decide +kernel
theorem dX12_emit_35 : decode cX12_emit 35 = .ok (.putfield 230, 3) := by decide +kernel
theorem dX12_emit_38 : decode cX12_emit 38 = .ok (.return_, 1) := by decide +kernel
theorem dX12_opensOne_0 : decode cX12_opensOne 0 = .ok (.aload_n 0, 1) := by decide +kernel
theorem dX12_opensOne_1 : decode cX12_opensOne 1 = .ok (.invokevirtual 131, 3) := by decide +kernel
theorem dX12_opensOne_4 : decode cX12_opensOne 4 = .ok (.ifCond .eq 21, 3) := by decide +kernel
theorem dX12_opensOne_7 : decode cX12_opensOne 7 = .ok (.aload_n 0, 1) := by decide +kernel
theorem dX12_opensOne_8 : decode cX12_opensOne 8 = .ok (.getfield 142, 3) := by decide +kernel
theorem dX12_opensOne_11 : decode cX12_opensOne 11 = .ok (.bipush 6, 2) := by decide +kernel
theorem dX12_opensOne_13 : decode cX12_opensOne 13 = .ok (.if_icmp .ne 12, 3) := by decide +kernel
theorem dX12_opensOne_16 : decode cX12_opensOne 16 = .ok (.aload_n 0, 1) := by decide +kernel
theorem dX12_opensOne_17 : decode cX12_opensOne 17 = .ok (.iconst 3, 1) := by decide +kernel
theorem dX12_opensOne_18 : decode cX12_opensOne 18 = .ok (.aload_n 0, 1) := by decide +kernel
theorem dX12_opensOne_19 : decode cX12_opensOne 19 = .ok (.getfield 108, 3) := by decide +kernel
theorem dX12_opensOne_22 : decode cX12_opensOne 22 = .ok (.invokevirtual 138, 3) := by decide +kernel
theorem dX12_opensOne_25 : decode cX12_opensOne 25 = .ok (.aload_n 0, 1) := by decide +kernel
theorem dX12_opensOne_26 : decode cX12_opensOne 26 = .ok (.invokevirtual 131, 3) := by decide +kernel
theorem dX12_opensOne_29 : decode cX12_opensOne 29 = .ok (.ifCond .eq 13, 3) := by decide +kernel
theorem dX12_opensOne_32 : decode cX12_opensOne 32 = .ok (.aload_n 0, 1) := by decide +kernel
theorem dX12_opensOne_33 : decode cX12_opensOne 33 = .ok (.dup, 1) := by decide +kernel
theorem dX12_opensOne_34 : decode cX12_opensOne 34 = .ok (.getfield 108, 3) := by decide +kernel
theorem dX12_opensOne_37 : decode cX12_opensOne 37 = .ok (.iload_n 1, 1) := by decide +kernel
theorem dX12_opensOne_38 : decode cX12_opensOne 38 = .ok (.iadd, 1) := by decide +kernel
theorem dX12_opensOne_39 : decode cX12_opensOne 39 = .ok (.putfield 108, 3) := by decide +kernel
theorem dX12_opensOne_42 : decode cX12_opensOne 42 = .ok (.aload_n 0, 1) := by decide +kernel
theorem dX12_opensOne_43 : decode cX12_opensOne 43 = .ok (.dup, 1) := by decide +kernel
theorem dX12_opensOne_44 : decode cX12_opensOne 44 = .ok (.getfield 142, 3) := by decide +kernel
theorem dX12_opensOne_47 : decode cX12_opensOne 47 = .ok (.iconst 1, 1) := by decide +kernel
theorem dX12_opensOne_48 : decode cX12_opensOne 48 = .ok (.iadd, 1) := by decide +kernel
theorem dX12_opensOne_49 : decode cX12_opensOne 49 = .ok (.putfield 142, 3) := by decide +kernel
theorem dX12_opensOne_52 : decode cX12_opensOne 52 = .ok (.return_, 1) := by decide +kernel
theorem dX12_readSum_0 : decode cX12_readSum 0 = .ok (.aload_n 0, 1) := by decide +kernel
theorem dX12_readSum_1 : decode cX12_readSum 1 = .ok (.invokevirtual 233, 3) := by decide +kernel
theorem dX12_readSum_4 : decode cX12_readSum 4 = .ok (.aload_n 0, 1) := by decide +kernel
theorem dX12_readSum_5 : decode cX12_readSum 5 = .ok (.invokevirtual 131, 3) := by decide +kernel
theorem dX12_readSum_8 : decode cX12_readSum 8 = .ok (.ifCond .eq 59, 3) := by decide +kernel
theorem dX12_readSum_11 : decode cX12_readSum 11 = .ok (.aload_n 0, 1) := by decide +kernel
theorem dX12_readSum_12 : decode cX12_readSum 12 = .ok (.invokevirtual 114, 3) := by decide +kernel
theorem dX12_readSum_15 : decode cX12_readSum 15 = .ok (.bipush 43, 2) := by decide +kernel
theorem dX12_readSum_17 : decode cX12_readSum 17 = .ok (.if_icmp .eq 12, 3) := by decide +kernel
theorem dX12_readSum_20 : decode cX12_readSum 20 = .ok (.aload_n 0, 1) := by decide +kernel
theorem dX12_readSum_21 : decode cX12_readSum 21 = .ok (.invokevirtual 114, 3) := by decide +kernel
theorem dX12_readSum_24 : decode cX12_readSum 24 = .ok (.bipush 45, 2) := by decide +kernel
theorem dX12_readSum_26 : decode cX12_readSum 26 = .ok (.if_icmp .ne 41, 3) := by decide +kernel
theorem dX12_readSum_29 : decode cX12_readSum 29 = .ok (.aload_n 0, 1) := by decide +kernel
theorem dX12_readSum_30 : decode cX12_readSum 30 = .ok (.invokevirtual 114, 3) := by decide +kernel
theorem dX12_readSum_33 : decode cX12_readSum 33 = .ok (.bipush 43, 2) := by decide +kernel
theorem dX12_readSum_35 : decode cX12_readSum 35 = .ok (.if_icmp .ne 7, 3) := by decide +kernel
theorem dX12_readSum_38 : decode cX12_readSum 38 = .ok (.iconst 2, 1) := by decide +kernel
theorem dX12_readSum_39 : decode cX12_readSum 39 = .ok (.goto 4, 3) := by decide +kernel
theorem dX12_readSum_42 : decode cX12_readSum 42 = .ok (.iconst 3, 1) := by decide +kernel
theorem dX12_readSum_43 : decode cX12_readSum 43 = .ok (.istore_n 1, 1) := by decide +kernel
theorem dX12_readSum_44 : decode cX12_readSum 44 = .ok (.aload_n 0, 1) := by decide +kernel
theorem dX12_readSum_45 : decode cX12_readSum 45 = .ok (.dup, 1) := by decide +kernel
theorem dX12_readSum_46 : decode cX12_readSum 46 = .ok (.getfield 108, 3) := by decide +kernel
theorem dX12_readSum_49 : decode cX12_readSum 49 = .ok (.iconst 1, 1) := by decide +kernel
theorem dX12_readSum_50 : decode cX12_readSum 50 = .ok (.iadd, 1) := by decide +kernel
theorem dX12_readSum_51 : decode cX12_readSum 51 = .ok (.putfield 108, 3) := by decide +kernel
theorem dX12_readSum_54 : decode cX12_readSum 54 = .ok (.aload_n 0, 1) := by decide +kernel
theorem dX12_readSum_55 : decode cX12_readSum 55 = .ok (.invokevirtual 233, 3) := by decide +kernel
theorem dX12_readSum_58 : decode cX12_readSum 58 = .ok (.aload_n 0, 1) := by decide +kernel
theorem dX12_readSum_59 : decode cX12_readSum 59 = .ok (.iload_n 1, 1) := by decide +kernel
theorem dX12_readSum_60 : decode cX12_readSum 60 = .ok (.iconst 0, 1) := by decide +kernel
theorem dX12_readSum_61 : decode cX12_readSum 61 = .ok (.invokevirtual 236, 3) := by decide +kernel
theorem dX12_readSum_64 : decode cX12_readSum 64 = .ok (.goto (-60), 3) := by decide +kernel
theorem dX12_readSum_67 : decode cX12_readSum 67 = .ok (.return_, 1) := by decide +kernel
theorem dX12_readProduct_0 : decode cX12_readProduct 0 = .ok (.aload_n 0, 1) := by decide +kernel
theorem dX12_readProduct_1 : decode cX12_readProduct 1 = .ok (.invokevirtual 239, 3) := by decide +kernel
theorem dX12_readProduct_4 : decode cX12_readProduct 4 = .ok (.aload_n 0, 1) := by decide +kernel
theorem dX12_readProduct_5 : decode cX12_readProduct 5 = .ok (.invokevirtual 131, 3) := by decide +kernel
theorem dX12_readProduct_8 : decode cX12_readProduct 8 = .ok (.ifCond .eq 82, 3) := by decide +kernel
theorem dX12_readProduct_11 : decode cX12_readProduct 11 = .ok (.aload_n 0, 1) := by decide +kernel
theorem dX12_readProduct_12 : decode cX12_readProduct 12 = .ok (.invokevirtual 114, 3) := by decide +kernel
theorem dX12_readProduct_15 : decode cX12_readProduct 15 = .ok (.bipush 42, 2) := by decide +kernel
theorem dX12_readProduct_17 : decode cX12_readProduct 17 = .ok (.if_icmp .eq 21, 3) := by decide +kernel
theorem dX12_readProduct_20 : decode cX12_readProduct 20 = .ok (.aload_n 0, 1) := by decide +kernel
theorem dX12_readProduct_21 : decode cX12_readProduct 21 = .ok (.invokevirtual 114, 3) := by decide +kernel
theorem dX12_readProduct_24 : decode cX12_readProduct 24 = .ok (.bipush 47, 2) := by decide +kernel
theorem dX12_readProduct_26 : decode cX12_readProduct 26 = .ok (.if_icmp .eq 12, 3) := by decide +kernel
theorem dX12_readProduct_29 : decode cX12_readProduct 29 = .ok (.aload_n 0, 1) := by decide +kernel
theorem dX12_readProduct_30 : decode cX12_readProduct 30 = .ok (.invokevirtual 114, 3) := by decide +kernel
theorem dX12_readProduct_33 : decode cX12_readProduct 33 = .ok (.bipush 37, 2) := by decide +kernel
theorem dX12_readProduct_35 : decode cX12_readProduct 35 = .ok (.if_icmp .ne 55, 3) := by decide +kernel
theorem dX12_readProduct_38 : decode cX12_readProduct 38 = .ok (.aload_n 0, 1) := by decide +kernel
theorem dX12_readProduct_39 : decode cX12_readProduct 39 = .ok (.invokevirtual 114, 3) := by decide +kernel
theorem dX12_readProduct_42 : decode cX12_readProduct 42 = .ok (.bipush 42, 2) := by decide +kernel
theorem dX12_readProduct_44 : decode cX12_readProduct 44 = .ok (.if_icmp .ne 7, 3) := by decide +kernel
theorem dX12_readProduct_47 : decode cX12_readProduct 47 = .ok (.iconst 4, 1) := by decide +kernel
theorem dX12_readProduct_48 : decode cX12_readProduct 48 = .ok (.goto 18, 3) := by decide +kernel
theorem dX12_readProduct_51 : decode cX12_readProduct 51 = .ok (.aload_n 0, 1) := by decide +kernel
theorem dX12_readProduct_52 : decode cX12_readProduct 52 = .ok (.invokevirtual 114, 3) := by decide +kernel
theorem dX12_readProduct_55 : decode cX12_readProduct 55 = .ok (.bipush 47, 2) := by decide +kernel
theorem dX12_readProduct_57 : decode cX12_readProduct 57 = .ok (.if_icmp .ne 7, 3) := by decide +kernel
theorem dX12_readProduct_60 : decode cX12_readProduct 60 = .ok (.iconst 5, 1) := by decide +kernel
theorem dX12_readProduct_61 : decode cX12_readProduct 61 = .ok (.goto 5, 3) := by decide +kernel
theorem dX12_readProduct_64 : decode cX12_readProduct 64 = .ok (.bipush 8, 2) := by decide +kernel
theorem dX12_readProduct_66 : decode cX12_readProduct 66 = .ok (.istore_n 1, 1) := by decide +kernel
theorem dX12_readProduct_67 : decode cX12_readProduct 67 = .ok (.aload_n 0, 1) := by decide +kernel
theorem dX12_readProduct_68 : decode cX12_readProduct 68 = .ok (.dup, 1) := by decide +kernel
theorem dX12_readProduct_69 : decode cX12_readProduct 69 = .ok (.getfield 108, 3) := by decide +kernel
theorem dX12_readProduct_72 : decode cX12_readProduct 72 = .ok (.iconst 1, 1) := by decide +kernel
theorem dX12_readProduct_73 : decode cX12_readProduct 73 = .ok (.iadd, 1) := by decide +kernel
theorem dX12_readProduct_74 : decode cX12_readProduct 74 = .ok (.putfield 108, 3) := by decide +kernel
theorem dX12_readProduct_77 : decode cX12_readProduct 77 = .ok (.aload_n 0, 1) := by decide +kernel
theorem dX12_readProduct_78 : decode cX12_readProduct 78 = .ok (.invokevirtual 239, 3) := by decide +kernel
theorem dX12_readProduct_81 : decode cX12_readProduct 81 = .ok (.aload_n 0, 1) := by decide +kernel
theorem dX12_readProduct_82 : decode cX12_readProduct 82 = .ok (.iload_n 1, 1) := by decide +kernel
theorem dX12_readProduct_83 : decode cX12_readProduct 83 = .ok (.iconst 0, 1) := by decide +kernel
theorem dX12_readProduct_84 : decode cX12_readProduct 84 = .ok (.invokevirtual 236, 3) := by decide +kernel
theorem dX12_readProduct_87 : decode cX12_readProduct 87 = .ok (.goto (-83), 3) := by decide +kernel
theorem dX12_readProduct_90 : decode cX12_readProduct 90 = .ok (.return_, 1) := by decide +kernel
theorem dX12_readTwo_0 : decode cX12_readTwo 0 = .ok (.aload_n 0, 1) := by decide +kernel
theorem dX12_readTwo_1 : decode cX12_readTwo 1 = .ok (.iload_n 1, 1) := by decide +kernel
theorem dX12_readTwo_2 : decode cX12_readTwo 2 = .ok (.invokevirtual 242, 3) := by decide +kernel
theorem dX12_readTwo_5 : decode cX12_readTwo 5 = .ok (.aload_n 0, 1) := by decide +kernel
theorem dX12_readTwo_6 : decode cX12_readTwo 6 = .ok (.bipush 91, 2) := by decide +kernel
theorem dX12_readTwo_8 : decode cX12_readTwo 8 = .ok (.invokevirtual 223, 3) := by decide +kernel
theorem dX12_readTwo_11 : decode cX12_readTwo 11 = .ok (.aload_n 0, 1) := by decide +kernel
theorem dX12_readTwo_12 : decode cX12_readTwo 12 = .ok (.invokevirtual 245, 3) := by decide +kernel
theorem dX12_readTwo_15 : decode cX12_readTwo 15 = .ok (.aload_n 0, 1) := by decide +kernel
theorem dX12_readTwo_16 : decode cX12_readTwo 16 = .ok (.bipush 44, 2) := by decide +kernel
theorem dX12_readTwo_18 : decode cX12_readTwo 18 = .ok (.invokevirtual 223, 3) := by decide +kernel
theorem dX12_readTwo_21 : decode cX12_readTwo 21 = .ok (.aload_n 0, 1) := by decide +kernel
theorem dX12_readTwo_22 : decode cX12_readTwo 22 = .ok (.invokevirtual 245, 3) := by decide +kernel
theorem dX12_readTwo_25 : decode cX12_readTwo 25 = .ok (.aload_n 0, 1) := by decide +kernel
theorem dX12_readTwo_26 : decode cX12_readTwo 26 = .ok (.bipush 93, 2) := by decide +kernel
theorem dX12_readTwo_28 : decode cX12_readTwo 28 = .ok (.invokevirtual 223, 3) := by decide +kernel
theorem dX12_readTwo_31 : decode cX12_readTwo 31 = .ok (.aload_n 0, 1) := by decide +kernel
theorem dX12_readTwo_32 : decode cX12_readTwo 32 = .ok (.dup, 1) := by decide +kernel
theorem dX12_readTwo_33 : decode cX12_readTwo 33 = .ok (.getfield 142, 3) := by decide +kernel
theorem dX12_readTwo_36 : decode cX12_readTwo 36 = .ok (.iconst 1, 1) := by decide +kernel
theorem dX12_readTwo_37 : decode cX12_readTwo 37 = .ok (.isub, 1) := by decide +kernel
theorem dX12_readTwo_38 : decode cX12_readTwo 38 = .ok (.putfield 142, 3) := by decide +kernel
theorem dX12_readTwo_41 : decode cX12_readTwo 41 = .ok (.aload_n 0, 1) := by decide +kernel
theorem dX12_readTwo_42 : decode cX12_readTwo 42 = .ok (.iload_n 2, 1) := by decide +kernel
theorem dX12_readTwo_43 : decode cX12_readTwo 43 = .ok (.iconst 0, 1) := by decide +kernel
theorem dX12_readTwo_44 : decode cX12_readTwo 44 = .ok (.invokevirtual 236, 3) := by decide +kernel
theorem dX12_readTwo_47 : decode cX12_readTwo 47 = .ok (.return_, 1) := by decide +kernel
theorem dX12_factHere_0 : decode cX12_factHere 0 = .ok (.aload_n 0, 1) := by decide +kernel
theorem dX12_factHere_1 : decode cX12_factHere 1 = .ok (.invokevirtual 208, 3) := by decide +kernel
theorem dX12_factHere_4 : decode cX12_factHere 4 = .ok (.istore_n 1, 1) := by decide +kernel
theorem dX12_factHere_5 : decode cX12_factHere 5 = .ok (.iload_n 1, 1) := by decide +kernel
theorem dX12_factHere_6 : decode cX12_factHere 6 = .ok (.ldc 248, 2) := by decide +kernel
theorem dX12_factHere_8 : decode cX12_factHere 8 = .ok (.invokestatic 183, 3) := by decide +kernel
theorem dX12_factHere_11 : decode cX12_factHere 11 = .ok (.if_icmp .ne 7, 3) := by decide +kernel
theorem dX12_factHere_14 : decode cX12_factHere 14 = .ok (.iconst 0, 1) := by decide +kernel
theorem dX12_factHere_15 : decode cX12_factHere 15 = .ok (.goto 115, 3) := by decide +kernel
theorem dX12_factHere_18 : decode cX12_factHere 18 = .ok (.iload_n 1, 1) := by decide +kernel
theorem dX12_factHere_19 : decode cX12_factHere 19 = .ok (.ldc 250, 2) := by decide +kernel
theorem dX12_factHere_21 : decode cX12_factHere 21 = .ok (.invokestatic 183, 3) := by decide +kernel
theorem dX12_factHere_24 : decode cX12_factHere 24 = .ok (.if_icmp .ne 7, 3) := by decide +kernel
theorem dX12_factHere_27 : decode cX12_factHere 27 = .ok (.iconst 1, 1) := by decide +kernel
theorem dX12_factHere_28 : decode cX12_factHere 28 = .ok (.goto 102, 3) := by decide +kernel
theorem dX12_factHere_31 : decode cX12_factHere 31 = .ok (.iload_n 1, 1) := by decide +kernel
theorem dX12_factHere_32 : decode cX12_factHere 32 = .ok (.ldc 252, 2) := by decide +kernel
theorem dX12_factHere_34 : decode cX12_factHere 34 = .ok (.invokestatic 183, 3) := by decide +kernel
theorem dX12_factHere_37 : decode cX12_factHere 37 = .ok (.if_icmp .ne 7, 3) := by decide +kernel
theorem dX12_factHere_40 : decode cX12_factHere 40 = .ok (.iconst 2, 1) := by decide +kernel
theorem dX12_factHere_41 : decode cX12_factHere 41 = .ok (.goto 89, 3) := by decide +kernel
theorem dX12_factHere_44 : decode cX12_factHere 44 = .ok (.iload_n 1, 1) := by decide +kernel
theorem dX12_factHere_45 : decode cX12_factHere 45 = .ok (.ldc 254, 2) := by decide +kernel
theorem dX12_factHere_47 : decode cX12_factHere 47 = .ok (.invokestatic 183, 3) := by decide +kernel
theorem dX12_factHere_50 : decode cX12_factHere 50 = .ok (.if_icmp .ne 7, 3) := by decide +kernel
theorem dX12_factHere_53 : decode cX12_factHere 53 = .ok (.iconst 3, 1) := by decide +kernel
theorem dX12_factHere_54 : decode cX12_factHere 54 = .ok (.goto 76, 3) := by decide +kernel
theorem dX12_factHere_57 : decode cX12_factHere 57 = .ok (.iload_n 1, 1) := by decide +kernel
theorem dX12_factHere_58 : decode cX12_factHere 58 = .ok (.ldc_w 256, 3) := by decide +kernel
theorem dX12_factHere_61 : decode cX12_factHere 61 = .ok (.invokestatic 183, 3) := by decide +kernel
theorem dX12_factHere_64 : decode cX12_factHere 64 = .ok (.if_icmp .ne 7, 3) := by decide +kernel
theorem dX12_factHere_67 : decode cX12_factHere 67 = .ok (.iconst 4, 1) := by decide +kernel
theorem dX12_factHere_68 : decode cX12_factHere 68 = .ok (.goto 62, 3) := by decide +kernel
theorem dX12_factHere_71 : decode cX12_factHere 71 = .ok (.iload_n 1, 1) := by decide +kernel
theorem dX12_factHere_72 : decode cX12_factHere 72 = .ok (.ldc_w 258, 3) := by decide +kernel
theorem dX12_factHere_75 : decode cX12_factHere 75 = .ok (.invokestatic 183, 3) := by decide +kernel
theorem dX12_factHere_78 : decode cX12_factHere 78 = .ok (.if_icmp .ne 7, 3) := by decide +kernel
theorem dX12_factHere_81 : decode cX12_factHere 81 = .ok (.iconst 5, 1) := by decide +kernel
theorem dX12_factHere_82 : decode cX12_factHere 82 = .ok (.goto 48, 3) := by decide +kernel
theorem dX12_factHere_85 : decode cX12_factHere 85 = .ok (.iload_n 1, 1) := by decide +kernel
theorem dX12_factHere_86 : decode cX12_factHere 86 = .ok (.ldc_w 260, 3) := by decide +kernel
theorem dX12_factHere_89 : decode cX12_factHere 89 = .ok (.invokestatic 183, 3) := by decide +kernel
theorem dX12_factHere_92 : decode cX12_factHere 92 = .ok (.if_icmp .ne 8, 3) := by decide +kernel
theorem dX12_factHere_95 : decode cX12_factHere 95 = .ok (.bipush 6, 2) := by decide +kernel
theorem dX12_factHere_97 : decode cX12_factHere 97 = .ok (.goto 33, 3) := by decide +kernel
theorem dX12_factHere_100 : decode cX12_factHere 100 = .ok (.iload_n 1, 1) := by decide +kernel
theorem dX12_factHere_101 : decode cX12_factHere 101 = .ok (.ldc_w 262, 3) := by decide +kernel
theorem dX12_factHere_104 : decode cX12_factHere 104 = .ok (.invokestatic 183, 3) := by decide +kernel
theorem dX12_factHere_107 : decode cX12_factHere 107 = .ok (.if_icmp .ne 8, 3) := by decide +kernel
theorem dX12_factHere_110 : decode cX12_factHere 110 = .ok (.bipush 7, 2) := by decide +kernel
theorem dX12_factHere_112 : decode cX12_factHere 112 = .ok (.goto 18, 3) := by decide +kernel
theorem dX12_factHere_115 : decode cX12_factHere 115 = .ok (.iload_n 1, 1) := by decide +kernel
theorem dX12_factHere_116 : decode cX12_factHere 116 = .ok (.ldc 182, 2) := by decide +kernel
theorem dX12_factHere_118 : decode cX12_factHere 118 = .ok (.invokestatic 183, 3) := by decide +kernel
theorem dX12_factHere_121 : decode cX12_factHere 121 = .ok (.if_icmp .ne 8, 3) := by decide +kernel
theorem dX12_factHere_124 : decode cX12_factHere 124 = .ok (.bipush 8, 2) := by decide +kernel
theorem dX12_factHere_126 : decode cX12_factHere 126 = .ok (.goto 4, 3) := by decide +kernel
theorem dX12_factHere_129 : decode cX12_factHere 129 = .ok (.iconst (-1), 1) := by decide +kernel
theorem dX12_factHere_130 : decode cX12_factHere 130 = .ok (.ireturn, 1) := by decide +kernel
theorem dX12_readUnit_0 : decode cX12_readUnit 0 = .ok (.aload_n 0, 1) := by decide +kernel
theorem dX12_readUnit_1 : decode cX12_readUnit 1 = .ok (.invokevirtual 131, 3) := by decide +kernel
theorem dX12_readUnit_4 : decode cX12_readUnit 4 = .ok (.ifCond .ne 4, 3) := by decide +kernel
theorem dX12_readUnit_7 : decode cX12_readUnit 7 = .ok (.return_, 1) := by decide +kernel
theorem dX12_readUnit_8 : decode cX12_readUnit 8 = .ok (.aload_n 0, 1) := by decide +kernel
theorem dX12_readUnit_9 : decode cX12_readUnit 9 = .ok (.invokevirtual 114, 3) := by decide +kernel
theorem dX12_readUnit_12 : decode cX12_readUnit 12 = .ok (.bipush 40, 2) := by decide +kernel
theorem dX12_readUnit_14 : decode cX12_readUnit 14 = .ok (.if_icmp .ne 31, 3) := by decide +kernel
theorem dX12_readUnit_17 : decode cX12_readUnit 17 = .ok (.aload_n 0, 1) := by decide +kernel
theorem dX12_readUnit_18 : decode cX12_readUnit 18 = .ok (.iconst 1, 1) := by decide +kernel
theorem dX12_readUnit_19 : decode cX12_readUnit 19 = .ok (.invokevirtual 242, 3) := by decide +kernel
theorem dX12_readUnit_22 : decode cX12_readUnit 22 = .ok (.aload_n 0, 1) := by decide +kernel
end Dec
