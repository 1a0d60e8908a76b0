section Dec
theorem dX11_init_0 : decode cX11_init 0 = .ok (.aload_n 0, 1) := by decide +kernel
theorem dX11_init_1 : decode cX11_init 1 = .ok (.invokespecial 1, 3) := by decide +kernel
theorem dX11_init_4 : decode cX11_init 4 = .ok (.aload_n 0, 1) := by decide +kernel
theorem dX11_init_5 : decode cX11_init 5 = .ok (.new 7, 3) := by decide +kernel
theorem dX11_init_8 : decode cX11_init 8 = .ok (.dup, 1) := by decide +kernel
theorem dX11_init_9 : decode cX11_init 9 = .ok (.invokespecial 9, 3) := by decide +kernel
theorem dX11_init_12 : decode cX11_init 12 = .ok (.putfield 10, 3) := by decide +kernel
theorem dX11_init_15 : decode cX11_init 15 = .ok (.aload_n 0, 1) := by decide +kernel
theorem dX11_init_16 : decode cX11_init 16 = .ok (.new 16, 3) := by decide +kernel
theorem dX11_init_19 : decode cX11_init 19 = .ok (.dup, 1) := by decide +kernel
theorem dX11_init_20 : decode cX11_init 20 = .ok (.invokespecial 18, 3) := by decide +kernel
theorem dX11_init_23 : decode cX11_init 23 = .ok (.putfield 19, 3) := by decide +kernel
theorem dX11_init_26 : decode cX11_init 26 = .ok (.aload_n 0, 1) := by decide +kernel
theorem dX11_init_27 : decode cX11_init 27 = .ok (.new 16, 3) := by decide +kernel
theorem dX11_init_30 : decode cX11_init 30 = .ok (.dup, 1) := by decide +kernel
theorem dX11_init_31 : decode cX11_init 31 = .ok (.invokespecial 18, 3) := by decide +kernel
theorem dX11_init_34 : decode cX11_init 34 = .ok (.putfield 23, 3) := by decide +kernel
theorem dX11_init_37 : decode cX11_init 37 = .ok (.aload_n 0, 1) := by decide +kernel
theorem dX11_init_38 : decode cX11_init 38 = .ok (.new 26, 3) := by decide +kernel
theorem dX11_init_41 : decode cX11_init 41 = .ok (.dup, 1) := by decide +kernel
theorem dX11_init_42 : decode cX11_init 42 = .ok (.invokespecial 28, 3) := by decide +kernel
theorem dX11_init_45 : decode cX11_init 45 = .ok (.putfield 29, 3) := by decide +kernel
theorem dX11_init_48 : decode cX11_init 48 = .ok (.aload_n 0, 1) := by decide +kernel
theorem dX11_init_49 : decode cX11_init 49 = .ok (.new 26, 3) := by decide +kernel
theorem dX11_init_52 : decode cX11_init 52 = .ok (.dup, 1) := by decide +kernel
theorem dX11_init_53 : decode cX11_init 53 = .ok (.invokespecial 28, 3) := by decide +kernel
theorem dX11_init_56 : decode cX11_init 56 = .ok (.putfield 33, 3) := by decide +kernel
theorem dX11_init_59 : decode cX11_init 59 = .ok (.aload_n 0, 1) := by decide +kernel
theorem dX11_init_60 : decode cX11_init 60 = .ok (.new 36, 3) := by decide +kernel
theorem dX11_init_63 : decode cX11_init 63 = .ok (.dup, 1) := by decide +kernel
theorem dX11_init_64 : decode cX11_init 64 = .ok (.invokespecial 38, 3) := by decide +kernel
theorem dX11_init_67 : decode cX11_init 67 = .ok (.putfield 39, 3) := by decide +kernel
theorem dX11_init_70 : decode cX11_init 70 = .ok (.aload_n 0, 1) := by decide +kernel
theorem dX11_init_71 : decode cX11_init 71 = .ok (.new 36, 3) := by decide +kernel
theorem dX11_init_74 : decode cX11_init 74 = .ok (.dup, 1) := by decide +kernel
theorem dX11_init_75 : decode cX11_init 75 = .ok (.invokespecial 38, 3) := by decide +kernel
theorem dX11_init_78 : decode cX11_init 78 = .ok (.putfield 43, 3) := by decide +kernel
theorem dX11_init_81 : decode cX11_init 81 = .ok (.aload_n 0, 1) := by decide +kernel
theorem dX11_init_82 : decode cX11_init 82 = .ok (.new 46, 3) := by decide +kernel
theorem dX11_init_85 : decode cX11_init 85 = .ok (.dup, 1) := by decide +kernel
theorem dX11_init_86 : decode cX11_init 86 = .ok (.invokespecial 48, 3) := by decide +kernel
theorem dX11_init_89 : decode cX11_init 89 = .ok (.putfield 49, 3) := by decide +kernel
theorem dX11_init_92 : decode cX11_init 92 = .ok (.aload_n 0, 1) := by decide +kernel
theorem dX11_init_93 : decode cX11_init 93 = .ok (.new 53, 3) := by decide +kernel
theorem dX11_init_96 : decode cX11_init 96 = .ok (.dup, 1) := by decide +kernel
theorem dX11_init_97 : decode cX11_init 97 = .ok (.aload_n 0, 1) := by decide +kernel
theorem dX11_init_98 : decode cX11_init 98 = .ok (.getfield 19, 3) := by decide +kernel
theorem dX11_init_101 : decode cX11_init 101 = .ok (.aload_n 0, 1) := by decide +kernel
theorem dX11_init_102 : decode cX11_init 102 = .ok (.getfield 29, 3) := by decide +kernel
theorem dX11_init_105 : decode cX11_init 105 = .ok (.invokespecial 55, 3) := by decide +kernel
theorem dX11_init_108 : decode cX11_init 108 = .ok (.putfield 58, 3) := by decide +kernel
theorem dX11_init_111 : decode cX11_init 111 = .ok (.aload_n 0, 1) := by decide +kernel
theorem dX11_init_112 : decode cX11_init 112 = .ok (.new 62, 3) := by decide +kernel
theorem dX11_init_115 : decode cX11_init 115 = .ok (.dup, 1) := by decide +kernel
theorem dX11_init_116 : decode cX11_init 116 = .ok (.invokespecial 64, 3) := by decide +kernel
theorem dX11_init_119 : decode cX11_init 119 = .ok (.putfield 65, 3) := by decide +kernel
theorem dX11_init_122 : decode cX11_init 122 = .ok (.aload_n 0, 1) := by decide +kernel
theorem dX11_init_123 : decode cX11_init 123 = .ok (.aload_n 0, 1) := by decide +kernel
theorem dX11_init_124 : decode cX11_init 124 = .ok (.getfield 65, 3) := by decide +kernel
theorem dX11_init_127 : decode cX11_init 127 = .ok (.getfield 69, 3) := by decide +kernel
theorem dX11_init_130 : decode cX11_init 130 = .ok (.putfield 73, 3) := by decide +kernel
theorem dX11_init_133 : decode cX11_init 133 = .ok (.aload_n 0, 1) := by decide +kernel
theorem dX11_init_134 : decode cX11_init 134 = .ok (.iconst 3, 1) := by decide +kernel
theorem dX11_init_135 : decode cX11_init 135 = .ok (.anewarray 62, 3) := by decide +kernel
theorem dX11_init_138 : decode cX11_init 138 = .ok (.dup, 1) := by decide +kernel
theorem dX11_init_139 : decode cX11_init 139 = .ok (.iconst 0, 1) := by decide +kernel
theorem dX11_init_140 : decode cX11_init 140 = .ok (.new 62, 3) := by decide +kernel
theorem dX11_init_143 : decode cX11_init 143 = .ok (.dup, 1) := by decide +kernel
theorem dX11_init_144 : decode cX11_init 144 = .ok (.invokespecial 64, 3) := by decide +kernel
theorem dX11_init_147 : decode cX11_init 147 = .ok (.aastore, 1) := by decide +kernel
theorem dX11_init_148 : decode cX11_init 148 = .ok (.dup, 1) := by decide +kernel
theorem dX11_init_149 : decode cX11_init 149 = .ok (.iconst 1, 1) := by decide +kernel
theorem dX11_init_150 : decode cX11_init 150 = .ok (.new 62, 3) := by decide +kernel
theorem dX11_init_153 : decode cX11_init 153 = .ok (.dup, 1) := by decide +kernel
theorem dX11_init_154 : decode cX11_init 154 = .ok (.invokespecial 64, 3) := by decide +kernel
theorem dX11_init_157 : decode cX11_init 157 = .ok (.aastore, 1) := by decide +kernel
theorem dX11_init_158 : decode cX11_init 158 = .ok (.dup, 1) := by decide +kernel
theorem dX11_init_159 : decode cX11_init 159 = .ok (.iconst 2, 1) := by decide +kernel
theorem dX11_init_160 : decode cX11_init 160 = .ok (.new 62, 3) := by decide +kernel
theorem dX11_init_163 : decode cX11_init 163 = .ok (.dup, 1) := by decide +kernel
theorem dX11_init_164 : decode cX11_init 164 = .ok (.invokespecial 64, 3) := by decide +kernel
theorem dX11_init_167 : decode cX11_init 167 = .ok (.aastore, 1) := by decide +kernel
theorem dX11_init_168 : decode cX11_init 168 = .ok (.putfield 74, 3) := by decide +kernel
theorem dX11_init_171 : decode cX11_init 171 = .ok (.aload_n 0, 1) := by decide +kernel
theorem dX11_init_172 : decode cX11_init 172 = .ok (.new 78, 3) := by decide +kernel
theorem dX11_init_175 : decode cX11_init 175 = .ok (.dup, 1) := by decide +kernel
theorem dX11_init_176 : decode cX11_init 176 = .ok (.aload_n 0, 1) := by decide +kernel
theorem dX11_init_177 : decode cX11_init 177 = .ok (.getfield 58, 3) := by decide +kernel
theorem dX11_init_180 : decode cX11_init 180 = .ok (.invokespecial 80, 3) := by decide +kernel
theorem dX11_init_183 : decode cX11_init 183 = .ok (.putfield 83, 3) := by decide +kernel
theorem dX11_init_186 : decode cX11_init 186 = .ok (.aload_n 0, 1) := by decide +kernel
theorem dX11_init_187 : decode cX11_init 187 = .ok (.new 87, 3) := by decide +kernel
theorem dX11_init_190 : decode cX11_init 190 = .ok (.dup, 1) := by decide +kernel
theorem dX11_init_191 : decode cX11_init 191 = .ok (.aload_n 0, 1) := by decide +kernel
theorem dX11_init_192 : decode cX11_init 192 = .ok (.getfield 58, 3) := by decide +kernel
theorem dX11_init_195 : decode cX11_init 195 = .ok (.aload_n 0, 1) := by decide +kernel
theorem dX11_init_196 : decode cX11_init 196 = .ok (.getfield 39, 3) := by decide +kernel
theorem dX11_init_199 : decode cX11_init 199 = .ok (.invokespecial 89, 3) := by decide +kernel
theorem dX11_init_202 : decode cX11_init 202 = .ok (.putfield 92, 3) := by decide +kernel
theorem dX11_init_205 : decode cX11_init 205 = .ok (.aload_n 0, 1) := by decide +kernel
theorem dX11_init_206 : decode cX11_init 206 = .ok (.new 96, 3) := by decide +kernel
theorem dX11_init_209 : decode cX11_init 209 = .ok (.dup, 1) := by decide +kernel
theorem dX11_init_210 : decode cX11_init 210 = .ok (.aload_n 0, 1) := by decide +kernel
theorem dX11_init_211 : decode cX11_init 211 = .ok (.getfield 58, 3) := by decide +kernel
theorem dX11_init_214 : decode cX11_init 214 = .ok (.invokespecial 98, 3) := by decide +kernel
theorem dX11_init_217 : decode cX11_init 217 = .ok (.putfield 99, 3) := by decide +kernel
theorem dX11_init_220 : decode cX11_init 220 = .ok (.return_, 1) := by decide +kernel
theorem dX11_feed_0 : decode cX11_feed 0 = .ok (.aload_n 0, 1) := by decide +kernel
theorem dX11_feed_1 : decode cX11_feed 1 = .ok (.getfield 10, 3) := by decide +kernel
theorem dX11_feed_4 : decode cX11_feed 4 = .ok (.getfield 103, 3) := by decide +kernel
theorem dX11_feed_7 : decode cX11_feed 7 = .ok (.bipush 20, 2) := by decide +kernel
theorem dX11_feed_9 : decode cX11_feed 9 = .ok (.iadd, 1) := by decide +kernel
theorem dX11_feed_10 : decode cX11_feed 10 = .ok (.sipush 600, 3) := by decide +kernel
theorem dX11_feed_13 : decode cX11_feed 13 = .ok (.if_icmp .le 5, 3) := by decide +kernel
theorem dX11_feed_16 : decode cX11_feed 16 = .ok (.iconst (-1), 1) := by decide +kernel
theorem dX11_feed_17 : decode cX11_feed 17 = .ok (.ireturn, 1) := by decide +kernel
theorem dX11_feed_18 : decode cX11_feed 18 = .ok (.aload_n 0, 1) := by decide +kernel
theorem dX11_feed_19 : decode cX11_feed 19 = .ok (.getfield 10, 3) := by decide +kernel
theorem dX11_feed_22 : decode cX11_feed 22 = .ok (.iload_n 1, 1) := by decide +kernel
theorem dX11_feed_23 : decode cX11_feed 23 = .ok (.invokevirtual 107, 3) := by decide +kernel
theorem dX11_feed_26 : decode cX11_feed 26 = .ok (.aload_n 0, 1) := by decide +kernel
theorem dX11_feed_27 : decode cX11_feed 27 = .ok (.getfield 10, 3) := by decide +kernel
theorem dX11_feed_30 : decode cX11_feed 30 = .ok (.iload_n 2, 1) := by decide +kernel
theorem dX11_feed_31 : decode cX11_feed 31 = .ok (.invokevirtual 107, 3) := by decide +kernel
theorem dX11_feed_34 : decode cX11_feed 34 = .ok (.aload_n 0, 1) := by decide +kernel
theorem dX11_feed_35 : decode cX11_feed 35 = .ok (.getfield 10, 3) := by decide +kernel
theorem dX11_feed_38 : decode cX11_feed 38 = .ok (.iload_n 3, 1) := by decide +kernel
theorem dX11_feed_39 : decode cX11_feed 39 = .ok (.invokevirtual 107, 3) := by decide +kernel
theorem dX11_feed_42 : decode cX11_feed 42 = .ok (.aload_n 0, 1) := by decide +kernel
theorem dX11_feed_43 : decode cX11_feed 43 = .ok (.getfield 10, 3) := by decide +kernel
theorem dX11_feed_46 : decode cX11_feed 46 = .ok (.iload 4, 2) := by decide +kernel
theorem dX11_feed_48 : decode cX11_feed 48 = .ok (.invokevirtual 107, 3) := by decide +kernel
theorem dX11_feed_51 : decode cX11_feed 51 = .ok (.aload_n 0, 1) := by decide +kernel
theorem dX11_feed_52 : decode cX11_feed 52 = .ok (.getfield 10, 3) := by decide +kernel
theorem dX11_feed_55 : decode cX11_feed 55 = .ok (.iload 5, 2) := by decide +kernel
theorem dX11_feed_57 : decode cX11_feed 57 = .ok (.invokevirtual 107, 3) := by decide +kernel
theorem dX11_feed_60 : decode cX11_feed 60 = .ok (.aload_n 0, 1) := by decide +kernel
theorem dX11_feed_61 : decode cX11_feed 61 = .ok (.getfield 10, 3) := by decide +kernel
theorem dX11_feed_64 : decode cX11_feed 64 = .ok (.getfield 103, 3) := by decide +kernel
theorem dX11_feed_67 : decode cX11_feed 67 = .ok (.ireturn, 1) := by decide +kernel
theorem dX11_court_0 : decode cX11_court 0 = .ok (.aload_n 0, 1) := by decide +kernel
theorem dX11_court_1 : decode cX11_court 1 = .ok (.iload_n 1, 1) := by decide +kernel
theorem dX11_court_2 : decode cX11_court 2 = .ok (.sipush 600, 3) := by decide +kernel
theorem dX11_court_5 : decode cX11_court 5 = .ok (.invokevirtual 111, 3) := by decide +kernel
theorem dX11_court_8 : decode cX11_court 8 = .ok (.aload_n 0, 1) := by decide +kernel
theorem dX11_court_9 : decode cX11_court 9 = .ok (.getfield 10, 3) := by decide +kernel
theorem dX11_court_12 : decode cX11_court 12 = .ok (.iload_n 1, 1) := by decide +kernel
theorem dX11_court_13 : decode cX11_court 13 = .ok (.invokevirtual 115, 3) := by decide +kernel
theorem dX11_court_16 : decode cX11_court 16 = .ok (.aload_n 0, 1) := by decide +kernel
theorem dX11_court_17 : decode cX11_court 17 = .ok (.getfield 23, 3) := by decide +kernel
theorem dX11_court_20 : decode cX11_court 20 = .ok (.aload_n 0, 1) := by decide +kernel
theorem dX11_court_21 : decode cX11_court 21 = .ok (.getfield 10, 3) := by decide +kernel
theorem dX11_court_24 : decode cX11_court 24 = .ok (.invokevirtual 118, 3) := by decide +kernel
theorem dX11_court_27 : decode cX11_court 27 = .ok (.ifCond .ne 11, 3) := by decide +kernel
theorem dX11_court_30 : decode cX11_court 30 = .ok (.aload_n 0, 1) := by decide +kernel
theorem dX11_court_31 : decode cX11_court 31 = .ok (.getfield 10, 3) := by decide +kernel
theorem dX11_court_34 : decode cX11_court 34 = .ok (.invokevirtual 122, 3) := by decide +kernel
theorem dX11_court_37 : decode cX11_court 37 = .ok (.ireturn, 1) := by decide +kernel
theorem dX11_court_38 : decode cX11_court 38 = .ok (.aload_n 0, 1) := by decide +kernel
theorem dX11_court_39 : decode cX11_court 39 = .ok (.getfield 19, 3) := by decide +kernel
theorem dX11_court_42 : decode cX11_court 42 = .ok (.aload_n 0, 1) := by decide +kernel
theorem dX11_court_43 : decode cX11_court 43 = .ok (.getfield 23, 3) := by decide +kernel
theorem dX11_court_46 : decode cX11_court 46 = .ok (.invokevirtual 126, 3) := by decide +kernel
theorem dX11_court_49 : decode cX11_court 49 = .ok (.aload_n 0, 1) := by decide +kernel
theorem dX11_court_50 : decode cX11_court 50 = .ok (.getfield 29, 3) := by decide +kernel
theorem dX11_court_53 : decode cX11_court 53 = .ok (.invokevirtual 130, 3) := by decide +kernel
theorem dX11_court_56 : decode cX11_court 56 = .ok (.aload_n 0, 1) := by decide +kernel
theorem dX11_court_57 : decode cX11_court 57 = .ok (.getfield 39, 3) := by decide +kernel
theorem dX11_court_60 : decode cX11_court 60 = .ok (.invokevirtual 133, 3) := by decide +kernel
theorem dX11_court_63 : decode cX11_court 63 = .ok (.aload_n 0, 1) := by decide +kernel
theorem dX11_court_64 : decode cX11_court 64 = .ok (.getfield 65, 3) := by decide +kernel
theorem dX11_court_67 : decode cX11_court 67 = .ok (.invokevirtual 136, 3) := by decide +kernel
theorem dX11_court_70 : decode cX11_court 70 = .ok (.aload_n 0, 1) := by decide +kernel
theorem dX11_court_71 : decode cX11_court 71 = .ok (.iconst 0, 1) := by decide +kernel
theorem dX11_court_72 : decode cX11_court 72 = .ok (.putfield 137, 3) := by decide +kernel
theorem dX11_court_75 : decode cX11_court 75 = .ok (.aload_n 0, 1) := by decide +kernel
theorem dX11_court_76 : decode cX11_court 76 = .ok (.iconst 0, 1) := by decide +kernel
theorem dX11_court_77 : decode cX11_court 77 = .ok (.putfield 140, 3) := by decide +kernel
theorem dX11_court_80 : decode cX11_court 80 = .ok (.aload_n 0, 1) := by decide +kernel
theorem dX11_court_81 : decode cX11_court 81 = .ok (.getfield 19, 3) := by decide +kernel
theorem dX11_court_84 : decode cX11_court 84 = .ok (.getfield 143, 3) := by decide +kernel
theorem dX11_court_87 : decode cX11_court 87 = .ok (.ireturn, 1) := by decide +kernel
theorem dX11_law_0 : decode cX11_law 0 = .ok (.aload_n 0, 1) := by decide +kernel
theorem dX11_law_1 : decode cX11_law 1 = .ok (.iload_n 1, 1) := by decide +kernel
theorem dX11_law_2 : decode cX11_law 2 = .ok (.sipush 150, 3) := by decide +kernel
theorem dX11_law_5 : decode cX11_law 5 = .ok (.invokevirtual 111, 3) := by decide +kernel
theorem dX11_law_8 : decode cX11_law 8 = .ok (.aload_n 0, 1) := by decide +kernel
theorem dX11_law_9 : decode cX11_law 9 = .ok (.getfield 10, 3) := by decide +kernel
theorem dX11_law_12 : decode cX11_law 12 = .ok (.iload_n 1, 1) := by decide +kernel
theorem dX11_law_13 : decode cX11_law 13 = .ok (.invokevirtual 115, 3) := by decide +kernel
theorem dX11_law_16 : decode cX11_law 16 = .ok (.aload_n 0, 1) := by decide +kernel
theorem dX11_law_17 : decode cX11_law 17 = .ok (.getfield 33, 3) := by decide +kernel
theorem dX11_law_20 : decode cX11_law 20 = .ok (.aload_n 0, 1) := by decide +kernel
theorem dX11_law_21 : decode cX11_law 21 = .ok (.getfield 10, 3) := by decide +kernel
theorem dX11_law_24 : decode cX11_law 24 = .ok (.invokevirtual 146, 3) := by decide +kernel
theorem dX11_law_27 : decode cX11_law 27 = .ok (.ifCond .ne 11, 3) := by decide +kernel
theorem dX11_law_30 : decode cX11_law 30 = .ok (.aload_n 0, 1) := by decide +kernel
theorem dX11_law_31 : decode cX11_law 31 = .ok (.getfield 10, 3) := by decide +kernel
theorem dX11_law_34 : decode cX11_law 34 = .ok (.invokevirtual 122, 3) := by decide +kernel
theorem dX11_law_37 : decode cX11_law 37 = .ok (.ireturn, 1) := by decide +kernel
theorem dX11_law_38 : decode cX11_law 38 = .ok (.aload_n 0, 1) := by decide +kernel
theorem dX11_law_39 : decode cX11_law 39 = .ok (.getfield 29, 3) := by decide +kernel
theorem dX11_law_42 : decode cX11_law 42 = .ok (.aload_n 0, 1) := by decide +kernel
theorem dX11_law_43 : decode cX11_law 43 = .ok (.getfield 33, 3) := by decide +kernel
theorem dX11_law_46 : decode cX11_law 46 = .ok (.invokevirtual 147, 3) := by decide +kernel
theorem dX11_law_49 : decode cX11_law 49 = .ok (.iconst 1, 1) := by decide +kernel
theorem dX11_law_50 : decode cX11_law 50 = .ok (.ireturn, 1) := by decide +kernel
theorem dX11_work_0 : decode cX11_work 0 = .ok (.aload_n 0, 1) := by decide +kernel
theorem dX11_work_1 : decode cX11_work 1 = .ok (.iload_n 1, 1) := by decide +kernel
theorem dX11_work_2 : decode cX11_work 2 = .ok (.sipush 150, 3) := by decide +kernel
theorem dX11_work_5 : decode cX11_work 5 = .ok (.invokevirtual 111, 3) := by decide +kernel
theorem dX11_work_8 : decode cX11_work 8 = .ok (.aload_n 0, 1) := by decide +kernel
theorem dX11_work_9 : decode cX11_work 9 = .ok (.getfield 65, 3) := by decide +kernel
theorem dX11_work_12 : decode cX11_work 12 = .ok (.getfield 150, 3) := by decide +kernel
theorem dX11_work_15 : decode cX11_work 15 = .ok (.bipush 16, 2) := by decide +kernel
theorem dX11_work_17 : decode cX11_work 17 = .ok (.if_icmp .lt 14, 3) := by decide +kernel
theorem dX11_work_20 : decode cX11_work 20 = .ok (.aload_n 0, 1) := by decide +kernel
theorem dX11_work_21 : decode cX11_work 21 = .ok (.getfield 10, 3) := by decide +kernel
theorem dX11_work_24 : decode cX11_work 24 = .ok (.iconst 0, 1) := by decide +kernel
theorem dX11_work_25 : decode cX11_work 25 = .ok (.invokevirtual 115, 3) := by decide +kernel
theorem dX11_work_28 : decode cX11_work 28 = .ok (.bipush (-20), 2) := by decide +kernel
theorem dX11_work_30 : decode cX11_work 30 = .ok (.ireturn, 1) := by decide +kernel
theorem dX11_work_31 : decode cX11_work 31 = .ok (.aload_n 0, 1) := by decide +kernel
theorem dX11_work_32 : decode cX11_work 32 = .ok (.getfield 10, 3) := by decide +kernel
theorem dX11_work_35 : decode cX11_work 35 = .ok (.iload_n 1, 1) := by decide +kernel
theorem dX11_work_36 : decode cX11_work 36 = .ok (.invokevirtual 115, 3) := by decide +kernel
theorem dX11_work_39 : decode cX11_work 39 = .ok (.aload_n 0, 1) := by decide +kernel
theorem dX11_work_40 : decode cX11_work 40 = .ok (.getfield 49, 3) := by decide +kernel
theorem dX11_work_43 : decode cX11_work 43 = .ok (.aload_n 0, 1) := by decide +kernel
theorem dX11_work_44 : decode cX11_work 44 = .ok (.getfield 10, 3) := by decide +kernel
theorem dX11_work_47 : decode cX11_work 47 = .ok (.aload_n 0, 1) := by decide +kernel
theorem dX11_work_48 : decode cX11_work 48 = .ok (.getfield 19, 3) := by decide +kernel
theorem dX11_work_51 : decode cX11_work 51 = .ok (.invokevirtual 153, 3) := by decide +kernel
theorem dX11_work_54 : decode cX11_work 54 = .ok (.ifCond .ne 11, 3) := by decide +kernel
theorem dX11_work_57 : decode cX11_work 57 = .ok (.aload_n 0, 1) := by decide +kernel
theorem dX11_work_58 : decode cX11_work 58 = .ok (.getfield 10, 3) := by decide +kernel
theorem dX11_work_61 : decode cX11_work 61 = .ok (.invokevirtual 122, 3) := by decide +kernel
theorem dX11_work_64 : decode cX11_work 64 = .ok (.ireturn, 1) := by decide +kernel
theorem dX11_work_65 : decode cX11_work 65 = .ok (.aload_n 0, 1) := by decide +kernel
theorem dX11_work_66 : decode cX11_work 66 = .ok (.getfield 65, 3) := by decide +kernel
theorem dX11_work_69 : decode cX11_work 69 = .ok (.invokevirtual 156, 3) := by decide +kernel
theorem dX11_work_72 : decode cX11_work 72 = .ok (.aload_n 0, 1) := by decide +kernel
theorem dX11_work_73 : decode cX11_work 73 = .ok (.getfield 49, 3) := by decide +kernel
theorem dX11_work_76 : decode cX11_work 76 = .ok (.aload_n 0, 1) := by decide +kernel
theorem dX11_work_77 : decode cX11_work 77 = .ok (.getfield 58, 3) := by decide +kernel
theorem dX11_work_80 : decode cX11_work 80 = .ok (.aload_n 0, 1) := by decide +kernel
theorem dX11_work_81 : decode cX11_work 81 = .ok (.getfield 73, 3) := by decide +kernel
theorem dX11_work_84 : decode cX11_work 84 = .ok (.invokevirtual 159, 3) := by decide +kernel
theorem dX11_work_87 : decode cX11_work 87 = .ok (.istore_n 2, 1) := by decide +kernel
theorem dX11_work_88 : decode cX11_work 88 = .ok (.aload_n 0, 1) := by decide +kernel
theorem dX11_work_89 : decode cX11_work 89 = .ok (.aload_n 0, 1) := by decide +kernel
theorem dX11_work_90 : decode cX11_work 90 = .ok (.getfield 49, 3) := by decide +kernel
theorem dX11_work_93 : decode cX11_work 93 = .ok (.getfield 163, 3) := by decide +kernel
theorem dX11_work_96 : decode cX11_work 96 = .ok (.putfield 140, 3) := by decide +kernel
theorem dX11_work_99 : decode cX11_work 99 = .ok (.iload_n 2, 1) := by decide +kernel
theorem dX11_work_100 : decode cX11_work 100 = .ok (.ireturn, 1) := by decide +kernel
theorem dX11_book_0 : decode cX11_book 0 = .ok (.aload_n 0, 1) := by decide +kernel
theorem dX11_book_1 : decode cX11_book 1 = .ok (.iload_n 1, 1) := by decide +kernel
theorem dX11_book_2 : decode cX11_book 2 = .ok (.bipush 60, 2) := by decide +kernel
theorem dX11_book_4 : decode cX11_book 4 = .ok (.invokevirtual 111, 3) := by decide +kernel
theorem dX11_book_7 : decode cX11_book 7 = .ok (.aload_n 0, 1) := by decide +kernel
theorem dX11_book_8 : decode cX11_book 8 = .ok (.getfield 10, 3) := by decide +kernel
theorem dX11_book_11 : decode cX11_book 11 = .ok (.iload_n 1, 1) := by decide +kernel
theorem dX11_book_12 : decode cX11_book 12 = .ok (.invokevirtual 115, 3) := by decide +kernel
theorem dX11_book_15 : decode cX11_book 15 = .ok (.aload_n 0, 1) := by decide +kernel
theorem dX11_book_16 : decode cX11_book 16 = .ok (.getfield 43, 3) := by decide +kernel
theorem dX11_book_19 : decode cX11_book 19 = .ok (.aload_n 0, 1) := by decide +kernel
theorem dX11_book_20 : decode cX11_book 20 = .ok (.getfield 10, 3) := by decide +kernel
theorem dX11_book_23 : decode cX11_book 23 = .ok (.aload_n 0, 1) := by decide +kernel
theorem dX11_book_24 : decode cX11_book 24 = .ok (.getfield 19, 3) := by decide +kernel
theorem dX11_book_27 : decode cX11_book 27 = .ok (.getfield 143, 3) := by decide +kernel
theorem dX11_book_30 : decode cX11_book 30 = .ok (.invokevirtual 166, 3) := by decide +kernel
theorem dX11_book_33 : decode cX11_book 33 = .ok (.ifCond .ne 11, 3) := by decide +kernel
theorem dX11_book_36 : decode cX11_book 36 = .ok (.aload_n 0, 1) := by decide +kernel
theorem dX11_book_37 : decode cX11_book 37 = .ok (.getfield 10, 3) := by decide +kernel
theorem dX11_book_40 : decode cX11_book 40 = .ok (.invokevirtual 122, 3) := by decide +kernel
theorem dX11_book_43 : decode cX11_book 43 = .ok (.ireturn, 1) := by decide +kernel
theorem dX11_book_44 : decode cX11_book 44 = .ok (.aload_n 0, 1) := by decide +kernel
theorem dX11_book_45 : decode cX11_book 45 = .ok (.getfield 39, 3) := by decide +kernel
theorem dX11_book_48 : decode cX11_book 48 = .ok (.aload_n 0, 1) := by decide +kernel
theorem dX11_book_49 : decode cX11_book 49 = .ok (.getfield 43, 3) := by decide +kernel
theorem dX11_book_52 : decode cX11_book 52 = .ok (.invokevirtual 169, 3) := by decide +kernel
theorem dX11_book_55 : decode cX11_book 55 = .ok (.aload_n 0, 1) := by decide +kernel
theorem dX11_book_56 : decode cX11_book 56 = .ok (.getfield 39, 3) := by decide +kernel
theorem dX11_book_59 : decode cX11_book 59 = .ok (.getfield 172, 3) := by decide +kernel
theorem dX11_book_62 : decode cX11_book 62 = .ok (.ireturn, 1) := by decide +kernel
theorem dX11_fault_0 : decode cX11_fault 0 = .ok (.aload_n 0, 1) := by decide +kernel
theorem dX11_fault_1 : decode cX11_fault 1 = .ok (.getfield 10, 3) := by decide +kernel
theorem dX11_fault_4 : decode cX11_fault 4 = .ok (.getfield 175, 3) := by decide +kernel
theorem dX11_fault_7 : decode cX11_fault 7 = .ok (.ireturn, 1) := by decide +kernel
theorem dX11_undo_0 : decode cX11_undo 0 = .ok (.aload_n 0, 1) := by decide +kernel
theorem dX11_undo_1 : decode cX11_undo 1 = .ok (.getfield 65, 3) := by decide +kernel
theorem dX11_undo_4 : decode cX11_undo 4 = .ok (.getfield 150, 3) := by decide +kernel
theorem dX11_undo_7 : decode cX11_undo 7 = .ok (.ifCond .ne 5, 3) := by decide +kernel
theorem dX11_undo_10 : decode cX11_undo 10 = .ok (.iconst (-1), 1) := by decide +kernel
theorem dX11_undo_11 : decode cX11_undo 11 = .ok (.ireturn, 1) := by decide +kernel
theorem dX11_undo_12 : decode cX11_undo 12 = .ok (.aload_n 0, 1) := by decide +kernel
theorem dX11_undo_13 : decode cX11_undo 13 = .ok (.getfield 65, 3) := by decide +kernel
theorem dX11_undo_16 : decode cX11_undo 16 = .ok (.invokevirtual 178, 3) := by decide +kernel
theorem dX11_undo_19 : decode cX11_undo 19 = .ok (.aload_n 0, 1) := by decide +kernel
theorem dX11_undo_20 : decode cX11_undo 20 = .ok (.iconst 0, 1) := by decide +kernel
theorem dX11_undo_21 : decode cX11_undo 21 = .ok (.putfield 140, 3) := by decide +kernel
theorem dX11_undo_24 : decode cX11_undo 24 = .ok (.aload_n 0, 1) := by decide +kernel
theorem dX11_undo_25 : decode cX11_undo 25 = .ok (.getfield 65, 3) := by decide +kernel
theorem dX11_undo_28 : decode cX11_undo 28 = .ok (.getfield 150, 3) := by decide +kernel
theorem dX11_undo_31 : decode cX11_undo 31 = .ok (.ireturn, 1) := by decide +kernel
theorem dX11_told_0 : decode cX11_told 0 = .ok (.aload_n 0, 1) := by decide +kernel
theorem dX11_told_1 : decode cX11_told 1 = .ok (.iload_n 1, 1) := by decide +kernel
theorem dX11_told_2 : decode cX11_told 2 = .ok (.bipush 12, 2) := by decide +kernel
theorem dX11_told_4 : decode cX11_told 4 = .ok (.invokevirtual 181, 3) := by decide +kernel
theorem dX11_told_7 : decode cX11_told 7 = .ok (.iload_n 1, 1) := by decide +kernel
theorem dX11_told_8 : decode cX11_told 8 = .ok (.tableswitch 145 0 10 #[60, 68, 76, 84, 92, 100, 108, 116, 124, 132, 140], 60) := by decide +kernel
theorem dX11_told_68 : decode cX11_told 68 = .ok (.aload_n 0, 1) := by decide +kernel
theorem dX11_told_69 : decode cX11_told 69 = .ok (.getfield 19, 3) := by decide +kernel
theorem dX11_told_72 : decode cX11_told 72 = .ok (.getfield 143, 3) := by decide +kernel
theorem dX11_told_75 : decode cX11_told 75 = .ok (.ireturn, 1) := by decide +kernel
theorem dX11_told_76 : decode cX11_told 76 = .ok (.aload_n 0, 1) := by decide +kernel
theorem dX11_told_77 : decode cX11_told 77 = .ok (.getfield 19, 3) := by decide +kernel
theorem dX11_told_80 : decode cX11_told 80 = .ok (.getfield 184, 3) := by decide +kernel
theorem dX11_told_83 : decode cX11_told 83 = .ok (.ireturn, 1) := by decide +kernel
theorem dX11_told_84 : decode cX11_told 84 = .ok (.aload_n 0, 1) := by decide +kernel
theorem dX11_told_85 : decode cX11_told 85 = .ok (.getfield 19, 3) := by decide +kernel
theorem dX11_told_88 : decode cX11_told 88 = .ok (.getfield 187, 3) := by decide +kernel
theorem dX11_told_91 : decode cX11_told 91 = .ok (.ireturn, 1) := by decide +kernel
theorem dX11_told_92 : decode cX11_told 92 = .ok (.aload_n 0, 1) := by decide +kernel
theorem dX11_told_93 : decode cX11_told 93 = .ok (.getfield 73, 3) := by decide +kernel
theorem dX11_told_96 : decode cX11_told 96 = .ok (.getfield 190, 3) := by decide +kernel
theorem dX11_told_99 : decode cX11_told 99 = .ok (.ireturn, 1) := by decide +kernel
theorem dX11_told_100 : decode cX11_told 100 = .ok (.aload_n 0, 1) := by decide +kernel
theorem dX11_told_101 : decode cX11_told 101 = .ok (.getfield 73, 3) := by decide +kernel
theorem dX11_told_104 : decode cX11_told 104 = .ok (.getfield 195, 3) := by decide +kernel
theorem dX11_told_107 : decode cX11_told 107 = .ok (.ireturn, 1) := by decide +kernel
theorem dX11_told_108 : decode cX11_told 108 = .ok (.aload_n 0, 1) := by decide +kernel
theorem dX11_told_109 : decode cX11_told 109 = .ok (.getfield 73, 3) := by decide +kernel
theorem dX11_told_112 : decode cX11_told 112 = .ok (.getfield 198, 3) := by decide +kernel
theorem dX11_told_115 : decode cX11_told 115 = .ok (.ireturn, 1) := by decide +kernel
theorem dX11_told_116 : decode cX11_told 116 = .ok (.aload_n 0, 1) := by decide +kernel
theorem dX11_told_117 : decode cX11_told 117 = .ok (.getfield 73, 3) := by decide +kernel
theorem dX11_told_120 : decode cX11_told 120 = .ok (.invokevirtual 201, 3) := by decide +kernel
theorem dX11_told_123 : decode cX11_told 123 = .ok (.ireturn, 1) := by decide +kernel
theorem dX11_told_124 : decode cX11_told 124 = .ok (.aload_n 0, 1) := by decide +kernel
theorem dX11_told_125 : decode cX11_told 125 = .ok (.getfield 73, 3) := by decide +kernel
theorem dX11_told_128 : decode cX11_told 128 = .ok (.invokevirtual 204, 3) := by decide +kernel
theorem dX11_told_131 : decode cX11_told 131 = .ok (.ireturn, 1) := by decide +kernel
theorem dX11_told_132 : decode cX11_told 132 = .ok (.aload_n 0, 1) := by decide +kernel
theorem dX11_told_133 : decode cX11_told 133 = .ok (.getfield 73, 3) := by decide +kernel
theorem dX11_told_136 : decode cX11_told 136 = .ok (.invokevirtual 207, 3) := by decide +kernel
theorem dX11_told_139 : decode cX11_told 139 = .ok (.ireturn, 1) := by decide +kernel
theorem dX11_told_140 : decode cX11_told 140 = .ok (.aload_n 0, 1) := by decide +kernel
theorem dX11_told_141 : decode cX11_told 141 = .ok (.getfield 39, 3) := by decide +kernel
theorem dX11_told_144 : decode cX11_told 144 = .ok (.getfield 172, 3) := by decide +kernel
theorem dX11_told_147 : decode cX11_told 147 = .ok (.ireturn, 1) := by decide +kernel
theorem dX11_told_148 : decode cX11_told 148 = .ok (.aload_n 0, 1) := by decide +kernel
theorem dX11_told_149 : decode cX11_told 149 = .ok (.getfield 140, 3) := by decide +kernel
theorem dX11_told_152 : decode cX11_told 152 = .ok (.ireturn, 1) := by decide +kernel
theorem dX11_told_153 : decode cX11_told 153 = .ok (.aload_n 0, 1) := by decide +kernel
theorem dX11_told_154 : decode cX11_told 154 = .ok (.getfield 58, 3) := by decide +kernel
theorem dX11_told_157 : decode cX11_told 157 = .ok (.aload_n 0, 1) := by decide +kernel
theorem dX11_told_158 : decode cX11_told 158 = .ok (.getfield 73, 3) := by decide +kernel
theorem dX11_told_161 : decode cX11_told 161 = .ok (.invokevirtual 210, 3) := by decide +kernel
theorem dX11_told_164 : decode cX11_told 164 = .ok (.ireturn, 1) := by decide +kernel
theorem dX11_back_0 : decode cX11_back 0 = .ok (.aload_n 0, 1) := by decide +kernel
theorem dX11_back_1 : decode cX11_back 1 = .ok (.iload_n 1, 1) := by decide +kernel
theorem dX11_back_2 : decode cX11_back 2 = .ok (.invokevirtual 214, 3) := by decide +kernel
theorem dX11_back_5 : decode cX11_back 5 = .ok (.aload_n 0, 1) := by decide +kernel
theorem dX11_back_6 : decode cX11_back 6 = .ok (.iload_n 2, 1) := by decide +kernel
theorem dX11_back_7 : decode cX11_back 7 = .ok (.bipush 8, 2) := by decide +kernel
theorem dX11_back_9 : decode cX11_back 9 = .ok (.invokevirtual 181, 3) := by decide +kernel
theorem dX11_back_12 : decode cX11_back 12 = .ok (.iload_n 2, 1) := by decide +kernel
theorem dX11_back_13 : decode cX11_back 13 = .ok (.tableswitch 120 0 6 #[43, 53, 63, 73, 90, 100, 110], 43) := by decide +kernel
theorem dX11_back_56 : decode cX11_back 56 = .ok (.aload_n 0, 1) := by decide +kernel
theorem dX11_back_57 : decode cX11_back 57 = .ok (.getfield 19, 3) := by decide +kernel
theorem dX11_back_60 : decode cX11_back 60 = .ok (.getfield 217, 3) := by decide +kernel
theorem dX11_back_63 : decode cX11_back 63 = .ok (.iload_n 1, 1) := by decide +kernel
theorem dX11_back_64 : decode cX11_back 64 = .ok (.iaload, 1) := by decide +kernel
theorem dX11_back_65 : decode cX11_back 65 = .ok (.ireturn, 1) := by decide +kernel
theorem dX11_back_66 : decode cX11_back 66 = .ok (.aload_n 0, 1) := by decide +kernel
theorem dX11_back_67 : decode cX11_back 67 = .ok (.getfield 19, 3) := by decide +kernel
theorem dX11_back_70 : decode cX11_back 70 = .ok (.getfield 221, 3) := by decide +kernel
theorem dX11_back_73 : decode cX11_back 73 = .ok (.iload_n 1, 1) := by decide +kernel
theorem dX11_back_74 : decode cX11_back 74 = .ok (.iaload, 1) := by decide +kernel
theorem dX11_back_75 : decode cX11_back 75 = .ok (.ireturn, 1) := by decide +kernel
theorem dX11_back_76 : decode cX11_back 76 = .ok (.aload_n 0, 1) := by decide +kernel
theorem dX11_back_77 : decode cX11_back 77 = .ok (.getfield 73, 3) := by decide +kernel
theorem dX11_back_80 : decode cX11_back 80 = .ok (.getfield 224, 3) := by decide +kernel
theorem dX11_back_83 : decode cX11_back 83 = .ok (.iload_n 1, 1) := by decide +kernel
theorem dX11_back_84 : decode cX11_back 84 = .ok (.iaload, 1) := by decide +kernel
theorem dX11_back_85 : decode cX11_back 85 = .ok (.ireturn, 1) := by decide +kernel
theorem dX11_back_86 : decode cX11_back 86 = .ok (.aload_n 0, 1) := by decide +kernel
theorem dX11_back_87 : decode cX11_back 87 = .ok (.getfield 73, 3) := by decide +kernel
theorem dX11_back_90 : decode cX11_back 90 = .ok (.iload_n 1, 1) := by decide +kernel
theorem dX11_back_91 : decode cX11_back 91 = .ok (.invokevirtual 227, 3) := by decide +kernel
theorem dX11_back_94 : decode cX11_back 94 = .ok (.ifCond .eq 7, 3) := by decide +kernel
theorem dX11_back_97 : decode cX11_back 97 = .ok (.iconst 1, 1) := by decide +kernel
theorem dX11_back_98 : decode cX11_back 98 = .ok (.goto 4, 3) := by decide +kernel
theorem dX11_back_101 : decode cX11_back 101 = .ok (.iconst 0, 1) := by decide +kernel
theorem dX11_back_102 : decode cX11_back 102 = .ok (.ireturn, 1) := by decide +kernel
theorem dX11_back_103 : decode cX11_back 103 = .ok (.aload_n 0, 1) := by decide +kernel
theorem dX11_back_104 : decode cX11_back 104 = .ok (.getfield 73, 3) := by decide +kernel
theorem dX11_back_107 : decode cX11_back 107 = .ok (.getfield 231, 3) := by decide +kernel
theorem dX11_back_110 : decode cX11_back 110 = .ok (.iload_n 1, 1) := by decide +kernel
theorem dX11_back_111 : decode cX11_back 111 = .ok (.iaload, 1) := by decide +kernel
theorem dX11_back_112 : decode cX11_back 112 = .ok (.ireturn, 1) := by decide +kernel
theorem dX11_back_113 : decode cX11_back 113 = .ok (.aload_n 0, 1) := by decide +kernel
theorem dX11_back_114 : decode cX11_back 114 = .ok (.getfield 73, 3) := by decide +kernel
theorem dX11_back_117 : decode cX11_back 117 = .ok (.getfield 234, 3) := by decide +kernel
theorem dX11_back_120 : decode cX11_back 120 = .ok (.iload_n 1, 1) := by decide +kernel
theorem dX11_back_121 : decode cX11_back 121 = .ok (.iaload, 1) := by decide +kernel
theorem dX11_back_122 : decode cX11_back 122 = .ok (.ireturn, 1) := by decide +kernel
theorem dX11_back_123 : decode cX11_back 123 = .ok (.aload_n 0, 1) := by decide +kernel
theorem dX11_back_124 : decode cX11_back 124 = .ok (.getfield 73, 3) := by decide +kernel
theorem dX11_back_127 : decode cX11_back 127 = .ok (.getfield 237, 3) := by decide +kernel
theorem dX11_back_130 : decode cX11_back 130 = .ok (.iload_n 1, 1) := by decide +kernel
theorem dX11_back_131 : decode cX11_back 131 = .ok (.iaload, 1) := by decide +kernel
theorem dX11_back_132 : decode cX11_back 132 = .ok (.ireturn, 1) := by decide +kernel
theorem dX11_back_133 : decode cX11_back 133 = .ok (.aload_n 0, 1) := by decide +kernel
theorem dX11_back_134 : decode cX11_back 134 = .ok (.getfield 19, 3) := by decide +kernel
theorem dX11_back_137 : decode cX11_back 137 = .ok (.getfield 217, 3) := by decide +kernel
theorem dX11_back_140 : decode cX11_back 140 = .ok (.iload_n 1, 1) := by decide +kernel
theorem dX11_back_141 : decode cX11_back 141 = .ok (.iaload, 1) := by decide +kernel
theorem dX11_back_142 : decode cX11_back 142 = .ok (.aload_n 0, 1) := by decide +kernel
theorem dX11_back_143 : decode cX11_back 143 = .ok (.getfield 73, 3) := by decide +kernel
theorem dX11_back_146 : decode cX11_back 146 = .ok (.getfield 224, 3) := by decide +kernel
theorem dX11_back_149 : decode cX11_back 149 = .ok (.iload_n 1, 1) := by decide +kernel
theorem dX11_back_150 : decode cX11_back 150 = .ok (.iaload, 1) := by decide +kernel
theorem dX11_back_151 : decode cX11_back 151 = .ok (.isub, 1) := by decide +kernel
theorem dX11_back_152 : decode cX11_back 152 = .ok (.ireturn, 1) := by decide +kernel
theorem dX11_council_0 : decode cX11_council 0 = .ok (.aload_n 0, 1) := by decide +kernel
theorem dX11_council_1 : decode cX11_council 1 = .ok (.iload_n 1, 1) := by decide +kernel
theorem dX11_council_2 : decode cX11_council 2 = .ok (.invokevirtual 240, 3) := by decide +kernel
theorem dX11_council_5 : decode cX11_council 5 = .ok (.aload_n 0, 1) := by decide +kernel
theorem dX11_council_6 : decode cX11_council 6 = .ok (.iload_n 2, 1) := by decide +kernel
theorem dX11_council_7 : decode cX11_council 7 = .ok (.iconst 5, 1) := by decide +kernel
theorem dX11_council_8 : decode cX11_council 8 = .ok (.invokevirtual 181, 3) := by decide +kernel
theorem dX11_council_11 : decode cX11_council 11 = .ok (.iload_n 2, 1) := by decide +kernel
theorem dX11_council_12 : decode cX11_council 12 = .ok (.tableswitch 75 0 3 #[32, 42, 52, 62], 32) := by decide +kernel
theorem dX11_council_44 : decode cX11_council 44 = .ok (.aload_n 0, 1) := by decide +kernel
theorem dX11_council_45 : decode cX11_council 45 = .ok (.getfield 19, 3) := by decide +kernel
theorem dX11_council_48 : decode cX11_council 48 = .ok (.getfield 243, 3) := by decide +kernel
theorem dX11_council_51 : decode cX11_council 51 = .ok (.iload_n 1, 1) := by decide +kernel
theorem dX11_council_52 : decode cX11_council 52 = .ok (.iaload, 1) := by decide +kernel
theorem dX11_council_53 : decode cX11_council 53 = .ok (.ireturn, 1) := by decide +kernel
theorem dX11_council_54 : decode cX11_council 54 = .ok (.aload_n 0, 1) := by decide +kernel
theorem dX11_council_55 : decode cX11_council 55 = .ok (.getfield 19, 3) := by decide +kernel
theorem dX11_council_58 : decode cX11_council 58 = .ok (.getfield 246, 3) := by decide +kernel
theorem dX11_council_61 : decode cX11_council 61 = .ok (.iload_n 1, 1) := by decide +kernel
theorem dX11_council_62 : decode cX11_council 62 = .ok (.iaload, 1) := by decide +kernel
theorem dX11_council_63 : decode cX11_council 63 = .ok (.ireturn, 1) := by decide +kernel
theorem dX11_council_64 : decode cX11_council 64 = .ok (.aload_n 0, 1) := by decide +kernel
theorem dX11_council_65 : decode cX11_council 65 = .ok (.getfield 73, 3) := by decide +kernel
theorem dX11_council_68 : decode cX11_council 68 = .ok (.getfield 249, 3) := by decide +kernel
theorem dX11_council_71 : decode cX11_council 71 = .ok (.iload_n 1, 1) := by decide +kernel
theorem dX11_council_72 : decode cX11_council 72 = .ok (.iaload, 1) := by decide +kernel
theorem dX11_council_73 : decode cX11_council 73 = .ok (.ireturn, 1) := by decide +kernel
theorem dX11_council_74 : decode cX11_council 74 = .ok (.aload_n 0, 1) := by decide +kernel
theorem dX11_council_75 : decode cX11_council 75 = .ok (.aload_n 0, 1) := by decide +kernel
theorem dX11_council_76 : decode cX11_council 76 = .ok (.getfield 73, 3) := by decide +kernel
theorem dX11_council_79 : decode cX11_council 79 = .ok (.getfield 231, 3) := by decide +kernel
theorem dX11_council_82 : decode cX11_council 82 = .ok (.iload_n 1, 1) := by decide +kernel
theorem dX11_council_83 : decode cX11_council 83 = .ok (.invokevirtual 252, 3) := by decide +kernel
theorem dX11_council_86 : decode cX11_council 86 = .ok (.ireturn, 1) := by decide +kernel
theorem dX11_council_87 : decode cX11_council 87 = .ok (.aload_n 0, 1) := by decide +kernel
theorem dX11_council_88 : decode cX11_council 88 = .ok (.aload_n 0, 1) := by decide +kernel
theorem dX11_council_89 : decode cX11_council 89 = .ok (.getfield 73, 3) := by decide +kernel
theorem dX11_council_92 : decode cX11_council 92 = .ok (.getfield 237, 3) := by decide +kernel
theorem dX11_council_95 : decode cX11_council 95 = .ok (.iload_n 1, 1) := by decide +kernel
theorem dX11_council_96 : decode cX11_council 96 = .ok (.invokevirtual 252, 3) := by decide +kernel
theorem dX11_council_99 : decode cX11_council 99 = .ok (.ireturn, 1) := by decide +kernel
theorem dX11_hearing_0 : decode cX11_hearing 0 = .ok (.aload_n 0, 1) := by decide +kernel
theorem dX11_hearing_1 : decode cX11_hearing 1 = .ok (.iload_n 1, 1) := by decide +kernel
theorem dX11_hearing_2 : decode cX11_hearing 2 = .ok (.invokevirtual 214, 3) := by decide +kernel
theorem dX11_hearing_5 : decode cX11_hearing 5 = .ok (.aload_n 0, 1) := by decide +kernel
theorem dX11_hearing_6 : decode cX11_hearing 6 = .ok (.iload_n 2, 1) := by decide +kernel
theorem dX11_hearing_7 : decode cX11_hearing 7 = .ok (.invokevirtual 240, 3) := by decide +kernel
theorem dX11_hearing_10 : decode cX11_hearing 10 = .ok (.aload_n 0, 1) := by decide +kernel
theorem dX11_hearing_11 : decode cX11_hearing 11 = .ok (.getfield 73, 3) := by decide +kernel
theorem dX11_hearing_14 : decode cX11_hearing 14 = .ok (.iload_n 1, 1) := by decide +kernel
theorem dX11_hearing_15 : decode cX11_hearing 15 = .ok (.iload_n 2, 1) := by decide +kernel
theorem dX11_hearing_16 : decode cX11_hearing 16 = .ok (.invokevirtual 256, 3) := by decide +kernel
theorem dX11_hearing_19 : decode cX11_hearing 19 = .ok (.ireturn, 1) := by decide +kernel
theorem dX11_load_0 : decode cX11_load 0 = .ok (.aload_n 0, 1) := by decide +kernel
theorem dX11_load_1 : decode cX11_load 1 = .ok (.iload_n 1, 1) := by decide +kernel
theorem dX11_load_2 : decode cX11_load 2 = .ok (.invokevirtual 214, 3) := by decide +kernel
theorem dX11_load_5 : decode cX11_load 5 = .ok (.aload_n 0, 1) := by decide +kernel
theorem dX11_load_6 : decode cX11_load 6 = .ok (.iload_n 2, 1) := by decide +kernel
theorem dX11_load_7 : decode cX11_load 7 = .ok (.invokevirtual 240, 3) := by decide +kernel
theorem dX11_load_10 : decode cX11_load 10 = .ok (.aload_n 0, 1) := by decide +kernel
theorem dX11_load_11 : decode cX11_load 11 = .ok (.getfield 58, 3) := by decide +kernel
theorem dX11_load_14 : decode cX11_load 14 = .ok (.aload_n 0, 1) := by decide +kernel
theorem dX11_load_15 : decode cX11_load 15 = .ok (.getfield 73, 3) := by decide +kernel
theorem dX11_load_18 : decode cX11_load 18 = .ok (.iload_n 1, 1) := by decide +kernel
theorem dX11_load_19 : decode cX11_load 19 = .ok (.iload_n 2, 1) := by decide +kernel
theorem dX11_load_20 : decode cX11_load 20 = .ok (.iconst 0, 1) := by decide +kernel
theorem dX11_load_21 : decode cX11_load 21 = .ok (.invokevirtual 260, 3) := by decide +kernel
theorem dX11_load_24 : decode cX11_load 24 = .ok (.ireturn, 1) := by decide +kernel
theorem dX11_burden_0 : decode cX11_burden 0 = .ok (.aload_n 0, 1) := by decide +kernel
theorem dX11_burden_1 : decode cX11_burden 1 = .ok (.iload_n 1, 1) := by decide +kernel
theorem dX11_burden_2 : decode cX11_burden 2 = .ok (.invokevirtual 214, 3) := by decide +kernel
theorem dX11_burden_5 : decode cX11_burden 5 = .ok (.aload_n 0, 1) := by decide +kernel
theorem dX11_burden_6 : decode cX11_burden 6 = .ok (.iload_n 2, 1) := by decide +kernel
theorem dX11_burden_7 : decode cX11_burden 7 = .ok (.invokevirtual 240, 3) := by decide +kernel
theorem dX11_burden_10 : decode cX11_burden 10 = .ok (.aload_n 0, 1) := by decide +kernel
theorem dX11_burden_11 : decode cX11_burden 11 = .ok (.getfield 58, 3) := by decide +kernel
theorem dX11_burden_14 : decode cX11_burden 14 = .ok (.aload_n 0, 1) := by decide +kernel
theorem dX11_burden_15 : decode cX11_burden 15 = .ok (.getfield 73, 3) := by decide +kernel
theorem dX11_burden_18 : decode cX11_burden 18 = .ok (.iload_n 1, 1) := by decide +kernel
theorem dX11_burden_19 : decode cX11_burden 19 = .ok (.iload_n 2, 1) := by decide +kernel
theorem dX11_burden_20 : decode cX11_burden 20 = .ok (.iconst 0, 1) := by decide +kernel
theorem dX11_burden_21 : decode cX11_burden 21 = .ok (.invokevirtual 264, 3) := by decide +kernel
theorem dX11_burden_24 : decode cX11_burden 24 = .ok (.ireturn, 1) := by decide +kernel
theorem dX11_would_0 : decode cX11_would 0 = .ok (.aload_n 0, 1) := by decide +kernel
theorem dX11_would_1 : decode cX11_would 1 = .ok (.iload_n 1, 1) := by decide +kernel
theorem dX11_would_2 : decode cX11_would 2 = .ok (.iconst 1, 1) := by decide +kernel
theorem dX11_would_3 : decode cX11_would 3 = .ok (.bipush 40, 2) := by decide +kernel
theorem dX11_would_5 : decode cX11_would 5 = .ok (.invokevirtual 267, 3) := by decide +kernel
theorem dX11_would_8 : decode cX11_would 8 = .ok (.aload_n 0, 1) := by decide +kernel
theorem dX11_would_9 : decode cX11_would 9 = .ok (.iload_n 2, 1) := by decide +kernel
theorem dX11_would_10 : decode cX11_would 10 = .ok (.iconst 0, 1) := by decide +kernel
theorem dX11_would_11 : decode cX11_would 11 = .ok (.bipush 40, 2) := by decide +kernel
theorem dX11_would_13 : decode cX11_would 13 = .ok (.invokevirtual 267, 3) := by decide +kernel
theorem dX11_would_16 : decode cX11_would 16 = .ok (.aload_n 0, 1) := by decide +kernel
theorem dX11_would_17 : decode cX11_would 17 = .ok (.iload_n 3, 1) := by decide +kernel
theorem dX11_would_18 : decode cX11_would 18 = .ok (.iconst 0, 1) := by decide +kernel
theorem dX11_would_19 : decode cX11_would 19 = .ok (.bipush 9, 2) := by decide +kernel
theorem dX11_would_21 : decode cX11_would 21 = .ok (.invokevirtual 267, 3) := by decide +kernel
theorem dX11_would_24 : decode cX11_would 24 = .ok (.aload_n 0, 1) := by decide +kernel
theorem dX11_would_25 : decode cX11_would 25 = .ok (.iload 4, 2) := by decide +kernel
theorem dX11_would_27 : decode cX11_would 27 = .ok (.iconst 1, 1) := by decide +kernel
theorem dX11_would_28 : decode cX11_would 28 = .ok (.bipush 9, 2) := by decide +kernel
theorem dX11_would_30 : decode cX11_would 30 = .ok (.invokevirtual 267, 3) := by decide +kernel
theorem dX11_would_33 : decode cX11_would 33 = .ok (.aload_n 0, 1) := by decide +kernel
theorem dX11_would_34 : decode cX11_would 34 = .ok (.iload 5, 2) := by decide +kernel
theorem dX11_would_36 : decode cX11_would 36 = .ok (.iconst 0, 1) := by decide +kernel
theorem dX11_would_37 : decode cX11_would 37 = .ok (.bipush 9, 2) := by decide +kernel
theorem dX11_would_39 : decode cX11_would 39 = .ok (.invokevirtual 267, 3) := by decide +kernel
theorem dX11_would_42 : decode cX11_would 42 = .ok (.aload_n 0, 1) := by decide +kernel
theorem dX11_would_43 : decode cX11_would 43 = .ok (.iload 6, 2) := by decide +kernel
theorem dX11_would_45 : decode cX11_would 45 = .ok (.iconst 0, 1) := by decide +kernel
theorem dX11_would_46 : decode cX11_would 46 = .ok (.sipush 999, 3) := by decide +kernel
theorem dX11_would_49 : decode cX11_would 49 = .ok (.invokevirtual 267, 3) := by decide +kernel
theorem dX11_would_52 : decode cX11_would 52 = .ok (.aload_n 0, 1) := by decide +kernel
theorem dX11_would_53 : decode cX11_would 53 = .ok (.iload 7, 2) := by decide +kernel
theorem dX11_would_55 : decode cX11_would 55 = .ok (.iconst 0, 1) := by decide +kernel
theorem dX11_would_56 : decode cX11_would 56 = .ok (.bipush 12, 2) := by decide +kernel
theorem dX11_would_58 : decode cX11_would 58 = .ok (.invokevirtual 267, 3) := by decide +kernel
theorem dX11_would_61 : decode cX11_would 61 = .ok (.aload_n 0, 1) := by decide +kernel
theorem dX11_would_62 : decode cX11_would 62 = .ok (.iload 8, 2) := by decide +kernel
theorem dX11_would_64 : decode cX11_would 64 = .ok (.iconst 0, 1) := by decide +kernel
theorem dX11_would_65 : decode cX11_would 65 = .ok (.sipush 400, 3) := by decide +kernel
theorem dX11_would_68 : decode cX11_would 68 = .ok (.invokevirtual 267, 3) := by decide +kernel
theorem dX11_would_71 : decode cX11_would 71 = .ok (.aload_n 0, 1) := by decide +kernel
theorem dX11_would_72 : decode cX11_would 72 = .ok (.iload 9, 2) := by decide +kernel
theorem dX11_would_74 : decode cX11_would 74 = .ok (.iconst 0, 1) := by decide +kernel
theorem dX11_would_75 : decode cX11_would 75 = .ok (.bipush 6, 2) := by decide +kernel
theorem dX11_would_77 : decode cX11_would 77 = .ok (.invokevirtual 267, 3) := by decide +kernel
theorem dX11_would_80 : decode cX11_would 80 = .ok (.aload_n 0, 1) := by decide +kernel
theorem dX11_would_81 : decode cX11_would 81 = .ok (.getfield 29, 3) := by decide +kernel
theorem dX11_would_84 : decode cX11_would 84 = .ok (.iload_n 1, 1) := by decide +kernel
theorem dX11_would_85 : decode cX11_would 85 = .ok (.iload_n 2, 1) := by decide +kernel
theorem dX11_would_86 : decode cX11_would 86 = .ok (.iload 8, 2) := by decide +kernel
theorem dX11_would_88 : decode cX11_would 88 = .ok (.invokevirtual 271, 3) := by decide +kernel
theorem dX11_would_91 : decode cX11_would 91 = .ok (.aload_n 0, 1) := by decide +kernel
theorem dX11_would_92 : decode cX11_would 92 = .ok (.getfield 29, 3) := by decide +kernel
theorem dX11_would_95 : decode cX11_would 95 = .ok (.iload_n 3, 1) := by decide +kernel
theorem dX11_would_96 : decode cX11_would 96 = .ok (.iload 4, 2) := by decide +kernel
theorem dX11_would_98 : decode cX11_would 98 = .ok (.invokevirtual 274, 3) := by decide +kernel
theorem dX11_would_101 : decode cX11_would 101 = .ok (.aload_n 0, 1) := by decide +kernel
theorem dX11_would_102 : decode cX11_would 102 = .ok (.getfield 29, 3) := by decide +kernel
theorem dX11_would_105 : decode cX11_would 105 = .ok (.iload 9, 2) := by decide +kernel
theorem dX11_would_107 : decode cX11_would 107 = .ok (.iload 5, 2) := by decide +kernel
theorem dX11_would_109 : decode cX11_would 109 = .ok (.iload 6, 2) := by decide +kernel
theorem dX11_would_111 : decode cX11_would 111 = .ok (.iload 7, 2) := by decide +kernel
theorem dX11_would_113 : decode cX11_would 113 = .ok (.invokevirtual 277, 3) := by decide +kernel
theorem dX11_would_116 : decode cX11_would 116 = .ok (.aload_n 0, 1) := by decide +kernel
theorem dX11_would_117 : decode cX11_would 117 = .ok (.getfield 29, 3) := by decide +kernel
theorem dX11_would_120 : decode cX11_would 120 = .ok (.invokevirtual 281, 3) := by decide +kernel
theorem dX11_would_123 : decode cX11_would 123 = .ok (.ireturn, 1) := by decide +kernel
theorem dX11_ahead_0 : decode cX11_ahead 0 = .ok (.aload_n 0, 1) := by decide +kernel
theorem dX11_ahead_1 : decode cX11_ahead 1 = .ok (.iload_n 1, 1) := by decide +kernel
theorem dX11_ahead_2 : decode cX11_ahead 2 = .ok (.iconst 0, 1) := by decide +kernel
theorem dX11_ahead_3 : decode cX11_ahead 3 = .ok (.bipush 99, 2) := by decide +kernel
theorem dX11_ahead_5 : decode cX11_ahead 5 = .ok (.invokevirtual 267, 3) := by decide +kernel
theorem dX11_ahead_8 : decode cX11_ahead 8 = .ok (.aload_n 0, 1) := by decide +kernel
theorem dX11_ahead_9 : decode cX11_ahead 9 = .ok (.iload_n 2, 1) := by decide +kernel
theorem dX11_ahead_10 : decode cX11_ahead 10 = .ok (.iconst 2, 1) := by decide +kernel
theorem dX11_ahead_11 : decode cX11_ahead 11 = .ok (.invokevirtual 181, 3) := by decide +kernel
theorem dX11_ahead_14 : decode cX11_ahead 14 = .ok (.iconst 0, 1) := by decide +kernel
theorem dX11_ahead_15 : decode cX11_ahead 15 = .ok (.istore_n 3, 1) := by decide +kernel
theorem dX11_ahead_16 : decode cX11_ahead 16 = .ok (.iconst 0, 1) := by decide +kernel
theorem dX11_ahead_17 : decode cX11_ahead 17 = .ok (.istore 4, 2) := by decide +kernel
theorem dX11_ahead_19 : decode cX11_ahead 19 = .ok (.iconst 0, 1) := by decide +kernel
theorem dX11_ahead_20 : decode cX11_ahead 20 = .ok (.istore 5, 2) := by decide +kernel
theorem dX11_ahead_22 : decode cX11_ahead 22 = .ok (.iload 5, 2) := by decide +kernel
theorem dX11_ahead_24 : decode cX11_ahead 24 = .ok (.aload_n 0, 1) := by decide +kernel
theorem dX11_ahead_25 : decode cX11_ahead 25 = .ok (.getfield 19, 3) := by decide +kernel
theorem dX11_ahead_28 : decode cX11_ahead 28 = .ok (.getfield 143, 3) := by decide +kernel
theorem dX11_ahead_31 : decode cX11_ahead 31 = .ok (.if_icmp .ge 48, 3) := by decide +kernel
theorem dX11_ahead_34 : decode cX11_ahead 34 = .ok (.aload_n 0, 1) := by decide +kernel
theorem dX11_ahead_35 : decode cX11_ahead 35 = .ok (.getfield 58, 3) := by decide +kernel
theorem dX11_ahead_38 : decode cX11_ahead 38 = .ok (.aload_n 0, 1) := by decide +kernel
theorem dX11_ahead_39 : decode cX11_ahead 39 = .ok (.getfield 73, 3) := by decide +kernel
theorem dX11_ahead_42 : decode cX11_ahead 42 = .ok (.iload 5, 2) := by decide +kernel
theorem dX11_ahead_44 : decode cX11_ahead 44 = .ok (.iload_n 1, 1) := by decide +kernel
theorem dX11_ahead_45 : decode cX11_ahead 45 = .ok (.invokevirtual 284, 3) := by decide +kernel
theorem dX11_ahead_48 : decode cX11_ahead 48 = .ok (.istore 6, 2) := by decide +kernel
theorem dX11_ahead_50 : decode cX11_ahead 50 = .ok (.iload_n 3, 1) := by decide +kernel
theorem dX11_ahead_51 : decode cX11_ahead 51 = .ok (.iload 6, 2) := by decide +kernel
theorem dX11_ahead_53 : decode cX11_ahead 53 = .ok (.iadd, 1) := by decide +kernel
theorem dX11_ahead_54 : decode cX11_ahead 54 = .ok (.istore_n 3, 1) := by decide +kernel
theorem dX11_ahead_55 : decode cX11_ahead 55 = .ok (.iload 4, 2) := by decide +kernel
theorem dX11_ahead_57 : decode cX11_ahead 57 = .ok (.iload 6, 2) := by decide +kernel
theorem dX11_ahead_59 : decode cX11_ahead 59 = .ok (.ifCond .ne 10, 3) := by decide +kernel
theorem dX11_ahead_62 : decode cX11_ahead 62 = .ok (.iconst 1, 1) := by decide +kernel
theorem dX11_ahead_63 : decode cX11_ahead 63 = .ok (.iload 5, 2) := by decide +kernel
theorem dX11_ahead_65 : decode cX11_ahead 65 = .ok (.ishl, 1) := by decide +kernel
theorem dX11_ahead_66 : decode cX11_ahead 66 = .ok (.goto 4, 3) := by decide +kernel
theorem dX11_ahead_69 : decode cX11_ahead 69 = .ok (.iconst 0, 1) := by decide +kernel
theorem dX11_ahead_70 : decode cX11_ahead 70 = .ok (.ior, 1) := by decide +kernel
theorem dX11_ahead_71 : decode cX11_ahead 71 = .ok (.istore 4, 2) := by decide +kernel
theorem dX11_ahead_73 : decode cX11_ahead 73 = .ok (.iinc 5 1, 3) := by decide +kernel
theorem dX11_ahead_76 : decode cX11_ahead 76 = .ok (.goto (-54), 3) := by decide +kernel
theorem dX11_ahead_79 : decode cX11_ahead 79 = .ok (.iload_n 2, 1) := by decide +kernel
theorem dX11_ahead_80 : decode cX11_ahead 80 = .ok (.ifCond .ne 7, 3) := by decide +kernel
theorem dX11_ahead_83 : decode cX11_ahead 83 = .ok (.iload_n 3, 1) := by decide +kernel
theorem dX11_ahead_84 : decode cX11_ahead 84 = .ok (.goto 5, 3) := by decide +kernel
theorem dX11_ahead_87 : decode cX11_ahead 87 = .ok (.iload 4, 2) := by decide +kernel
theorem dX11_ahead_89 : decode cX11_ahead 89 = .ok (.ireturn, 1) := by decide +kernel
theorem dX11_could_0 : decode cX11_could 0 = .ok (.aload_n 0, 1) := by decide +kernel
theorem dX11_could_1 : decode cX11_could 1 = .ok (.iload_n 1, 1) := by decide +kernel
theorem dX11_could_2 : decode cX11_could 2 = .ok (.invokevirtual 214, 3) := by decide +kernel
theorem dX11_could_5 : decode cX11_could 5 = .ok (.iconst 0, 1) := by decide +kernel
theorem dX11_could_6 : decode cX11_could 6 = .ok (.istore_n 2, 1) := by decide +kernel
theorem dX11_could_7 : decode cX11_could 7 = .ok (.iconst 0, 1) := by decide +kernel
theorem dX11_could_8 : decode cX11_could 8 = .ok (.istore_n 3, 1) := by decide +kernel
theorem dX11_could_9 : decode cX11_could 9 = .ok (.iload_n 3, 1) := by decide +kernel
theorem dX11_could_10 : decode cX11_could 10 = .ok (.aload_n 0, 1) := by decide +kernel
theorem dX11_could_11 : decode cX11_could 11 = .ok (.getfield 19, 3) := by decide +kernel
theorem dX11_could_14 : decode cX11_could 14 = .ok (.getfield 184, 3) := by decide +kernel
theorem dX11_could_17 : decode cX11_could 17 = .ok (.if_icmp .ge 36, 3) := by decide +kernel
theorem dX11_could_20 : decode cX11_could 20 = .ok (.iload_n 2, 1) := by decide +kernel
theorem dX11_could_21 : decode cX11_could 21 = .ok (.aload_n 0, 1) := by decide +kernel
theorem dX11_could_22 : decode cX11_could 22 = .ok (.getfield 58, 3) := by decide +kernel
theorem dX11_could_25 : decode cX11_could 25 = .ok (.aload_n 0, 1) := by decide +kernel
theorem dX11_could_26 : decode cX11_could 26 = .ok (.getfield 73, 3) := by decide +kernel
theorem dX11_could_29 : decode cX11_could 29 = .ok (.iload_n 1, 1) := by decide +kernel
theorem dX11_could_30 : decode cX11_could 30 = .ok (.iload_n 3, 1) := by decide +kernel
theorem dX11_could_31 : decode cX11_could 31 = .ok (.iconst 0, 1) := by decide +kernel
theorem dX11_could_32 : decode cX11_could 32 = .ok (.invokevirtual 288, 3) := by decide +kernel
theorem dX11_could_35 : decode cX11_could 35 = .ok (.ifCond .eq 9, 3) := by decide +kernel
theorem dX11_could_38 : decode cX11_could 38 = .ok (.iconst 1, 1) := by decide +kernel
theorem dX11_could_39 : decode cX11_could 39 = .ok (.iload_n 3, 1) := by decide +kernel
theorem dX11_could_40 : decode cX11_could 40 = .ok (.ishl, 1) := by decide +kernel
theorem dX11_could_41 : decode cX11_could 41 = .ok (.goto 4, 3) := by decide +kernel
theorem dX11_could_44 : decode cX11_could 44 = .ok (.iconst 0, 1) := by decide +kernel
theorem dX11_could_45 : decode cX11_could 45 = .ok (.ior, 1) := by decide +kernel
theorem dX11_could_46 : decode cX11_could 46 = .ok (.istore_n 2, 1) := by decide +kernel
theorem dX11_could_47 : decode cX11_could 47 = .ok (.iinc 3 1, 3) := by decide +kernel
theorem dX11_could_50 : decode cX11_could 50 = .ok (.goto (-41), 3) := by decide +kernel
theorem dX11_could_53 : decode cX11_could 53 = .ok (.iload_n 2, 1) := by decide +kernel
theorem dX11_could_54 : decode cX11_could 54 = .ok (.ireturn, 1) := by decide +kernel
theorem dX11_roster_0 : decode cX11_roster 0 = .ok (.aload_n 0, 1) := by decide +kernel
theorem dX11_roster_1 : decode cX11_roster 1 = .ok (.iload_n 1, 1) := by decide +kernel
theorem dX11_roster_2 : decode cX11_roster 2 = .ok (.invokevirtual 292, 3) := by decide +kernel
theorem dX11_roster_5 : decode cX11_roster 5 = .ok (.aload_n 0, 1) := by decide +kernel
theorem dX11_roster_6 : decode cX11_roster 6 = .ok (.getfield 83, 3) := by decide +kernel
theorem dX11_roster_9 : decode cX11_roster 9 = .ok (.aload_n 0, 1) := by decide +kernel
theorem dX11_roster_10 : decode cX11_roster 10 = .ok (.getfield 73, 3) := by decide +kernel
theorem dX11_roster_13 : decode cX11_roster 13 = .ok (.iload_n 1, 1) := by decide +kernel
theorem dX11_roster_14 : decode cX11_roster 14 = .ok (.invokevirtual 295, 3) := by decide +kernel
theorem dX11_roster_17 : decode cX11_roster 17 = .ok (.aload_n 0, 1) := by decide +kernel
theorem dX11_roster_18 : decode cX11_roster 18 = .ok (.getfield 83, 3) := by decide +kernel
theorem dX11_roster_21 : decode cX11_roster 21 = .ok (.getfield 299, 3) := by decide +kernel
theorem dX11_roster_24 : decode cX11_roster 24 = .ok (.ireturn, 1) := by decide +kernel
theorem dX11_gives_0 : decode cX11_gives 0 = .ok (.aload_n 0, 1) := by decide +kernel
theorem dX11_gives_1 : decode cX11_gives 1 = .ok (.iload_n 1, 1) := by decide +kernel
theorem dX11_gives_2 : decode cX11_gives 2 = .ok (.invokevirtual 240, 3) := by decide +kernel
theorem dX11_gives_5 : decode cX11_gives 5 = .ok (.aload_n 0, 1) := by decide +kernel
theorem dX11_gives_6 : decode cX11_gives 6 = .ok (.iload_n 2, 1) := by decide +kernel
theorem dX11_gives_7 : decode cX11_gives 7 = .ok (.invokevirtual 292, 3) := by decide +kernel
theorem dX11_gives_10 : decode cX11_gives 10 = .ok (.aload_n 0, 1) := by decide +kernel
theorem dX11_gives_11 : decode cX11_gives 11 = .ok (.getfield 83, 3) := by decide +kernel
theorem dX11_gives_14 : decode cX11_gives 14 = .ok (.aload_n 0, 1) := by decide +kernel
theorem dX11_gives_15 : decode cX11_gives 15 = .ok (.getfield 73, 3) := by decide +kernel
theorem dX11_gives_18 : decode cX11_gives 18 = .ok (.iload_n 2, 1) := by decide +kernel
theorem dX11_gives_19 : decode cX11_gives 19 = .ok (.invokevirtual 295, 3) := by decide +kernel
theorem dX11_gives_22 : decode cX11_gives 22 = .ok (.aload_n 0, 1) := by decide +kernel
theorem dX11_gives_23 : decode cX11_gives 23 = .ok (.getfield 83, 3) := by decide +kernel
theorem dX11_gives_26 : decode cX11_gives 26 = .ok (.iload_n 1, 1) := by decide +kernel
theorem dX11_gives_27 : decode cX11_gives 27 = .ok (.invokevirtual 302, 3) := by decide +kernel
theorem dX11_gives_30 : decode cX11_gives 30 = .ok (.ireturn, 1) := by decide +kernel
theorem dX11_word_0 : decode cX11_word 0 = .ok (.aload_n 0, 1) := by decide +kernel
theorem dX11_word_1 : decode cX11_word 1 = .ok (.iload_n 1, 1) := by decide +kernel
theorem dX11_word_2 : decode cX11_word 2 = .ok (.invokevirtual 240, 3) := by decide +kernel
theorem dX11_word_5 : decode cX11_word 5 = .ok (.aload_n 0, 1) := by decide +kernel
theorem dX11_word_6 : decode cX11_word 6 = .ok (.getfield 19, 3) := by decide +kernel
theorem dX11_word_9 : decode cX11_word 9 = .ok (.invokevirtual 306, 3) := by decide +kernel
theorem dX11_word_12 : decode cX11_word 12 = .ok (.aload_n 0, 1) := by decide +kernel
theorem dX11_word_13 : decode cX11_word 13 = .ok (.getfield 73, 3) := by decide +kernel
theorem dX11_word_16 : decode cX11_word 16 = .ok (.getfield 198, 3) := by decide +kernel
theorem dX11_word_19 : decode cX11_word 19 = .ok (.iconst (-1), 1) := by decide +kernel
theorem dX11_word_20 : decode cX11_word 20 = .ok (.ixor, 1) := by decide +kernel
theorem dX11_word_21 : decode cX11_word 21 = .ok (.iand, 1) := by decide +kernel
theorem dX11_word_22 : decode cX11_word 22 = .ok (.istore_n 2, 1) := by decide +kernel
theorem dX11_word_23 : decode cX11_word 23 = .ok (.aload_n 0, 1) := by decide +kernel
theorem dX11_word_24 : decode cX11_word 24 = .ok (.aload_n 0, 1) := by decide +kernel
theorem dX11_word_25 : decode cX11_word 25 = .ok (.getfield 73, 3) := by decide +kernel
theorem dX11_word_28 : decode cX11_word 28 = .ok (.getfield 231, 3) := by decide +kernel
theorem dX11_word_31 : decode cX11_word 31 = .ok (.iload_n 1, 1) := by decide +kernel
theorem dX11_word_32 : decode cX11_word 32 = .ok (.invokevirtual 252, 3) := by decide +kernel
theorem dX11_word_35 : decode cX11_word 35 = .ok (.iload_n 2, 1) := by decide +kernel
theorem dX11_word_36 : decode cX11_word 36 = .ok (.iand, 1) := by decide +kernel
theorem dX11_word_37 : decode cX11_word 37 = .ok (.istore_n 3, 1) := by decide +kernel
theorem dX11_word_38 : decode cX11_word 38 = .ok (.iload_n 2, 1) := by decide +kernel
theorem dX11_word_39 : decode cX11_word 39 = .ok (.ifCond .eq 9, 3) := by decide +kernel
theorem dX11_word_42 : decode cX11_word 42 = .ok (.iload_n 3, 1) := by decide +kernel
theorem dX11_word_43 : decode cX11_word 43 = .ok (.ifCond .ne 5, 3) := by decide +kernel
theorem dX11_word_46 : decode cX11_word 46 = .ok (.iconst (-1), 1) := by decide +kernel
theorem dX11_word_47 : decode cX11_word 47 = .ok (.ireturn, 1) := by decide +kernel
theorem dX11_word_48 : decode cX11_word 48 = .ok (.iload_n 2, 1) := by decide +kernel
theorem dX11_word_49 : decode cX11_word 49 = .ok (.invokestatic 309, 3) := by decide +kernel
theorem dX11_word_52 : decode cX11_word 52 = .ok (.iload_n 3, 1) := by decide +kernel
theorem dX11_word_53 : decode cX11_word 53 = .ok (.invokestatic 309, 3) := by decide +kernel
theorem dX11_word_56 : decode cX11_word 56 = .ok (.isub, 1) := by decide +kernel
theorem dX11_word_57 : decode cX11_word 57 = .ok (.ireturn, 1) := by decide +kernel
theorem dX11_ease_0 : decode cX11_ease 0 = .ok (.aload_n 0, 1) := by decide +kernel
theorem dX11_ease_1 : decode cX11_ease 1 = .ok (.iload_n 1, 1) := by decide +kernel
theorem dX11_ease_2 : decode cX11_ease 2 = .ok (.aload_n 0, 1) := by decide +kernel
theorem dX11_ease_3 : decode cX11_ease 3 = .ok (.getfield 19, 3) := by decide +kernel
theorem dX11_ease_6 : decode cX11_ease 6 = .ok (.invokevirtual 314, 3) := by decide +kernel
theorem dX11_ease_9 : decode cX11_ease 9 = .ok (.invokevirtual 317, 3) := by decide +kernel
theorem dX11_ease_12 : decode cX11_ease 12 = .ok (.aload_n 0, 1) := by decide +kernel
theorem dX11_ease_13 : decode cX11_ease 13 = .ok (.iload_n 2, 1) := by decide +kernel
theorem dX11_ease_14 : decode cX11_ease 14 = .ok (.iconst 0, 1) := by decide +kernel
theorem dX11_ease_15 : decode cX11_ease 15 = .ok (.sipush 9999, 3) := by decide +kernel
theorem dX11_ease_18 : decode cX11_ease 18 = .ok (.invokevirtual 267, 3) := by decide +kernel
theorem dX11_ease_21 : decode cX11_ease 21 = .ok (.aload_n 0, 1) := by decide +kernel
theorem dX11_ease_22 : decode cX11_ease 22 = .ok (.getfield 19, 3) := by decide +kernel
theorem dX11_ease_25 : decode cX11_ease 25 = .ok (.getfield 187, 3) := by decide +kernel
theorem dX11_ease_28 : decode cX11_ease 28 = .ok (.bipush 9, 2) := by decide +kernel
theorem dX11_ease_30 : decode cX11_ease 30 = .ok (.iadd, 1) := by decide +kernel
theorem dX11_ease_31 : decode cX11_ease 31 = .ok (.istore_n 3, 1) := by decide +kernel
theorem dX11_ease_32 : decode cX11_ease 32 = .ok (.iconst 0, 1) := by decide +kernel
theorem dX11_ease_33 : decode cX11_ease 33 = .ok (.istore 4, 2) := by decide +kernel
theorem dX11_ease_35 : decode cX11_ease 35 = .ok (.iload 4, 2) := by decide +kernel
theorem dX11_ease_37 : decode cX11_ease 37 = .ok (.iload_n 3, 1) := by decide +kernel
theorem dX11_ease_38 : decode cX11_ease 38 = .ok (.if_icmp .ge 23, 3) := by decide +kernel
theorem dX11_ease_41 : decode cX11_ease 41 = .ok (.aload_n 0, 1) := by decide +kernel
theorem dX11_ease_42 : decode cX11_ease 42 = .ok (.iload 4, 2) := by decide +kernel
theorem dX11_ease_44 : decode cX11_ease 44 = .ok (.iload_n 1, 1) := by decide +kernel
theorem dX11_ease_45 : decode cX11_ease 45 = .ok (.iload_n 2, 1) := by decide +kernel
theorem dX11_ease_46 : decode cX11_ease 46 = .ok (.invokevirtual 320, 3) := by decide +kernel
theorem dX11_ease_49 : decode cX11_ease 49 = .ok (.ifCond .eq 6, 3) := by decide +kernel
theorem dX11_ease_52 : decode cX11_ease 52 = .ok (.iload 4, 2) := by decide +kernel
theorem dX11_ease_54 : decode cX11_ease 54 = .ok (.ireturn, 1) := by decide +kernel
theorem dX11_ease_55 : decode cX11_ease 55 = .ok (.iinc 4 1, 3) := by decide +kernel
theorem dX11_ease_58 : decode cX11_ease 58 = .ok (.goto (-23), 3) := by decide +kernel
theorem dX11_ease_61 : decode cX11_ease 61 = .ok (.iload_n 3, 1) := by decide +kernel
theorem dX11_ease_62 : decode cX11_ease 62 = .ok (.ireturn, 1) := by decide +kernel
theorem dX11_fits_0 : decode cX11_fits 0 = .ok (.aload_n 0, 1) := by decide +kernel
theorem dX11_fits_1 : decode cX11_fits 1 = .ok (.iload_n 1, 1) := by decide +kernel
theorem dX11_fits_2 : decode cX11_fits 2 = .ok (.iconst 2, 1) := by decide +kernel
theorem dX11_fits_3 : decode cX11_fits 3 = .ok (.invokevirtual 181, 3) := by decide +kernel
theorem dX11_fits_6 : decode cX11_fits 6 = .ok (.aload_n 0, 1) := by decide +kernel
theorem dX11_fits_7 : decode cX11_fits 7 = .ok (.getfield 92, 3) := by decide +kernel
theorem dX11_fits_10 : decode cX11_fits 10 = .ok (.aload_n 0, 1) := by decide +kernel
theorem dX11_fits_11 : decode cX11_fits 11 = .ok (.getfield 73, 3) := by decide +kernel
theorem dX11_fits_14 : decode cX11_fits 14 = .ok (.invokevirtual 324, 3) := by decide +kernel
theorem dX11_fits_17 : decode cX11_fits 17 = .ok (.iload_n 1, 1) := by decide +kernel
theorem dX11_fits_18 : decode cX11_fits 18 = .ok (.ifCond .ne 13, 3) := by decide +kernel
theorem dX11_fits_21 : decode cX11_fits 21 = .ok (.aload_n 0, 1) := by decide +kernel
theorem dX11_fits_22 : decode cX11_fits 22 = .ok (.getfield 92, 3) := by decide +kernel
theorem dX11_fits_25 : decode cX11_fits 25 = .ok (.getfield 328, 3) := by decide +kernel
theorem dX11_fits_28 : decode cX11_fits 28 = .ok (.goto 10, 3) := by decide +kernel
theorem dX11_fits_31 : decode cX11_fits 31 = .ok (.aload_n 0, 1) := by decide +kernel
theorem dX11_fits_32 : decode cX11_fits 32 = .ok (.getfield 92, 3) := by decide +kernel
theorem dX11_fits_35 : decode cX11_fits 35 = .ok (.getfield 331, 3) := by decide +kernel
theorem dX11_fits_38 : decode cX11_fits 38 = .ok (.ireturn, 1) := by decide +kernel
theorem dX11_look_0 : decode cX11_look 0 = .ok (.aload_n 0, 1) := by decide +kernel
theorem dX11_look_1 : decode cX11_look 1 = .ok (.iload_n 1, 1) := by decide +kernel
theorem dX11_look_2 : decode cX11_look 2 = .ok (.iconst 2, 1) := by decide +kernel
theorem dX11_look_3 : decode cX11_look 3 = .ok (.invokevirtual 181, 3) := by decide +kernel
theorem dX11_look_6 : decode cX11_look 6 = .ok (.aload_n 0, 1) := by decide +kernel
theorem dX11_look_7 : decode cX11_look 7 = .ok (.getfield 92, 3) := by decide +kernel
theorem dX11_look_10 : decode cX11_look 10 = .ok (.aload_n 0, 1) := by decide +kernel
theorem dX11_look_11 : decode cX11_look 11 = .ok (.getfield 73, 3) := by decide +kernel
theorem dX11_look_14 : decode cX11_look 14 = .ok (.invokevirtual 334, 3) := by decide +kernel
theorem dX11_look_17 : decode cX11_look 17 = .ok (.iload_n 1, 1) := by decide +kernel
theorem dX11_look_18 : decode cX11_look 18 = .ok (.ifCond .ne 13, 3) := by decide +kernel
theorem dX11_look_21 : decode cX11_look 21 = .ok (.aload_n 0, 1) := by decide +kernel
theorem dX11_look_22 : decode cX11_look 22 = .ok (.getfield 92, 3) := by decide +kernel
theorem dX11_look_25 : decode cX11_look 25 = .ok (.getfield 337, 3) := by decide +kernel
theorem dX11_look_28 : decode cX11_look 28 = .ok (.goto 10, 3) := by decide +kernel
theorem dX11_look_31 : decode cX11_look 31 = .ok (.aload_n 0, 1) := by decide +kernel
theorem dX11_look_32 : decode cX11_look 32 = .ok (.getfield 92, 3) := by decide +kernel
theorem dX11_look_35 : decode cX11_look 35 = .ok (.getfield 340, 3) := by decide +kernel
theorem dX11_look_38 : decode cX11_look 38 = .ok (.ireturn, 1) := by decide +kernel
theorem dX11_quorum_0 : decode cX11_quorum 0 = .ok (.aload_n 0, 1) := by decide +kernel
theorem dX11_quorum_1 : decode cX11_quorum 1 = .ok (.iload_n 1, 1) := by decide +kernel
theorem dX11_quorum_2 : decode cX11_quorum 2 = .ok (.iconst 1, 1) := by decide +kernel
theorem dX11_quorum_3 : decode cX11_quorum 3 = .ok (.sipush 693, 3) := by decide +kernel
theorem dX11_quorum_6 : decode cX11_quorum 6 = .ok (.invokevirtual 267, 3) := by decide +kernel
theorem dX11_quorum_9 : decode cX11_quorum 9 = .ok (.aload_n 0, 1) := by decide +kernel
theorem dX11_quorum_10 : decode cX11_quorum 10 = .ok (.iload_n 2, 1) := by decide +kernel
theorem dX11_quorum_11 : decode cX11_quorum 11 = .ok (.iconst 2, 1) := by decide +kernel
theorem dX11_quorum_12 : decode cX11_quorum 12 = .ok (.invokevirtual 181, 3) := by decide +kernel
theorem dX11_quorum_15 : decode cX11_quorum 15 = .ok (.iconst 0, 1) := by decide +kernel
theorem dX11_quorum_16 : decode cX11_quorum 16 = .ok (.istore_n 3, 1) := by decide +kernel
theorem dX11_quorum_17 : decode cX11_quorum 17 = .ok (.iconst 1, 1) := by decide +kernel
theorem dX11_quorum_18 : decode cX11_quorum 18 = .ok (.istore 4, 2) := by decide +kernel
theorem dX11_quorum_20 : decode cX11_quorum 20 = .ok (.iload 4, 2) := by decide +kernel
theorem dX11_quorum_22 : decode cX11_quorum 22 = .ok (.iconst 1, 1) := by decide +kernel
theorem dX11_quorum_23 : decode cX11_quorum 23 = .ok (.aload_n 0, 1) := by decide +kernel
theorem dX11_quorum_24 : decode cX11_quorum 24 = .ok (.getfield 19, 3) := by decide +kernel
theorem dX11_quorum_27 : decode cX11_quorum 27 = .ok (.getfield 143, 3) := by decide +kernel
theorem dX11_quorum_30 : decode cX11_quorum 30 = .ok (.ishl, 1) := by decide +kernel
theorem dX11_quorum_31 : decode cX11_quorum 31 = .ok (.if_icmp .ge 61, 3) := by decide +kernel
theorem dX11_quorum_34 : decode cX11_quorum 34 = .ok (.iload 4, 2) := by decide +kernel
theorem dX11_quorum_36 : decode cX11_quorum 36 = .ok (.aload_n 0, 1) := by decide +kernel
theorem dX11_quorum_37 : decode cX11_quorum 37 = .ok (.getfield 73, 3) := by decide +kernel
theorem dX11_quorum_40 : decode cX11_quorum 40 = .ok (.getfield 198, 3) := by decide +kernel
theorem dX11_quorum_43 : decode cX11_quorum 43 = .ok (.iand, 1) := by decide +kernel
theorem dX11_quorum_44 : decode cX11_quorum 44 = .ok (.ifCond .ne 17, 3) := by decide +kernel
theorem dX11_quorum_47 : decode cX11_quorum 47 = .ok (.aload_n 0, 1) := by decide +kernel
theorem dX11_quorum_48 : decode cX11_quorum 48 = .ok (.iload 4, 2) := by decide +kernel
theorem dX11_quorum_50 : decode cX11_quorum 50 = .ok (.invokevirtual 343, 3) := by decide +kernel
theorem dX11_quorum_53 : decode cX11_quorum 53 = .ok (.iload_n 1, 1) := by decide +kernel
theorem dX11_quorum_54 : decode cX11_quorum 54 = .ok (.if_icmp .lt 7, 3) := by decide +kernel
theorem dX11_quorum_57 : decode cX11_quorum 57 = .ok (.iconst 1, 1) := by decide +kernel
theorem dX11_quorum_58 : decode cX11_quorum 58 = .ok (.goto 4, 3) := by decide +kernel
theorem dX11_quorum_61 : decode cX11_quorum 61 = .ok (.iconst 0, 1) := by decide +kernel
theorem dX11_quorum_62 : decode cX11_quorum 62 = .ok (.istore 5, 2) := by decide +kernel
theorem dX11_quorum_64 : decode cX11_quorum 64 = .ok (.iload 5, 2) := by decide +kernel
theorem dX11_quorum_66 : decode cX11_quorum 66 = .ok (.ifCond .eq 20, 3) := by decide +kernel
theorem dX11_quorum_69 : decode cX11_quorum 69 = .ok (.iload_n 2, 1) := by decide +kernel
theorem dX11_quorum_70 : decode cX11_quorum 70 = .ok (.ifCond .eq 13, 3) := by decide +kernel
theorem dX11_quorum_73 : decode cX11_quorum 73 = .ok (.aload_n 0, 1) := by decide +kernel
theorem dX11_quorum_74 : decode cX11_quorum 74 = .ok (.iload 4, 2) := by decide +kernel
theorem dX11_quorum_76 : decode cX11_quorum 76 = .ok (.iload_n 1, 1) := by decide +kernel
theorem dX11_quorum_77 : decode cX11_quorum 77 = .ok (.invokevirtual 346, 3) := by decide +kernel
theorem dX11_quorum_80 : decode cX11_quorum 80 = .ok (.ifCond .eq 6, 3) := by decide +kernel
theorem dX11_quorum_83 : decode cX11_quorum 83 = .ok (.iinc 3 1, 3) := by decide +kernel
theorem dX11_quorum_86 : decode cX11_quorum 86 = .ok (.iinc 4 1, 3) := by decide +kernel
theorem dX11_quorum_89 : decode cX11_quorum 89 = .ok (.goto (-69), 3) := by decide +kernel
theorem dX11_quorum_92 : decode cX11_quorum 92 = .ok (.iload_n 3, 1) := by decide +kernel
theorem dX11_quorum_93 : decode cX11_quorum 93 = .ok (.ireturn, 1) := by decide +kernel
theorem dX11_lies_0 : decode cX11_lies 0 = .ok (.aload_n 0, 1) := by decide +kernel
theorem dX11_lies_1 : decode cX11_lies 1 = .ok (.iload_n 1, 1) := by decide +kernel
theorem dX11_lies_2 : decode cX11_lies 2 = .ok (.iconst 0, 1) := by decide +kernel
theorem dX11_lies_3 : decode cX11_lies 3 = .ok (.bipush 12, 2) := by decide +kernel
theorem dX11_lies_5 : decode cX11_lies 5 = .ok (.invokevirtual 267, 3) := by decide +kernel
theorem dX11_lies_8 : decode cX11_lies 8 = .ok (.aload_n 0, 1) := by decide +kernel
theorem dX11_lies_9 : decode cX11_lies 9 = .ok (.iload_n 2, 1) := by decide +kernel
theorem dX11_lies_10 : decode cX11_lies 10 = .ok (.iconst 0, 1) := by decide +kernel
theorem dX11_lies_11 : decode cX11_lies 11 = .ok (.bipush 13, 2) := by decide +kernel
theorem dX11_lies_13 : decode cX11_lies 13 = .ok (.invokevirtual 267, 3) := by decide +kernel
theorem dX11_lies_16 : decode cX11_lies 16 = .ok (.aload_n 0, 1) := by decide +kernel
theorem dX11_lies_17 : decode cX11_lies 17 = .ok (.iload_n 3, 1) := by decide +kernel
theorem dX11_lies_18 : decode cX11_lies 18 = .ok (.iconst 0, 1) := by decide +kernel
theorem dX11_lies_19 : decode cX11_lies 19 = .ok (.bipush 16, 2) := by decide +kernel
theorem dX11_lies_21 : decode cX11_lies 21 = .ok (.invokevirtual 267, 3) := by decide +kernel
theorem dX11_lies_24 : decode cX11_lies 24 = .ok (.aload_n 0, 1) := by decide +kernel
theorem dX11_lies_25 : decode cX11_lies 25 = .ok (.iload 4, 2) := by decide +kernel
theorem dX11_lies_27 : decode cX11_lies 27 = .ok (.iconst 2, 1) := by decide +kernel
theorem dX11_lies_28 : decode cX11_lies 28 = .ok (.invokevirtual 181, 3) := by decide +kernel
theorem dX11_lies_31 : decode cX11_lies 31 = .ok (.lconst 0, 1) := by decide +kernel
theorem dX11_lies_32 : decode cX11_lies 32 = .ok (.lstore 5, 2) := by decide +kernel
theorem dX11_lies_34 : decode cX11_lies 34 = .ok (.iload_n 2, 1) := by decide +kernel
theorem dX11_lies_35 : decode cX11_lies 35 = .ok (.istore 7, 2) := by decide +kernel
theorem dX11_lies_37 : decode cX11_lies 37 = .ok (.iload 7, 2) := by decide +kernel
theorem dX11_lies_39 : decode cX11_lies 39 = .ok (.iload_n 1, 1) := by decide +kernel
theorem dX11_lies_40 : decode cX11_lies 40 = .ok (.if_icmp .gt 39, 3) := by decide +kernel
theorem dX11_lies_43 : decode cX11_lies 43 = .ok (.lload 5, 2) := by decide +kernel
theorem dX11_lies_45 : decode cX11_lies 45 = .ok (.iload_n 1, 1) := by decide +kernel
theorem dX11_lies_46 : decode cX11_lies 46 = .ok (.iload 7, 2) := by decide +kernel
theorem dX11_lies_48 : decode cX11_lies 48 = .ok (.invokestatic 350, 3) := by decide +kernel
theorem dX11_lies_51 : decode cX11_lies 51 = .ok (.iload_n 3, 1) := by decide +kernel
theorem dX11_lies_52 : decode cX11_lies 52 = .ok (.iload 7, 2) := by decide +kernel
theorem dX11_lies_54 : decode cX11_lies 54 = .ok (.invokestatic 354, 3) := by decide +kernel
theorem dX11_lies_57 : decode cX11_lies 57 = .ok (.lmul, 1) := by decide +kernel
theorem dX11_lies_58 : decode cX11_lies 58 = .ok (.bipush 16, 2) := by decide +kernel
theorem dX11_lies_60 : decode cX11_lies 60 = .ok (.iload_n 3, 1) := by decide +kernel
theorem dX11_lies_61 : decode cX11_lies 61 = .ok (.isub, 1) := by decide +kernel
theorem dX11_lies_62 : decode cX11_lies 62 = .ok (.iload_n 1, 1) := by decide +kernel
theorem dX11_lies_63 : decode cX11_lies 63 = .ok (.iload 7, 2) := by decide +kernel
theorem dX11_lies_65 : decode cX11_lies 65 = .ok (.isub, 1) := by decide +kernel
theorem dX11_lies_66 : decode cX11_lies 66 = .ok (.invokestatic 354, 3) := by decide +kernel
theorem dX11_lies_69 : decode cX11_lies 69 = .ok (.lmul, 1) := by decide +kernel
theorem dX11_lies_70 : decode cX11_lies 70 = .ok (.ladd, 1) := by decide +kernel
theorem dX11_lies_71 : decode cX11_lies 71 = .ok (.lstore 5, 2) := by decide +kernel
theorem dX11_lies_73 : decode cX11_lies 73 = .ok (.iinc 7 1, 3) := by decide +kernel
theorem dX11_lies_76 : decode cX11_lies 76 = .ok (.goto (-39), 3) := by decide +kernel
theorem dX11_lies_79 : decode cX11_lies 79 = .ok (.bipush 16, 2) := by decide +kernel
theorem dX11_lies_81 : decode cX11_lies 81 = .ok (.iload_n 1, 1) := by decide +kernel
theorem dX11_lies_82 : decode cX11_lies 82 = .ok (.invokestatic 354, 3) := by decide +kernel
theorem dX11_lies_85 : decode cX11_lies 85 = .ok (.lstore 7, 2) := by decide +kernel
theorem dX11_lies_87 : decode cX11_lies 87 = .ok (.lload 7, 2) := by decide +kernel
theorem dX11_lies_89 : decode cX11_lies 89 = .ok (.lconst 1, 1) := by decide +kernel
theorem dX11_lies_90 : decode cX11_lies 90 = .ok (.lcmp, 1) := by decide +kernel
theorem dX11_lies_91 : decode cX11_lies 91 = .ok (.ifCond .le 33, 3) := by decide +kernel
theorem dX11_lies_94 : decode cX11_lies 94 = .ok (.lload 5, 2) := by decide +kernel
theorem dX11_lies_96 : decode cX11_lies 96 = .ok (.ldc2_w 357, 3) := by decide +kernel
theorem dX11_lies_99 : decode cX11_lies 99 = .ok (.lrem, 1) := by decide +kernel
theorem dX11_lies_100 : decode cX11_lies 100 = .ok (.lconst 0, 1) := by decide +kernel
theorem dX11_lies_101 : decode cX11_lies 101 = .ok (.lcmp, 1) := by decide +kernel
theorem dX11_lies_102 : decode cX11_lies 102 = .ok (.ifCond .ne 22, 3) := by decide +kernel
theorem dX11_lies_105 : decode cX11_lies 105 = .ok (.lload 5, 2) := by decide +kernel
theorem dX11_lies_107 : decode cX11_lies 107 = .ok (.ldc2_w 357, 3) := by decide +kernel
theorem dX11_lies_110 : decode cX11_lies 110 = .ok (.ldiv, 1) := by decide +kernel
theorem dX11_lies_111 : decode cX11_lies 111 = .ok (.lstore 5, 2) := by decide +kernel
theorem dX11_lies_113 : decode cX11_lies 113 = .ok (.lload 7, 2) := by decide +kernel
theorem dX11_lies_115 : decode cX11_lies 115 = .ok (.ldc2_w 357, 3) := by decide +kernel
theorem dX11_lies_118 : decode cX11_lies 118 = .ok (.ldiv, 1) := by decide +kernel
theorem dX11_lies_119 : decode cX11_lies 119 = .ok (.lstore 7, 2) := by decide +kernel
theorem dX11_lies_121 : decode cX11_lies 121 = .ok (.goto (-34), 3) := by decide +kernel
theorem dX11_lies_124 : decode cX11_lies 124 = .ok (.iload 4, 2) := by decide +kernel
theorem dX11_lies_126 : decode cX11_lies 126 = .ok (.ifCond .ne 8, 3) := by decide +kernel
theorem dX11_lies_129 : decode cX11_lies 129 = .ok (.lload 5, 2) := by decide +kernel
theorem dX11_lies_131 : decode cX11_lies 131 = .ok (.goto 5, 3) := by decide +kernel
theorem dX11_lies_134 : decode cX11_lies 134 = .ok (.lload 7, 2) := by decide +kernel
theorem dX11_lies_136 : decode cX11_lies 136 = .ok (.lreturn, 1) := by decide +kernel
theorem dX11_kneel_0 : decode cX11_kneel 0 = .ok (.aload_n 0, 1) := by decide +kernel
theorem dX11_kneel_1 : decode cX11_kneel 1 = .ok (.iload_n 1, 1) := by decide +kernel
theorem dX11_kneel_2 : decode cX11_kneel 2 = .ok (.iconst 0, 1) := by decide +kernel
theorem dX11_kneel_3 : decode cX11_kneel 3 = .ok (.bipush 99, 2) := by decide +kernel
theorem dX11_kneel_5 : decode cX11_kneel 5 = .ok (.invokevirtual 267, 3) := by decide +kernel
theorem dX11_kneel_8 : decode cX11_kneel 8 = .ok (.aload_n 0, 1) := by decide +kernel
theorem dX11_kneel_9 : decode cX11_kneel 9 = .ok (.iload_n 2, 1) := by decide +kernel
theorem dX11_kneel_10 : decode cX11_kneel 10 = .ok (.iconst 0, 1) := by decide +kernel
theorem dX11_kneel_11 : decode cX11_kneel 11 = .ok (.bipush 99, 2) := by decide +kernel
theorem dX11_kneel_13 : decode cX11_kneel 13 = .ok (.invokevirtual 267, 3) := by decide +kernel
theorem dX11_kneel_16 : decode cX11_kneel 16 = .ok (.aload_n 0, 1) := by decide +kernel
theorem dX11_kneel_17 : decode cX11_kneel 17 = .ok (.iload_n 3, 1) := by decide +kernel
theorem dX11_kneel_18 : decode cX11_kneel 18 = .ok (.iconst 3, 1) := by decide +kernel
theorem dX11_kneel_19 : decode cX11_kneel 19 = .ok (.invokevirtual 181, 3) := by decide +kernel
theorem dX11_kneel_22 : decode cX11_kneel 22 = .ok (.iconst 0, 1) := by decide +kernel
theorem dX11_kneel_23 : decode cX11_kneel 23 = .ok (.istore 4, 2) := by decide +kernel
theorem dX11_kneel_25 : decode cX11_kneel 25 = .ok (.iconst (-1), 1) := by decide +kernel
theorem dX11_kneel_26 : decode cX11_kneel 26 = .ok (.istore 5, 2) := by decide +kernel
theorem dX11_kneel_28 : decode cX11_kneel 28 = .ok (.iconst 0, 1) := by decide +kernel
theorem dX11_kneel_29 : decode cX11_kneel 29 = .ok (.istore 6, 2) := by decide +kernel
theorem dX11_kneel_31 : decode cX11_kneel 31 = .ok (.iconst 0, 1) := by decide +kernel
theorem dX11_kneel_32 : decode cX11_kneel 32 = .ok (.istore 7, 2) := by decide +kernel
theorem dX11_kneel_34 : decode cX11_kneel 34 = .ok (.iload 7, 2) := by decide +kernel
theorem dX11_kneel_36 : decode cX11_kneel 36 = .ok (.iconst 2, 1) := by decide +kernel
theorem dX11_kneel_37 : decode cX11_kneel 37 = .ok (.if_icmp .ge 78, 3) := by decide +kernel
theorem dX11_kneel_40 : decode cX11_kneel 40 = .ok (.iconst 0, 1) := by decide +kernel
theorem dX11_kneel_41 : decode cX11_kneel 41 = .ok (.istore 8, 2) := by decide +kernel
theorem dX11_kneel_43 : decode cX11_kneel 43 = .ok (.iload 8, 2) := by decide +kernel
theorem dX11_kneel_45 : decode cX11_kneel 45 = .ok (.iconst 2, 1) := by decide +kernel
theorem dX11_kneel_46 : decode cX11_kneel 46 = .ok (.if_icmp .ge 63, 3) := by decide +kernel
theorem dX11_kneel_49 : decode cX11_kneel 49 = .ok (.iload 7, 2) := by decide +kernel
theorem dX11_kneel_51 : decode cX11_kneel 51 = .ok (.iload 8, 2) := by decide +kernel
theorem dX11_kneel_53 : decode cX11_kneel 53 = .ok (.iload_n 1, 1) := by decide +kernel
theorem dX11_kneel_54 : decode cX11_kneel 54 = .ok (.iload_n 2, 1) := by decide +kernel
theorem dX11_kneel_55 : decode cX11_kneel 55 = .ok (.invokestatic 359, 3) := by decide +kernel
theorem dX11_kneel_58 : decode cX11_kneel 58 = .ok (.ifCond .ne 6, 3) := by decide +kernel
theorem dX11_kneel_61 : decode cX11_kneel 61 = .ok (.goto 42, 3) := by decide +kernel
theorem dX11_kneel_64 : decode cX11_kneel 64 = .ok (.iload 4, 2) := by decide +kernel
theorem dX11_kneel_66 : decode cX11_kneel 66 = .ok (.ifCond .ne 34, 3) := by decide +kernel
theorem dX11_kneel_69 : decode cX11_kneel 69 = .ok (.bipush 10, 2) := by decide +kernel
theorem dX11_kneel_71 : decode cX11_kneel 71 = .ok (.iload 7, 2) := by decide +kernel
theorem dX11_kneel_73 : decode cX11_kneel 73 = .ok (.imul, 1) := by decide +kernel
theorem dX11_kneel_74 : decode cX11_kneel 74 = .ok (.iload 8, 2) := by decide +kernel
theorem dX11_kneel_76 : decode cX11_kneel 76 = .ok (.iadd, 1) := by decide +kernel
theorem dX11_kneel_77 : decode cX11_kneel 77 = .ok (.istore 5, 2) := by decide +kernel
theorem dX11_kneel_79 : decode cX11_kneel 79 = .ok (.iload 7, 2) := by decide +kernel
theorem dX11_kneel_81 : decode cX11_kneel 81 = .ok (.iload 8, 2) := by decide +kernel
theorem dX11_kneel_83 : decode cX11_kneel 83 = .ok (.iload_n 1, 1) := by decide +kernel
theorem dX11_kneel_84 : decode cX11_kneel 84 = .ok (.iload_n 2, 1) := by decide +kernel
theorem dX11_kneel_85 : decode cX11_kneel 85 = .ok (.invokestatic 363, 3) := by decide +kernel
theorem dX11_kneel_88 : decode cX11_kneel 88 = .ok (.iload 8, 2) := by decide +kernel
theorem dX11_kneel_90 : decode cX11_kneel 90 = .ok (.iload 7, 2) := by decide +kernel
theorem dX11_kneel_92 : decode cX11_kneel 92 = .ok (.iload_n 1, 1) := by decide +kernel
theorem dX11_kneel_93 : decode cX11_kneel 93 = .ok (.iload_n 2, 1) := by decide +kernel
theorem dX11_kneel_94 : decode cX11_kneel 94 = .ok (.invokestatic 363, 3) := by decide +kernel
theorem dX11_kneel_97 : decode cX11_kneel 97 = .ok (.iadd, 1) := by decide +kernel
theorem dX11_kneel_98 : decode cX11_kneel 98 = .ok (.istore 6, 2) := by decide +kernel
theorem dX11_kneel_100 : decode cX11_kneel 100 = .ok (.iinc 4 1, 3) := by decide +kernel
theorem dX11_kneel_103 : decode cX11_kneel 103 = .ok (.iinc 8 1, 3) := by decide +kernel
theorem dX11_kneel_106 : decode cX11_kneel 106 = .ok (.goto (-63), 3) := by decide +kernel
theorem dX11_kneel_109 : decode cX11_kneel 109 = .ok (.iinc 7 1, 3) := by decide +kernel
theorem dX11_kneel_112 : decode cX11_kneel 112 = .ok (.goto (-78), 3) := by decide +kernel
theorem dX11_kneel_115 : decode cX11_kneel 115 = .ok (.iload_n 3, 1) := by decide +kernel
theorem dX11_kneel_116 : decode cX11_kneel 116 = .ok (.ifCond .ne 8, 3) := by decide +kernel
theorem dX11_kneel_119 : decode cX11_kneel 119 = .ok (.iload 4, 2) := by decide +kernel
theorem dX11_kneel_121 : decode cX11_kneel 121 = .ok (.goto 15, 3) := by decide +kernel
theorem dX11_kneel_124 : decode cX11_kneel 124 = .ok (.iload_n 3, 1) := by decide +kernel
theorem dX11_kneel_125 : decode cX11_kneel 125 = .ok (.iconst 1, 1) := by decide +kernel
theorem dX11_kneel_126 : decode cX11_kneel 126 = .ok (.if_icmp .ne 8, 3) := by decide +kernel
theorem dX11_kneel_129 : decode cX11_kneel 129 = .ok (.iload 5, 2) := by decide +kernel
theorem dX11_kneel_131 : decode cX11_kneel 131 = .ok (.goto 5, 3) := by decide +kernel
theorem dX11_kneel_134 : decode cX11_kneel 134 = .ok (.iload 6, 2) := by decide +kernel
theorem dX11_kneel_136 : decode cX11_kneel 136 = .ok (.ireturn, 1) := by decide +kernel
theorem dX11_balm_0 : decode cX11_balm 0 = .ok (.aload_n 0, 1) := by decide +kernel
theorem dX11_balm_1 : decode cX11_balm 1 = .ok (.iload_n 1, 1) := by decide +kernel
theorem dX11_balm_2 : decode cX11_balm 2 = .ok (.invokevirtual 214, 3) := by decide +kernel
theorem dX11_balm_5 : decode cX11_balm 5 = .ok (.aload_n 0, 1) := by decide +kernel
theorem dX11_balm_6 : decode cX11_balm 6 = .ok (.iload_n 2, 1) := by decide +kernel
theorem dX11_balm_7 : decode cX11_balm 7 = .ok (.aload_n 0, 1) := by decide +kernel
theorem dX11_balm_8 : decode cX11_balm 8 = .ok (.getfield 19, 3) := by decide +kernel
end Dec
