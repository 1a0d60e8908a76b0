section Dec
theorem dX12_passes_1 : decode cX12_passes 1 = .ok (.istore_n 1, 1) := by decide +kernel
theorem dX12_passes_2 : decode cX12_passes 2 = .ok (.iload_n 1, 1) := by decide +kernel
theorem dX12_passes_3 : decode cX12_passes 3 = .ok (.aload_n 0, 1) := by decide +kernel
theorem dX12_passes_4 : decode cX12_passes 4 = .ok (.getfield 154, 3) := by decide +kernel
theorem dX12_passes_7 : decode cX12_passes 7 = .ok (.if_icmp .ge 50, 3) := by decide +kernel
theorem dX12_passes_10 : decode cX12_passes 10 = .ok (.aload_n 0, 1) := by decide +kernel
theorem dX12_passes_11 : decode cX12_passes 11 = .ok (.getfield 62, 3) := by decide +kernel
theorem dX12_passes_14 : decode cX12_passes 14 = .ok (.bipush 84, 2) := by decide +kernel
theorem dX12_passes_16 : decode cX12_passes 16 = .ok (.iload_n 1, 1) := by decide +kernel
theorem dX12_passes_17 : decode cX12_passes 17 = .ok (.iadd, 1) := by decide +kernel
theorem dX12_passes_18 : decode cX12_passes 18 = .ok (.iaload, 1) := by decide +kernel
theorem dX12_passes_19 : decode cX12_passes 19 = .ok (.iconst 5, 1) := by decide +kernel
theorem dX12_passes_20 : decode cX12_passes 20 = .ok (.isub, 1) := by decide +kernel
theorem dX12_passes_21 : decode cX12_passes 21 = .ok (.aload_n 0, 1) := by decide +kernel
theorem dX12_passes_22 : decode cX12_passes 22 = .ok (.getfield 29, 3) := by decide +kernel
theorem dX12_passes_25 : decode cX12_passes 25 = .ok (.iconst 2, 1) := by decide +kernel
theorem dX12_passes_26 : decode cX12_passes 26 = .ok (.iload_n 1, 1) := by decide +kernel
theorem dX12_passes_27 : decode cX12_passes 27 = .ok (.imul, 1) := by decide +kernel
theorem dX12_passes_28 : decode cX12_passes 28 = .ok (.iconst 1, 1) := by decide +kernel
theorem dX12_passes_29 : decode cX12_passes 29 = .ok (.iadd, 1) := by decide +kernel
theorem dX12_passes_30 : decode cX12_passes 30 = .ok (.iaload, 1) := by decide +kernel
theorem dX12_passes_31 : decode cX12_passes 31 = .ok (.isub, 1) := by decide +kernel
theorem dX12_passes_32 : decode cX12_passes 32 = .ok (.istore_n 2, 1) := by decide +kernel
theorem dX12_passes_33 : decode cX12_passes 33 = .ok (.aload_n 0, 1) := by decide +kernel
theorem dX12_passes_34 : decode cX12_passes 34 = .ok (.getfield 62, 3) := by decide +kernel
theorem dX12_passes_37 : decode cX12_passes 37 = .ok (.bipush 84, 2) := by decide +kernel
theorem dX12_passes_39 : decode cX12_passes 39 = .ok (.iload_n 1, 1) := by decide +kernel
theorem dX12_passes_40 : decode cX12_passes 40 = .ok (.iadd, 1) := by decide +kernel
theorem dX12_passes_41 : decode cX12_passes 41 = .ok (.iload_n 2, 1) := by decide +kernel
theorem dX12_passes_42 : decode cX12_passes 42 = .ok (.ifCond .ge 7, 3) := by decide +kernel
theorem dX12_passes_45 : decode cX12_passes 45 = .ok (.iconst 0, 1) := by decide +kernel
theorem dX12_passes_46 : decode cX12_passes 46 = .ok (.goto 4, 3) := by decide +kernel
theorem dX12_passes_49 : decode cX12_passes 49 = .ok (.iload_n 2, 1) := by decide +kernel
theorem dX12_passes_50 : decode cX12_passes 50 = .ok (.iastore, 1) := by decide +kernel
theorem dX12_passes_51 : decode cX12_passes 51 = .ok (.iinc 1 1, 3) := by decide +kernel
theorem dX12_passes_54 : decode cX12_passes 54 = .ok (.goto (-52), 3) := by decide +kernel
theorem dX12_passes_57 : decode cX12_passes 57 = .ok (.aload_n 0, 1) := by decide +kernel
theorem dX12_passes_58 : decode cX12_passes 58 = .ok (.getfield 62, 3) := by decide +kernel
theorem dX12_passes_61 : decode cX12_passes 61 = .ok (.bipush 125, 2) := by decide +kernel
theorem dX12_passes_63 : decode cX12_passes 63 = .ok (.dup2, 1) := by decide +kernel
theorem dX12_passes_64 : decode cX12_passes 64 = .ok (.iaload, 1) := by decide +kernel
theorem dX12_passes_65 : decode cX12_passes 65 = .ok (.iconst 1, 1) := by decide +kernel
theorem dX12_passes_66 : decode cX12_passes 66 = .ok (.iadd, 1) := by decide +kernel
theorem dX12_passes_67 : decode cX12_passes 67 = .ok (.iastore, 1) := by decide +kernel
theorem dX12_passes_68 : decode cX12_passes 68 = .ok (.return_, 1) := by decide +kernel
theorem dX12_isDone_0 : decode cX12_isDone 0 = .ok (.iload_n 1, 1) := by decide +kernel
theorem dX12_isDone_1 : decode cX12_isDone 1 = .ok (.ifCond .ne 10, 3) := by decide +kernel
theorem dX12_isDone_4 : decode cX12_isDone 4 = .ok (.aload_n 0, 1) := by decide +kernel
theorem dX12_isDone_5 : decode cX12_isDone 5 = .ok (.iload_n 2, 1) := by decide +kernel
theorem dX12_isDone_6 : decode cX12_isDone 6 = .ok (.iload_n 3, 1) := by decide +kernel
theorem dX12_isDone_7 : decode cX12_isDone 7 = .ok (.invokevirtual 354, 3) := by decide +kernel
theorem dX12_isDone_10 : decode cX12_isDone 10 = .ok (.ireturn, 1) := by decide +kernel
theorem dX12_isDone_11 : decode cX12_isDone 11 = .ok (.iload_n 1, 1) := by decide +kernel
theorem dX12_isDone_12 : decode cX12_isDone 12 = .ok (.iconst 1, 1) := by decide +kernel
theorem dX12_isDone_13 : decode cX12_isDone 13 = .ok (.if_icmp .ne 10, 3) := by decide +kernel
theorem dX12_isDone_16 : decode cX12_isDone 16 = .ok (.aload_n 0, 1) := by decide +kernel
theorem dX12_isDone_17 : decode cX12_isDone 17 = .ok (.iload_n 2, 1) := by decide +kernel
theorem dX12_isDone_18 : decode cX12_isDone 18 = .ok (.iload_n 3, 1) := by decide +kernel
theorem dX12_isDone_19 : decode cX12_isDone 19 = .ok (.invokevirtual 358, 3) := by decide +kernel
theorem dX12_isDone_22 : decode cX12_isDone 22 = .ok (.ireturn, 1) := by decide +kernel
theorem dX12_isDone_23 : decode cX12_isDone 23 = .ok (.iload_n 1, 1) := by decide +kernel
theorem dX12_isDone_24 : decode cX12_isDone 24 = .ok (.iconst 2, 1) := by decide +kernel
theorem dX12_isDone_25 : decode cX12_isDone 25 = .ok (.if_icmp .ne 9, 3) := by decide +kernel
theorem dX12_isDone_28 : decode cX12_isDone 28 = .ok (.aload_n 0, 1) := by decide +kernel
theorem dX12_isDone_29 : decode cX12_isDone 29 = .ok (.iload_n 2, 1) := by decide +kernel
theorem dX12_isDone_30 : decode cX12_isDone 30 = .ok (.invokevirtual 361, 3) := by decide +kernel
theorem dX12_isDone_33 : decode cX12_isDone 33 = .ok (.ireturn, 1) := by decide +kernel
theorem dX12_isDone_34 : decode cX12_isDone 34 = .ok (.iload_n 1, 1) := by decide +kernel
theorem dX12_isDone_35 : decode cX12_isDone 35 = .ok (.iconst 3, 1) := by decide +kernel
theorem dX12_isDone_36 : decode cX12_isDone 36 = .ok (.if_icmp .ne 9, 3) := by decide +kernel
theorem dX12_isDone_39 : decode cX12_isDone 39 = .ok (.aload_n 0, 1) := by decide +kernel
theorem dX12_isDone_40 : decode cX12_isDone 40 = .ok (.iload_n 2, 1) := by decide +kernel
theorem dX12_isDone_41 : decode cX12_isDone 41 = .ok (.invokevirtual 364, 3) := by decide +kernel
theorem dX12_isDone_44 : decode cX12_isDone 44 = .ok (.ireturn, 1) := by decide +kernel
theorem dX12_isDone_45 : decode cX12_isDone 45 = .ok (.aload_n 0, 1) := by decide +kernel
theorem dX12_isDone_46 : decode cX12_isDone 46 = .ok (.getfield 62, 3) := by decide +kernel
theorem dX12_isDone_49 : decode cX12_isDone 49 = .ok (.bipush 125, 2) := by decide +kernel
theorem dX12_isDone_51 : decode cX12_isDone 51 = .ok (.iaload, 1) := by decide +kernel
theorem dX12_isDone_52 : decode cX12_isDone 52 = .ok (.sipush 400, 3) := by decide +kernel
theorem dX12_isDone_55 : decode cX12_isDone 55 = .ok (.if_icmp .lt 5, 3) := by decide +kernel
theorem dX12_isDone_58 : decode cX12_isDone 58 = .ok (.iconst 0, 1) := by decide +kernel
theorem dX12_isDone_59 : decode cX12_isDone 59 = .ok (.ireturn, 1) := by decide +kernel
theorem dX12_isDone_60 : decode cX12_isDone 60 = .ok (.aload_n 0, 1) := by decide +kernel
theorem dX12_isDone_61 : decode cX12_isDone 61 = .ok (.invokevirtual 367, 3) := by decide +kernel
theorem dX12_isDone_64 : decode cX12_isDone 64 = .ok (.iconst 1, 1) := by decide +kernel
theorem dX12_isDone_65 : decode cX12_isDone 65 = .ok (.ireturn, 1) := by decide +kernel
theorem dX12_book_0 : decode cX12_book 0 = .ok (.aload_n 0, 1) := by decide +kernel
theorem dX12_book_1 : decode cX12_book 1 = .ok (.iconst 0, 1) := by decide +kernel
theorem dX12_book_2 : decode cX12_book 2 = .ok (.putfield 3, 3) := by decide +kernel
theorem dX12_book_5 : decode cX12_book 5 = .ok (.aload_n 0, 1) := by decide +kernel
theorem dX12_book_6 : decode cX12_book 6 = .ok (.iload_n 1, 1) := by decide +kernel
theorem dX12_book_7 : decode cX12_book 7 = .ok (.ifCond .lt 21, 3) := by decide +kernel
theorem dX12_book_10 : decode cX12_book 10 = .ok (.iload_n 1, 1) := by decide +kernel
theorem dX12_book_11 : decode cX12_book 11 = .ok (.aload_n 0, 1) := by decide +kernel
theorem dX12_book_12 : decode cX12_book 12 = .ok (.getfield 99, 3) := by decide +kernel
theorem dX12_book_15 : decode cX12_book 15 = .ok (.if_icmp .gt 13, 3) := by decide +kernel
theorem dX12_book_18 : decode cX12_book 18 = .ok (.iload_n 1, 1) := by decide +kernel
theorem dX12_book_19 : decode cX12_book 19 = .ok (.bipush 60, 2) := by decide +kernel
theorem dX12_book_21 : decode cX12_book 21 = .ok (.if_icmp .gt 7, 3) := by decide +kernel
theorem dX12_book_24 : decode cX12_book 24 = .ok (.iconst 1, 1) := by decide +kernel
theorem dX12_book_25 : decode cX12_book 25 = .ok (.goto 4, 3) := by decide +kernel
theorem dX12_book_28 : decode cX12_book 28 = .ok (.iconst 0, 1) := by decide +kernel
theorem dX12_book_29 : decode cX12_book 29 = .ok (.iconst 1, 1) := by decide +kernel
theorem dX12_book_30 : decode cX12_book 30 = .ok (.iconst 1, 1) := by decide +kernel
theorem dX12_book_31 : decode cX12_book 31 = .ok (.invokevirtual 192, 3) := by decide +kernel
theorem dX12_book_34 : decode cX12_book 34 = .ok (.ifCond .ne 5, 3) := by decide +kernel
theorem dX12_book_37 : decode cX12_book 37 = .ok (.iconst 0, 1) := by decide +kernel
theorem dX12_book_38 : decode cX12_book 38 = .ok (.ireturn, 1) := by decide +kernel
theorem dX12_book_39 : decode cX12_book 39 = .ok (.aload_n 0, 1) := by decide +kernel
theorem dX12_book_40 : decode cX12_book 40 = .ok (.iload_n 1, 1) := by decide +kernel
theorem dX12_book_41 : decode cX12_book 41 = .ok (.invokevirtual 196, 3) := by decide +kernel
theorem dX12_book_44 : decode cX12_book 44 = .ok (.iconst 0, 1) := by decide +kernel
theorem dX12_book_45 : decode cX12_book 45 = .ok (.istore_n 2, 1) := by decide +kernel
theorem dX12_book_46 : decode cX12_book 46 = .ok (.iload_n 2, 1) := by decide +kernel
theorem dX12_book_47 : decode cX12_book 47 = .ok (.bipush 7, 2) := by decide +kernel
theorem dX12_book_49 : decode cX12_book 49 = .ok (.if_icmp .ge 16, 3) := by decide +kernel
theorem dX12_book_52 : decode cX12_book 52 = .ok (.aload_n 0, 1) := by decide +kernel
theorem dX12_book_53 : decode cX12_book 53 = .ok (.getfield 68, 3) := by decide +kernel
theorem dX12_book_56 : decode cX12_book 56 = .ok (.iload_n 2, 1) := by decide +kernel
theorem dX12_book_57 : decode cX12_book 57 = .ok (.iconst (-1), 1) := by decide +kernel
theorem dX12_book_58 : decode cX12_book 58 = .ok (.iastore, 1) := by decide +kernel
theorem dX12_book_59 : decode cX12_book 59 = .ok (.iinc 2 1, 3) := by decide +kernel
theorem dX12_book_62 : decode cX12_book 62 = .ok (.goto (-16), 3) := by decide +kernel
theorem dX12_book_65 : decode cX12_book 65 = .ok (.iconst 0, 1) := by decide +kernel
theorem dX12_book_66 : decode cX12_book 66 = .ok (.istore_n 2, 1) := by decide +kernel
theorem dX12_book_67 : decode cX12_book 67 = .ok (.aload_n 0, 1) := by decide +kernel
theorem dX12_book_68 : decode cX12_book 68 = .ok (.invokevirtual 131, 3) := by decide +kernel
theorem dX12_book_71 : decode cX12_book 71 = .ok (.ifCond .eq 91, 3) := by decide +kernel
theorem dX12_book_74 : decode cX12_book 74 = .ok (.aload_n 0, 1) := by decide +kernel
theorem dX12_book_75 : decode cX12_book 75 = .ok (.invokevirtual 200, 3) := by decide +kernel
theorem dX12_book_78 : decode cX12_book 78 = .ok (.ifCond .eq 84, 3) := by decide +kernel
theorem dX12_book_81 : decode cX12_book 81 = .ok (.aload_n 0, 1) := by decide +kernel
theorem dX12_book_82 : decode cX12_book 82 = .ok (.invokevirtual 114, 3) := by decide +kernel
theorem dX12_book_85 : decode cX12_book 85 = .ok (.pop, 1) := by decide +kernel
theorem dX12_book_86 : decode cX12_book 86 = .ok (.aload_n 0, 1) := by decide +kernel
theorem dX12_book_87 : decode cX12_book 87 = .ok (.getfield 108, 3) := by decide +kernel
theorem dX12_book_90 : decode cX12_book 90 = .ok (.istore_n 3, 1) := by decide +kernel
theorem dX12_book_91 : decode cX12_book 91 = .ok (.aload_n 0, 1) := by decide +kernel
theorem dX12_book_92 : decode cX12_book 92 = .ok (.invokevirtual 307, 3) := by decide +kernel
theorem dX12_book_95 : decode cX12_book 95 = .ok (.istore 4, 2) := by decide +kernel
theorem dX12_book_97 : decode cX12_book 97 = .ok (.aload_n 0, 1) := by decide +kernel
theorem dX12_book_98 : decode cX12_book 98 = .ok (.invokevirtual 131, 3) := by decide +kernel
theorem dX12_book_101 : decode cX12_book 101 = .ok (.ifCond .eq 20, 3) := by decide +kernel
theorem dX12_book_104 : decode cX12_book 104 = .ok (.aload_n 0, 1) := by decide +kernel
theorem dX12_book_105 : decode cX12_book 105 = .ok (.getfield 68, 3) := by decide +kernel
theorem dX12_book_108 : decode cX12_book 108 = .ok (.iload 4, 2) := by decide +kernel
theorem dX12_book_110 : decode cX12_book 110 = .ok (.iaload, 1) := by decide +kernel
theorem dX12_book_111 : decode cX12_book 111 = .ok (.iconst (-1), 1) := by decide +kernel
theorem dX12_book_112 : decode cX12_book 112 = .ok (.if_icmp .eq 9, 3) := by decide +kernel
theorem dX12_book_115 : decode cX12_book 115 = .ok (.aload_n 0, 1) := by decide +kernel
theorem dX12_book_116 : decode cX12_book 116 = .ok (.iconst 2, 1) := by decide +kernel
theorem dX12_book_117 : decode cX12_book 117 = .ok (.iload_n 3, 1) := by decide +kernel
theorem dX12_book_118 : decode cX12_book 118 = .ok (.invokevirtual 138, 3) := by decide +kernel
theorem dX12_book_121 : decode cX12_book 121 = .ok (.aload_n 0, 1) := by decide +kernel
theorem dX12_book_122 : decode cX12_book 122 = .ok (.iconst 0, 1) := by decide +kernel
theorem dX12_book_123 : decode cX12_book 123 = .ok (.sipush 999, 3) := by decide +kernel
theorem dX12_book_126 : decode cX12_book 126 = .ok (.invokevirtual 188, 3) := by decide +kernel
theorem dX12_book_129 : decode cX12_book 129 = .ok (.istore 5, 2) := by decide +kernel
theorem dX12_book_131 : decode cX12_book 131 = .ok (.aload_n 0, 1) := by decide +kernel
theorem dX12_book_132 : decode cX12_book 132 = .ok (.bipush 59, 2) := by decide +kernel
theorem dX12_book_134 : decode cX12_book 134 = .ok (.invokevirtual 223, 3) := by decide +kernel
theorem dX12_book_137 : decode cX12_book 137 = .ok (.aload_n 0, 1) := by decide +kernel
theorem dX12_book_138 : decode cX12_book 138 = .ok (.invokevirtual 131, 3) := by decide +kernel
theorem dX12_book_141 : decode cX12_book 141 = .ok (.ifCond .ne 6, 3) := by decide +kernel
theorem dX12_book_144 : decode cX12_book 144 = .ok (.goto 18, 3) := by decide +kernel
theorem dX12_book_147 : decode cX12_book 147 = .ok (.aload_n 0, 1) := by decide +kernel
theorem dX12_book_148 : decode cX12_book 148 = .ok (.getfield 68, 3) := by decide +kernel
theorem dX12_book_151 : decode cX12_book 151 = .ok (.iload 4, 2) := by decide +kernel
theorem dX12_book_153 : decode cX12_book 153 = .ok (.iload 5, 2) := by decide +kernel
theorem dX12_book_155 : decode cX12_book 155 = .ok (.iastore, 1) := by decide +kernel
theorem dX12_book_156 : decode cX12_book 156 = .ok (.iinc 2 1, 3) := by decide +kernel
theorem dX12_book_159 : decode cX12_book 159 = .ok (.goto (-92), 3) := by decide +kernel
theorem dX12_book_162 : decode cX12_book 162 = .ok (.aload_n 0, 1) := by decide +kernel
theorem dX12_book_163 : decode cX12_book 163 = .ok (.iload_n 2, 1) := by decide +kernel
theorem dX12_book_164 : decode cX12_book 164 = .ok (.invokevirtual 226, 3) := by decide +kernel
theorem dX12_book_167 : decode cX12_book 167 = .ok (.istore_n 3, 1) := by decide +kernel
theorem dX12_book_168 : decode cX12_book 168 = .ok (.aload_n 0, 1) := by decide +kernel
theorem dX12_book_169 : decode cX12_book 169 = .ok (.getfield 102, 3) := by decide +kernel
theorem dX12_book_172 : decode cX12_book 172 = .ok (.iconst (-1), 1) := by decide +kernel
theorem dX12_book_173 : decode cX12_book 173 = .ok (.if_icmp .eq 5, 3) := by decide +kernel
theorem dX12_book_176 : decode cX12_book 176 = .ok (.iload_n 3, 1) := by decide +kernel
theorem dX12_book_177 : decode cX12_book 177 = .ok (.ireturn, 1) := by decide +kernel
theorem dX12_book_178 : decode cX12_book 178 = .ok (.aload_n 0, 1) := by decide +kernel
theorem dX12_book_179 : decode cX12_book 179 = .ok (.iload_n 2, 1) := by decide +kernel
theorem dX12_book_180 : decode cX12_book 180 = .ok (.putfield 170, 3) := by decide +kernel
theorem dX12_book_183 : decode cX12_book 183 = .ok (.aload_n 0, 1) := by decide +kernel
theorem dX12_book_184 : decode cX12_book 184 = .ok (.aload_n 0, 1) := by decide +kernel
theorem dX12_book_185 : decode cX12_book 185 = .ok (.getfield 68, 3) := by decide +kernel
theorem dX12_book_188 : decode cX12_book 188 = .ok (.aload_n 0, 1) := by decide +kernel
theorem dX12_book_189 : decode cX12_book 189 = .ok (.getfield 71, 3) := by decide +kernel
theorem dX12_book_192 : decode cX12_book 192 = .ok (.bipush 7, 2) := by decide +kernel
theorem dX12_book_194 : decode cX12_book 194 = .ok (.invokevirtual 163, 3) := by decide +kernel
theorem dX12_book_197 : decode cX12_book 197 = .ok (.iload_n 3, 1) := by decide +kernel
theorem dX12_book_198 : decode cX12_book 198 = .ok (.ireturn, 1) := by decide +kernel
theorem dX12_undo_0 : decode cX12_undo 0 = .ok (.aload_n 0, 1) := by decide +kernel
theorem dX12_undo_1 : decode cX12_undo 1 = .ok (.iconst 0, 1) := by decide +kernel
theorem dX12_undo_2 : decode cX12_undo 2 = .ok (.putfield 3, 3) := by decide +kernel
theorem dX12_undo_5 : decode cX12_undo 5 = .ok (.aload_n 0, 1) := by decide +kernel
theorem dX12_undo_6 : decode cX12_undo 6 = .ok (.getfield 173, 3) := by decide +kernel
theorem dX12_undo_9 : decode cX12_undo 9 = .ok (.ifCond .ne 5, 3) := by decide +kernel
theorem dX12_undo_12 : decode cX12_undo 12 = .ok (.iconst (-1), 1) := by decide +kernel
theorem dX12_undo_13 : decode cX12_undo 13 = .ok (.ireturn, 1) := by decide +kernel
theorem dX12_undo_14 : decode cX12_undo 14 = .ok (.aload_n 0, 1) := by decide +kernel
theorem dX12_undo_15 : decode cX12_undo 15 = .ok (.dup, 1) := by decide +kernel
theorem dX12_undo_16 : decode cX12_undo 16 = .ok (.getfield 173, 3) := by decide +kernel
theorem dX12_undo_19 : decode cX12_undo 19 = .ok (.iconst 1, 1) := by decide +kernel
theorem dX12_undo_20 : decode cX12_undo 20 = .ok (.isub, 1) := by decide +kernel
theorem dX12_undo_21 : decode cX12_undo 21 = .ok (.putfield 173, 3) := by decide +kernel
theorem dX12_undo_24 : decode cX12_undo 24 = .ok (.iconst 0, 1) := by decide +kernel
theorem dX12_undo_25 : decode cX12_undo 25 = .ok (.istore_n 1, 1) := by decide +kernel
theorem dX12_undo_26 : decode cX12_undo 26 = .ok (.iload_n 1, 1) := by decide +kernel
theorem dX12_undo_27 : decode cX12_undo 27 = .ok (.bipush 126, 2) := by decide +kernel
theorem dX12_undo_29 : decode cX12_undo 29 = .ok (.if_icmp .ge 29, 3) := by decide +kernel
theorem dX12_undo_32 : decode cX12_undo 32 = .ok (.aload_n 0, 1) := by decide +kernel
theorem dX12_undo_33 : decode cX12_undo 33 = .ok (.getfield 59, 3) := by decide +kernel
theorem dX12_undo_36 : decode cX12_undo 36 = .ok (.iload_n 1, 1) := by decide +kernel
theorem dX12_undo_37 : decode cX12_undo 37 = .ok (.aload_n 0, 1) := by decide +kernel
theorem dX12_undo_38 : decode cX12_undo 38 = .ok (.getfield 65, 3) := by decide +kernel
theorem dX12_undo_41 : decode cX12_undo 41 = .ok (.bipush 126, 2) := by decide +kernel
theorem dX12_undo_43 : decode cX12_undo 43 = .ok (.aload_n 0, 1) := by decide +kernel
theorem dX12_undo_44 : decode cX12_undo 44 = .ok (.getfield 173, 3) := by decide +kernel
theorem dX12_undo_47 : decode cX12_undo 47 = .ok (.imul, 1) := by decide +kernel
theorem dX12_undo_48 : decode cX12_undo 48 = .ok (.iload_n 1, 1) := by decide +kernel
theorem dX12_undo_49 : decode cX12_undo 49 = .ok (.iadd, 1) := by decide +kernel
theorem dX12_undo_50 : decode cX12_undo 50 = .ok (.iaload, 1) := by decide +kernel
theorem dX12_undo_51 : decode cX12_undo 51 = .ok (.iastore, 1) := by decide +kernel
theorem dX12_undo_52 : decode cX12_undo 52 = .ok (.iinc 1 1, 3) := by decide +kernel
theorem dX12_undo_55 : decode cX12_undo 55 = .ok (.goto (-29), 3) := by decide +kernel
theorem dX12_undo_58 : decode cX12_undo 58 = .ok (.aload_n 0, 1) := by decide +kernel
theorem dX12_undo_59 : decode cX12_undo 59 = .ok (.iconst 0, 1) := by decide +kernel
theorem dX12_undo_60 : decode cX12_undo 60 = .ok (.putfield 179, 3) := by decide +kernel
theorem dX12_undo_63 : decode cX12_undo 63 = .ok (.aload_n 0, 1) := by decide +kernel
theorem dX12_undo_64 : decode cX12_undo 64 = .ok (.getfield 173, 3) := by decide +kernel
theorem dX12_undo_67 : decode cX12_undo 67 = .ok (.ireturn, 1) := by decide +kernel
theorem dX12_sumOf_0 : decode cX12_sumOf 0 = .ok (.iconst 0, 1) := by decide +kernel
theorem dX12_sumOf_1 : decode cX12_sumOf 1 = .ok (.istore_n 3, 1) := by decide +kernel
theorem dX12_sumOf_2 : decode cX12_sumOf 2 = .ok (.iconst 0, 1) := by decide +kernel
theorem dX12_sumOf_3 : decode cX12_sumOf 3 = .ok (.istore 4, 2) := by decide +kernel
theorem dX12_sumOf_5 : decode cX12_sumOf 5 = .ok (.iload 4, 2) := by decide +kernel
theorem dX12_sumOf_7 : decode cX12_sumOf 7 = .ok (.iload_n 2, 1) := by decide +kernel
theorem dX12_sumOf_8 : decode cX12_sumOf 8 = .ok (.if_icmp .ge 21, 3) := by decide +kernel
theorem dX12_sumOf_11 : decode cX12_sumOf 11 = .ok (.iload_n 3, 1) := by decide +kernel
theorem dX12_sumOf_12 : decode cX12_sumOf 12 = .ok (.aload_n 0, 1) := by decide +kernel
theorem dX12_sumOf_13 : decode cX12_sumOf 13 = .ok (.getfield 62, 3) := by decide +kernel
theorem dX12_sumOf_16 : decode cX12_sumOf 16 = .ok (.iload_n 1, 1) := by decide +kernel
theorem dX12_sumOf_17 : decode cX12_sumOf 17 = .ok (.iload 4, 2) := by decide +kernel
theorem dX12_sumOf_19 : decode cX12_sumOf 19 = .ok (.iadd, 1) := by decide +kernel
theorem dX12_sumOf_20 : decode cX12_sumOf 20 = .ok (.iaload, 1) := by decide +kernel
theorem dX12_sumOf_21 : decode cX12_sumOf 21 = .ok (.iadd, 1) := by decide +kernel
theorem dX12_sumOf_22 : decode cX12_sumOf 22 = .ok (.istore_n 3, 1) := by decide +kernel
theorem dX12_sumOf_23 : decode cX12_sumOf 23 = .ok (.iinc 4 1, 3) := by decide +kernel
theorem dX12_sumOf_26 : decode cX12_sumOf 26 = .ok (.goto (-21), 3) := by decide +kernel
theorem dX12_sumOf_29 : decode cX12_sumOf 29 = .ok (.iload_n 3, 1) := by decide +kernel
theorem dX12_sumOf_30 : decode cX12_sumOf 30 = .ok (.ireturn, 1) := by decide +kernel
theorem dX12_bitsOf_0 : decode cX12_bitsOf 0 = .ok (.iconst 0, 1) := by decide +kernel
theorem dX12_bitsOf_1 : decode cX12_bitsOf 1 = .ok (.istore_n 2, 1) := by decide +kernel
theorem dX12_bitsOf_2 : decode cX12_bitsOf 2 = .ok (.iconst 0, 1) := by decide +kernel
theorem dX12_bitsOf_3 : decode cX12_bitsOf 3 = .ok (.istore_n 3, 1) := by decide +kernel
theorem dX12_bitsOf_4 : decode cX12_bitsOf 4 = .ok (.iload_n 3, 1) := by decide +kernel
theorem dX12_bitsOf_5 : decode cX12_bitsOf 5 = .ok (.aload_n 0, 1) := by decide +kernel
theorem dX12_bitsOf_6 : decode cX12_bitsOf 6 = .ok (.getfield 154, 3) := by decide +kernel
theorem dX12_bitsOf_9 : decode cX12_bitsOf 9 = .ok (.if_icmp .ge 22, 3) := by decide +kernel
theorem dX12_bitsOf_12 : decode cX12_bitsOf 12 = .ok (.iload_n 2, 1) := by decide +kernel
theorem dX12_bitsOf_13 : decode cX12_bitsOf 13 = .ok (.aload_n 0, 1) := by decide +kernel
theorem dX12_bitsOf_14 : decode cX12_bitsOf 14 = .ok (.getfield 62, 3) := by decide +kernel
theorem dX12_bitsOf_17 : decode cX12_bitsOf 17 = .ok (.iload_n 1, 1) := by decide +kernel
theorem dX12_bitsOf_18 : decode cX12_bitsOf 18 = .ok (.iload_n 3, 1) := by decide +kernel
theorem dX12_bitsOf_19 : decode cX12_bitsOf 19 = .ok (.iadd, 1) := by decide +kernel
theorem dX12_bitsOf_20 : decode cX12_bitsOf 20 = .ok (.iaload, 1) := by decide +kernel
theorem dX12_bitsOf_21 : decode cX12_bitsOf 21 = .ok (.iload_n 3, 1) := by decide +kernel
theorem dX12_bitsOf_22 : decode cX12_bitsOf 22 = .ok (.ishl, 1) := by decide +kernel
theorem dX12_bitsOf_23 : decode cX12_bitsOf 23 = .ok (.ior, 1) := by decide +kernel
theorem dX12_bitsOf_24 : decode cX12_bitsOf 24 = .ok (.istore_n 2, 1) := by decide +kernel
theorem dX12_bitsOf_25 : decode cX12_bitsOf 25 = .ok (.iinc 3 1, 3) := by decide +kernel
theorem dX12_bitsOf_28 : decode cX12_bitsOf 28 = .ok (.goto (-24), 3) := by decide +kernel
theorem dX12_bitsOf_31 : decode cX12_bitsOf 31 = .ok (.iload_n 2, 1) := by decide +kernel
theorem dX12_bitsOf_32 : decode cX12_bitsOf 32 = .ok (.ireturn, 1) := by decide +kernel
theorem dX12_standing_0 : decode cX12_standing 0 = .ok (.iconst 1, 1) := by decide +kernel
theorem dX12_standing_1 : decode cX12_standing 1 = .ok (.aload_n 0, 1) := by decide +kernel
theorem dX12_standing_2 : decode cX12_standing 2 = .ok (.getfield 154, 3) := by decide +kernel
theorem dX12_standing_5 : decode cX12_standing 5 = .ok (.ishl, 1) := by decide +kernel
theorem dX12_standing_6 : decode cX12_standing 6 = .ok (.iconst 1, 1) := by decide +kernel
theorem dX12_standing_7 : decode cX12_standing 7 = .ok (.isub, 1) := by decide +kernel
theorem dX12_standing_8 : decode cX12_standing 8 = .ok (.aload_n 0, 1) := by decide +kernel
theorem dX12_standing_9 : decode cX12_standing 9 = .ok (.bipush 91, 2) := by decide +kernel
theorem dX12_standing_11 : decode cX12_standing 11 = .ok (.invokevirtual 370, 3) := by decide +kernel
theorem dX12_standing_14 : decode cX12_standing 14 = .ok (.iconst (-1), 1) := by decide +kernel
theorem dX12_standing_15 : decode cX12_standing 15 = .ok (.ixor, 1) := by decide +kernel
theorem dX12_standing_16 : decode cX12_standing 16 = .ok (.iand, 1) := by decide +kernel
theorem dX12_standing_17 : decode cX12_standing 17 = .ok (.ireturn, 1) := by decide +kernel
theorem dX12_knownAny_0 : decode cX12_knownAny 0 = .ok (.iconst 0, 1) := by decide +kernel
theorem dX12_knownAny_1 : decode cX12_knownAny 1 = .ok (.istore_n 1, 1) := by decide +kernel
theorem dX12_knownAny_2 : decode cX12_knownAny 2 = .ok (.iconst 0, 1) := by decide +kernel
theorem dX12_knownAny_3 : decode cX12_knownAny 3 = .ok (.istore_n 2, 1) := by decide +kernel
theorem dX12_knownAny_4 : decode cX12_knownAny 4 = .ok (.iload_n 2, 1) := by decide +kernel
theorem dX12_knownAny_5 : decode cX12_knownAny 5 = .ok (.aload_n 0, 1) := by decide +kernel
theorem dX12_knownAny_6 : decode cX12_knownAny 6 = .ok (.getfield 154, 3) := by decide +kernel
theorem dX12_knownAny_9 : decode cX12_knownAny 9 = .ok (.if_icmp .ge 17, 3) := by decide +kernel
theorem dX12_knownAny_12 : decode cX12_knownAny 12 = .ok (.iload_n 1, 1) := by decide +kernel
theorem dX12_knownAny_13 : decode cX12_knownAny 13 = .ok (.aload_n 0, 1) := by decide +kernel
theorem dX12_knownAny_14 : decode cX12_knownAny 14 = .ok (.iload_n 2, 1) := by decide +kernel
theorem dX12_knownAny_15 : decode cX12_knownAny 15 = .ok (.invokevirtual 335, 3) := by decide +kernel
theorem dX12_knownAny_18 : decode cX12_knownAny 18 = .ok (.ior, 1) := by decide +kernel
theorem dX12_knownAny_19 : decode cX12_knownAny 19 = .ok (.istore_n 1, 1) := by decide +kernel
theorem dX12_knownAny_20 : decode cX12_knownAny 20 = .ok (.iinc 2 1, 3) := by decide +kernel
theorem dX12_knownAny_23 : decode cX12_knownAny 23 = .ok (.goto (-19), 3) := by decide +kernel
theorem dX12_knownAny_26 : decode cX12_knownAny 26 = .ok (.iload_n 1, 1) := by decide +kernel
theorem dX12_knownAny_27 : decode cX12_knownAny 27 = .ok (.ireturn, 1) := by decide +kernel
theorem dX12_knownAll_0 : decode cX12_knownAll 0 = .ok (.iconst 1, 1) := by decide +kernel
theorem dX12_knownAll_1 : decode cX12_knownAll 1 = .ok (.aload_n 0, 1) := by decide +kernel
theorem dX12_knownAll_2 : decode cX12_knownAll 2 = .ok (.getfield 157, 3) := by decide +kernel
theorem dX12_knownAll_5 : decode cX12_knownAll 5 = .ok (.ishl, 1) := by decide +kernel
theorem dX12_knownAll_6 : decode cX12_knownAll 6 = .ok (.iconst 1, 1) := by decide +kernel
theorem dX12_knownAll_7 : decode cX12_knownAll 7 = .ok (.isub, 1) := by decide +kernel
theorem dX12_knownAll_8 : decode cX12_knownAll 8 = .ok (.istore_n 1, 1) := by decide +kernel
theorem dX12_knownAll_9 : decode cX12_knownAll 9 = .ok (.iconst 0, 1) := by decide +kernel
theorem dX12_knownAll_10 : decode cX12_knownAll 10 = .ok (.istore_n 2, 1) := by decide +kernel
theorem dX12_knownAll_11 : decode cX12_knownAll 11 = .ok (.iload_n 2, 1) := by decide +kernel
theorem dX12_knownAll_12 : decode cX12_knownAll 12 = .ok (.aload_n 0, 1) := by decide +kernel
theorem dX12_knownAll_13 : decode cX12_knownAll 13 = .ok (.getfield 154, 3) := by decide +kernel
theorem dX12_knownAll_16 : decode cX12_knownAll 16 = .ok (.if_icmp .ge 34, 3) := by decide +kernel
theorem dX12_knownAll_19 : decode cX12_knownAll 19 = .ok (.iload_n 1, 1) := by decide +kernel
theorem dX12_knownAll_20 : decode cX12_knownAll 20 = .ok (.aload_n 0, 1) := by decide +kernel
theorem dX12_knownAll_21 : decode cX12_knownAll 21 = .ok (.getfield 62, 3) := by decide +kernel
theorem dX12_knownAll_24 : decode cX12_knownAll 24 = .ok (.bipush 91, 2) := by decide +kernel
theorem dX12_knownAll_26 : decode cX12_knownAll 26 = .ok (.iload_n 2, 1) := by decide +kernel
theorem dX12_knownAll_27 : decode cX12_knownAll 27 = .ok (.iadd, 1) := by decide +kernel
theorem dX12_knownAll_28 : decode cX12_knownAll 28 = .ok (.iaload, 1) := by decide +kernel
theorem dX12_knownAll_29 : decode cX12_knownAll 29 = .ok (.iconst 1, 1) := by decide +kernel
theorem dX12_knownAll_30 : decode cX12_knownAll 30 = .ok (.if_icmp .ne 7, 3) := by decide +kernel
theorem dX12_knownAll_33 : decode cX12_knownAll 33 = .ok (.iconst (-1), 1) := by decide +kernel
theorem dX12_knownAll_34 : decode cX12_knownAll 34 = .ok (.goto 8, 3) := by decide +kernel
theorem dX12_knownAll_37 : decode cX12_knownAll 37 = .ok (.aload_n 0, 1) := by decide +kernel
theorem dX12_knownAll_38 : decode cX12_knownAll 38 = .ok (.iload_n 2, 1) := by decide +kernel
theorem dX12_knownAll_39 : decode cX12_knownAll 39 = .ok (.invokevirtual 335, 3) := by decide +kernel
theorem dX12_knownAll_42 : decode cX12_knownAll 42 = .ok (.iand, 1) := by decide +kernel
theorem dX12_knownAll_43 : decode cX12_knownAll 43 = .ok (.istore_n 1, 1) := by decide +kernel
theorem dX12_knownAll_44 : decode cX12_knownAll 44 = .ok (.iinc 2 1, 3) := by decide +kernel
theorem dX12_knownAll_47 : decode cX12_knownAll 47 = .ok (.goto (-36), 3) := by decide +kernel
theorem dX12_knownAll_50 : decode cX12_knownAll 50 = .ok (.iload_n 1, 1) := by decide +kernel
theorem dX12_knownAll_51 : decode cX12_knownAll 51 = .ok (.ireturn, 1) := by decide +kernel
theorem dX12_told_0 : decode cX12_told 0 = .ok (.aload_n 0, 1) := by decide +kernel
theorem dX12_told_1 : decode cX12_told 1 = .ok (.iconst 0, 1) := by decide +kernel
theorem dX12_told_2 : decode cX12_told 2 = .ok (.putfield 3, 3) := by decide +kernel
theorem dX12_told_5 : decode cX12_told 5 = .ok (.aload_n 0, 1) := by decide +kernel
theorem dX12_told_6 : decode cX12_told 6 = .ok (.iload_n 1, 1) := by decide +kernel
theorem dX12_told_7 : decode cX12_told 7 = .ok (.iconst 0, 1) := by decide +kernel
theorem dX12_told_8 : decode cX12_told 8 = .ok (.bipush 11, 2) := by decide +kernel
theorem dX12_told_10 : decode cX12_told 10 = .ok (.invokestatic 373, 3) := by decide +kernel
theorem dX12_told_13 : decode cX12_told 13 = .ok (.iconst 1, 1) := by decide +kernel
theorem dX12_told_14 : decode cX12_told 14 = .ok (.iconst 1, 1) := by decide +kernel
theorem dX12_told_15 : decode cX12_told 15 = .ok (.invokevirtual 192, 3) := by decide +kernel
theorem dX12_told_18 : decode cX12_told 18 = .ok (.ifCond .ne 5, 3) := by decide +kernel
theorem dX12_told_21 : decode cX12_told 21 = .ok (.iconst 0, 1) := by decide +kernel
theorem dX12_told_22 : decode cX12_told 22 = .ok (.ireturn, 1) := by decide +kernel
theorem dX12_told_23 : decode cX12_told 23 = .ok (.aload_n 0, 1) := by decide +kernel
theorem dX12_told_24 : decode cX12_told 24 = .ok (.invokevirtual 310, 3) := by decide +kernel
theorem dX12_told_27 : decode cX12_told 27 = .ok (.iload_n 1, 1) := by decide +kernel
theorem dX12_told_28 : decode cX12_told 28 = .ok (.iconst 3, 1) := by decide +kernel
theorem dX12_told_29 : decode cX12_told 29 = .ok (.if_icmp .ge 31, 3) := by decide +kernel
theorem dX12_told_32 : decode cX12_told 32 = .ok (.iload_n 1, 1) := by decide +kernel
theorem dX12_told_33 : decode cX12_told 33 = .ok (.ifCond .ne 10, 3) := by decide +kernel
theorem dX12_told_36 : decode cX12_told 36 = .ok (.aload_n 0, 1) := by decide +kernel
theorem dX12_told_37 : decode cX12_told 37 = .ok (.getfield 154, 3) := by decide +kernel
theorem dX12_told_40 : decode cX12_told 40 = .ok (.goto 19, 3) := by decide +kernel
theorem dX12_told_43 : decode cX12_told 43 = .ok (.iload_n 1, 1) := by decide +kernel
theorem dX12_told_44 : decode cX12_told 44 = .ok (.iconst 1, 1) := by decide +kernel
theorem dX12_told_45 : decode cX12_told 45 = .ok (.if_icmp .ne 10, 3) := by decide +kernel
theorem dX12_told_48 : decode cX12_told 48 = .ok (.aload_n 0, 1) := by decide +kernel
theorem dX12_told_49 : decode cX12_told 49 = .ok (.getfield 157, 3) := by decide +kernel
theorem dX12_told_52 : decode cX12_told 52 = .ok (.goto 7, 3) := by decide +kernel
theorem dX12_told_55 : decode cX12_told 55 = .ok (.aload_n 0, 1) := by decide +kernel
theorem dX12_told_56 : decode cX12_told 56 = .ok (.getfield 160, 3) := by decide +kernel
theorem dX12_told_59 : decode cX12_told 59 = .ok (.ireturn, 1) := by decide +kernel
theorem dX12_told_60 : decode cX12_told 60 = .ok (.iload_n 1, 1) := by decide +kernel
theorem dX12_told_61 : decode cX12_told 61 = .ok (.bipush 6, 2) := by decide +kernel
theorem dX12_told_63 : decode cX12_told 63 = .ok (.if_icmp .ge 40, 3) := by decide +kernel
theorem dX12_told_66 : decode cX12_told 66 = .ok (.iload_n 1, 1) := by decide +kernel
theorem dX12_told_67 : decode cX12_told 67 = .ok (.iconst 3, 1) := by decide +kernel
theorem dX12_told_68 : decode cX12_told 68 = .ok (.if_icmp .ne 13, 3) := by decide +kernel
theorem dX12_told_71 : decode cX12_told 71 = .ok (.aload_n 0, 1) := by decide +kernel
theorem dX12_told_72 : decode cX12_told 72 = .ok (.getfield 62, 3) := by decide +kernel
theorem dX12_told_75 : decode cX12_told 75 = .ok (.bipush 125, 2) := by decide +kernel
theorem dX12_told_77 : decode cX12_told 77 = .ok (.iaload, 1) := by decide +kernel
theorem dX12_told_78 : decode cX12_told 78 = .ok (.goto 24, 3) := by decide +kernel
theorem dX12_told_81 : decode cX12_told 81 = .ok (.iload_n 1, 1) := by decide +kernel
theorem dX12_told_82 : decode cX12_told 82 = .ok (.iconst 4, 1) := by decide +kernel
theorem dX12_told_83 : decode cX12_told 83 = .ok (.if_icmp .ne 13, 3) := by decide +kernel
theorem dX12_told_86 : decode cX12_told 86 = .ok (.aload_n 0, 1) := by decide +kernel
theorem dX12_told_87 : decode cX12_told 87 = .ok (.getfield 62, 3) := by decide +kernel
theorem dX12_told_90 : decode cX12_told 90 = .ok (.bipush 124, 2) := by decide +kernel
theorem dX12_told_92 : decode cX12_told 92 = .ok (.iaload, 1) := by decide +kernel
theorem dX12_told_93 : decode cX12_told 93 = .ok (.goto 9, 3) := by decide +kernel
theorem dX12_told_96 : decode cX12_told 96 = .ok (.aload_n 0, 1) := by decide +kernel
theorem dX12_told_97 : decode cX12_told 97 = .ok (.bipush 91, 2) := by decide +kernel
theorem dX12_told_99 : decode cX12_told 99 = .ok (.invokevirtual 370, 3) := by decide +kernel
theorem dX12_told_102 : decode cX12_told 102 = .ok (.ireturn, 1) := by decide +kernel
theorem dX12_told_103 : decode cX12_told 103 = .ok (.iload_n 1, 1) := by decide +kernel
theorem dX12_told_104 : decode cX12_told 104 = .ok (.bipush 9, 2) := by decide +kernel
theorem dX12_told_106 : decode cX12_told 106 = .ok (.if_icmp .ge 46, 3) := by decide +kernel
theorem dX12_told_109 : decode cX12_told 109 = .ok (.iload_n 1, 1) := by decide +kernel
theorem dX12_told_110 : decode cX12_told 110 = .ok (.bipush 6, 2) := by decide +kernel
theorem dX12_told_112 : decode cX12_told 112 = .ok (.if_icmp .ne 16, 3) := by decide +kernel
theorem dX12_told_115 : decode cX12_told 115 = .ok (.aload_n 0, 1) := by decide +kernel
theorem dX12_told_116 : decode cX12_told 116 = .ok (.bipush 84, 2) := by decide +kernel
theorem dX12_told_118 : decode cX12_told 118 = .ok (.aload_n 0, 1) := by decide +kernel
theorem dX12_told_119 : decode cX12_told 119 = .ok (.getfield 154, 3) := by decide +kernel
theorem dX12_told_122 : decode cX12_told 122 = .ok (.invokevirtual 376, 3) := by decide +kernel
theorem dX12_told_125 : decode cX12_told 125 = .ok (.goto 26, 3) := by decide +kernel
theorem dX12_told_128 : decode cX12_told 128 = .ok (.iload_n 1, 1) := by decide +kernel
theorem dX12_told_129 : decode cX12_told 129 = .ok (.bipush 7, 2) := by decide +kernel
theorem dX12_told_131 : decode cX12_told 131 = .ok (.if_icmp .ne 16, 3) := by decide +kernel
theorem dX12_told_134 : decode cX12_told 134 = .ok (.aload_n 0, 1) := by decide +kernel
theorem dX12_told_135 : decode cX12_told 135 = .ok (.bipush 112, 2) := by decide +kernel
theorem dX12_told_137 : decode cX12_told 137 = .ok (.aload_n 0, 1) := by decide +kernel
theorem dX12_told_138 : decode cX12_told 138 = .ok (.getfield 157, 3) := by decide +kernel
theorem dX12_told_141 : decode cX12_told 141 = .ok (.invokevirtual 376, 3) := by decide +kernel
theorem dX12_told_144 : decode cX12_told 144 = .ok (.goto 7, 3) := by decide +kernel
theorem dX12_told_147 : decode cX12_told 147 = .ok (.aload_n 0, 1) := by decide +kernel
theorem dX12_told_148 : decode cX12_told 148 = .ok (.invokevirtual 379, 3) := by decide +kernel
theorem dX12_told_151 : decode cX12_told 151 = .ok (.ireturn, 1) := by decide +kernel
theorem dX12_told_152 : decode cX12_told 152 = .ok (.iload_n 1, 1) := by decide +kernel
theorem dX12_told_153 : decode cX12_told 153 = .ok (.bipush 9, 2) := by decide +kernel
theorem dX12_told_155 : decode cX12_told 155 = .ok (.if_icmp .ne 10, 3) := by decide +kernel
theorem dX12_told_158 : decode cX12_told 158 = .ok (.aload_n 0, 1) := by decide +kernel
theorem dX12_told_159 : decode cX12_told 159 = .ok (.getfield 170, 3) := by decide +kernel
theorem dX12_told_162 : decode cX12_told 162 = .ok (.goto 20, 3) := by decide +kernel
theorem dX12_told_165 : decode cX12_told 165 = .ok (.iload_n 1, 1) := by decide +kernel
theorem dX12_told_166 : decode cX12_told 166 = .ok (.bipush 10, 2) := by decide +kernel
theorem dX12_told_168 : decode cX12_told 168 = .ok (.if_icmp .ne 10, 3) := by decide +kernel
theorem dX12_told_171 : decode cX12_told 171 = .ok (.aload_n 0, 1) := by decide +kernel
theorem dX12_told_172 : decode cX12_told 172 = .ok (.getfield 179, 3) := by decide +kernel
theorem dX12_told_175 : decode cX12_told 175 = .ok (.goto 7, 3) := by decide +kernel
theorem dX12_told_178 : decode cX12_told 178 = .ok (.aload_n 0, 1) := by decide +kernel
theorem dX12_told_179 : decode cX12_told 179 = .ok (.invokevirtual 382, 3) := by decide +kernel
theorem dX12_told_182 : decode cX12_told 182 = .ok (.ireturn, 1) := by decide +kernel
theorem dX12_isBack_0 : decode cX12_isBack 0 = .ok (.aload_n 0, 1) := by decide +kernel
theorem dX12_isBack_1 : decode cX12_isBack 1 = .ok (.iload_n 1, 1) := by decide +kernel
theorem dX12_isBack_2 : decode cX12_isBack 2 = .ok (.iconst 0, 1) := by decide +kernel
theorem dX12_isBack_3 : decode cX12_isBack 3 = .ok (.aload_n 0, 1) := by decide +kernel
theorem dX12_isBack_4 : decode cX12_isBack 4 = .ok (.getfield 154, 3) := by decide +kernel
theorem dX12_isBack_7 : decode cX12_isBack 7 = .ok (.iconst 1, 1) := by decide +kernel
theorem dX12_isBack_8 : decode cX12_isBack 8 = .ok (.isub, 1) := by decide +kernel
theorem dX12_isBack_9 : decode cX12_isBack 9 = .ok (.invokestatic 373, 3) := by decide +kernel
theorem dX12_isBack_12 : decode cX12_isBack 12 = .ok (.iload_n 2, 1) := by decide +kernel
theorem dX12_isBack_13 : decode cX12_isBack 13 = .ok (.iconst 0, 1) := by decide +kernel
theorem dX12_isBack_14 : decode cX12_isBack 14 = .ok (.invokevirtual 192, 3) := by decide +kernel
theorem dX12_isBack_17 : decode cX12_isBack 17 = .ok (.ireturn, 1) := by decide +kernel
theorem dX12_isCouncil_0 : decode cX12_isCouncil 0 = .ok (.aload_n 0, 1) := by decide +kernel
theorem dX12_isCouncil_1 : decode cX12_isCouncil 1 = .ok (.iload_n 1, 1) := by decide +kernel
theorem dX12_isCouncil_2 : decode cX12_isCouncil 2 = .ok (.iconst 0, 1) := by decide +kernel
theorem dX12_isCouncil_3 : decode cX12_isCouncil 3 = .ok (.aload_n 0, 1) := by decide +kernel
theorem dX12_isCouncil_4 : decode cX12_isCouncil 4 = .ok (.getfield 157, 3) := by decide +kernel
theorem dX12_isCouncil_7 : decode cX12_isCouncil 7 = .ok (.iconst 1, 1) := by decide +kernel
theorem dX12_isCouncil_8 : decode cX12_isCouncil 8 = .ok (.isub, 1) := by decide +kernel
theorem dX12_isCouncil_9 : decode cX12_isCouncil 9 = .ok (.invokestatic 373, 3) := by decide +kernel
theorem dX12_isCouncil_12 : decode cX12_isCouncil 12 = .ok (.iload_n 2, 1) := by decide +kernel
theorem dX12_isCouncil_13 : decode cX12_isCouncil 13 = .ok (.iconst 0, 1) := by decide +kernel
theorem dX12_isCouncil_14 : decode cX12_isCouncil 14 = .ok (.invokevirtual 192, 3) := by decide +kernel
theorem dX12_isCouncil_17 : decode cX12_isCouncil 17 = .ok (.ireturn, 1) := by decide +kernel
theorem dX12_back_0 : decode cX12_back 0 = .ok (.aload_n 0, 1) := by decide +kernel
theorem dX12_back_1 : decode cX12_back 1 = .ok (.iconst 0, 1) := by decide +kernel
theorem dX12_back_2 : decode cX12_back 2 = .ok (.putfield 3, 3) := by decide +kernel
theorem dX12_back_5 : decode cX12_back 5 = .ok (.aload_n 0, 1) := by decide +kernel
theorem dX12_back_6 : decode cX12_back 6 = .ok (.iload_n 1, 1) := by decide +kernel
theorem dX12_back_7 : decode cX12_back 7 = .ok (.iconst 1, 1) := by decide +kernel
theorem dX12_back_8 : decode cX12_back 8 = .ok (.invokevirtual 385, 3) := by decide +kernel
theorem dX12_back_11 : decode cX12_back 11 = .ok (.ifCond .eq 19, 3) := by decide +kernel
theorem dX12_back_14 : decode cX12_back 14 = .ok (.aload_n 0, 1) := by decide +kernel
theorem dX12_back_15 : decode cX12_back 15 = .ok (.iload_n 2, 1) := by decide +kernel
theorem dX12_back_16 : decode cX12_back 16 = .ok (.iconst 0, 1) := by decide +kernel
theorem dX12_back_17 : decode cX12_back 17 = .ok (.bipush 7, 2) := by decide +kernel
theorem dX12_back_19 : decode cX12_back 19 = .ok (.invokestatic 373, 3) := by decide +kernel
theorem dX12_back_22 : decode cX12_back 22 = .ok (.iconst 2, 1) := by decide +kernel
theorem dX12_back_23 : decode cX12_back 23 = .ok (.iconst 1, 1) := by decide +kernel
theorem dX12_back_24 : decode cX12_back 24 = .ok (.invokevirtual 192, 3) := by decide +kernel
theorem dX12_back_27 : decode cX12_back 27 = .ok (.ifCond .ne 5, 3) := by decide +kernel
theorem dX12_back_30 : decode cX12_back 30 = .ok (.iconst 0, 1) := by decide +kernel
theorem dX12_back_31 : decode cX12_back 31 = .ok (.ireturn, 1) := by decide +kernel
theorem dX12_back_32 : decode cX12_back 32 = .ok (.aload_n 0, 1) := by decide +kernel
theorem dX12_back_33 : decode cX12_back 33 = .ok (.invokevirtual 310, 3) := by decide +kernel
theorem dX12_back_36 : decode cX12_back 36 = .ok (.iload_n 2, 1) := by decide +kernel
theorem dX12_back_37 : decode cX12_back 37 = .ok (.iconst 2, 1) := by decide +kernel
theorem dX12_back_38 : decode cX12_back 38 = .ok (.if_icmp .ge 14, 3) := by decide +kernel
theorem dX12_back_41 : decode cX12_back 41 = .ok (.aload_n 0, 1) := by decide +kernel
theorem dX12_back_42 : decode cX12_back 42 = .ok (.getfield 29, 3) := by decide +kernel
theorem dX12_back_45 : decode cX12_back 45 = .ok (.iconst 2, 1) := by decide +kernel
theorem dX12_back_46 : decode cX12_back 46 = .ok (.iload_n 1, 1) := by decide +kernel
theorem dX12_back_47 : decode cX12_back 47 = .ok (.imul, 1) := by decide +kernel
theorem dX12_back_48 : decode cX12_back 48 = .ok (.iload_n 2, 1) := by decide +kernel
theorem dX12_back_49 : decode cX12_back 49 = .ok (.iadd, 1) := by decide +kernel
theorem dX12_back_50 : decode cX12_back 50 = .ok (.iaload, 1) := by decide +kernel
theorem dX12_back_51 : decode cX12_back 51 = .ok (.ireturn, 1) := by decide +kernel
theorem dX12_back_52 : decode cX12_back 52 = .ok (.iload_n 2, 1) := by decide +kernel
theorem dX12_back_53 : decode cX12_back 53 = .ok (.iconst 4, 1) := by decide +kernel
theorem dX12_back_54 : decode cX12_back 54 = .ok (.if_icmp .eq 9, 3) := by decide +kernel
theorem dX12_back_57 : decode cX12_back 57 = .ok (.iload_n 2, 1) := by decide +kernel
theorem dX12_back_58 : decode cX12_back 58 = .ok (.bipush 7, 2) := by decide +kernel
theorem dX12_back_60 : decode cX12_back 60 = .ok (.if_icmp .ne 35, 3) := by decide +kernel
theorem dX12_back_63 : decode cX12_back 63 = .ok (.iload_n 2, 1) := by decide +kernel
theorem dX12_back_64 : decode cX12_back 64 = .ok (.iconst 4, 1) := by decide +kernel
theorem dX12_back_65 : decode cX12_back 65 = .ok (.if_icmp .ne 11, 3) := by decide +kernel
theorem dX12_back_68 : decode cX12_back 68 = .ok (.aload_n 0, 1) := by decide +kernel
theorem dX12_back_69 : decode cX12_back 69 = .ok (.iload_n 1, 1) := by decide +kernel
theorem dX12_back_70 : decode cX12_back 70 = .ok (.invokevirtual 335, 3) := by decide +kernel
theorem dX12_back_73 : decode cX12_back 73 = .ok (.goto 21, 3) := by decide +kernel
theorem dX12_back_76 : decode cX12_back 76 = .ok (.aload_n 0, 1) := by decide +kernel
theorem dX12_back_77 : decode cX12_back 77 = .ok (.getfield 29, 3) := by decide +kernel
theorem dX12_back_80 : decode cX12_back 80 = .ok (.iconst 2, 1) := by decide +kernel
theorem dX12_back_81 : decode cX12_back 81 = .ok (.iload_n 1, 1) := by decide +kernel
theorem dX12_back_82 : decode cX12_back 82 = .ok (.imul, 1) := by decide +kernel
theorem dX12_back_83 : decode cX12_back 83 = .ok (.iaload, 1) := by decide +kernel
theorem dX12_back_84 : decode cX12_back 84 = .ok (.aload_n 0, 1) := by decide +kernel
theorem dX12_back_85 : decode cX12_back 85 = .ok (.getfield 62, 3) := by decide +kernel
theorem dX12_back_88 : decode cX12_back 88 = .ok (.bipush 84, 2) := by decide +kernel
theorem dX12_back_90 : decode cX12_back 90 = .ok (.iload_n 1, 1) := by decide +kernel
theorem dX12_back_91 : decode cX12_back 91 = .ok (.iadd, 1) := by decide +kernel
theorem dX12_back_92 : decode cX12_back 92 = .ok (.iaload, 1) := by decide +kernel
theorem dX12_back_93 : decode cX12_back 93 = .ok (.isub, 1) := by decide +kernel
theorem dX12_back_94 : decode cX12_back 94 = .ok (.ireturn, 1) := by decide +kernel
theorem dX12_back_95 : decode cX12_back 95 = .ok (.aload_n 0, 1) := by decide +kernel
theorem dX12_back_96 : decode cX12_back 96 = .ok (.getfield 62, 3) := by decide +kernel
theorem dX12_back_99 : decode cX12_back 99 = .ok (.iload_n 2, 1) := by decide +kernel
theorem dX12_back_100 : decode cX12_back 100 = .ok (.iconst 2, 1) := by decide +kernel
theorem dX12_back_101 : decode cX12_back 101 = .ok (.if_icmp .ne 8, 3) := by decide +kernel
theorem dX12_back_104 : decode cX12_back 104 = .ok (.bipush 84, 2) := by decide +kernel
theorem dX12_back_106 : decode cX12_back 106 = .ok (.goto 25, 3) := by decide +kernel
theorem dX12_back_109 : decode cX12_back 109 = .ok (.iload_n 2, 1) := by decide +kernel
theorem dX12_back_110 : decode cX12_back 110 = .ok (.iconst 3, 1) := by decide +kernel
theorem dX12_back_111 : decode cX12_back 111 = .ok (.if_icmp .ne 8, 3) := by decide +kernel
theorem dX12_back_114 : decode cX12_back 114 = .ok (.bipush 91, 2) := by decide +kernel
theorem dX12_back_116 : decode cX12_back 116 = .ok (.goto 15, 3) := by decide +kernel
theorem dX12_back_119 : decode cX12_back 119 = .ok (.iload_n 2, 1) := by decide +kernel
theorem dX12_back_120 : decode cX12_back 120 = .ok (.iconst 5, 1) := by decide +kernel
theorem dX12_back_121 : decode cX12_back 121 = .ok (.if_icmp .ne 8, 3) := by decide +kernel
theorem dX12_back_124 : decode cX12_back 124 = .ok (.bipush 98, 2) := by decide +kernel
theorem dX12_back_126 : decode cX12_back 126 = .ok (.goto 5, 3) := by decide +kernel
theorem dX12_back_129 : decode cX12_back 129 = .ok (.bipush 105, 2) := by decide +kernel
theorem dX12_back_131 : decode cX12_back 131 = .ok (.iload_n 1, 1) := by decide +kernel
theorem dX12_back_132 : decode cX12_back 132 = .ok (.iadd, 1) := by decide +kernel
theorem dX12_back_133 : decode cX12_back 133 = .ok (.iaload, 1) := by decide +kernel
theorem dX12_back_134 : decode cX12_back 134 = .ok (.ireturn, 1) := by decide +kernel
theorem dX12_council_0 : decode cX12_council 0 = .ok (.aload_n 0, 1) := by decide +kernel
theorem dX12_council_1 : decode cX12_council 1 = .ok (.iconst 0, 1) := by decide +kernel
theorem dX12_council_2 : decode cX12_council 2 = .ok (.putfield 3, 3) := by decide +kernel
theorem dX12_council_5 : decode cX12_council 5 = .ok (.aload_n 0, 1) := by decide +kernel
theorem dX12_council_6 : decode cX12_council 6 = .ok (.iload_n 1, 1) := by decide +kernel
theorem dX12_council_7 : decode cX12_council 7 = .ok (.iconst 1, 1) := by decide +kernel
theorem dX12_council_8 : decode cX12_council 8 = .ok (.invokevirtual 388, 3) := by decide +kernel
theorem dX12_council_11 : decode cX12_council 11 = .ok (.ifCond .eq 18, 3) := by decide +kernel
theorem dX12_council_14 : decode cX12_council 14 = .ok (.aload_n 0, 1) := by decide +kernel
theorem dX12_council_15 : decode cX12_council 15 = .ok (.iload_n 2, 1) := by decide +kernel
theorem dX12_council_16 : decode cX12_council 16 = .ok (.iconst 0, 1) := by decide +kernel
theorem dX12_council_17 : decode cX12_council 17 = .ok (.iconst 4, 1) := by decide +kernel
theorem dX12_council_18 : decode cX12_council 18 = .ok (.invokestatic 373, 3) := by decide +kernel
theorem dX12_council_21 : decode cX12_council 21 = .ok (.iconst 2, 1) := by decide +kernel
theorem dX12_council_22 : decode cX12_council 22 = .ok (.iconst 1, 1) := by decide +kernel
theorem dX12_council_23 : decode cX12_council 23 = .ok (.invokevirtual 192, 3) := by decide +kernel
theorem dX12_council_26 : decode cX12_council 26 = .ok (.ifCond .ne 5, 3) := by decide +kernel
theorem dX12_council_29 : decode cX12_council 29 = .ok (.iconst 0, 1) := by decide +kernel
theorem dX12_council_30 : decode cX12_council 30 = .ok (.ireturn, 1) := by decide +kernel
theorem dX12_council_31 : decode cX12_council 31 = .ok (.aload_n 0, 1) := by decide +kernel
theorem dX12_council_32 : decode cX12_council 32 = .ok (.invokevirtual 310, 3) := by decide +kernel
theorem dX12_council_35 : decode cX12_council 35 = .ok (.iload_n 2, 1) := by decide +kernel
theorem dX12_council_36 : decode cX12_council 36 = .ok (.iconst 3, 1) := by decide +kernel
theorem dX12_council_37 : decode cX12_council 37 = .ok (.if_icmp .ge 31, 3) := by decide +kernel
theorem dX12_council_40 : decode cX12_council 40 = .ok (.iload_n 2, 1) := by decide +kernel
theorem dX12_council_41 : decode cX12_council 41 = .ok (.iconst 2, 1) := by decide +kernel
theorem dX12_council_42 : decode cX12_council 42 = .ok (.if_icmp .ge 16, 3) := by decide +kernel
theorem dX12_council_45 : decode cX12_council 45 = .ok (.aload_n 0, 1) := by decide +kernel
theorem dX12_council_46 : decode cX12_council 46 = .ok (.getfield 32, 3) := by decide +kernel
theorem dX12_council_49 : decode cX12_council 49 = .ok (.iconst 2, 1) := by decide +kernel
theorem dX12_council_50 : decode cX12_council 50 = .ok (.iload_n 1, 1) := by decide +kernel
theorem dX12_council_51 : decode cX12_council 51 = .ok (.imul, 1) := by decide +kernel
theorem dX12_council_52 : decode cX12_council 52 = .ok (.iload_n 2, 1) := by decide +kernel
theorem dX12_council_53 : decode cX12_council 53 = .ok (.iadd, 1) := by decide +kernel
theorem dX12_council_54 : decode cX12_council 54 = .ok (.iaload, 1) := by decide +kernel
theorem dX12_council_55 : decode cX12_council 55 = .ok (.goto 12, 3) := by decide +kernel
theorem dX12_council_58 : decode cX12_council 58 = .ok (.aload_n 0, 1) := by decide +kernel
theorem dX12_council_59 : decode cX12_council 59 = .ok (.getfield 62, 3) := by decide +kernel
theorem dX12_council_62 : decode cX12_council 62 = .ok (.bipush 112, 2) := by decide +kernel
theorem dX12_council_64 : decode cX12_council 64 = .ok (.iload_n 1, 1) := by decide +kernel
theorem dX12_council_65 : decode cX12_council 65 = .ok (.iadd, 1) := by decide +kernel
theorem dX12_council_66 : decode cX12_council 66 = .ok (.iaload, 1) := by decide +kernel
theorem dX12_council_67 : decode cX12_council 67 = .ok (.ireturn, 1) := by decide +kernel
theorem dX12_council_68 : decode cX12_council 68 = .ok (.iconst 0, 1) := by decide +kernel
theorem dX12_council_69 : decode cX12_council 69 = .ok (.istore_n 3, 1) := by decide +kernel
theorem dX12_council_70 : decode cX12_council 70 = .ok (.iconst 0, 1) := by decide +kernel
theorem dX12_council_71 : decode cX12_council 71 = .ok (.istore 4, 2) := by decide +kernel
theorem dX12_council_73 : decode cX12_council 73 = .ok (.iload 4, 2) := by decide +kernel
theorem dX12_council_75 : decode cX12_council 75 = .ok (.aload_n 0, 1) := by decide +kernel
theorem dX12_council_76 : decode cX12_council 76 = .ok (.getfield 154, 3) := by decide +kernel
theorem dX12_council_79 : decode cX12_council 79 = .ok (.if_icmp .ge 43, 3) := by decide +kernel
theorem dX12_council_82 : decode cX12_council 82 = .ok (.iload_n 3, 1) := by decide +kernel
theorem dX12_council_83 : decode cX12_council 83 = .ok (.iload_n 2, 1) := by decide +kernel
theorem dX12_council_84 : decode cX12_council 84 = .ok (.iconst 3, 1) := by decide +kernel
theorem dX12_council_85 : decode cX12_council 85 = .ok (.if_icmp .ne 12, 3) := by decide +kernel
theorem dX12_council_88 : decode cX12_council 88 = .ok (.aload_n 0, 1) := by decide +kernel
theorem dX12_council_89 : decode cX12_council 89 = .ok (.iload 4, 2) := by decide +kernel
theorem dX12_council_91 : decode cX12_council 91 = .ok (.invokevirtual 335, 3) := by decide +kernel
theorem dX12_council_94 : decode cX12_council 94 = .ok (.goto 13, 3) := by decide +kernel
theorem dX12_council_97 : decode cX12_council 97 = .ok (.aload_n 0, 1) := by decide +kernel
theorem dX12_council_98 : decode cX12_council 98 = .ok (.getfield 62, 3) := by decide +kernel
theorem dX12_council_101 : decode cX12_council 101 = .ok (.bipush 105, 2) := by decide +kernel
theorem dX12_council_103 : decode cX12_council 103 = .ok (.iload 4, 2) := by decide +kernel
theorem dX12_council_105 : decode cX12_council 105 = .ok (.iadd, 1) := by decide +kernel
theorem dX12_council_106 : decode cX12_council 106 = .ok (.iaload, 1) := by decide +kernel
theorem dX12_council_107 : decode cX12_council 107 = .ok (.iload_n 1, 1) := by decide +kernel
theorem dX12_council_108 : decode cX12_council 108 = .ok (.ishr, 1) := by decide +kernel
theorem dX12_council_109 : decode cX12_council 109 = .ok (.iconst 1, 1) := by decide +kernel
theorem dX12_council_110 : decode cX12_council 110 = .ok (.iand, 1) := by decide +kernel
theorem dX12_council_111 : decode cX12_council 111 = .ok (.iload 4, 2) := by decide +kernel
theorem dX12_council_113 : decode cX12_council 113 = .ok (.ishl, 1) := by decide +kernel
theorem dX12_council_114 : decode cX12_council 114 = .ok (.ior, 1) := by decide +kernel
theorem dX12_council_115 : decode cX12_council 115 = .ok (.istore_n 3, 1) := by decide +kernel
theorem dX12_council_116 : decode cX12_council 116 = .ok (.iinc 4 1, 3) := by decide +kernel
theorem dX12_council_119 : decode cX12_council 119 = .ok (.goto (-46), 3) := by decide +kernel
theorem dX12_council_122 : decode cX12_council 122 = .ok (.iload_n 3, 1) := by decide +kernel
theorem dX12_council_123 : decode cX12_council 123 = .ok (.ireturn, 1) := by decide +kernel
theorem dX12_hearing_0 : decode cX12_hearing 0 = .ok (.aload_n 0, 1) := by decide +kernel
theorem dX12_hearing_1 : decode cX12_hearing 1 = .ok (.iconst 0, 1) := by decide +kernel
theorem dX12_hearing_2 : decode cX12_hearing 2 = .ok (.putfield 3, 3) := by decide +kernel
theorem dX12_hearing_5 : decode cX12_hearing 5 = .ok (.aload_n 0, 1) := by decide +kernel
theorem dX12_hearing_6 : decode cX12_hearing 6 = .ok (.iload_n 1, 1) := by decide +kernel
theorem dX12_hearing_7 : decode cX12_hearing 7 = .ok (.iconst 1, 1) := by decide +kernel
theorem dX12_hearing_8 : decode cX12_hearing 8 = .ok (.invokevirtual 385, 3) := by decide +kernel
theorem dX12_hearing_11 : decode cX12_hearing 11 = .ok (.ifCond .eq 28, 3) := by decide +kernel
theorem dX12_hearing_14 : decode cX12_hearing 14 = .ok (.aload_n 0, 1) := by decide +kernel
theorem dX12_hearing_15 : decode cX12_hearing 15 = .ok (.iload_n 2, 1) := by decide +kernel
theorem dX12_hearing_16 : decode cX12_hearing 16 = .ok (.iconst 1, 1) := by decide +kernel
theorem dX12_hearing_17 : decode cX12_hearing 17 = .ok (.invokevirtual 388, 3) := by decide +kernel
theorem dX12_hearing_20 : decode cX12_hearing 20 = .ok (.ifCond .eq 19, 3) := by decide +kernel
theorem dX12_hearing_23 : decode cX12_hearing 23 = .ok (.aload_n 0, 1) := by decide +kernel
theorem dX12_hearing_24 : decode cX12_hearing 24 = .ok (.getfield 59, 3) := by decide +kernel
theorem dX12_hearing_27 : decode cX12_hearing 27 = .ok (.iconst 0, 1) := by decide +kernel
theorem dX12_hearing_28 : decode cX12_hearing 28 = .ok (.bipush 12, 2) := by decide +kernel
theorem dX12_hearing_30 : decode cX12_hearing 30 = .ok (.iload_n 1, 1) := by decide +kernel
theorem dX12_hearing_31 : decode cX12_hearing 31 = .ok (.imul, 1) := by decide +kernel
theorem dX12_hearing_32 : decode cX12_hearing 32 = .ok (.iadd, 1) := by decide +kernel
theorem dX12_hearing_33 : decode cX12_hearing 33 = .ok (.iload_n 2, 1) := by decide +kernel
theorem dX12_hearing_34 : decode cX12_hearing 34 = .ok (.iadd, 1) := by decide +kernel
theorem dX12_hearing_35 : decode cX12_hearing 35 = .ok (.iaload, 1) := by decide +kernel
theorem dX12_hearing_36 : decode cX12_hearing 36 = .ok (.goto 4, 3) := by decide +kernel
theorem dX12_hearing_39 : decode cX12_hearing 39 = .ok (.iconst 0, 1) := by decide +kernel
theorem dX12_hearing_40 : decode cX12_hearing 40 = .ok (.ireturn, 1) := by decide +kernel
theorem dX12_load_0 : decode cX12_load 0 = .ok (.aload_n 0, 1) := by decide +kernel
theorem dX12_load_1 : decode cX12_load 1 = .ok (.iconst 0, 1) := by decide +kernel
theorem dX12_load_2 : decode cX12_load 2 = .ok (.putfield 3, 3) := by decide +kernel
theorem dX12_load_5 : decode cX12_load 5 = .ok (.aload_n 0, 1) := by decide +kernel
theorem dX12_load_6 : decode cX12_load 6 = .ok (.iload_n 1, 1) := by decide +kernel
theorem dX12_load_7 : decode cX12_load 7 = .ok (.iconst 1, 1) := by decide +kernel
theorem dX12_load_8 : decode cX12_load 8 = .ok (.invokevirtual 385, 3) := by decide +kernel
theorem dX12_load_11 : decode cX12_load 11 = .ok (.ifCond .eq 12, 3) := by decide +kernel
theorem dX12_load_14 : decode cX12_load 14 = .ok (.aload_n 0, 1) := by decide +kernel
theorem dX12_load_15 : decode cX12_load 15 = .ok (.iload_n 2, 1) := by decide +kernel
theorem dX12_load_16 : decode cX12_load 16 = .ok (.iconst 1, 1) := by decide +kernel
theorem dX12_load_17 : decode cX12_load 17 = .ok (.invokevirtual 388, 3) := by decide +kernel
theorem dX12_load_20 : decode cX12_load 20 = .ok (.ifCond .ne 5, 3) := by decide +kernel
theorem dX12_load_23 : decode cX12_load 23 = .ok (.iconst 0, 1) := by decide +kernel
theorem dX12_load_24 : decode cX12_load 24 = .ok (.ireturn, 1) := by decide +kernel
theorem dX12_load_25 : decode cX12_load 25 = .ok (.aload_n 0, 1) := by decide +kernel
theorem dX12_load_26 : decode cX12_load 26 = .ok (.invokevirtual 310, 3) := by decide +kernel
theorem dX12_load_29 : decode cX12_load 29 = .ok (.aload_n 0, 1) := by decide +kernel
theorem dX12_load_30 : decode cX12_load 30 = .ok (.iload_n 1, 1) := by decide +kernel
theorem dX12_load_31 : decode cX12_load 31 = .ok (.iload_n 2, 1) := by decide +kernel
theorem dX12_load_32 : decode cX12_load 32 = .ok (.invokevirtual 345, 3) := by decide +kernel
theorem dX12_load_35 : decode cX12_load 35 = .ok (.ireturn, 1) := by decide +kernel
theorem dX12_burden_0 : decode cX12_burden 0 = .ok (.aload_n 0, 1) := by decide +kernel
theorem dX12_burden_1 : decode cX12_burden 1 = .ok (.iconst 0, 1) := by decide +kernel
theorem dX12_burden_2 : decode cX12_burden 2 = .ok (.putfield 3, 3) := by decide +kernel
theorem dX12_burden_5 : decode cX12_burden 5 = .ok (.aload_n 0, 1) := by decide +kernel
theorem dX12_burden_6 : decode cX12_burden 6 = .ok (.iload_n 1, 1) := by decide +kernel
theorem dX12_burden_7 : decode cX12_burden 7 = .ok (.iconst 1, 1) := by decide +kernel
theorem dX12_burden_8 : decode cX12_burden 8 = .ok (.invokevirtual 385, 3) := by decide +kernel
theorem dX12_burden_11 : decode cX12_burden 11 = .ok (.ifCond .eq 12, 3) := by decide +kernel
theorem dX12_burden_14 : decode cX12_burden 14 = .ok (.aload_n 0, 1) := by decide +kernel
theorem dX12_burden_15 : decode cX12_burden 15 = .ok (.iload_n 2, 1) := by decide +kernel
theorem dX12_burden_16 : decode cX12_burden 16 = .ok (.iconst 1, 1) := by decide +kernel
theorem dX12_burden_17 : decode cX12_burden 17 = .ok (.invokevirtual 388, 3) := by decide +kernel
theorem dX12_burden_20 : decode cX12_burden 20 = .ok (.ifCond .ne 5, 3) := by decide +kernel
theorem dX12_burden_23 : decode cX12_burden 23 = .ok (.iconst 0, 1) := by decide +kernel
theorem dX12_burden_24 : decode cX12_burden 24 = .ok (.ireturn, 1) := by decide +kernel
theorem dX12_burden_25 : decode cX12_burden 25 = .ok (.aload_n 0, 1) := by decide +kernel
theorem dX12_burden_26 : decode cX12_burden 26 = .ok (.invokevirtual 310, 3) := by decide +kernel
theorem dX12_burden_29 : decode cX12_burden 29 = .ok (.aload_n 0, 1) := by decide +kernel
theorem dX12_burden_30 : decode cX12_burden 30 = .ok (.iload_n 1, 1) := by decide +kernel
theorem dX12_burden_31 : decode cX12_burden 31 = .ok (.iload_n 2, 1) := by decide +kernel
theorem dX12_burden_32 : decode cX12_burden 32 = .ok (.invokevirtual 348, 3) := by decide +kernel
theorem dX12_burden_35 : decode cX12_burden 35 = .ok (.ireturn, 1) := by decide +kernel
theorem dX12_would_0 : decode cX12_would 0 = .ok (.aload_n 0, 1) := by decide +kernel
theorem dX12_would_1 : decode cX12_would 1 = .ok (.iconst 0, 1) := by decide +kernel
theorem dX12_would_2 : decode cX12_would 2 = .ok (.putfield 3, 3) := by decide +kernel
theorem dX12_would_5 : decode cX12_would 5 = .ok (.aload_n 0, 1) := by decide +kernel
theorem dX12_would_6 : decode cX12_would 6 = .ok (.iload_n 1, 1) := by decide +kernel
theorem dX12_would_7 : decode cX12_would 7 = .ok (.iconst 1, 1) := by decide +kernel
theorem dX12_would_8 : decode cX12_would 8 = .ok (.bipush 40, 2) := by decide +kernel
theorem dX12_would_10 : decode cX12_would 10 = .ok (.invokestatic 373, 3) := by decide +kernel
theorem dX12_would_13 : decode cX12_would 13 = .ok (.ifCond .eq 95, 3) := by decide +kernel
theorem dX12_would_16 : decode cX12_would 16 = .ok (.iload_n 2, 1) := by decide +kernel
theorem dX12_would_17 : decode cX12_would 17 = .ok (.iconst 0, 1) := by decide +kernel
theorem dX12_would_18 : decode cX12_would 18 = .ok (.bipush 40, 2) := by decide +kernel
theorem dX12_would_20 : decode cX12_would 20 = .ok (.invokestatic 373, 3) := by decide +kernel
theorem dX12_would_23 : decode cX12_would 23 = .ok (.ifCond .eq 85, 3) := by decide +kernel
theorem dX12_would_26 : decode cX12_would 26 = .ok (.iload_n 3, 1) := by decide +kernel
theorem dX12_would_27 : decode cX12_would 27 = .ok (.iconst 0, 1) := by decide +kernel
theorem dX12_would_28 : decode cX12_would 28 = .ok (.bipush 9, 2) := by decide +kernel
theorem dX12_would_30 : decode cX12_would 30 = .ok (.invokestatic 373, 3) := by decide +kernel
theorem dX12_would_33 : decode cX12_would 33 = .ok (.ifCond .eq 75, 3) := by decide +kernel
theorem dX12_would_36 : decode cX12_would 36 = .ok (.iload 4, 2) := by decide +kernel
theorem dX12_would_38 : decode cX12_would 38 = .ok (.iconst 1, 1) := by decide +kernel
theorem dX12_would_39 : decode cX12_would 39 = .ok (.bipush 9, 2) := by decide +kernel
theorem dX12_would_41 : decode cX12_would 41 = .ok (.invokestatic 373, 3) := by decide +kernel
theorem dX12_would_44 : decode cX12_would 44 = .ok (.ifCond .eq 64, 3) := by decide +kernel
theorem dX12_would_47 : decode cX12_would 47 = .ok (.iload 5, 2) := by decide +kernel
theorem dX12_would_49 : decode cX12_would 49 = .ok (.iconst 0, 1) := by decide +kernel
theorem dX12_would_50 : decode cX12_would 50 = .ok (.bipush 9, 2) := by decide +kernel
theorem dX12_would_52 : decode cX12_would 52 = .ok (.invokestatic 373, 3) := by decide +kernel
theorem dX12_would_55 : decode cX12_would 55 = .ok (.ifCond .eq 53, 3) := by decide +kernel
theorem dX12_would_58 : decode cX12_would 58 = .ok (.iload 6, 2) := by decide +kernel
theorem dX12_would_60 : decode cX12_would 60 = .ok (.iconst 0, 1) := by decide +kernel
theorem dX12_would_61 : decode cX12_would 61 = .ok (.sipush 999, 3) := by decide +kernel
theorem dX12_would_64 : decode cX12_would 64 = .ok (.invokestatic 373, 3) := by decide +kernel
theorem dX12_would_67 : decode cX12_would 67 = .ok (.ifCond .eq 41, 3) := by decide +kernel
theorem dX12_would_70 : decode cX12_would 70 = .ok (.iload 7, 2) := by decide +kernel
theorem dX12_would_72 : decode cX12_would 72 = .ok (.iconst 0, 1) := by decide +kernel
theorem dX12_would_73 : decode cX12_would 73 = .ok (.bipush 12, 2) := by decide +kernel
theorem dX12_would_75 : decode cX12_would 75 = .ok (.invokestatic 373, 3) := by decide +kernel
theorem dX12_would_78 : decode cX12_would 78 = .ok (.ifCond .eq 30, 3) := by decide +kernel
theorem dX12_would_81 : decode cX12_would 81 = .ok (.iload 8, 2) := by decide +kernel
theorem dX12_would_83 : decode cX12_would 83 = .ok (.iconst 0, 1) := by decide +kernel
theorem dX12_would_84 : decode cX12_would 84 = .ok (.sipush 400, 3) := by decide +kernel
theorem dX12_would_87 : decode cX12_would 87 = .ok (.invokestatic 373, 3) := by decide +kernel
theorem dX12_would_90 : decode cX12_would 90 = .ok (.ifCond .eq 18, 3) := by decide +kernel
theorem dX12_would_93 : decode cX12_would 93 = .ok (.iload 9, 2) := by decide +kernel
theorem dX12_would_95 : decode cX12_would 95 = .ok (.iconst 0, 1) := by decide +kernel
theorem dX12_would_96 : decode cX12_would 96 = .ok (.bipush 6, 2) := by decide +kernel
theorem dX12_would_98 : decode cX12_would 98 = .ok (.invokestatic 373, 3) := by decide +kernel
theorem dX12_would_101 : decode cX12_would 101 = .ok (.ifCond .eq 7, 3) := by decide +kernel
theorem dX12_would_104 : decode cX12_would 104 = .ok (.iconst 1, 1) := by decide +kernel
theorem dX12_would_105 : decode cX12_would 105 = .ok (.goto 4, 3) := by decide +kernel
theorem dX12_would_108 : decode cX12_would 108 = .ok (.iconst 0, 1) := by decide +kernel
theorem dX12_would_109 : decode cX12_would 109 = .ok (.iconst 1, 1) := by decide +kernel
theorem dX12_would_110 : decode cX12_would 110 = .ok (.iconst 1, 1) := by decide +kernel
theorem dX12_would_111 : decode cX12_would 111 = .ok (.invokevirtual 192, 3) := by decide +kernel
theorem dX12_would_114 : decode cX12_would 114 = .ok (.ifCond .ne 5, 3) := by decide +kernel
theorem dX12_would_117 : decode cX12_would 117 = .ok (.iconst 0, 1) := by decide +kernel
theorem dX12_would_118 : decode cX12_would 118 = .ok (.ireturn, 1) := by decide +kernel
theorem dX12_would_119 : decode cX12_would 119 = .ok (.aload_n 0, 1) := by decide +kernel
theorem dX12_would_120 : decode cX12_would 120 = .ok (.iload_n 1, 1) := by decide +kernel
theorem dX12_would_121 : decode cX12_would 121 = .ok (.iload_n 2, 1) := by decide +kernel
theorem dX12_would_122 : decode cX12_would 122 = .ok (.iload_n 3, 1) := by decide +kernel
theorem dX12_would_123 : decode cX12_would 123 = .ok (.iload 4, 2) := by decide +kernel
theorem dX12_would_125 : decode cX12_would 125 = .ok (.iload 5, 2) := by decide +kernel
theorem dX12_would_127 : decode cX12_would 127 = .ok (.iload 6, 2) := by decide +kernel
theorem dX12_would_129 : decode cX12_would 129 = .ok (.iload 7, 2) := by decide +kernel
theorem dX12_would_131 : decode cX12_would 131 = .ok (.iload 8, 2) := by decide +kernel
theorem dX12_would_133 : decode cX12_would 133 = .ok (.iload 9, 2) := by decide +kernel
theorem dX12_would_135 : decode cX12_would 135 = .ok (.invokevirtual 341, 3) := by decide +kernel
theorem dX12_would_138 : decode cX12_would 138 = .ok (.ireturn, 1) := by decide +kernel
theorem dX12_ahead_0 : decode cX12_ahead 0 = .ok (.aload_n 0, 1) := by decide +kernel
theorem dX12_ahead_1 : decode cX12_ahead 1 = .ok (.iconst 0, 1) := by decide +kernel
theorem dX12_ahead_2 : decode cX12_ahead 2 = .ok (.putfield 3, 3) := by decide +kernel
theorem dX12_ahead_5 : decode cX12_ahead 5 = .ok (.aload_n 0, 1) := by decide +kernel
theorem dX12_ahead_6 : decode cX12_ahead 6 = .ok (.iload_n 1, 1) := by decide +kernel
theorem dX12_ahead_7 : decode cX12_ahead 7 = .ok (.iconst 0, 1) := by decide +kernel
theorem dX12_ahead_8 : decode cX12_ahead 8 = .ok (.bipush 99, 2) := by decide +kernel
theorem dX12_ahead_10 : decode cX12_ahead 10 = .ok (.invokestatic 373, 3) := by decide +kernel
theorem dX12_ahead_13 : decode cX12_ahead 13 = .ok (.ifCond .eq 16, 3) := by decide +kernel
theorem dX12_ahead_16 : decode cX12_ahead 16 = .ok (.iload_n 2, 1) := by decide +kernel
theorem dX12_ahead_17 : decode cX12_ahead 17 = .ok (.iconst 0, 1) := by decide +kernel
theorem dX12_ahead_18 : decode cX12_ahead 18 = .ok (.iconst 1, 1) := by decide +kernel
theorem dX12_ahead_19 : decode cX12_ahead 19 = .ok (.invokestatic 373, 3) := by decide +kernel
theorem dX12_ahead_22 : decode cX12_ahead 22 = .ok (.ifCond .eq 7, 3) := by decide +kernel
theorem dX12_ahead_25 : decode cX12_ahead 25 = .ok (.iconst 1, 1) := by decide +kernel
theorem dX12_ahead_26 : decode cX12_ahead 26 = .ok (.goto 4, 3) := by decide +kernel
theorem dX12_ahead_29 : decode cX12_ahead 29 = .ok (.iconst 0, 1) := by decide +kernel
theorem dX12_ahead_30 : decode cX12_ahead 30 = .ok (.iconst 1, 1) := by decide +kernel
theorem dX12_ahead_31 : decode cX12_ahead 31 = .ok (.iconst 1, 1) := by decide +kernel
theorem dX12_ahead_32 : decode cX12_ahead 32 = .ok (.invokevirtual 192, 3) := by decide +kernel
theorem dX12_ahead_35 : decode cX12_ahead 35 = .ok (.ifCond .ne 5, 3) := by decide +kernel
theorem dX12_ahead_38 : decode cX12_ahead 38 = .ok (.iconst 0, 1) := by decide +kernel
theorem dX12_ahead_39 : decode cX12_ahead 39 = .ok (.ireturn, 1) := by decide +kernel
theorem dX12_ahead_40 : decode cX12_ahead 40 = .ok (.aload_n 0, 1) := by decide +kernel
theorem dX12_ahead_41 : decode cX12_ahead 41 = .ok (.invokevirtual 310, 3) := by decide +kernel
theorem dX12_ahead_44 : decode cX12_ahead 44 = .ok (.iconst 0, 1) := by decide +kernel
theorem dX12_ahead_45 : decode cX12_ahead 45 = .ok (.istore_n 3, 1) := by decide +kernel
theorem dX12_ahead_46 : decode cX12_ahead 46 = .ok (.iload_n 3, 1) := by decide +kernel
theorem dX12_ahead_47 : decode cX12_ahead 47 = .ok (.iload_n 1, 1) := by decide +kernel
theorem dX12_ahead_48 : decode cX12_ahead 48 = .ok (.if_icmp .ge 13, 3) := by decide +kernel
theorem dX12_ahead_51 : decode cX12_ahead 51 = .ok (.aload_n 0, 1) := by decide +kernel
theorem dX12_ahead_52 : decode cX12_ahead 52 = .ok (.invokevirtual 367, 3) := by decide +kernel
theorem dX12_ahead_55 : decode cX12_ahead 55 = .ok (.iinc 3 1, 3) := by decide +kernel
theorem dX12_ahead_58 : decode cX12_ahead 58 = .ok (.goto (-12), 3) := by decide +kernel
theorem dX12_ahead_61 : decode cX12_ahead 61 = .ok (.iload_n 2, 1) := by decide +kernel
theorem dX12_ahead_62 : decode cX12_ahead 62 = .ok (.ifCond .ne 14, 3) := by decide +kernel
theorem dX12_ahead_65 : decode cX12_ahead 65 = .ok (.aload_n 0, 1) := by decide +kernel
theorem dX12_ahead_66 : decode cX12_ahead 66 = .ok (.bipush 84, 2) := by decide +kernel
theorem dX12_ahead_68 : decode cX12_ahead 68 = .ok (.aload_n 0, 1) := by decide +kernel
theorem dX12_ahead_69 : decode cX12_ahead 69 = .ok (.getfield 154, 3) := by decide +kernel
theorem dX12_ahead_72 : decode cX12_ahead 72 = .ok (.invokevirtual 376, 3) := by decide +kernel
theorem dX12_ahead_75 : decode cX12_ahead 75 = .ok (.ireturn, 1) := by decide +kernel
theorem dX12_ahead_76 : decode cX12_ahead 76 = .ok (.iconst 0, 1) := by decide +kernel
theorem dX12_ahead_77 : decode cX12_ahead 77 = .ok (.istore_n 3, 1) := by decide +kernel
theorem dX12_ahead_78 : decode cX12_ahead 78 = .ok (.iconst 0, 1) := by decide +kernel
theorem dX12_ahead_79 : decode cX12_ahead 79 = .ok (.istore 4, 2) := by decide +kernel
theorem dX12_ahead_81 : decode cX12_ahead 81 = .ok (.iload 4, 2) := by decide +kernel
theorem dX12_ahead_83 : decode cX12_ahead 83 = .ok (.aload_n 0, 1) := by decide +kernel
theorem dX12_ahead_84 : decode cX12_ahead 84 = .ok (.getfield 154, 3) := by decide +kernel
theorem dX12_ahead_87 : decode cX12_ahead 87 = .ok (.if_icmp .ge 33, 3) := by decide +kernel
theorem dX12_ahead_90 : decode cX12_ahead 90 = .ok (.iload_n 3, 1) := by decide +kernel
theorem dX12_ahead_91 : decode cX12_ahead 91 = .ok (.aload_n 0, 1) := by decide +kernel
theorem dX12_ahead_92 : decode cX12_ahead 92 = .ok (.getfield 62, 3) := by decide +kernel
theorem dX12_ahead_95 : decode cX12_ahead 95 = .ok (.bipush 84, 2) := by decide +kernel
theorem dX12_ahead_97 : decode cX12_ahead 97 = .ok (.iload 4, 2) := by decide +kernel
theorem dX12_ahead_99 : decode cX12_ahead 99 = .ok (.iadd, 1) := by decide +kernel
theorem dX12_ahead_100 : decode cX12_ahead 100 = .ok (.iaload, 1) := by decide +kernel
theorem dX12_ahead_101 : decode cX12_ahead 101 = .ok (.ifCond .ne 10, 3) := by decide +kernel
theorem dX12_ahead_104 : decode cX12_ahead 104 = .ok (.iconst 1, 1) := by decide +kernel
theorem dX12_ahead_105 : decode cX12_ahead 105 = .ok (.iload 4, 2) := by decide +kernel
theorem dX12_ahead_107 : decode cX12_ahead 107 = .ok (.ishl, 1) := by decide +kernel
theorem dX12_ahead_108 : decode cX12_ahead 108 = .ok (.goto 4, 3) := by decide +kernel
theorem dX12_ahead_111 : decode cX12_ahead 111 = .ok (.iconst 0, 1) := by decide +kernel
theorem dX12_ahead_112 : decode cX12_ahead 112 = .ok (.ior, 1) := by decide +kernel
theorem dX12_ahead_113 : decode cX12_ahead 113 = .ok (.istore_n 3, 1) := by decide +kernel
theorem dX12_ahead_114 : decode cX12_ahead 114 = .ok (.iinc 4 1, 3) := by decide +kernel
theorem dX12_ahead_117 : decode cX12_ahead 117 = .ok (.goto (-36), 3) := by decide +kernel
theorem dX12_ahead_120 : decode cX12_ahead 120 = .ok (.iload_n 3, 1) := by decide +kernel
theorem dX12_ahead_121 : decode cX12_ahead 121 = .ok (.ireturn, 1) := by decide +kernel
theorem dX12_bears_0 : decode cX12_bears 0 = .ok (.aload_n 0, 1) := by decide +kernel
theorem dX12_bears_1 : decode cX12_bears 1 = .ok (.getfield 62, 3) := by decide +kernel
theorem dX12_bears_4 : decode cX12_bears 4 = .ok (.bipush 91, 2) := by decide +kernel
theorem dX12_bears_6 : decode cX12_bears 6 = .ok (.iload_n 1, 1) := by decide +kernel
theorem dX12_bears_7 : decode cX12_bears 7 = .ok (.iadd, 1) := by decide +kernel
theorem dX12_bears_8 : decode cX12_bears 8 = .ok (.iaload, 1) := by decide +kernel
theorem dX12_bears_9 : decode cX12_bears 9 = .ok (.ifCond .ne 34, 3) := by decide +kernel
theorem dX12_bears_12 : decode cX12_bears 12 = .ok (.aload_n 0, 1) := by decide +kernel
theorem dX12_bears_13 : decode cX12_bears 13 = .ok (.getfield 62, 3) := by decide +kernel
theorem dX12_bears_16 : decode cX12_bears 16 = .ok (.bipush 84, 2) := by decide +kernel
theorem dX12_bears_18 : decode cX12_bears 18 = .ok (.iload_n 1, 1) := by decide +kernel
theorem dX12_bears_19 : decode cX12_bears 19 = .ok (.iadd, 1) := by decide +kernel
theorem dX12_bears_20 : decode cX12_bears 20 = .ok (.iaload, 1) := by decide +kernel
theorem dX12_bears_21 : decode cX12_bears 21 = .ok (.aload_n 0, 1) := by decide +kernel
theorem dX12_bears_22 : decode cX12_bears 22 = .ok (.iload_n 1, 1) := by decide +kernel
theorem dX12_bears_23 : decode cX12_bears 23 = .ok (.iload_n 2, 1) := by decide +kernel
theorem dX12_bears_24 : decode cX12_bears 24 = .ok (.invokevirtual 348, 3) := by decide +kernel
theorem dX12_bears_27 : decode cX12_bears 27 = .ok (.iadd, 1) := by decide +kernel
theorem dX12_bears_28 : decode cX12_bears 28 = .ok (.aload_n 0, 1) := by decide +kernel
theorem dX12_bears_29 : decode cX12_bears 29 = .ok (.getfield 29, 3) := by decide +kernel
theorem dX12_bears_32 : decode cX12_bears 32 = .ok (.iconst 2, 1) := by decide +kernel
theorem dX12_bears_33 : decode cX12_bears 33 = .ok (.iload_n 1, 1) := by decide +kernel
theorem dX12_bears_34 : decode cX12_bears 34 = .ok (.imul, 1) := by decide +kernel
theorem dX12_bears_35 : decode cX12_bears 35 = .ok (.iaload, 1) := by decide +kernel
theorem dX12_bears_36 : decode cX12_bears 36 = .ok (.if_icmp .gt 7, 3) := by decide +kernel
theorem dX12_bears_39 : decode cX12_bears 39 = .ok (.iconst 1, 1) := by decide +kernel
theorem dX12_bears_40 : decode cX12_bears 40 = .ok (.goto 4, 3) := by decide +kernel
theorem dX12_bears_43 : decode cX12_bears 43 = .ok (.iconst 0, 1) := by decide +kernel
theorem dX12_bears_44 : decode cX12_bears 44 = .ok (.ireturn, 1) := by decide +kernel
theorem dX12_could_0 : decode cX12_could 0 = .ok (.aload_n 0, 1) := by decide +kernel
theorem dX12_could_1 : decode cX12_could 1 = .ok (.iconst 0, 1) := by decide +kernel
theorem dX12_could_2 : decode cX12_could 2 = .ok (.putfield 3, 3) := by decide +kernel
theorem dX12_could_5 : decode cX12_could 5 = .ok (.aload_n 0, 1) := by decide +kernel
theorem dX12_could_6 : decode cX12_could 6 = .ok (.iload_n 1, 1) := by decide +kernel
theorem dX12_could_7 : decode cX12_could 7 = .ok (.iconst 1, 1) := by decide +kernel
theorem dX12_could_8 : decode cX12_could 8 = .ok (.invokevirtual 385, 3) := by decide +kernel
theorem dX12_could_11 : decode cX12_could 11 = .ok (.ifCond .ne 5, 3) := by decide +kernel
theorem dX12_could_14 : decode cX12_could 14 = .ok (.iconst 0, 1) := by decide +kernel
theorem dX12_could_15 : decode cX12_could 15 = .ok (.ireturn, 1) := by decide +kernel
theorem dX12_could_16 : decode cX12_could 16 = .ok (.aload_n 0, 1) := by decide +kernel
theorem dX12_could_17 : decode cX12_could 17 = .ok (.invokevirtual 310, 3) := by decide +kernel
theorem dX12_could_20 : decode cX12_could 20 = .ok (.iconst 0, 1) := by decide +kernel
theorem dX12_could_21 : decode cX12_could 21 = .ok (.istore_n 2, 1) := by decide +kernel
theorem dX12_could_22 : decode cX12_could 22 = .ok (.iconst 0, 1) := by decide +kernel
theorem dX12_could_23 : decode cX12_could 23 = .ok (.istore_n 3, 1) := by decide +kernel
theorem dX12_could_24 : decode cX12_could 24 = .ok (.iload_n 3, 1) := by decide +kernel
theorem dX12_could_25 : decode cX12_could 25 = .ok (.aload_n 0, 1) := by decide +kernel
theorem dX12_could_26 : decode cX12_could 26 = .ok (.getfield 157, 3) := by decide +kernel
theorem dX12_could_29 : decode cX12_could 29 = .ok (.if_icmp .ge 28, 3) := by decide +kernel
theorem dX12_could_32 : decode cX12_could 32 = .ok (.iload_n 2, 1) := by decide +kernel
theorem dX12_could_33 : decode cX12_could 33 = .ok (.aload_n 0, 1) := by decide +kernel
theorem dX12_could_34 : decode cX12_could 34 = .ok (.iload_n 1, 1) := by decide +kernel
theorem dX12_could_35 : decode cX12_could 35 = .ok (.iload_n 3, 1) := by decide +kernel
theorem dX12_could_36 : decode cX12_could 36 = .ok (.invokevirtual 391, 3) := by decide +kernel
theorem dX12_could_39 : decode cX12_could 39 = .ok (.ifCond .eq 9, 3) := by decide +kernel
theorem dX12_could_42 : decode cX12_could 42 = .ok (.iconst 1, 1) := by decide +kernel
theorem dX12_could_43 : decode cX12_could 43 = .ok (.iload_n 3, 1) := by decide +kernel
theorem dX12_could_44 : decode cX12_could 44 = .ok (.ishl, 1) := by decide +kernel
theorem dX12_could_45 : decode cX12_could 45 = .ok (.goto 4, 3) := by decide +kernel
theorem dX12_could_48 : decode cX12_could 48 = .ok (.iconst 0, 1) := by decide +kernel
theorem dX12_could_49 : decode cX12_could 49 = .ok (.ior, 1) := by decide +kernel
theorem dX12_could_50 : decode cX12_could 50 = .ok (.istore_n 2, 1) := by decide +kernel
theorem dX12_could_51 : decode cX12_could 51 = .ok (.iinc 3 1, 3) := by decide +kernel
theorem dX12_could_54 : decode cX12_could 54 = .ok (.goto (-30), 3) := by decide +kernel
theorem dX12_could_57 : decode cX12_could 57 = .ok (.iload_n 2, 1) := by decide +kernel
theorem dX12_could_58 : decode cX12_could 58 = .ok (.ireturn, 1) := by decide +kernel
theorem dX12_ready_0 : decode cX12_ready 0 = .ok (.aload_n 0, 1) := by decide +kernel
theorem dX12_ready_1 : decode cX12_ready 1 = .ok (.iconst 0, 1) := by decide +kernel
theorem dX12_ready_2 : decode cX12_ready 2 = .ok (.putfield 3, 3) := by decide +kernel
theorem dX12_ready_5 : decode cX12_ready 5 = .ok (.aload_n 0, 1) := by decide +kernel
theorem dX12_ready_6 : decode cX12_ready 6 = .ok (.iload_n 1, 1) := by decide +kernel
theorem dX12_ready_7 : decode cX12_ready 7 = .ok (.iconst 1, 1) := by decide +kernel
theorem dX12_ready_8 : decode cX12_ready 8 = .ok (.invokevirtual 385, 3) := by decide +kernel
theorem dX12_ready_11 : decode cX12_ready 11 = .ok (.ifCond .eq 12, 3) := by decide +kernel
theorem dX12_ready_14 : decode cX12_ready 14 = .ok (.aload_n 0, 1) := by decide +kernel
theorem dX12_ready_15 : decode cX12_ready 15 = .ok (.iload_n 2, 1) := by decide +kernel
theorem dX12_ready_16 : decode cX12_ready 16 = .ok (.iconst 1, 1) := by decide +kernel
theorem dX12_ready_17 : decode cX12_ready 17 = .ok (.invokevirtual 388, 3) := by decide +kernel
theorem dX12_ready_20 : decode cX12_ready 20 = .ok (.ifCond .ne 5, 3) := by decide +kernel
theorem dX12_ready_23 : decode cX12_ready 23 = .ok (.iconst 0, 1) := by decide +kernel
theorem dX12_ready_24 : decode cX12_ready 24 = .ok (.ireturn, 1) := by decide +kernel
theorem dX12_ready_25 : decode cX12_ready 25 = .ok (.aload_n 0, 1) := by decide +kernel
theorem dX12_ready_26 : decode cX12_ready 26 = .ok (.invokevirtual 310, 3) := by decide +kernel
theorem dX12_ready_29 : decode cX12_ready 29 = .ok (.iconst 0, 1) := by decide +kernel
theorem dX12_ready_30 : decode cX12_ready 30 = .ok (.istore_n 3, 1) := by decide +kernel
theorem dX12_ready_31 : decode cX12_ready 31 = .ok (.iload_n 3, 1) := by decide +kernel
theorem dX12_ready_32 : decode cX12_ready 32 = .ok (.bipush 99, 2) := by decide +kernel
theorem dX12_ready_34 : decode cX12_ready 34 = .ok (.if_icmp .gt 24, 3) := by decide +kernel
theorem dX12_ready_37 : decode cX12_ready 37 = .ok (.aload_n 0, 1) := by decide +kernel
theorem dX12_ready_38 : decode cX12_ready 38 = .ok (.iload_n 1, 1) := by decide +kernel
theorem dX12_ready_39 : decode cX12_ready 39 = .ok (.iload_n 2, 1) := by decide +kernel
theorem dX12_ready_40 : decode cX12_ready 40 = .ok (.invokevirtual 391, 3) := by decide +kernel
theorem dX12_ready_43 : decode cX12_ready 43 = .ok (.ifCond .eq 5, 3) := by decide +kernel
theorem dX12_ready_46 : decode cX12_ready 46 = .ok (.iload_n 3, 1) := by decide +kernel
theorem dX12_ready_47 : decode cX12_ready 47 = .ok (.ireturn, 1) := by decide +kernel
theorem dX12_ready_48 : decode cX12_ready 48 = .ok (.aload_n 0, 1) := by decide +kernel
theorem dX12_ready_49 : decode cX12_ready 49 = .ok (.invokevirtual 367, 3) := by decide +kernel
theorem dX12_ready_52 : decode cX12_ready 52 = .ok (.iinc 3 1, 3) := by decide +kernel
theorem dX12_ready_55 : decode cX12_ready 55 = .ok (.goto (-24), 3) := by decide +kernel
theorem dX12_ready_58 : decode cX12_ready 58 = .ok (.iconst (-1), 1) := by decide +kernel
theorem dX12_ready_59 : decode cX12_ready 59 = .ok (.ireturn, 1) := by decide +kernel
theorem dX12_places_0 : decode cX12_places 0 = .ok (.aload_n 0, 1) := by decide +kernel
theorem dX12_places_1 : decode cX12_places 1 = .ok (.iconst 0, 1) := by decide +kernel
theorem dX12_places_2 : decode cX12_places 2 = .ok (.putfield 394, 3) := by decide +kernel
theorem dX12_places_5 : decode cX12_places 5 = .ok (.iconst 0, 1) := by decide +kernel
theorem dX12_places_6 : decode cX12_places 6 = .ok (.istore_n 2, 1) := by decide +kernel
theorem dX12_places_7 : decode cX12_places 7 = .ok (.iload_n 2, 1) := by decide +kernel
theorem dX12_places_8 : decode cX12_places 8 = .ok (.aload_n 0, 1) := by decide +kernel
theorem dX12_places_9 : decode cX12_places 9 = .ok (.getfield 157, 3) := by decide +kernel
theorem dX12_places_12 : decode cX12_places 12 = .ok (.if_icmp .ge 40, 3) := by decide +kernel
theorem dX12_places_15 : decode cX12_places 15 = .ok (.iload_n 1, 1) := by decide +kernel
theorem dX12_places_16 : decode cX12_places 16 = .ok (.iload_n 2, 1) := by decide +kernel
theorem dX12_places_17 : decode cX12_places 17 = .ok (.ishr, 1) := by decide +kernel
theorem dX12_places_18 : decode cX12_places 18 = .ok (.iconst 1, 1) := by decide +kernel
theorem dX12_places_19 : decode cX12_places 19 = .ok (.iand, 1) := by decide +kernel
theorem dX12_places_20 : decode cX12_places 20 = .ok (.ifCond .ne 6, 3) := by decide +kernel
theorem dX12_places_23 : decode cX12_places 23 = .ok (.goto 23, 3) := by decide +kernel
theorem dX12_places_26 : decode cX12_places 26 = .ok (.aload_n 0, 1) := by decide +kernel
theorem dX12_places_27 : decode cX12_places 27 = .ok (.getfield 74, 3) := by decide +kernel
theorem dX12_places_30 : decode cX12_places 30 = .ok (.aload_n 0, 1) := by decide +kernel
theorem dX12_places_31 : decode cX12_places 31 = .ok (.getfield 394, 3) := by decide +kernel
theorem dX12_places_34 : decode cX12_places 34 = .ok (.iload_n 2, 1) := by decide +kernel
theorem dX12_places_35 : decode cX12_places 35 = .ok (.iastore, 1) := by decide +kernel
theorem dX12_places_36 : decode cX12_places 36 = .ok (.aload_n 0, 1) := by decide +kernel
theorem dX12_places_37 : decode cX12_places 37 = .ok (.dup, 1) := by decide +kernel
theorem dX12_places_38 : decode cX12_places 38 = .ok (.getfield 394, 3) := by decide +kernel
theorem dX12_places_41 : decode cX12_places 41 = .ok (.iconst 1, 1) := by decide +kernel
theorem dX12_places_42 : decode cX12_places 42 = .ok (.iadd, 1) := by decide +kernel
theorem dX12_places_43 : decode cX12_places 43 = .ok (.putfield 394, 3) := by decide +kernel
theorem dX12_places_46 : decode cX12_places 46 = .ok (.iinc 2 1, 3) := by decide +kernel
theorem dX12_places_49 : decode cX12_places 49 = .ok (.goto (-42), 3) := by decide +kernel
theorem dX12_places_52 : decode cX12_places 52 = .ok (.return_, 1) := by decide +kernel
theorem dX12_togetherFor_0 : decode cX12_togetherFor 0 = .ok (.iconst 0, 1) := by decide +kernel
theorem dX12_togetherFor_1 : decode cX12_togetherFor 1 = .ok (.istore_n 3, 1) := by decide +kernel
theorem dX12_togetherFor_2 : decode cX12_togetherFor 2 = .ok (.iconst 0, 1) := by decide +kernel
theorem dX12_togetherFor_3 : decode cX12_togetherFor 3 = .ok (.istore 4, 2) := by decide +kernel
theorem dX12_togetherFor_5 : decode cX12_togetherFor 5 = .ok (.iload 4, 2) := by decide +kernel
theorem dX12_togetherFor_7 : decode cX12_togetherFor 7 = .ok (.aload_n 0, 1) := by decide +kernel
theorem dX12_togetherFor_8 : decode cX12_togetherFor 8 = .ok (.getfield 394, 3) := by decide +kernel
theorem dX12_togetherFor_11 : decode cX12_togetherFor 11 = .ok (.if_icmp .ge 31, 3) := by decide +kernel
theorem dX12_togetherFor_14 : decode cX12_togetherFor 14 = .ok (.iload_n 3, 1) := by decide +kernel
theorem dX12_togetherFor_15 : decode cX12_togetherFor 15 = .ok (.iload_n 2, 1) := by decide +kernel
theorem dX12_togetherFor_16 : decode cX12_togetherFor 16 = .ok (.iload 4, 2) := by decide +kernel
theorem dX12_togetherFor_18 : decode cX12_togetherFor 18 = .ok (.ishr, 1) := by decide +kernel
theorem dX12_togetherFor_19 : decode cX12_togetherFor 19 = .ok (.iconst 1, 1) := by decide +kernel
theorem dX12_togetherFor_20 : decode cX12_togetherFor 20 = .ok (.iand, 1) := by decide +kernel
theorem dX12_togetherFor_21 : decode cX12_togetherFor 21 = .ok (.aload_n 0, 1) := by decide +kernel
theorem dX12_togetherFor_22 : decode cX12_togetherFor 22 = .ok (.iload_n 1, 1) := by decide +kernel
theorem dX12_togetherFor_23 : decode cX12_togetherFor 23 = .ok (.aload_n 0, 1) := by decide +kernel
theorem dX12_togetherFor_24 : decode cX12_togetherFor 24 = .ok (.getfield 74, 3) := by decide +kernel
theorem dX12_togetherFor_27 : decode cX12_togetherFor 27 = .ok (.iload 4, 2) := by decide +kernel
theorem dX12_togetherFor_29 : decode cX12_togetherFor 29 = .ok (.iaload, 1) := by decide +kernel
theorem dX12_togetherFor_30 : decode cX12_togetherFor 30 = .ok (.invokevirtual 348, 3) := by decide +kernel
theorem dX12_togetherFor_33 : decode cX12_togetherFor 33 = .ok (.imul, 1) := by decide +kernel
theorem dX12_togetherFor_34 : decode cX12_togetherFor 34 = .ok (.iadd, 1) := by decide +kernel
theorem dX12_togetherFor_35 : decode cX12_togetherFor 35 = .ok (.istore_n 3, 1) := by decide +kernel
theorem dX12_togetherFor_36 : decode cX12_togetherFor 36 = .ok (.iinc 4 1, 3) := by decide +kernel
theorem dX12_togetherFor_39 : decode cX12_togetherFor 39 = .ok (.goto (-34), 3) := by decide +kernel
theorem dX12_togetherFor_42 : decode cX12_togetherFor 42 = .ok (.iload_n 2, 1) := by decide +kernel
theorem dX12_togetherFor_43 : decode cX12_togetherFor 43 = .ok (.ifCond .ne 7, 3) := by decide +kernel
theorem dX12_togetherFor_46 : decode cX12_togetherFor 46 = .ok (.iconst 0, 1) := by decide +kernel
theorem dX12_togetherFor_47 : decode cX12_togetherFor 47 = .ok (.goto 45, 3) := by decide +kernel
theorem dX12_togetherFor_50 : decode cX12_togetherFor 50 = .ok (.aload_n 0, 1) := by decide +kernel
theorem dX12_togetherFor_51 : decode cX12_togetherFor 51 = .ok (.getfield 62, 3) := by decide +kernel
theorem dX12_togetherFor_54 : decode cX12_togetherFor 54 = .ok (.bipush 91, 2) := by decide +kernel
theorem dX12_togetherFor_56 : decode cX12_togetherFor 56 = .ok (.iload_n 1, 1) := by decide +kernel
theorem dX12_togetherFor_57 : decode cX12_togetherFor 57 = .ok (.iadd, 1) := by decide +kernel
theorem dX12_togetherFor_58 : decode cX12_togetherFor 58 = .ok (.iaload, 1) := by decide +kernel
theorem dX12_togetherFor_59 : decode cX12_togetherFor 59 = .ok (.iconst 1, 1) := by decide +kernel
theorem dX12_togetherFor_60 : decode cX12_togetherFor 60 = .ok (.if_icmp .eq 25, 3) := by decide +kernel
theorem dX12_togetherFor_63 : decode cX12_togetherFor 63 = .ok (.aload_n 0, 1) := by decide +kernel
theorem dX12_togetherFor_64 : decode cX12_togetherFor 64 = .ok (.getfield 62, 3) := by decide +kernel
theorem dX12_togetherFor_67 : decode cX12_togetherFor 67 = .ok (.bipush 84, 2) := by decide +kernel
theorem dX12_togetherFor_69 : decode cX12_togetherFor 69 = .ok (.iload_n 1, 1) := by decide +kernel
theorem dX12_togetherFor_70 : decode cX12_togetherFor 70 = .ok (.iadd, 1) := by decide +kernel
theorem dX12_togetherFor_71 : decode cX12_togetherFor 71 = .ok (.iaload, 1) := by decide +kernel
theorem dX12_togetherFor_72 : decode cX12_togetherFor 72 = .ok (.iload_n 3, 1) := by decide +kernel
theorem dX12_togetherFor_73 : decode cX12_togetherFor 73 = .ok (.iadd, 1) := by decide +kernel
theorem dX12_togetherFor_74 : decode cX12_togetherFor 74 = .ok (.aload_n 0, 1) := by decide +kernel
theorem dX12_togetherFor_75 : decode cX12_togetherFor 75 = .ok (.getfield 29, 3) := by decide +kernel
theorem dX12_togetherFor_78 : decode cX12_togetherFor 78 = .ok (.iconst 2, 1) := by decide +kernel
theorem dX12_togetherFor_79 : decode cX12_togetherFor 79 = .ok (.iload_n 1, 1) := by decide +kernel
theorem dX12_togetherFor_80 : decode cX12_togetherFor 80 = .ok (.imul, 1) := by decide +kernel
theorem dX12_togetherFor_81 : decode cX12_togetherFor 81 = .ok (.iaload, 1) := by decide +kernel
theorem dX12_togetherFor_82 : decode cX12_togetherFor 82 = .ok (.if_icmp .le 9, 3) := by decide +kernel
theorem dX12_togetherFor_85 : decode cX12_togetherFor 85 = .ok (.ldc_w 397, 3) := by decide +kernel
theorem dX12_togetherFor_88 : decode cX12_togetherFor 88 = .ok (.goto 4, 3) := by decide +kernel
theorem dX12_togetherFor_91 : decode cX12_togetherFor 91 = .ok (.iload_n 3, 1) := by decide +kernel
theorem dX12_togetherFor_92 : decode cX12_togetherFor 92 = .ok (.ireturn, 1) := by decide +kernel
theorem dX12_laysRoster_0 : decode cX12_laysRoster 0 = .ok (.aload_n 0, 1) := by decide +kernel
theorem dX12_laysRoster_1 : decode cX12_laysRoster 1 = .ok (.iload_n 1, 1) := by decide +kernel
theorem dX12_laysRoster_2 : decode cX12_laysRoster 2 = .ok (.invokevirtual 398, 3) := by decide +kernel
theorem dX12_laysRoster_5 : decode cX12_laysRoster 5 = .ok (.iconst 0, 1) := by decide +kernel
theorem dX12_laysRoster_6 : decode cX12_laysRoster 6 = .ok (.istore_n 2, 1) := by decide +kernel
theorem dX12_laysRoster_7 : decode cX12_laysRoster 7 = .ok (.iload_n 2, 1) := by decide +kernel
theorem dX12_laysRoster_8 : decode cX12_laysRoster 8 = .ok (.iconst 1, 1) := by decide +kernel
theorem dX12_laysRoster_9 : decode cX12_laysRoster 9 = .ok (.aload_n 0, 1) := by decide +kernel
theorem dX12_laysRoster_10 : decode cX12_laysRoster 10 = .ok (.getfield 394, 3) := by decide +kernel
theorem dX12_laysRoster_13 : decode cX12_laysRoster 13 = .ok (.ishl, 1) := by decide +kernel
theorem dX12_laysRoster_14 : decode cX12_laysRoster 14 = .ok (.if_icmp .ge 34, 3) := by decide +kernel
theorem dX12_laysRoster_17 : decode cX12_laysRoster 17 = .ok (.aload_n 0, 1) := by decide +kernel
theorem dX12_laysRoster_18 : decode cX12_laysRoster 18 = .ok (.getfield 77, 3) := by decide +kernel
theorem dX12_laysRoster_21 : decode cX12_laysRoster 21 = .ok (.aload_n 0, 1) := by decide +kernel
theorem dX12_laysRoster_22 : decode cX12_laysRoster 22 = .ok (.getfield 154, 3) := by decide +kernel
theorem dX12_laysRoster_25 : decode cX12_laysRoster 25 = .ok (.bipush 6, 2) := by decide +kernel
theorem dX12_laysRoster_27 : decode cX12_laysRoster 27 = .ok (.ishl, 1) := by decide +kernel
theorem dX12_laysRoster_28 : decode cX12_laysRoster 28 = .ok (.iload_n 2, 1) := by decide +kernel
theorem dX12_laysRoster_29 : decode cX12_laysRoster 29 = .ok (.ior, 1) := by decide +kernel
theorem dX12_laysRoster_30 : decode cX12_laysRoster 30 = .ok (.iload_n 2, 1) := by decide +kernel
theorem dX12_laysRoster_31 : decode cX12_laysRoster 31 = .ok (.ifCond .ne 7, 3) := by decide +kernel
theorem dX12_laysRoster_34 : decode cX12_laysRoster 34 = .ok (.iconst 0, 1) := by decide +kernel
theorem dX12_laysRoster_35 : decode cX12_laysRoster 35 = .ok (.goto 6, 3) := by decide +kernel
theorem dX12_laysRoster_38 : decode cX12_laysRoster 38 = .ok (.ldc_w 397, 3) := by decide +kernel
theorem dX12_laysRoster_41 : decode cX12_laysRoster 41 = .ok (.iastore, 1) := by decide +kernel
theorem dX12_laysRoster_42 : decode cX12_laysRoster 42 = .ok (.iinc 2 1, 3) := by decide +kernel
theorem dX12_laysRoster_45 : decode cX12_laysRoster 45 = .ok (.goto (-38), 3) := by decide +kernel
theorem dX12_laysRoster_48 : decode cX12_laysRoster 48 = .ok (.aload_n 0, 1) := by decide +kernel
theorem dX12_laysRoster_49 : decode cX12_laysRoster 49 = .ok (.getfield 154, 3) := by decide +kernel
theorem dX12_laysRoster_52 : decode cX12_laysRoster 52 = .ok (.iconst 1, 1) := by decide +kernel
theorem dX12_laysRoster_53 : decode cX12_laysRoster 53 = .ok (.isub, 1) := by decide +kernel
theorem dX12_laysRoster_54 : decode cX12_laysRoster 54 = .ok (.istore_n 2, 1) := by decide +kernel
theorem dX12_laysRoster_55 : decode cX12_laysRoster 55 = .ok (.iload_n 2, 1) := by decide +kernel
theorem dX12_laysRoster_56 : decode cX12_laysRoster 56 = .ok (.ifCond .lt 118, 3) := by decide +kernel
theorem dX12_laysRoster_59 : decode cX12_laysRoster 59 = .ok (.iconst 0, 1) := by decide +kernel
theorem dX12_laysRoster_60 : decode cX12_laysRoster 60 = .ok (.istore_n 3, 1) := by decide +kernel
theorem dX12_laysRoster_61 : decode cX12_laysRoster 61 = .ok (.iload_n 3, 1) := by decide +kernel
theorem dX12_laysRoster_62 : decode cX12_laysRoster 62 = .ok (.iconst 1, 1) := by decide +kernel
theorem dX12_laysRoster_63 : decode cX12_laysRoster 63 = .ok (.aload_n 0, 1) := by decide +kernel
theorem dX12_laysRoster_64 : decode cX12_laysRoster 64 = .ok (.getfield 394, 3) := by decide +kernel
theorem dX12_laysRoster_67 : decode cX12_laysRoster 67 = .ok (.ishl, 1) := by decide +kernel
theorem dX12_laysRoster_68 : decode cX12_laysRoster 68 = .ok (.if_icmp .ge 100, 3) := by decide +kernel
theorem dX12_laysRoster_71 : decode cX12_laysRoster 71 = .ok (.aload_n 0, 1) := by decide +kernel
theorem dX12_laysRoster_72 : decode cX12_laysRoster 72 = .ok (.getfield 77, 3) := by decide +kernel
theorem dX12_laysRoster_75 : decode cX12_laysRoster 75 = .ok (.iload_n 2, 1) := by decide +kernel
theorem dX12_laysRoster_76 : decode cX12_laysRoster 76 = .ok (.iconst 1, 1) := by decide +kernel
theorem dX12_laysRoster_77 : decode cX12_laysRoster 77 = .ok (.iadd, 1) := by decide +kernel
theorem dX12_laysRoster_78 : decode cX12_laysRoster 78 = .ok (.bipush 6, 2) := by decide +kernel
theorem dX12_laysRoster_80 : decode cX12_laysRoster 80 = .ok (.ishl, 1) := by decide +kernel
theorem dX12_laysRoster_81 : decode cX12_laysRoster 81 = .ok (.iload_n 3, 1) := by decide +kernel
theorem dX12_laysRoster_82 : decode cX12_laysRoster 82 = .ok (.ior, 1) := by decide +kernel
theorem dX12_laysRoster_83 : decode cX12_laysRoster 83 = .ok (.iaload, 1) := by decide +kernel
theorem dX12_laysRoster_84 : decode cX12_laysRoster 84 = .ok (.istore 4, 2) := by decide +kernel
theorem dX12_laysRoster_86 : decode cX12_laysRoster 86 = .ok (.iload_n 3, 1) := by decide +kernel
theorem dX12_laysRoster_87 : decode cX12_laysRoster 87 = .ok (.istore 5, 2) := by decide +kernel
theorem dX12_laysRoster_89 : decode cX12_laysRoster 89 = .ok (.iload 5, 2) := by decide +kernel
theorem dX12_laysRoster_91 : decode cX12_laysRoster 91 = .ok (.ifCond .le 58, 3) := by decide +kernel
theorem dX12_laysRoster_94 : decode cX12_laysRoster 94 = .ok (.aload_n 0, 1) := by decide +kernel
theorem dX12_laysRoster_95 : decode cX12_laysRoster 95 = .ok (.iload_n 2, 1) := by decide +kernel
theorem dX12_laysRoster_96 : decode cX12_laysRoster 96 = .ok (.iload 5, 2) := by decide +kernel
theorem dX12_laysRoster_98 : decode cX12_laysRoster 98 = .ok (.invokevirtual 401, 3) := by decide +kernel
theorem dX12_laysRoster_101 : decode cX12_laysRoster 101 = .ok (.aload_n 0, 1) := by decide +kernel
theorem dX12_laysRoster_102 : decode cX12_laysRoster 102 = .ok (.getfield 77, 3) := by decide +kernel
theorem dX12_laysRoster_105 : decode cX12_laysRoster 105 = .ok (.iload_n 2, 1) := by decide +kernel
theorem dX12_laysRoster_106 : decode cX12_laysRoster 106 = .ok (.iconst 1, 1) := by decide +kernel
theorem dX12_laysRoster_107 : decode cX12_laysRoster 107 = .ok (.iadd, 1) := by decide +kernel
theorem dX12_laysRoster_108 : decode cX12_laysRoster 108 = .ok (.bipush 6, 2) := by decide +kernel
theorem dX12_laysRoster_110 : decode cX12_laysRoster 110 = .ok (.ishl, 1) := by decide +kernel
theorem dX12_laysRoster_111 : decode cX12_laysRoster 111 = .ok (.iload_n 3, 1) := by decide +kernel
theorem dX12_laysRoster_112 : decode cX12_laysRoster 112 = .ok (.iload 5, 2) := by decide +kernel
theorem dX12_laysRoster_114 : decode cX12_laysRoster 114 = .ok (.iconst (-1), 1) := by decide +kernel
theorem dX12_laysRoster_115 : decode cX12_laysRoster 115 = .ok (.ixor, 1) := by decide +kernel
theorem dX12_laysRoster_116 : decode cX12_laysRoster 116 = .ok (.iand, 1) := by decide +kernel
theorem dX12_laysRoster_117 : decode cX12_laysRoster 117 = .ok (.ior, 1) := by decide +kernel
theorem dX12_laysRoster_118 : decode cX12_laysRoster 118 = .ok (.iaload, 1) := by decide +kernel
theorem dX12_laysRoster_119 : decode cX12_laysRoster 119 = .ok (.iadd, 1) := by decide +kernel
theorem dX12_laysRoster_120 : decode cX12_laysRoster 120 = .ok (.istore 6, 2) := by decide +kernel
theorem dX12_laysRoster_122 : decode cX12_laysRoster 122 = .ok (.iload 6, 2) := by decide +kernel
theorem dX12_laysRoster_124 : decode cX12_laysRoster 124 = .ok (.iload 4, 2) := by decide +kernel
theorem dX12_laysRoster_126 : decode cX12_laysRoster 126 = .ok (.if_icmp .ge 8, 3) := by decide +kernel
theorem dX12_laysRoster_129 : decode cX12_laysRoster 129 = .ok (.iload 6, 2) := by decide +kernel
theorem dX12_laysRoster_131 : decode cX12_laysRoster 131 = .ok (.goto 5, 3) := by decide +kernel
theorem dX12_laysRoster_134 : decode cX12_laysRoster 134 = .ok (.iload 4, 2) := by decide +kernel
end Dec
