section Words
theorem ml_X0_18 : Cond.methodLink RX0 18 yJ7_fill_53178 ∈ lw_good := List.mem_filter.mpr ⟨tm_1 (List.mem_of_getElem? (i := 158) rfl), rfl⟩
theorem ml_X6_3 : Cond.methodLink RX6 3 objectInit ∈ lw_good := List.mem_filter.mpr ⟨tm_1 (List.mem_of_getElem? (i := 175) rfl), rfl⟩
theorem ml_X11_55 : Cond.methodLink RX11 55 yX3_init ∈ lw_good := List.mem_filter.mpr ⟨tm_1 (List.mem_of_getElem? (i := 201) rfl), rfl⟩
theorem ml_X3_3 : Cond.methodLink RX3 3 objectInit ∈ lw_good := List.mem_filter.mpr ⟨tm_1 (List.mem_of_getElem? (i := 204) rfl), rfl⟩
theorem ml_X11_64 : Cond.methodLink RX11 64 yX5_init ∈ lw_good := List.mem_filter.mpr ⟨tm_1 (List.mem_of_getElem? (i := 217) rfl), rfl⟩
theorem ml_X5_3 : Cond.methodLink RX5 3 objectInit ∈ lw_good := List.mem_filter.mpr ⟨tm_1 (List.mem_of_getElem? (i := 220) rfl), rfl⟩
theorem ml_X9_3 : Cond.methodLink RX9 3 objectInit ∈ lw_good := List.mem_filter.mpr ⟨tm_1 (List.mem_of_getElem? (i := 226) rfl), rfl⟩
theorem ml_X11_80 : Cond.methodLink RX11 80 yX8_init ∈ lw_good := List.mem_filter.mpr ⟨tm_2 (List.mem_of_getElem? (i := 46) rfl), rfl⟩
theorem ml_X8_3 : Cond.methodLink RX8 3 objectInit ∈ lw_good := List.mem_filter.mpr ⟨tm_2 (List.mem_of_getElem? (i := 49) rfl), rfl⟩
theorem ml_X11_89 : Cond.methodLink RX11 89 yX2_init ∈ lw_good := List.mem_filter.mpr ⟨tm_2 (List.mem_of_getElem? (i := 81) rfl), rfl⟩
theorem ml_X2_3 : Cond.methodLink RX2 3 objectInit ∈ lw_good := List.mem_filter.mpr ⟨tm_2 (List.mem_of_getElem? (i := 84) rfl), rfl⟩
theorem ml_X11_98 : Cond.methodLink RX11 98 yX7_init ∈ lw_good := List.mem_filter.mpr ⟨tm_2 (List.mem_of_getElem? (i := 113) rfl), rfl⟩
theorem ml_X7_3 : Cond.methodLink RX7 3 objectInit ∈ lw_good := List.mem_filter.mpr ⟨tm_2 (List.mem_of_getElem? (i := 116) rfl), rfl⟩
theorem ml_L_123 : Cond.methodLink RL 123 yX11_feed ∈ lw_good := List.mem_filter.mpr ⟨tm_2 (List.mem_of_getElem? (i := 192) rfl), rfl⟩
theorem ml_X11_107 : Cond.methodLink RX11 107 yX10_put ∈ lw_good := List.mem_filter.mpr ⟨tm_2 (List.mem_of_getElem? (i := 196) rfl), rfl⟩
theorem ml_L_147 : Cond.methodLink RL 147 yX11_fault ∈ lw_good := List.mem_filter.mpr ⟨tm_2 (List.mem_of_getElem? (i := 200) rfl), rfl⟩
theorem ml_L_151 : Cond.methodLink RL 151 yX11_undo ∈ lw_good := List.mem_filter.mpr ⟨tm_2 (List.mem_of_getElem? (i := 204) rfl), rfl⟩
theorem ml_X11_178 : Cond.methodLink RX11 178 yX5_takeBack ∈ lw_good := List.mem_filter.mpr ⟨tm_2 (List.mem_of_getElem? (i := 208) rfl), rfl⟩
theorem ml_X5_29 : Cond.methodLink RX5 29 yX9_copyFrom ∈ lw_good := List.mem_filter.mpr ⟨tm_2 (List.mem_of_getElem? (i := 212) rfl), rfl⟩
theorem ml_X9_46 : Cond.methodLink RX9 46 arraycopyName ∈ lw_good := List.mem_filter.mpr ⟨tm_2 (List.mem_of_getElem? (i := 216) rfl), rfl⟩
theorem ml_L_247 : Cond.methodLink RL 247 yX11_image ∈ lw_good := List.mem_filter.mpr ⟨tm_2 (List.mem_of_getElem? (i := 219) rfl), rfl⟩
theorem ml_X11_391 : Cond.methodLink RX11 391 yX5_copyFrom ∈ lw_good := List.mem_filter.mpr ⟨tm_2 (List.mem_of_getElem? (i := 223) rfl), rfl⟩
theorem ml_L_251 : Cond.methodLink RL 251 yX11_restore ∈ lw_good := List.mem_filter.mpr ⟨tm_2 (List.mem_of_getElem? (i := 227) rfl), rfl⟩
theorem ml_L_255 : Cond.methodLink RL 255 yX11_status ∈ lw_good := List.mem_filter.mpr ⟨tm_2 (List.mem_of_getElem? (i := 231) rfl), rfl⟩
theorem ml_L_259 : Cond.methodLink RL 259 yX11_count ∈ lw_good := List.mem_filter.mpr ⟨tm_2 (List.mem_of_getElem? (i := 235) rfl), rfl⟩
theorem ml_L_128 : Cond.methodLink RL 128 yL_court ∈ lw_good := List.mem_filter.mpr ⟨tm_2 (List.mem_of_getElem? (i := 239) rfl), rfl⟩
theorem ml_L_7 : Cond.methodLink RL 7 yX11_court ∈ lw_good := List.mem_filter.mpr ⟨tm_3 (List.mem_of_getElem? (i := 3) rfl), rfl⟩
theorem ml_X11_111 : Cond.methodLink RX11 111 yX11_needTextLength ∈ lw_good := List.mem_filter.mpr ⟨tm_3 (List.mem_of_getElem? (i := 7) rfl), rfl⟩
theorem ml_X11_383 : Cond.methodLink RX11 383 yJ9_min_7cf53 ∈ lw_good := List.mem_filter.mpr ⟨tm_3 (List.mem_of_getElem? (i := 11) rfl), rfl⟩
theorem ml_X11_267 : Cond.methodLink RX11 267 yX11_needRange ∈ lw_good := List.mem_filter.mpr ⟨tm_3 (List.mem_of_getElem? (i := 14) rfl), rfl⟩
theorem ml_X11_115 : Cond.methodLink RX11 115 yX10_open ∈ lw_good := List.mem_filter.mpr ⟨tm_3 (List.mem_of_getElem? (i := 84) rfl), rfl⟩
theorem ml_X10_31 : Cond.methodLink RX10 31 yX10_skipBlanks ∈ lw_good := List.mem_filter.mpr ⟨tm_3 (List.mem_of_getElem? (i := 88) rfl), rfl⟩
theorem ml_X11_118 : Cond.methodLink RX11 118 yX1_readFrom ∈ lw_good := List.mem_filter.mpr ⟨tm_3 (List.mem_of_getElem? (i := 92) rfl), rfl⟩
theorem ml_X1_40 : Cond.methodLink RX1 40 yX10_isAtEnd ∈ lw_good := List.mem_filter.mpr ⟨tm_3 (List.mem_of_getElem? (i := 96) rfl), rfl⟩
theorem ml_X1_46 : Cond.methodLink RX1 46 yX1_readClause ∈ lw_good := List.mem_filter.mpr ⟨tm_3 (List.mem_of_getElem? (i := 100) rfl), rfl⟩
theorem ml_X1_54 : Cond.methodLink RX1 54 yX10_takeWord ∈ lw_good := List.mem_filter.mpr ⟨tm_3 (List.mem_of_getElem? (i := 104) rfl), rfl⟩
theorem ml_X1_59 : Cond.methodLink RX1 59 yX10_isWord ∈ lw_good := List.mem_filter.mpr ⟨tm_3 (List.mem_of_getElem? (i := 109) rfl), rfl⟩
theorem ml_X10_59 : Cond.methodLink RX10 59 yJ0_length_8abf5 ∈ lw_good := List.mem_filter.mpr ⟨tm_3 (List.mem_of_getElem? (i := 113) rfl), rfl⟩
theorem ml_J0_335 : Cond.methodLink RJ0 335 yJ0_coder_7d493 ∈ lw_good := List.mem_filter.mpr ⟨tm_3 (List.mem_of_getElem? (i := 117) rfl), rfl⟩
theorem ml_X10_65 : Cond.methodLink RX10 65 yJ0_charAt_5068e ∈ lw_good := List.mem_filter.mpr ⟨tm_3 (List.mem_of_getElem? (i := 123) rfl), rfl⟩
theorem ml_J0_492 : Cond.methodLink RJ0 492 yJ0_isLatin1_aae02 ∈ lw_good := List.mem_filter.mpr ⟨tm_3 (List.mem_of_getElem? (i := 127) rfl), rfl⟩
theorem ml_J0_495 : Cond.methodLink RJ0 495 yJ1_charAt_3b067 ∈ lw_good := List.mem_filter.mpr ⟨tm_3 (List.mem_of_getElem? (i := 131) rfl), rfl⟩
theorem ml_J1_9 : Cond.methodLink RJ1 9 yJ0_checkIndex_df160 ∈ lw_good := List.mem_filter.mpr ⟨tm_3 (List.mem_of_getElem? (i := 134) rfl), rfl⟩
theorem ml_J0_1059 : Cond.methodLink RJ0 1059 yJ3_checkIndex_8e157 ∈ lw_good := List.mem_filter.mpr ⟨tm_3 (List.mem_of_getElem? (i := 139) rfl), rfl⟩
theorem ml_J0_498 : Cond.methodLink RJ0 498 yJ2_charAt_3b067 ∈ lw_good := List.mem_filter.mpr ⟨tm_3 (List.mem_of_getElem? (i := 142) rfl), rfl⟩
theorem ml_J2_67 : Cond.methodLink RJ2 67 yJ2_checkIndex_2214a ∈ lw_good := List.mem_filter.mpr ⟨tm_3 (List.mem_of_getElem? (i := 145) rfl), rfl⟩
theorem ml_J2_48 : Cond.methodLink RJ2 48 yJ2_length_9d52b ∈ lw_good := List.mem_filter.mpr ⟨tm_3 (List.mem_of_getElem? (i := 148) rfl), rfl⟩
theorem ml_J2_414 : Cond.methodLink RJ2 414 yJ0_checkIndex_df160 ∈ lw_good := List.mem_filter.mpr ⟨tm_3 (List.mem_of_getElem? (i := 151) rfl), rfl⟩
theorem ml_J2_71 : Cond.methodLink RJ2 71 yJ2_getChar_3b067 ∈ lw_good := List.mem_filter.mpr ⟨tm_3 (List.mem_of_getElem? (i := 152) rfl), rfl⟩
theorem ml_X1_67 : Cond.methodLink RX1 67 yX10_failWord ∈ lw_good := List.mem_filter.mpr ⟨tm_3 (List.mem_of_getElem? (i := 163) rfl), rfl⟩
theorem ml_X10_38 : Cond.methodLink RX10 38 yX10_fail ∈ lw_good := List.mem_filter.mpr ⟨tm_3 (List.mem_of_getElem? (i := 167) rfl), rfl⟩
theorem ml_X1_71 : Cond.methodLink RX1 71 yX1_readBack ∈ lw_good := List.mem_filter.mpr ⟨tm_3 (List.mem_of_getElem? (i := 171) rfl), rfl⟩
theorem ml_X1_81 : Cond.methodLink RX1 81 yX10_needNumber ∈ lw_good := List.mem_filter.mpr ⟨tm_3 (List.mem_of_getElem? (i := 175) rfl), rfl⟩
theorem ml_X10_42 : Cond.methodLink RX10 42 yX10_isAtDigit ∈ lw_good := List.mem_filter.mpr ⟨tm_3 (List.mem_of_getElem? (i := 179) rfl), rfl⟩
theorem ml_X10_47 : Cond.methodLink RX10 47 yJ9_min_7cf53 ∈ lw_good := List.mem_filter.mpr ⟨tm_3 (List.mem_of_getElem? (i := 184) rfl), rfl⟩
theorem ml_X1_75 : Cond.methodLink RX1 75 yX1_readCouncil ∈ lw_good := List.mem_filter.mpr ⟨tm_3 (List.mem_of_getElem? (i := 185) rfl), rfl⟩
theorem ml_X1_78 : Cond.methodLink RX1 78 yX1_readKing ∈ lw_good := List.mem_filter.mpr ⟨tm_3 (List.mem_of_getElem? (i := 189) rfl), rfl⟩
theorem ml_X1_50 : Cond.methodLink RX1 50 yX10_needSign ∈ lw_good := List.mem_filter.mpr ⟨tm_3 (List.mem_of_getElem? (i := 193) rfl), rfl⟩
theorem ml_X10_34 : Cond.methodLink RX10 34 yX10_isAt ∈ lw_good := List.mem_filter.mpr ⟨tm_3 (List.mem_of_getElem? (i := 197) rfl), rfl⟩
theorem ml_X11_122 : Cond.methodLink RX11 122 yX10_faultAnswer ∈ lw_good := List.mem_filter.mpr ⟨tm_3 (List.mem_of_getElem? (i := 201) rfl), rfl⟩
theorem ml_X11_126 : Cond.methodLink RX11 126 yX1_copyFrom ∈ lw_good := List.mem_filter.mpr ⟨tm_3 (List.mem_of_getElem? (i := 205) rfl), rfl⟩
theorem ml_X1_28 : Cond.methodLink RX1 28 arraycopyName ∈ lw_good := List.mem_filter.mpr ⟨tm_3 (List.mem_of_getElem? (i := 209) rfl), rfl⟩
theorem ml_X11_130 : Cond.methodLink RX11 130 yX4_beUsual ∈ lw_good := List.mem_filter.mpr ⟨tm_3 (List.mem_of_getElem? (i := 210) rfl), rfl⟩
theorem ml_X11_133 : Cond.methodLink RX11 133 yX0_clear ∈ lw_good := List.mem_filter.mpr ⟨tm_3 (List.mem_of_getElem? (i := 211) rfl), rfl⟩
theorem ml_X11_136 : Cond.methodLink RX11 136 yX5_clear ∈ lw_good := List.mem_filter.mpr ⟨tm_3 (List.mem_of_getElem? (i := 212) rfl), rfl⟩
theorem ml_X5_22 : Cond.methodLink RX5 22 yX9_clear ∈ lw_good := List.mem_filter.mpr ⟨tm_3 (List.mem_of_getElem? (i := 216) rfl), rfl⟩
theorem ml_X9_30 : Cond.methodLink RX9 30 yJ7_fill_53178 ∈ lw_good := List.mem_filter.mpr ⟨tm_3 (List.mem_of_getElem? (i := 220) rfl), rfl⟩
theorem ml_L_138 : Cond.methodLink RL 138 yL_law ∈ lw_good := List.mem_filter.mpr ⟨tm_3 (List.mem_of_getElem? (i := 221) rfl), rfl⟩
theorem ml_L_15 : Cond.methodLink RL 15 yX11_law ∈ lw_good := List.mem_filter.mpr ⟨tm_3 (List.mem_of_getElem? (i := 224) rfl), rfl⟩
theorem ml_X11_146 : Cond.methodLink RX11 146 yX4_readFrom ∈ lw_good := List.mem_filter.mpr ⟨tm_3 (List.mem_of_getElem? (i := 228) rfl), rfl⟩
theorem ml_X4_38 : Cond.methodLink RX4 38 yX4_readSum ∈ lw_good := List.mem_filter.mpr ⟨tm_3 (List.mem_of_getElem? (i := 232) rfl), rfl⟩
theorem ml_X4_55 : Cond.methodLink RX4 55 yX4_readProduct ∈ lw_good := List.mem_filter.mpr ⟨tm_3 (List.mem_of_getElem? (i := 236) rfl), rfl⟩
theorem ml_X4_69 : Cond.methodLink RX4 69 yX4_readUnit ∈ lw_good := List.mem_filter.mpr ⟨tm_4 (List.mem_of_getElem? (i := 0) rfl), rfl⟩
theorem ml_X4_72 : Cond.methodLink RX4 72 yX10_isAtDigit ∈ lw_good := List.mem_filter.mpr ⟨tm_4 (List.mem_of_getElem? (i := 4) rfl), rfl⟩
theorem ml_X4_75 : Cond.methodLink RX4 75 yX10_needNumber ∈ lw_good := List.mem_filter.mpr ⟨tm_4 (List.mem_of_getElem? (i := 5) rfl), rfl⟩
theorem ml_X4_58 : Cond.methodLink RX4 58 yX10_isAt ∈ lw_good := List.mem_filter.mpr ⟨tm_4 (List.mem_of_getElem? (i := 6) rfl), rfl⟩
theorem ml_X4_79 : Cond.methodLink RX4 79 yX4_readInner ∈ lw_good := List.mem_filter.mpr ⟨tm_4 (List.mem_of_getElem? (i := 7) rfl), rfl⟩
theorem ml_X4_48 : Cond.methodLink RX4 48 yX10_failHere ∈ lw_good := List.mem_filter.mpr ⟨tm_4 (List.mem_of_getElem? (i := 11) rfl), rfl⟩
theorem ml_X4_66 : Cond.methodLink RX4 66 yX10_step ∈ lw_good := List.mem_filter.mpr ⟨tm_4 (List.mem_of_getElem? (i := 15) rfl), rfl⟩
theorem ml_X4_103 : Cond.methodLink RX4 103 yX10_needSign ∈ lw_good := List.mem_filter.mpr ⟨tm_4 (List.mem_of_getElem? (i := 19) rfl), rfl⟩
theorem ml_X4_82 : Cond.methodLink RX4 82 yX10_takeWord ∈ lw_good := List.mem_filter.mpr ⟨tm_4 (List.mem_of_getElem? (i := 20) rfl), rfl⟩
theorem ml_X4_87 : Cond.methodLink RX4 87 yX10_isWord ∈ lw_good := List.mem_filter.mpr ⟨tm_4 (List.mem_of_getElem? (i := 22) rfl), rfl⟩
theorem ml_X4_93 : Cond.methodLink RX4 93 yX4_readPair ∈ lw_good := List.mem_filter.mpr ⟨tm_4 (List.mem_of_getElem? (i := 24) rfl), rfl⟩
theorem ml_X4_100 : Cond.methodLink RX4 100 yX10_failWord ∈ lw_good := List.mem_filter.mpr ⟨tm_4 (List.mem_of_getElem? (i := 28) rfl), rfl⟩
theorem ml_X4_96 : Cond.methodLink RX4 96 yX4_thingOf ∈ lw_good := List.mem_filter.mpr ⟨tm_4 (List.mem_of_getElem? (i := 29) rfl), rfl⟩
theorem ml_X4_62 : Cond.methodLink RX4 62 yX10_sign ∈ lw_good := List.mem_filter.mpr ⟨tm_4 (List.mem_of_getElem? (i := 41) rfl), rfl⟩
theorem ml_X4_42 : Cond.methodLink RX4 42 yX10_isAtEnd ∈ lw_good := List.mem_filter.mpr ⟨tm_4 (List.mem_of_getElem? (i := 45) rfl), rfl⟩
theorem ml_X11_147 : Cond.methodLink RX11 147 yX4_copyFrom ∈ lw_good := List.mem_filter.mpr ⟨tm_4 (List.mem_of_getElem? (i := 46) rfl), rfl⟩
theorem ml_X4_32 : Cond.methodLink RX4 32 arraycopyName ∈ lw_good := List.mem_filter.mpr ⟨tm_4 (List.mem_of_getElem? (i := 50) rfl), rfl⟩
theorem ml_L_141 : Cond.methodLink RL 141 yL_work ∈ lw_good := List.mem_filter.mpr ⟨tm_4 (List.mem_of_getElem? (i := 51) rfl), rfl⟩
theorem ml_L_18 : Cond.methodLink RL 18 yX11_work ∈ lw_good := List.mem_filter.mpr ⟨tm_4 (List.mem_of_getElem? (i := 54) rfl), rfl⟩
theorem ml_X11_153 : Cond.methodLink RX11 153 yX6_readFrom ∈ lw_good := List.mem_filter.mpr ⟨tm_4 (List.mem_of_getElem? (i := 58) rfl), rfl⟩
theorem ml_X6_28 : Cond.methodLink RX6 28 yX6_readSteps ∈ lw_good := List.mem_filter.mpr ⟨tm_4 (List.mem_of_getElem? (i := 62) rfl), rfl⟩
theorem ml_X6_80 : Cond.methodLink RX6 80 yX10_isAt ∈ lw_good := List.mem_filter.mpr ⟨tm_4 (List.mem_of_getElem? (i := 66) rfl), rfl⟩
theorem ml_X6_86 : Cond.methodLink RX6 86 yX10_isAtEnd ∈ lw_good := List.mem_filter.mpr ⟨tm_4 (List.mem_of_getElem? (i := 67) rfl), rfl⟩
theorem ml_X6_90 : Cond.methodLink RX6 90 yX6_readStep ∈ lw_good := List.mem_filter.mpr ⟨tm_4 (List.mem_of_getElem? (i := 68) rfl), rfl⟩
theorem ml_X6_96 : Cond.methodLink RX6 96 yX10_takeWord ∈ lw_good := List.mem_filter.mpr ⟨tm_4 (List.mem_of_getElem? (i := 72) rfl), rfl⟩
theorem ml_X6_100 : Cond.methodLink RX6 100 yX10_isWord ∈ lw_good := List.mem_filter.mpr ⟨tm_4 (List.mem_of_getElem? (i := 74) rfl), rfl⟩
theorem ml_X6_112 : Cond.methodLink RX6 112 yX6_readNumbers ∈ lw_good := List.mem_filter.mpr ⟨tm_4 (List.mem_of_getElem? (i := 75) rfl), rfl⟩
theorem ml_X6_137 : Cond.methodLink RX6 137 yX10_needNumber ∈ lw_good := List.mem_filter.mpr ⟨tm_4 (List.mem_of_getElem? (i := 79) rfl), rfl⟩
theorem ml_X6_125 : Cond.methodLink RX6 125 yX6_add ∈ lw_good := List.mem_filter.mpr ⟨tm_4 (List.mem_of_getElem? (i := 80) rfl), rfl⟩
theorem ml_X6_118 : Cond.methodLink RX6 118 yX6_readNumber ∈ lw_good := List.mem_filter.mpr ⟨tm_4 (List.mem_of_getElem? (i := 86) rfl), rfl⟩
theorem ml_X6_131 : Cond.methodLink RX6 131 yX6_readAgain ∈ lw_good := List.mem_filter.mpr ⟨tm_4 (List.mem_of_getElem? (i := 93) rfl), rfl⟩
theorem ml_X6_134 : Cond.methodLink RX6 134 yX10_failWord ∈ lw_good := List.mem_filter.mpr ⟨tm_4 (List.mem_of_getElem? (i := 97) rfl), rfl⟩
theorem ml_X6_93 : Cond.methodLink RX6 93 yX10_needSign ∈ lw_good := List.mem_filter.mpr ⟨tm_4 (List.mem_of_getElem? (i := 98) rfl), rfl⟩
theorem ml_X11_156 : Cond.methodLink RX11 156 yX5_keepNow ∈ lw_good := List.mem_filter.mpr ⟨tm_4 (List.mem_of_getElem? (i := 99) rfl), rfl⟩
theorem ml_X11_159 : Cond.methodLink RX11 159 yX6_carryOut ∈ lw_good := List.mem_filter.mpr ⟨tm_4 (List.mem_of_getElem? (i := 103) rfl), rfl⟩
theorem ml_X6_39 : Cond.methodLink RX6 39 yX6_turn ∈ lw_good := List.mem_filter.mpr ⟨tm_4 (List.mem_of_getElem? (i := 108) rfl), rfl⟩
theorem ml_X6_50 : Cond.methodLink RX6 50 yJ9_max_7cf53 ∈ lw_good := List.mem_filter.mpr ⟨tm_4 (List.mem_of_getElem? (i := 112) rfl), rfl⟩
theorem ml_X6_43 : Cond.methodLink RX6 43 yX6_enter ∈ lw_good := List.mem_filter.mpr ⟨tm_4 (List.mem_of_getElem? (i := 115) rfl), rfl⟩
theorem ml_X6_46 : Cond.methodLink RX6 46 yX6_begin ∈ lw_good := List.mem_filter.mpr ⟨tm_4 (List.mem_of_getElem? (i := 119) rfl), rfl⟩
theorem ml_X6_56 : Cond.methodLink RX6 56 yX3_sit ∈ lw_good := List.mem_filter.mpr ⟨tm_4 (List.mem_of_getElem? (i := 123) rfl), rfl⟩
theorem ml_X3_90 : Cond.methodLink RX3 90 yX9_hasFallen ∈ lw_good := List.mem_filter.mpr ⟨tm_4 (List.mem_of_getElem? (i := 127) rfl), rfl⟩
theorem ml_X3_94 : Cond.methodLink RX3 94 yX3_burdenOn ∈ lw_good := List.mem_filter.mpr ⟨tm_4 (List.mem_of_getElem? (i := 131) rfl), rfl⟩
theorem ml_X3_86 : Cond.methodLink RX3 86 yX3_loadOn ∈ lw_good := List.mem_filter.mpr ⟨tm_4 (List.mem_of_getElem? (i := 135) rfl), rfl⟩
theorem ml_X3_50 : Cond.methodLink RX3 50 yX4_tellKing ∈ lw_good := List.mem_filter.mpr ⟨tm_4 (List.mem_of_getElem? (i := 139) rfl), rfl⟩
theorem ml_X3_62 : Cond.methodLink RX3 62 yX4_tellCouncil ∈ lw_good := List.mem_filter.mpr ⟨tm_4 (List.mem_of_getElem? (i := 143) rfl), rfl⟩
theorem ml_X3_69 : Cond.methodLink RX3 69 yJ6_bitCount_0f7a4 ∈ lw_good := List.mem_filter.mpr ⟨tm_4 (List.mem_of_getElem? (i := 147) rfl), rfl⟩
theorem ml_X3_74 : Cond.methodLink RX3 74 yX3_tiredIn ∈ lw_good := List.mem_filter.mpr ⟨tm_4 (List.mem_of_getElem? (i := 153) rfl), rfl⟩
theorem ml_X3_30 : Cond.methodLink RX3 30 yX3_restOfDay ∈ lw_good := List.mem_filter.mpr ⟨tm_4 (List.mem_of_getElem? (i := 157) rfl), rfl⟩
theorem ml_X3_34 : Cond.methodLink RX3 34 yJ9_max_7cf53 ∈ lw_good := List.mem_filter.mpr ⟨tm_4 (List.mem_of_getElem? (i := 161) rfl), rfl⟩
theorem ml_X3_78 : Cond.methodLink RX3 78 yX4_tellBack ∈ lw_good := List.mem_filter.mpr ⟨tm_4 (List.mem_of_getElem? (i := 162) rfl), rfl⟩
theorem ml_X3_82 : Cond.methodLink RX3 82 yX4_loadAsTold ∈ lw_good := List.mem_filter.mpr ⟨tm_4 (List.mem_of_getElem? (i := 166) rfl), rfl⟩
theorem ml_X4_51 : Cond.methodLink RX4 51 yX4_outcome ∈ lw_good := List.mem_filter.mpr ⟨tm_4 (List.mem_of_getElem? (i := 170) rfl), rfl⟩
theorem ml_X3_100 : Cond.methodLink RX3 100 yX9_bear ∈ lw_good := List.mem_filter.mpr ⟨tm_4 (List.mem_of_getElem? (i := 173) rfl), rfl⟩
theorem ml_X3_106 : Cond.methodLink RX3 106 yX9_learn ∈ lw_good := List.mem_filter.mpr ⟨tm_4 (List.mem_of_getElem? (i := 177) rfl), rfl⟩
theorem ml_X6_62 : Cond.methodLink RX6 62 yX9_tell ∈ lw_good := List.mem_filter.mpr ⟨tm_4 (List.mem_of_getElem? (i := 181) rfl), rfl⟩
theorem ml_X9_56 : Cond.methodLink RX9 56 yX9_hasNewsFor ∈ lw_good := List.mem_filter.mpr ⟨tm_4 (List.mem_of_getElem? (i := 185) rfl), rfl⟩
theorem ml_X9_52 : Cond.methodLink RX9 52 yX9_hasFallen ∈ lw_good := List.mem_filter.mpr ⟨tm_4 (List.mem_of_getElem? (i := 189) rfl), rfl⟩
theorem ml_X9_60 : Cond.methodLink RX9 60 yX9_hearingsOf ∈ lw_good := List.mem_filter.mpr ⟨tm_4 (List.mem_of_getElem? (i := 190) rfl), rfl⟩
theorem ml_X9_64 : Cond.methodLink RX9 64 yJ9_min_7cf53 ∈ lw_good := List.mem_filter.mpr ⟨tm_4 (List.mem_of_getElem? (i := 194) rfl), rfl⟩
theorem ml_X9_69 : Cond.methodLink RX9 69 yX9_learn ∈ lw_good := List.mem_filter.mpr ⟨tm_4 (List.mem_of_getElem? (i := 195) rfl), rfl⟩
theorem ml_X6_68 : Cond.methodLink RX6 68 yX3_hold ∈ lw_good := List.mem_filter.mpr ⟨tm_4 (List.mem_of_getElem? (i := 196) rfl), rfl⟩
theorem ml_X6_72 : Cond.methodLink RX6 72 yX9_rest ∈ lw_good := List.mem_filter.mpr ⟨tm_4 (List.mem_of_getElem? (i := 200) rfl), rfl⟩
theorem ml_X6_76 : Cond.methodLink RX6 76 yX3_dawn ∈ lw_good := List.mem_filter.mpr ⟨tm_4 (List.mem_of_getElem? (i := 204) rfl), rfl⟩
theorem ml_X3_109 : Cond.methodLink RX3 109 yX3_passDay ∈ lw_good := List.mem_filter.mpr ⟨tm_4 (List.mem_of_getElem? (i := 208) rfl), rfl⟩
theorem ml_L_144 : Cond.methodLink RL 144 yL_book ∈ lw_good := List.mem_filter.mpr ⟨tm_4 (List.mem_of_getElem? (i := 212) rfl), rfl⟩
theorem ml_L_21 : Cond.methodLink RL 21 yX11_book ∈ lw_good := List.mem_filter.mpr ⟨tm_4 (List.mem_of_getElem? (i := 215) rfl), rfl⟩
theorem ml_X11_166 : Cond.methodLink RX11 166 yX0_readFrom ∈ lw_good := List.mem_filter.mpr ⟨tm_4 (List.mem_of_getElem? (i := 219) rfl), rfl⟩
theorem ml_X0_34 : Cond.methodLink RX0 34 yX10_isAtEnd ∈ lw_good := List.mem_filter.mpr ⟨tm_4 (List.mem_of_getElem? (i := 223) rfl), rfl⟩
theorem ml_X0_40 : Cond.methodLink RX0 40 yX0_readLine ∈ lw_good := List.mem_filter.mpr ⟨tm_4 (List.mem_of_getElem? (i := 224) rfl), rfl⟩
theorem ml_X0_51 : Cond.methodLink RX0 51 yX10_needNumber ∈ lw_good := List.mem_filter.mpr ⟨tm_4 (List.mem_of_getElem? (i := 228) rfl), rfl⟩
theorem ml_X0_55 : Cond.methodLink RX0 55 yX0_hasLine ∈ lw_good := List.mem_filter.mpr ⟨tm_4 (List.mem_of_getElem? (i := 229) rfl), rfl⟩
theorem ml_X0_59 : Cond.methodLink RX0 59 yX10_fail ∈ lw_good := List.mem_filter.mpr ⟨tm_4 (List.mem_of_getElem? (i := 233) rfl), rfl⟩
theorem ml_X0_44 : Cond.methodLink RX0 44 yX10_needSign ∈ lw_good := List.mem_filter.mpr ⟨tm_4 (List.mem_of_getElem? (i := 234) rfl), rfl⟩
theorem ml_X11_169 : Cond.methodLink RX11 169 yX0_copyFrom ∈ lw_good := List.mem_filter.mpr ⟨tm_4 (List.mem_of_getElem? (i := 235) rfl), rfl⟩
theorem ml_X0_28 : Cond.methodLink RX0 28 arraycopyName ∈ lw_good := List.mem_filter.mpr ⟨tm_4 (List.mem_of_getElem? (i := 239) rfl), rfl⟩
theorem ml_L_155 : Cond.methodLink RL 155 yL_told ∈ lw_good := List.mem_filter.mpr ⟨tm_5 (List.mem_of_getElem? (i := 0) rfl), rfl⟩
theorem ml_L_24 : Cond.methodLink RL 24 yX11_told ∈ lw_good := List.mem_filter.mpr ⟨tm_5 (List.mem_of_getElem? (i := 3) rfl), rfl⟩
theorem ml_X11_181 : Cond.methodLink RX11 181 yX11_needWhat ∈ lw_good := List.mem_filter.mpr ⟨tm_5 (List.mem_of_getElem? (i := 7) rfl), rfl⟩
theorem ml_X11_201 : Cond.methodLink RX11 201 yX9_tiredTogether ∈ lw_good := List.mem_filter.mpr ⟨tm_5 (List.mem_of_getElem? (i := 11) rfl), rfl⟩
theorem ml_X11_204 : Cond.methodLink RX11 204 yX9_borneTogether ∈ lw_good := List.mem_filter.mpr ⟨tm_5 (List.mem_of_getElem? (i := 15) rfl), rfl⟩
theorem ml_X11_207 : Cond.methodLink RX11 207 yX9_knownByAny ∈ lw_good := List.mem_filter.mpr ⟨tm_5 (List.mem_of_getElem? (i := 19) rfl), rfl⟩
theorem ml_X11_210 : Cond.methodLink RX11 210 yX3_knownByAllWhoStand ∈ lw_good := List.mem_filter.mpr ⟨tm_5 (List.mem_of_getElem? (i := 23) rfl), rfl⟩
theorem ml_X3_116 : Cond.methodLink RX3 116 yX1_councilBits ∈ lw_good := List.mem_filter.mpr ⟨tm_5 (List.mem_of_getElem? (i := 27) rfl), rfl⟩
theorem ml_L_158 : Cond.methodLink RL 158 yL_back ∈ lw_good := List.mem_filter.mpr ⟨tm_5 (List.mem_of_getElem? (i := 31) rfl), rfl⟩
theorem ml_L_27 : Cond.methodLink RL 27 yX11_back ∈ lw_good := List.mem_filter.mpr ⟨tm_5 (List.mem_of_getElem? (i := 35) rfl), rfl⟩
theorem ml_X11_214 : Cond.methodLink RX11 214 yX11_needBack ∈ lw_good := List.mem_filter.mpr ⟨tm_5 (List.mem_of_getElem? (i := 39) rfl), rfl⟩
theorem ml_X11_227 : Cond.methodLink RX11 227 yX9_hasFallen ∈ lw_good := List.mem_filter.mpr ⟨tm_5 (List.mem_of_getElem? (i := 59) rfl), rfl⟩
theorem ml_L_162 : Cond.methodLink RL 162 yL_council ∈ lw_good := List.mem_filter.mpr ⟨tm_5 (List.mem_of_getElem? (i := 60) rfl), rfl⟩
theorem ml_L_33 : Cond.methodLink RL 33 yX11_council ∈ lw_good := List.mem_filter.mpr ⟨tm_5 (List.mem_of_getElem? (i := 63) rfl), rfl⟩
theorem ml_X11_240 : Cond.methodLink RX11 240 yX11_needCouncil ∈ lw_good := List.mem_filter.mpr ⟨tm_5 (List.mem_of_getElem? (i := 67) rfl), rfl⟩
theorem ml_X11_252 : Cond.methodLink RX11 252 yX11_backsWithBit ∈ lw_good := List.mem_filter.mpr ⟨tm_5 (List.mem_of_getElem? (i := 72) rfl), rfl⟩
theorem ml_L_165 : Cond.methodLink RL 165 yL_hearing ∈ lw_good := List.mem_filter.mpr ⟨tm_5 (List.mem_of_getElem? (i := 76) rfl), rfl⟩
theorem ml_L_36 : Cond.methodLink RL 36 yX11_hearing ∈ lw_good := List.mem_filter.mpr ⟨tm_5 (List.mem_of_getElem? (i := 79) rfl), rfl⟩
theorem ml_X11_256 : Cond.methodLink RX11 256 yX9_hearingsOf ∈ lw_good := List.mem_filter.mpr ⟨tm_5 (List.mem_of_getElem? (i := 83) rfl), rfl⟩
theorem ml_L_168 : Cond.methodLink RL 168 yL_load ∈ lw_good := List.mem_filter.mpr ⟨tm_5 (List.mem_of_getElem? (i := 84) rfl), rfl⟩
theorem ml_L_39 : Cond.methodLink RL 39 yX11_load ∈ lw_good := List.mem_filter.mpr ⟨tm_5 (List.mem_of_getElem? (i := 87) rfl), rfl⟩
theorem ml_X11_260 : Cond.methodLink RX11 260 yX3_loadOn ∈ lw_good := List.mem_filter.mpr ⟨tm_5 (List.mem_of_getElem? (i := 91) rfl), rfl⟩
theorem ml_L_171 : Cond.methodLink RL 171 yL_burden ∈ lw_good := List.mem_filter.mpr ⟨tm_5 (List.mem_of_getElem? (i := 92) rfl), rfl⟩
theorem ml_L_42 : Cond.methodLink RL 42 yX11_burden ∈ lw_good := List.mem_filter.mpr ⟨tm_5 (List.mem_of_getElem? (i := 95) rfl), rfl⟩
theorem ml_X11_264 : Cond.methodLink RX11 264 yX3_burdenOn ∈ lw_good := List.mem_filter.mpr ⟨tm_5 (List.mem_of_getElem? (i := 99) rfl), rfl⟩
theorem ml_L_174 : Cond.methodLink RL 174 yL_would ∈ lw_good := List.mem_filter.mpr ⟨tm_5 (List.mem_of_getElem? (i := 100) rfl), rfl⟩
theorem ml_L_45 : Cond.methodLink RL 45 yX11_would ∈ lw_good := List.mem_filter.mpr ⟨tm_5 (List.mem_of_getElem? (i := 103) rfl), rfl⟩
theorem ml_X11_271 : Cond.methodLink RX11 271 yX4_tellKing ∈ lw_good := List.mem_filter.mpr ⟨tm_5 (List.mem_of_getElem? (i := 107) rfl), rfl⟩
theorem ml_X11_274 : Cond.methodLink RX11 274 yX4_tellCouncil ∈ lw_good := List.mem_filter.mpr ⟨tm_5 (List.mem_of_getElem? (i := 108) rfl), rfl⟩
theorem ml_X11_277 : Cond.methodLink RX11 277 yX4_tellBack ∈ lw_good := List.mem_filter.mpr ⟨tm_5 (List.mem_of_getElem? (i := 109) rfl), rfl⟩
theorem ml_X11_281 : Cond.methodLink RX11 281 yX4_loadAsTold ∈ lw_good := List.mem_filter.mpr ⟨tm_5 (List.mem_of_getElem? (i := 110) rfl), rfl⟩
theorem ml_L_178 : Cond.methodLink RL 178 yL_ahead ∈ lw_good := List.mem_filter.mpr ⟨tm_5 (List.mem_of_getElem? (i := 111) rfl), rfl⟩
theorem ml_L_49 : Cond.methodLink RL 49 yX11_ahead ∈ lw_good := List.mem_filter.mpr ⟨tm_5 (List.mem_of_getElem? (i := 114) rfl), rfl⟩
theorem ml_X11_284 : Cond.methodLink RX11 284 yX3_tiredIn ∈ lw_good := List.mem_filter.mpr ⟨tm_5 (List.mem_of_getElem? (i := 118) rfl), rfl⟩
theorem ml_L_181 : Cond.methodLink RL 181 yL_could ∈ lw_good := List.mem_filter.mpr ⟨tm_5 (List.mem_of_getElem? (i := 119) rfl), rfl⟩
theorem ml_L_52 : Cond.methodLink RL 52 yX11_could ∈ lw_good := List.mem_filter.mpr ⟨tm_5 (List.mem_of_getElem? (i := 122) rfl), rfl⟩
theorem ml_X11_288 : Cond.methodLink RX11 288 yX3_bearsIn ∈ lw_good := List.mem_filter.mpr ⟨tm_5 (List.mem_of_getElem? (i := 126) rfl), rfl⟩
theorem ml_L_184 : Cond.methodLink RL 184 yL_roster ∈ lw_good := List.mem_filter.mpr ⟨tm_5 (List.mem_of_getElem? (i := 130) rfl), rfl⟩
theorem ml_L_55 : Cond.methodLink RL 55 yX11_roster ∈ lw_good := List.mem_filter.mpr ⟨tm_5 (List.mem_of_getElem? (i := 133) rfl), rfl⟩
theorem ml_X11_292 : Cond.methodLink RX11 292 yX11_needRosterBits ∈ lw_good := List.mem_filter.mpr ⟨tm_5 (List.mem_of_getElem? (i := 137) rfl), rfl⟩
theorem ml_X11_314 : Cond.methodLink RX11 314 yX1_councilBits ∈ lw_good := List.mem_filter.mpr ⟨tm_5 (List.mem_of_getElem? (i := 141) rfl), rfl⟩
theorem ml_X11_317 : Cond.methodLink RX11 317 yX11_needBits ∈ lw_good := List.mem_filter.mpr ⟨tm_5 (List.mem_of_getElem? (i := 142) rfl), rfl⟩
theorem ml_X11_309 : Cond.methodLink RX11 309 yJ6_bitCount_0f7a4 ∈ lw_good := List.mem_filter.mpr ⟨tm_5 (List.mem_of_getElem? (i := 147) rfl), rfl⟩
theorem ml_X11_295 : Cond.methodLink RX11 295 yX8_search ∈ lw_good := List.mem_filter.mpr ⟨tm_5 (List.mem_of_getElem? (i := 148) rfl), rfl⟩
theorem ml_X8_54 : Cond.methodLink RX8 54 yX9_hasFallen ∈ lw_good := List.mem_filter.mpr ⟨tm_5 (List.mem_of_getElem? (i := 152) rfl), rfl⟩
theorem ml_X8_66 : Cond.methodLink RX8 66 yX8_weigh ∈ lw_good := List.mem_filter.mpr ⟨tm_5 (List.mem_of_getElem? (i := 153) rfl), rfl⟩
theorem ml_X8_74 : Cond.methodLink RX8 74 yX3_burdenOn ∈ lw_good := List.mem_filter.mpr ⟨tm_5 (List.mem_of_getElem? (i := 157) rfl), rfl⟩
theorem ml_X8_70 : Cond.methodLink RX8 70 yX8_give ∈ lw_good := List.mem_filter.mpr ⟨tm_5 (List.mem_of_getElem? (i := 158) rfl), rfl⟩
theorem ml_X8_78 : Cond.methodLink RX8 78 arraycopyName ∈ lw_good := List.mem_filter.mpr ⟨tm_5 (List.mem_of_getElem? (i := 162) rfl), rfl⟩
theorem ml_L_187 : Cond.methodLink RL 187 yL_gives ∈ lw_good := List.mem_filter.mpr ⟨tm_5 (List.mem_of_getElem? (i := 163) rfl), rfl⟩
theorem ml_L_58 : Cond.methodLink RL 58 yX11_gives ∈ lw_good := List.mem_filter.mpr ⟨tm_5 (List.mem_of_getElem? (i := 166) rfl), rfl⟩
theorem ml_X11_302 : Cond.methodLink RX11 302 yX8_givenTo ∈ lw_good := List.mem_filter.mpr ⟨tm_5 (List.mem_of_getElem? (i := 170) rfl), rfl⟩
theorem ml_L_190 : Cond.methodLink RL 190 yL_word ∈ lw_good := List.mem_filter.mpr ⟨tm_5 (List.mem_of_getElem? (i := 174) rfl), rfl⟩
theorem ml_L_61 : Cond.methodLink RL 61 yX11_word ∈ lw_good := List.mem_filter.mpr ⟨tm_5 (List.mem_of_getElem? (i := 177) rfl), rfl⟩
theorem ml_X11_306 : Cond.methodLink RX11 306 yX1_backBits ∈ lw_good := List.mem_filter.mpr ⟨tm_5 (List.mem_of_getElem? (i := 181) rfl), rfl⟩
theorem ml_L_193 : Cond.methodLink RL 193 yL_ease ∈ lw_good := List.mem_filter.mpr ⟨tm_5 (List.mem_of_getElem? (i := 185) rfl), rfl⟩
theorem ml_L_64 : Cond.methodLink RL 64 yX11_ease ∈ lw_good := List.mem_filter.mpr ⟨tm_5 (List.mem_of_getElem? (i := 188) rfl), rfl⟩
theorem ml_X11_320 : Cond.methodLink RX11 320 yX11_isEasedTo ∈ lw_good := List.mem_filter.mpr ⟨tm_5 (List.mem_of_getElem? (i := 192) rfl), rfl⟩
theorem ml_X11_388 : Cond.methodLink RX11 388 yJ9_max_7cf53 ∈ lw_good := List.mem_filter.mpr ⟨tm_5 (List.mem_of_getElem? (i := 196) rfl), rfl⟩
theorem ml_L_196 : Cond.methodLink RL 196 yL_fits ∈ lw_good := List.mem_filter.mpr ⟨tm_5 (List.mem_of_getElem? (i := 197) rfl), rfl⟩
theorem ml_L_67 : Cond.methodLink RL 67 yX11_fits ∈ lw_good := List.mem_filter.mpr ⟨tm_5 (List.mem_of_getElem? (i := 200) rfl), rfl⟩
theorem ml_X11_324 : Cond.methodLink RX11 324 yX2_findFits ∈ lw_good := List.mem_filter.mpr ⟨tm_5 (List.mem_of_getElem? (i := 204) rfl), rfl⟩
theorem ml_X2_44 : Cond.methodLink RX2 44 yX2_added ∈ lw_good := List.mem_filter.mpr ⟨tm_5 (List.mem_of_getElem? (i := 208) rfl), rfl⟩
theorem ml_X2_72 : Cond.methodLink RX2 72 yX9_hasFallen ∈ lw_good := List.mem_filter.mpr ⟨tm_5 (List.mem_of_getElem? (i := 212) rfl), rfl⟩
theorem ml_X2_77 : Cond.methodLink RX2 77 yX3_burdenOn ∈ lw_good := List.mem_filter.mpr ⟨tm_5 (List.mem_of_getElem? (i := 213) rfl), rfl⟩
theorem ml_X2_48 : Cond.methodLink RX2 48 yX2_isRight ∈ lw_good := List.mem_filter.mpr ⟨tm_5 (List.mem_of_getElem? (i := 214) rfl), rfl⟩
theorem ml_X2_62 : Cond.methodLink RX2 62 yX0_hasLine ∈ lw_good := List.mem_filter.mpr ⟨tm_5 (List.mem_of_getElem? (i := 218) rfl), rfl⟩
theorem ml_L_199 : Cond.methodLink RL 199 yL_look ∈ lw_good := List.mem_filter.mpr ⟨tm_5 (List.mem_of_getElem? (i := 219) rfl), rfl⟩
theorem ml_L_70 : Cond.methodLink RL 70 yX11_look ∈ lw_good := List.mem_filter.mpr ⟨tm_5 (List.mem_of_getElem? (i := 222) rfl), rfl⟩
theorem ml_X11_334 : Cond.methodLink RX11 334 yX2_findLook ∈ lw_good := List.mem_filter.mpr ⟨tm_5 (List.mem_of_getElem? (i := 226) rfl), rfl⟩
theorem ml_X2_52 : Cond.methodLink RX2 52 yX2_findFits ∈ lw_good := List.mem_filter.mpr ⟨tm_5 (List.mem_of_getElem? (i := 230) rfl), rfl⟩
theorem ml_X2_68 : Cond.methodLink RX2 68 yX2_worstLeft ∈ lw_good := List.mem_filter.mpr ⟨tm_5 (List.mem_of_getElem? (i := 231) rfl), rfl⟩
theorem ml_X2_85 : Cond.methodLink RX2 85 yJ7_fill_53178 ∈ lw_good := List.mem_filter.mpr ⟨tm_5 (List.mem_of_getElem? (i := 235) rfl), rfl⟩
theorem ml_X2_91 : Cond.methodLink RX2 91 yJ9_max_7cf53 ∈ lw_good := List.mem_filter.mpr ⟨tm_5 (List.mem_of_getElem? (i := 236) rfl), rfl⟩
theorem ml_L_202 : Cond.methodLink RL 202 yL_quorum ∈ lw_good := List.mem_filter.mpr ⟨tm_5 (List.mem_of_getElem? (i := 237) rfl), rfl⟩
theorem ml_L_73 : Cond.methodLink RL 73 yX11_quorum ∈ lw_good := List.mem_filter.mpr ⟨tm_6 (List.mem_of_getElem? (i := 0) rfl), rfl⟩
theorem ml_X11_343 : Cond.methodLink RX11 343 yX11_strengthOf ∈ lw_good := List.mem_filter.mpr ⟨tm_6 (List.mem_of_getElem? (i := 4) rfl), rfl⟩
theorem ml_X11_346 : Cond.methodLink RX11 346 yX11_needsEach ∈ lw_good := List.mem_filter.mpr ⟨tm_6 (List.mem_of_getElem? (i := 8) rfl), rfl⟩
theorem ml_L_205 : Cond.methodLink RL 205 yL_lies ∈ lw_good := List.mem_filter.mpr ⟨tm_6 (List.mem_of_getElem? (i := 12) rfl), rfl⟩
theorem ml_L_76 : Cond.methodLink RL 76 yX11_lies ∈ lw_good := List.mem_filter.mpr ⟨tm_6 (List.mem_of_getElem? (i := 15) rfl), rfl⟩
theorem ml_X11_350 : Cond.methodLink RX11 350 yX11_choices ∈ lw_good := List.mem_filter.mpr ⟨tm_6 (List.mem_of_getElem? (i := 19) rfl), rfl⟩
theorem ml_X11_354 : Cond.methodLink RX11 354 yX11_power ∈ lw_good := List.mem_filter.mpr ⟨tm_6 (List.mem_of_getElem? (i := 22) rfl), rfl⟩
theorem ml_L_209 : Cond.methodLink RL 209 yL_kneel ∈ lw_good := List.mem_filter.mpr ⟨tm_6 (List.mem_of_getElem? (i := 26) rfl), rfl⟩
theorem ml_L_80 : Cond.methodLink RL 80 yX11_kneel ∈ lw_good := List.mem_filter.mpr ⟨tm_6 (List.mem_of_getElem? (i := 29) rfl), rfl⟩
theorem ml_X11_359 : Cond.methodLink RX11 359 yX11_isRest ∈ lw_good := List.mem_filter.mpr ⟨tm_6 (List.mem_of_getElem? (i := 33) rfl), rfl⟩
theorem ml_X11_363 : Cond.methodLink RX11 363 yX11_hasBy ∈ lw_good := List.mem_filter.mpr ⟨tm_6 (List.mem_of_getElem? (i := 36) rfl), rfl⟩
theorem ml_L_213 : Cond.methodLink RL 213 yL_balm ∈ lw_good := List.mem_filter.mpr ⟨tm_6 (List.mem_of_getElem? (i := 39) rfl), rfl⟩
theorem ml_L_84 : Cond.methodLink RL 84 yX11_balm ∈ lw_good := List.mem_filter.mpr ⟨tm_6 (List.mem_of_getElem? (i := 42) rfl), rfl⟩
theorem ml_X11_367 : Cond.methodLink RX11 367 yX11_balmGiven ∈ lw_good := List.mem_filter.mpr ⟨tm_6 (List.mem_of_getElem? (i := 46) rfl), rfl⟩
theorem ml_L_216 : Cond.methodLink RL 216 yL_weariest ∈ lw_good := List.mem_filter.mpr ⟨tm_6 (List.mem_of_getElem? (i := 50) rfl), rfl⟩
theorem ml_L_87 : Cond.methodLink RL 87 yX11_weariest ∈ lw_good := List.mem_filter.mpr ⟨tm_6 (List.mem_of_getElem? (i := 53) rfl), rfl⟩
theorem ml_L_219 : Cond.methodLink RL 219 yL_heaviest ∈ lw_good := List.mem_filter.mpr ⟨tm_6 (List.mem_of_getElem? (i := 57) rfl), rfl⟩
theorem ml_L_90 : Cond.methodLink RL 90 yX11_heaviest ∈ lw_good := List.mem_filter.mpr ⟨tm_6 (List.mem_of_getElem? (i := 60) rfl), rfl⟩
theorem ml_L_222 : Cond.methodLink RL 222 yL_listeners ∈ lw_good := List.mem_filter.mpr ⟨tm_6 (List.mem_of_getElem? (i := 64) rfl), rfl⟩
theorem ml_L_93 : Cond.methodLink RL 93 yX11_listeners ∈ lw_good := List.mem_filter.mpr ⟨tm_6 (List.mem_of_getElem? (i := 67) rfl), rfl⟩
theorem ml_X11_370 : Cond.methodLink RX11 370 yX9_hasNewsFor ∈ lw_good := List.mem_filter.mpr ⟨tm_6 (List.mem_of_getElem? (i := 71) rfl), rfl⟩
theorem ml_L_225 : Cond.methodLink RL 225 yL_ready ∈ lw_good := List.mem_filter.mpr ⟨tm_6 (List.mem_of_getElem? (i := 72) rfl), rfl⟩
theorem ml_L_96 : Cond.methodLink RL 96 yX11_ready ∈ lw_good := List.mem_filter.mpr ⟨tm_6 (List.mem_of_getElem? (i := 75) rfl), rfl⟩
theorem ml_L_228 : Cond.methodLink RL 228 yL_sure ∈ lw_good := List.mem_filter.mpr ⟨tm_6 (List.mem_of_getElem? (i := 79) rfl), rfl⟩
theorem ml_L_99 : Cond.methodLink RL 99 yX11_sure ∈ lw_good := List.mem_filter.mpr ⟨tm_6 (List.mem_of_getElem? (i := 82) rfl), rfl⟩
theorem ml_L_231 : Cond.methodLink RL 231 yL_bearers ∈ lw_good := List.mem_filter.mpr ⟨tm_6 (List.mem_of_getElem? (i := 86) rfl), rfl⟩
theorem ml_L_102 : Cond.methodLink RL 102 yX11_bearers ∈ lw_good := List.mem_filter.mpr ⟨tm_6 (List.mem_of_getElem? (i := 89) rfl), rfl⟩
theorem ml_L_234 : Cond.methodLink RL 234 yL_rumour ∈ lw_good := List.mem_filter.mpr ⟨tm_6 (List.mem_of_getElem? (i := 93) rfl), rfl⟩
theorem ml_L_105 : Cond.methodLink RL 105 yX11_rumour ∈ lw_good := List.mem_filter.mpr ⟨tm_6 (List.mem_of_getElem? (i := 96) rfl), rfl⟩
theorem ml_L_237 : Cond.methodLink RL 237 yL_lied ∈ lw_good := List.mem_filter.mpr ⟨tm_6 (List.mem_of_getElem? (i := 100) rfl), rfl⟩
theorem ml_L_108 : Cond.methodLink RL 108 yX11_lied ∈ lw_good := List.mem_filter.mpr ⟨tm_6 (List.mem_of_getElem? (i := 103) rfl), rfl⟩
theorem ml_L_240 : Cond.methodLink RL 240 yL_reign ∈ lw_good := List.mem_filter.mpr ⟨tm_6 (List.mem_of_getElem? (i := 107) rfl), rfl⟩
theorem ml_L_111 : Cond.methodLink RL 111 yX11_reign ∈ lw_good := List.mem_filter.mpr ⟨tm_6 (List.mem_of_getElem? (i := 110) rfl), rfl⟩
theorem ml_X11_373 : Cond.methodLink RX11 373 yX7_run ∈ lw_good := List.mem_filter.mpr ⟨tm_6 (List.mem_of_getElem? (i := 114) rfl), rfl⟩
theorem ml_X7_22 : Cond.methodLink RX7 22 yX9_copyFrom ∈ lw_good := List.mem_filter.mpr ⟨tm_6 (List.mem_of_getElem? (i := 118) rfl), rfl⟩
theorem ml_X7_47 : Cond.methodLink RX7 47 yX7_bearOrRest ∈ lw_good := List.mem_filter.mpr ⟨tm_6 (List.mem_of_getElem? (i := 119) rfl), rfl⟩
theorem ml_X7_57 : Cond.methodLink RX7 57 yX7_draw ∈ lw_good := List.mem_filter.mpr ⟨tm_6 (List.mem_of_getElem? (i := 123) rfl), rfl⟩
theorem ml_X7_61 : Cond.methodLink RX7 61 yX3_sit ∈ lw_good := List.mem_filter.mpr ⟨tm_6 (List.mem_of_getElem? (i := 128) rfl), rfl⟩
theorem ml_X7_65 : Cond.methodLink RX7 65 yX9_rest ∈ lw_good := List.mem_filter.mpr ⟨tm_6 (List.mem_of_getElem? (i := 129) rfl), rfl⟩
theorem ml_X7_50 : Cond.methodLink RX7 50 yX7_tellByChance ∈ lw_good := List.mem_filter.mpr ⟨tm_6 (List.mem_of_getElem? (i := 130) rfl), rfl⟩
theorem ml_X7_69 : Cond.methodLink RX7 69 yX9_tell ∈ lw_good := List.mem_filter.mpr ⟨tm_6 (List.mem_of_getElem? (i := 134) rfl), rfl⟩
theorem ml_X7_54 : Cond.methodLink RX7 54 yX3_passDay ∈ lw_good := List.mem_filter.mpr ⟨tm_6 (List.mem_of_getElem? (i := 135) rfl), rfl⟩
theorem ml_L_243 : Cond.methodLink RL 243 yL_span ∈ lw_good := List.mem_filter.mpr ⟨tm_6 (List.mem_of_getElem? (i := 136) rfl), rfl⟩
theorem ml_L_115 : Cond.methodLink RL 115 yX11_span ∈ lw_good := List.mem_filter.mpr ⟨tm_6 (List.mem_of_getElem? (i := 139) rfl), rfl⟩
theorem ml_L_134 : Cond.methodLink RL 134 yX12_thrown ∈ lw_good := List.mem_filter.mpr ⟨tm_6 (List.mem_of_getElem? (i := 143) rfl), rfl⟩
theorem ml_L_122 : Cond.methodLink RL 122 yX12_init ∈ lw_good := List.mem_filter.mpr ⟨tm_6 (List.mem_of_getElem? (i := 149) rfl), rfl⟩
theorem ml_X12_11 : Cond.methodLink RX12 11 objectInit ∈ lw_good := List.mem_filter.mpr ⟨tm_6 (List.mem_of_getElem? (i := 152) rfl), rfl⟩
theorem ml_X12_93 : Cond.methodLink RX12 93 yX12_clears ∈ lw_good := List.mem_filter.mpr ⟨tm_6 (List.mem_of_getElem? (i := 153) rfl), rfl⟩
theorem ml_X12_96 : Cond.methodLink RX12 96 yX12_sets ∈ lw_good := List.mem_filter.mpr ⟨tm_6 (List.mem_of_getElem? (i := 157) rfl), rfl⟩
theorem ml_X12_163 : Cond.methodLink RX12 163 yX12_copies ∈ lw_good := List.mem_filter.mpr ⟨tm_6 (List.mem_of_getElem? (i := 161) rfl), rfl⟩
theorem ml_L_127 : Cond.methodLink RL 127 yX12_feed ∈ lw_good := List.mem_filter.mpr ⟨tm_7 (List.mem_of_getElem? (i := 80) rfl), rfl⟩
theorem ml_L_150 : Cond.methodLink RL 150 yX12_fault ∈ lw_good := List.mem_filter.mpr ⟨tm_7 (List.mem_of_getElem? (i := 84) rfl), rfl⟩
theorem ml_L_133 : Cond.methodLink RL 133 yX12_court ∈ lw_good := List.mem_filter.mpr ⟨tm_7 (List.mem_of_getElem? (i := 88) rfl), rfl⟩
theorem ml_X12_192 : Cond.methodLink RX12 192 yX12_may ∈ lw_good := List.mem_filter.mpr ⟨tm_7 (List.mem_of_getElem? (i := 92) rfl), rfl⟩
theorem ml_X12_196 : Cond.methodLink RX12 196 yX12_begins ∈ lw_good := List.mem_filter.mpr ⟨tm_7 (List.mem_of_getElem? (i := 96) rfl), rfl⟩
theorem ml_X12_131 : Cond.methodLink RX12 131 yX12_fine ∈ lw_good := List.mem_filter.mpr ⟨tm_7 (List.mem_of_getElem? (i := 100) rfl), rfl⟩
theorem ml_X12_200 : Cond.methodLink RX12 200 yX12_isMore ∈ lw_good := List.mem_filter.mpr ⟨tm_7 (List.mem_of_getElem? (i := 104) rfl), rfl⟩
theorem ml_X12_114 : Cond.methodLink RX12 114 yX12_here ∈ lw_good := List.mem_filter.mpr ⟨tm_7 (List.mem_of_getElem? (i := 108) rfl), rfl⟩
theorem ml_X12_204 : Cond.methodLink RX12 204 yX12_standsHere ∈ lw_good := List.mem_filter.mpr ⟨tm_7 (List.mem_of_getElem? (i := 113) rfl), rfl⟩
theorem ml_X12_122 : Cond.methodLink RX12 122 yJ0_length_8abf5 ∈ lw_good := List.mem_filter.mpr ⟨tm_7 (List.mem_of_getElem? (i := 117) rfl), rfl⟩
theorem ml_X12_127 : Cond.methodLink RX12 127 yJ0_charAt_5068e ∈ lw_good := List.mem_filter.mpr ⟨tm_7 (List.mem_of_getElem? (i := 118) rfl), rfl⟩
theorem ml_X12_118 : Cond.methodLink RX12 118 yX12_isSmall ∈ lw_good := List.mem_filter.mpr ⟨tm_7 (List.mem_of_getElem? (i := 119) rfl), rfl⟩
theorem ml_X12_208 : Cond.methodLink RX12 208 yX12_wordHere ∈ lw_good := List.mem_filter.mpr ⟨tm_7 (List.mem_of_getElem? (i := 122) rfl), rfl⟩
theorem ml_X12_211 : Cond.methodLink RX12 211 yX12_isRow ∈ lw_good := List.mem_filter.mpr ⟨tm_7 (List.mem_of_getElem? (i := 126) rfl), rfl⟩
theorem ml_X12_183 : Cond.methodLink RX12 183 yX12_of ∈ lw_good := List.mem_filter.mpr ⟨tm_7 (List.mem_of_getElem? (i := 130) rfl), rfl⟩
theorem ml_X12_138 : Cond.methodLink RX12 138 yX12_wrong ∈ lw_good := List.mem_filter.mpr ⟨tm_7 (List.mem_of_getElem? (i := 134) rfl), rfl⟩
theorem ml_X12_214 : Cond.methodLink RX12 214 yX12_isFull ∈ lw_good := List.mem_filter.mpr ⟨tm_7 (List.mem_of_getElem? (i := 138) rfl), rfl⟩
theorem ml_X12_217 : Cond.methodLink RX12 217 yX12_pass ∈ lw_good := List.mem_filter.mpr ⟨tm_7 (List.mem_of_getElem? (i := 142) rfl), rfl⟩
theorem ml_X12_220 : Cond.methodLink RX12 220 yX12_readRow ∈ lw_good := List.mem_filter.mpr ⟨tm_7 (List.mem_of_getElem? (i := 146) rfl), rfl⟩
theorem ml_X12_188 : Cond.methodLink RX12 188 yX12_readNumber ∈ lw_good := List.mem_filter.mpr ⟨tm_7 (List.mem_of_getElem? (i := 150) rfl), rfl⟩
theorem ml_X12_135 : Cond.methodLink RX12 135 yX12_isDigit ∈ lw_good := List.mem_filter.mpr ⟨tm_7 (List.mem_of_getElem? (i := 154) rfl), rfl⟩
theorem ml_X12_223 : Cond.methodLink RX12 223 yX12_sign ∈ lw_good := List.mem_filter.mpr ⟨tm_7 (List.mem_of_getElem? (i := 157) rfl), rfl⟩
theorem ml_X12_226 : Cond.methodLink RX12 226 yX12_result ∈ lw_good := List.mem_filter.mpr ⟨tm_7 (List.mem_of_getElem? (i := 161) rfl), rfl⟩
theorem ml_L_140 : Cond.methodLink RL 140 yX12_law ∈ lw_good := List.mem_filter.mpr ⟨tm_7 (List.mem_of_getElem? (i := 165) rfl), rfl⟩
theorem ml_X12_245 : Cond.methodLink RX12 245 yX12_readSum ∈ lw_good := List.mem_filter.mpr ⟨tm_7 (List.mem_of_getElem? (i := 169) rfl), rfl⟩
theorem ml_X12_233 : Cond.methodLink RX12 233 yX12_readProduct ∈ lw_good := List.mem_filter.mpr ⟨tm_7 (List.mem_of_getElem? (i := 173) rfl), rfl⟩
theorem ml_X12_239 : Cond.methodLink RX12 239 yX12_readUnit ∈ lw_good := List.mem_filter.mpr ⟨tm_7 (List.mem_of_getElem? (i := 177) rfl), rfl⟩
theorem ml_X12_242 : Cond.methodLink RX12 242 yX12_opensOne ∈ lw_good := List.mem_filter.mpr ⟨tm_7 (List.mem_of_getElem? (i := 181) rfl), rfl⟩
theorem ml_X12_236 : Cond.methodLink RX12 236 yX12_emit ∈ lw_good := List.mem_filter.mpr ⟨tm_7 (List.mem_of_getElem? (i := 185) rfl), rfl⟩
theorem ml_X12_266 : Cond.methodLink RX12 266 yX12_readTwo ∈ lw_good := List.mem_filter.mpr ⟨tm_7 (List.mem_of_getElem? (i := 190) rfl), rfl⟩
theorem ml_X12_271 : Cond.methodLink RX12 271 yX12_factHere ∈ lw_good := List.mem_filter.mpr ⟨tm_7 (List.mem_of_getElem? (i := 195) rfl), rfl⟩
theorem ml_L_143 : Cond.methodLink RL 143 yX12_work ∈ lw_good := List.mem_filter.mpr ⟨tm_7 (List.mem_of_getElem? (i := 207) rfl), rfl⟩
theorem ml_X12_298 : Cond.methodLink RX12 298 yX12_readStep ∈ lw_good := List.mem_filter.mpr ⟨tm_7 (List.mem_of_getElem? (i := 211) rfl), rfl⟩
theorem ml_X12_301 : Cond.methodLink RX12 301 yX12_stepOf ∈ lw_good := List.mem_filter.mpr ⟨tm_7 (List.mem_of_getElem? (i := 215) rfl), rfl⟩
theorem ml_X12_304 : Cond.methodLink RX12 304 yX12_readAgain ∈ lw_good := List.mem_filter.mpr ⟨tm_7 (List.mem_of_getElem? (i := 223) rfl), rfl⟩
theorem ml_X12_294 : Cond.methodLink RX12 294 yX12_tellsStep ∈ lw_good := List.mem_filter.mpr ⟨tm_7 (List.mem_of_getElem? (i := 227) rfl), rfl⟩
theorem ml_X12_307 : Cond.methodLink RX12 307 yX12_readBack ∈ lw_good := List.mem_filter.mpr ⟨tm_7 (List.mem_of_getElem? (i := 231) rfl), rfl⟩
theorem ml_X12_310 : Cond.methodLink RX12 310 yX12_take ∈ lw_good := List.mem_filter.mpr ⟨tm_7 (List.mem_of_getElem? (i := 235) rfl), rfl⟩
theorem ml_X12_322 : Cond.methodLink RX12 322 yX12_goesSteps ∈ lw_good := List.mem_filter.mpr ⟨tm_7 (List.mem_of_getElem? (i := 239) rfl), rfl⟩
theorem ml_X12_325 : Cond.methodLink RX12 325 yX12_isDone ∈ lw_good := List.mem_filter.mpr ⟨tm_8 (List.mem_of_getElem? (i := 3) rfl), rfl⟩
theorem ml_X12_354 : Cond.methodLink RX12 354 yX12_isSat ∈ lw_good := List.mem_filter.mpr ⟨tm_8 (List.mem_of_getElem? (i := 7) rfl), rfl⟩
theorem ml_X12_348 : Cond.methodLink RX12 348 yX12_burdenBy ∈ lw_good := List.mem_filter.mpr ⟨tm_8 (List.mem_of_getElem? (i := 11) rfl), rfl⟩
theorem ml_X12_345 : Cond.methodLink RX12 345 yX12_loadBy ∈ lw_good := List.mem_filter.mpr ⟨tm_8 (List.mem_of_getElem? (i := 15) rfl), rfl⟩
theorem ml_X12_335 : Cond.methodLink RX12 335 yX12_knownBy ∈ lw_good := List.mem_filter.mpr ⟨tm_8 (List.mem_of_getElem? (i := 19) rfl), rfl⟩
theorem ml_X12_329 : Cond.methodLink RX12 329 yX12_heardOf ∈ lw_good := List.mem_filter.mpr ⟨tm_8 (List.mem_of_getElem? (i := 23) rfl), rfl⟩
theorem ml_X12_338 : Cond.methodLink RX12 338 yX12_ones ∈ lw_good := List.mem_filter.mpr ⟨tm_8 (List.mem_of_getElem? (i := 27) rfl), rfl⟩
theorem ml_X12_341 : Cond.methodLink RX12 341 yX12_loadOf ∈ lw_good := List.mem_filter.mpr ⟨tm_8 (List.mem_of_getElem? (i := 30) rfl), rfl⟩
theorem ml_X12_332 : Cond.methodLink RX12 332 yX12_loadNow ∈ lw_good := List.mem_filter.mpr ⟨tm_8 (List.mem_of_getElem? (i := 34) rfl), rfl⟩
theorem ml_X12_278 : Cond.methodLink RX12 278 yX12_valueNow ∈ lw_good := List.mem_filter.mpr ⟨tm_8 (List.mem_of_getElem? (i := 38) rfl), rfl⟩
theorem ml_X12_274 : Cond.methodLink RX12 274 yX12_both ∈ lw_good := List.mem_filter.mpr ⟨tm_8 (List.mem_of_getElem? (i := 42) rfl), rfl⟩
theorem ml_X12_358 : Cond.methodLink RX12 358 yX12_isToldOn ∈ lw_good := List.mem_filter.mpr ⟨tm_8 (List.mem_of_getElem? (i := 45) rfl), rfl⟩
theorem ml_X12_351 : Cond.methodLink RX12 351 yX12_newsOf ∈ lw_good := List.mem_filter.mpr ⟨tm_8 (List.mem_of_getElem? (i := 49) rfl), rfl⟩
theorem ml_X12_361 : Cond.methodLink RX12 361 yX12_isRaised ∈ lw_good := List.mem_filter.mpr ⟨tm_8 (List.mem_of_getElem? (i := 53) rfl), rfl⟩
theorem ml_X12_364 : Cond.methodLink RX12 364 yX12_isRested ∈ lw_good := List.mem_filter.mpr ⟨tm_8 (List.mem_of_getElem? (i := 57) rfl), rfl⟩
theorem ml_X12_367 : Cond.methodLink RX12 367 yX12_passes ∈ lw_good := List.mem_filter.mpr ⟨tm_8 (List.mem_of_getElem? (i := 61) rfl), rfl⟩
theorem ml_L_146 : Cond.methodLink RL 146 yX12_book ∈ lw_good := List.mem_filter.mpr ⟨tm_8 (List.mem_of_getElem? (i := 65) rfl), rfl⟩
theorem ml_L_154 : Cond.methodLink RL 154 yX12_undo ∈ lw_good := List.mem_filter.mpr ⟨tm_8 (List.mem_of_getElem? (i := 69) rfl), rfl⟩
theorem ml_L_157 : Cond.methodLink RL 157 yX12_told ∈ lw_good := List.mem_filter.mpr ⟨tm_8 (List.mem_of_getElem? (i := 73) rfl), rfl⟩
theorem ml_X12_373 : Cond.methodLink RX12 373 yX12_within ∈ lw_good := List.mem_filter.mpr ⟨tm_8 (List.mem_of_getElem? (i := 77) rfl), rfl⟩
theorem ml_X12_370 : Cond.methodLink RX12 370 yX12_bitsOf ∈ lw_good := List.mem_filter.mpr ⟨tm_8 (List.mem_of_getElem? (i := 80) rfl), rfl⟩
theorem ml_X12_376 : Cond.methodLink RX12 376 yX12_sumOf ∈ lw_good := List.mem_filter.mpr ⟨tm_8 (List.mem_of_getElem? (i := 84) rfl), rfl⟩
theorem ml_X12_379 : Cond.methodLink RX12 379 yX12_knownAny ∈ lw_good := List.mem_filter.mpr ⟨tm_8 (List.mem_of_getElem? (i := 88) rfl), rfl⟩
theorem ml_X12_382 : Cond.methodLink RX12 382 yX12_knownAll ∈ lw_good := List.mem_filter.mpr ⟨tm_8 (List.mem_of_getElem? (i := 92) rfl), rfl⟩
theorem ml_L_161 : Cond.methodLink RL 161 yX12_back ∈ lw_good := List.mem_filter.mpr ⟨tm_8 (List.mem_of_getElem? (i := 96) rfl), rfl⟩
theorem ml_X12_385 : Cond.methodLink RX12 385 yX12_isBack ∈ lw_good := List.mem_filter.mpr ⟨tm_8 (List.mem_of_getElem? (i := 100) rfl), rfl⟩
theorem ml_L_164 : Cond.methodLink RL 164 yX12_council ∈ lw_good := List.mem_filter.mpr ⟨tm_8 (List.mem_of_getElem? (i := 104) rfl), rfl⟩
theorem ml_X12_388 : Cond.methodLink RX12 388 yX12_isCouncil ∈ lw_good := List.mem_filter.mpr ⟨tm_8 (List.mem_of_getElem? (i := 108) rfl), rfl⟩
theorem ml_L_167 : Cond.methodLink RL 167 yX12_hearing ∈ lw_good := List.mem_filter.mpr ⟨tm_8 (List.mem_of_getElem? (i := 112) rfl), rfl⟩
theorem ml_L_170 : Cond.methodLink RL 170 yX12_load ∈ lw_good := List.mem_filter.mpr ⟨tm_8 (List.mem_of_getElem? (i := 116) rfl), rfl⟩
theorem ml_L_173 : Cond.methodLink RL 173 yX12_burden ∈ lw_good := List.mem_filter.mpr ⟨tm_8 (List.mem_of_getElem? (i := 120) rfl), rfl⟩
theorem ml_L_177 : Cond.methodLink RL 177 yX12_would ∈ lw_good := List.mem_filter.mpr ⟨tm_8 (List.mem_of_getElem? (i := 124) rfl), rfl⟩
theorem ml_L_180 : Cond.methodLink RL 180 yX12_ahead ∈ lw_good := List.mem_filter.mpr ⟨tm_8 (List.mem_of_getElem? (i := 128) rfl), rfl⟩
theorem ml_L_183 : Cond.methodLink RL 183 yX12_could ∈ lw_good := List.mem_filter.mpr ⟨tm_8 (List.mem_of_getElem? (i := 132) rfl), rfl⟩
theorem ml_X12_391 : Cond.methodLink RX12 391 yX12_bears ∈ lw_good := List.mem_filter.mpr ⟨tm_8 (List.mem_of_getElem? (i := 136) rfl), rfl⟩
theorem ml_L_227 : Cond.methodLink RL 227 yX12_ready ∈ lw_good := List.mem_filter.mpr ⟨tm_8 (List.mem_of_getElem? (i := 140) rfl), rfl⟩
theorem ml_L_186 : Cond.methodLink RL 186 yX12_roster ∈ lw_good := List.mem_filter.mpr ⟨tm_8 (List.mem_of_getElem? (i := 144) rfl), rfl⟩
theorem ml_X12_404 : Cond.methodLink RX12 404 yX12_isFewCouncils ∈ lw_good := List.mem_filter.mpr ⟨tm_8 (List.mem_of_getElem? (i := 148) rfl), rfl⟩
theorem ml_X12_407 : Cond.methodLink RX12 407 yX12_laysRoster ∈ lw_good := List.mem_filter.mpr ⟨tm_8 (List.mem_of_getElem? (i := 152) rfl), rfl⟩
theorem ml_X12_398 : Cond.methodLink RX12 398 yX12_places ∈ lw_good := List.mem_filter.mpr ⟨tm_8 (List.mem_of_getElem? (i := 156) rfl), rfl⟩
theorem ml_X12_401 : Cond.methodLink RX12 401 yX12_togetherFor ∈ lw_good := List.mem_filter.mpr ⟨tm_8 (List.mem_of_getElem? (i := 161) rfl), rfl⟩
theorem ml_L_189 : Cond.methodLink RL 189 yX12_gives ∈ lw_good := List.mem_filter.mpr ⟨tm_8 (List.mem_of_getElem? (i := 165) rfl), rfl⟩
theorem ml_X12_410 : Cond.methodLink RX12 410 yX12_isSo ∈ lw_good := List.mem_filter.mpr ⟨tm_8 (List.mem_of_getElem? (i := 169) rfl), rfl⟩
theorem ml_L_192 : Cond.methodLink RL 192 yX12_word ∈ lw_good := List.mem_filter.mpr ⟨tm_8 (List.mem_of_getElem? (i := 173) rfl), rfl⟩
theorem ml_L_195 : Cond.methodLink RL 195 yX12_ease ∈ lw_good := List.mem_filter.mpr ⟨tm_8 (List.mem_of_getElem? (i := 177) rfl), rfl⟩
theorem ml_X12_413 : Cond.methodLink RX12 413 yX12_hoursAbove ∈ lw_good := List.mem_filter.mpr ⟨tm_8 (List.mem_of_getElem? (i := 181) rfl), rfl⟩
theorem ml_L_198 : Cond.methodLink RL 198 yX12_fits ∈ lw_good := List.mem_filter.mpr ⟨tm_8 (List.mem_of_getElem? (i := 185) rfl), rfl⟩
theorem ml_X12_419 : Cond.methodLink RX12 419 yX12_isFit ∈ lw_good := List.mem_filter.mpr ⟨tm_8 (List.mem_of_getElem? (i := 189) rfl), rfl⟩
theorem ml_X12_416 : Cond.methodLink RX12 416 yX12_tiredThen ∈ lw_good := List.mem_filter.mpr ⟨tm_8 (List.mem_of_getElem? (i := 193) rfl), rfl⟩
theorem ml_L_201 : Cond.methodLink RL 201 yX12_look ∈ lw_good := List.mem_filter.mpr ⟨tm_8 (List.mem_of_getElem? (i := 197) rfl), rfl⟩
theorem ml_X12_422 : Cond.methodLink RX12 422 yX12_worstOf ∈ lw_good := List.mem_filter.mpr ⟨tm_8 (List.mem_of_getElem? (i := 201) rfl), rfl⟩
theorem ml_L_204 : Cond.methodLink RL 204 yX12_quorum ∈ lw_good := List.mem_filter.mpr ⟨tm_8 (List.mem_of_getElem? (i := 205) rfl), rfl⟩
theorem ml_X12_425 : Cond.methodLink RX12 425 yX12_standing ∈ lw_good := List.mem_filter.mpr ⟨tm_8 (List.mem_of_getElem? (i := 209) rfl), rfl⟩
theorem ml_X12_428 : Cond.methodLink RX12 428 yX12_strengthOf ∈ lw_good := List.mem_filter.mpr ⟨tm_8 (List.mem_of_getElem? (i := 213) rfl), rfl⟩
theorem ml_L_208 : Cond.methodLink RL 208 yX12_lies ∈ lw_good := List.mem_filter.mpr ⟨tm_8 (List.mem_of_getElem? (i := 217) rfl), rfl⟩
theorem ml_X12_433 : Cond.methodLink RX12 433 yX12_least ∈ lw_good := List.mem_filter.mpr ⟨tm_8 (List.mem_of_getElem? (i := 222) rfl), rfl⟩
theorem ml_L_212 : Cond.methodLink RL 212 yX12_kneel ∈ lw_good := List.mem_filter.mpr ⟨tm_8 (List.mem_of_getElem? (i := 225) rfl), rfl⟩
theorem ml_X12_436 : Cond.methodLink RX12 436 yX12_hasBy ∈ lw_good := List.mem_filter.mpr ⟨tm_8 (List.mem_of_getElem? (i := 229) rfl), rfl⟩
theorem ml_L_215 : Cond.methodLink RL 215 yX12_balm ∈ lw_good := List.mem_filter.mpr ⟨tm_8 (List.mem_of_getElem? (i := 232) rfl), rfl⟩
theorem ml_X12_443 : Cond.methodLink RX12 443 yX12_balmBy ∈ lw_good := List.mem_filter.mpr ⟨tm_8 (List.mem_of_getElem? (i := 236) rfl), rfl⟩
theorem ml_X12_440 : Cond.methodLink RX12 440 yX12_bounded ∈ lw_good := List.mem_filter.mpr ⟨tm_9 (List.mem_of_getElem? (i := 0) rfl), rfl⟩
theorem ml_L_218 : Cond.methodLink RL 218 yX12_weariest ∈ lw_good := List.mem_filter.mpr ⟨tm_9 (List.mem_of_getElem? (i := 4) rfl), rfl⟩
theorem ml_L_221 : Cond.methodLink RL 221 yX12_heaviest ∈ lw_good := List.mem_filter.mpr ⟨tm_9 (List.mem_of_getElem? (i := 8) rfl), rfl⟩
theorem ml_L_224 : Cond.methodLink RL 224 yX12_listeners ∈ lw_good := List.mem_filter.mpr ⟨tm_9 (List.mem_of_getElem? (i := 12) rfl), rfl⟩
theorem ml_L_230 : Cond.methodLink RL 230 yX12_sure ∈ lw_good := List.mem_filter.mpr ⟨tm_9 (List.mem_of_getElem? (i := 16) rfl), rfl⟩
theorem ml_L_233 : Cond.methodLink RL 233 yX12_bearers ∈ lw_good := List.mem_filter.mpr ⟨tm_9 (List.mem_of_getElem? (i := 20) rfl), rfl⟩
theorem ml_L_236 : Cond.methodLink RL 236 yX12_rumour ∈ lw_good := List.mem_filter.mpr ⟨tm_9 (List.mem_of_getElem? (i := 24) rfl), rfl⟩
theorem ml_L_239 : Cond.methodLink RL 239 yX12_lied ∈ lw_good := List.mem_filter.mpr ⟨tm_9 (List.mem_of_getElem? (i := 28) rfl), rfl⟩
theorem ml_L_242 : Cond.methodLink RL 242 yX12_reign ∈ lw_good := List.mem_filter.mpr ⟨tm_9 (List.mem_of_getElem? (i := 32) rfl), rfl⟩
theorem ml_X12_453 : Cond.methodLink RX12 453 yX12_isReign ∈ lw_good := List.mem_filter.mpr ⟨tm_9 (List.mem_of_getElem? (i := 36) rfl), rfl⟩
theorem ml_X12_456 : Cond.methodLink RX12 456 yX12_reignGoes ∈ lw_good := List.mem_filter.mpr ⟨tm_9 (List.mem_of_getElem? (i := 39) rfl), rfl⟩
theorem ml_X12_450 : Cond.methodLink RX12 450 yX12_draws ∈ lw_good := List.mem_filter.mpr ⟨tm_9 (List.mem_of_getElem? (i := 43) rfl), rfl⟩
theorem ml_X12_459 : Cond.methodLink RX12 459 yX12_borneMore ∈ lw_good := List.mem_filter.mpr ⟨tm_9 (List.mem_of_getElem? (i := 48) rfl), rfl⟩
theorem ml_L_246 : Cond.methodLink RL 246 yX12_span ∈ lw_good := List.mem_filter.mpr ⟨tm_9 (List.mem_of_getElem? (i := 52) rfl), rfl⟩
theorem ml_L_250 : Cond.methodLink RL 250 yX12_image ∈ lw_good := List.mem_filter.mpr ⟨tm_9 (List.mem_of_getElem? (i := 56) rfl), rfl⟩
theorem ml_X12_466 : Cond.methodLink RX12 466 yX12_keepsAll ∈ lw_good := List.mem_filter.mpr ⟨tm_9 (List.mem_of_getElem? (i := 60) rfl), rfl⟩
theorem ml_X12_462 : Cond.methodLink RX12 462 yX12_keepsRow ∈ lw_good := List.mem_filter.mpr ⟨tm_9 (List.mem_of_getElem? (i := 64) rfl), rfl⟩
theorem ml_L_254 : Cond.methodLink RL 254 yX12_restore ∈ lw_good := List.mem_filter.mpr ⟨tm_9 (List.mem_of_getElem? (i := 68) rfl), rfl⟩
theorem ml_L_258 : Cond.methodLink RL 258 yX12_status ∈ lw_good := List.mem_filter.mpr ⟨tm_9 (List.mem_of_getElem? (i := 72) rfl), rfl⟩
theorem ml_L_262 : Cond.methodLink RL 262 yX12_count ∈ lw_good := List.mem_filter.mpr ⟨tm_9 (List.mem_of_getElem? (i := 76) rfl), rfl⟩
theorem fl_X10_9 : Cond.fieldLink RX10 9 "ThroneBacks$Tape" "bytes" "[B" ∈ lw_good := List.mem_filter.mpr ⟨tm_1 (List.mem_of_getElem? (i := 41) rfl), rfl⟩
theorem fl_X10_19 : Cond.fieldLink RX10 19 "ThroneBacks$Tape" "size" "I" ∈ lw_good := List.mem_filter.mpr ⟨tm_1 (List.mem_of_getElem? (i := 43) rfl), rfl⟩
theorem fl_X10_22 : Cond.fieldLink RX10 22 "ThroneBacks$Tape" "end" "I" ∈ lw_good := List.mem_filter.mpr ⟨tm_1 (List.mem_of_getElem? (i := 44) rfl), rfl⟩
theorem fl_X10_25 : Cond.fieldLink RX10 25 "ThroneBacks$Tape" "at" "I" ∈ lw_good := List.mem_filter.mpr ⟨tm_1 (List.mem_of_getElem? (i := 45) rfl), rfl⟩
theorem fl_X10_53 : Cond.fieldLink RX10 53 "ThroneBacks$Tape" "wordFrom" "I" ∈ lw_good := List.mem_filter.mpr ⟨tm_1 (List.mem_of_getElem? (i := 47) rfl), rfl⟩
theorem fl_X10_56 : Cond.fieldLink RX10 56 "ThroneBacks$Tape" "wordTo" "I" ∈ lw_good := List.mem_filter.mpr ⟨tm_1 (List.mem_of_getElem? (i := 48) rfl), rfl⟩
theorem fl_X10_28 : Cond.fieldLink RX10 28 "ThroneBacks$Tape" "faultKind" "I" ∈ lw_good := List.mem_filter.mpr ⟨tm_1 (List.mem_of_getElem? (i := 49) rfl), rfl⟩
theorem fl_X10_15 : Cond.fieldLink RX10 15 "ThroneBacks$Tape" "faultPlace" "I" ∈ lw_good := List.mem_filter.mpr ⟨tm_1 (List.mem_of_getElem? (i := 50) rfl), rfl⟩
theorem fl_X1_9 : Cond.fieldLink RX1 9 "ThroneBacks$Court" "strength" "[I" ∈ lw_good := List.mem_filter.mpr ⟨tm_1 (List.mem_of_getElem? (i := 76) rfl), rfl⟩
theorem fl_X1_15 : Cond.fieldLink RX1 15 "ThroneBacks$Court" "care" "[I" ∈ lw_good := List.mem_filter.mpr ⟨tm_1 (List.mem_of_getElem? (i := 80) rfl), rfl⟩
theorem fl_X1_18 : Cond.fieldLink RX1 18 "ThroneBacks$Court" "hours" "[I" ∈ lw_good := List.mem_filter.mpr ⟨tm_1 (List.mem_of_getElem? (i := 83) rfl), rfl⟩
theorem fl_X1_21 : Cond.fieldLink RX1 21 "ThroneBacks$Court" "lie" "[I" ∈ lw_good := List.mem_filter.mpr ⟨tm_1 (List.mem_of_getElem? (i := 86) rfl), rfl⟩
theorem fl_X1_34 : Cond.fieldLink RX1 34 "ThroneBacks$Court" "backs" "I" ∈ lw_good := List.mem_filter.mpr ⟨tm_1 (List.mem_of_getElem? (i := 91) rfl), rfl⟩
theorem fl_X1_37 : Cond.fieldLink RX1 37 "ThroneBacks$Court" "councils" "I" ∈ lw_good := List.mem_filter.mpr ⟨tm_1 (List.mem_of_getElem? (i := 99) rfl), rfl⟩
theorem fl_X1_24 : Cond.fieldLink RX1 24 "ThroneBacks$Court" "weight" "I" ∈ lw_good := List.mem_filter.mpr ⟨tm_1 (List.mem_of_getElem? (i := 102) rfl), rfl⟩
theorem fl_X4_9 : Cond.fieldLink RX4 9 "ThroneBacks$Law" "row" "[I" ∈ lw_good := List.mem_filter.mpr ⟨tm_1 (List.mem_of_getElem? (i := 135) rfl), rfl⟩
theorem fl_X4_15 : Cond.fieldLink RX4 15 "ThroneBacks$Law" "things" "[I" ∈ lw_good := List.mem_filter.mpr ⟨tm_1 (List.mem_of_getElem? (i := 136) rfl), rfl⟩
theorem fl_X4_18 : Cond.fieldLink RX4 18 "ThroneBacks$Law" "values" "[I" ∈ lw_good := List.mem_filter.mpr ⟨tm_1 (List.mem_of_getElem? (i := 137) rfl), rfl⟩
theorem fl_X4_24 : Cond.fieldLink RX4 24 "ThroneBacks$Law" "size" "I" ∈ lw_good := List.mem_filter.mpr ⟨tm_1 (List.mem_of_getElem? (i := 138) rfl), rfl⟩
theorem fl_X0_9 : Cond.fieldLink RX0 9 "ThroneBacks$Book" "tired" "[I" ∈ lw_good := List.mem_filter.mpr ⟨tm_1 (List.mem_of_getElem? (i := 161) rfl), rfl⟩
theorem fl_X0_24 : Cond.fieldLink RX0 24 "ThroneBacks$Book" "many" "I" ∈ lw_good := List.mem_filter.mpr ⟨tm_1 (List.mem_of_getElem? (i := 163) rfl), rfl⟩
theorem fl_X6_9 : Cond.fieldLink RX6 9 "ThroneBacks$Plan" "kind" "[I" ∈ lw_good := List.mem_filter.mpr ⟨tm_1 (List.mem_of_getElem? (i := 176) rfl), rfl⟩
theorem fl_X6_15 : Cond.fieldLink RX6 15 "ThroneBacks$Plan" "first" "[I" ∈ lw_good := List.mem_filter.mpr ⟨tm_1 (List.mem_of_getElem? (i := 177) rfl), rfl⟩
theorem fl_X6_18 : Cond.fieldLink RX6 18 "ThroneBacks$Plan" "second" "[I" ∈ lw_good := List.mem_filter.mpr ⟨tm_1 (List.mem_of_getElem? (i := 178) rfl), rfl⟩
theorem fl_X6_21 : Cond.fieldLink RX6 21 "ThroneBacks$Plan" "turnsLeft" "[I" ∈ lw_good := List.mem_filter.mpr ⟨tm_1 (List.mem_of_getElem? (i := 179) rfl), rfl⟩
theorem fl_X6_24 : Cond.fieldLink RX6 24 "ThroneBacks$Plan" "size" "I" ∈ lw_good := List.mem_filter.mpr ⟨tm_1 (List.mem_of_getElem? (i := 180) rfl), rfl⟩
theorem fl_X6_32 : Cond.fieldLink RX6 32 "ThroneBacks$Plan" "open" "I" ∈ lw_good := List.mem_filter.mpr ⟨tm_1 (List.mem_of_getElem? (i := 181) rfl), rfl⟩
theorem fl_X6_35 : Cond.fieldLink RX6 35 "ThroneBacks$Plan" "refused" "I" ∈ lw_good := List.mem_filter.mpr ⟨tm_1 (List.mem_of_getElem? (i := 182) rfl), rfl⟩
theorem fl_X3_9 : Cond.fieldLink RX3 9 "ThroneBacks$Hall" "court" "LThroneBacks$Court;" ∈ lw_good := List.mem_filter.mpr ⟨tm_1 (List.mem_of_getElem? (i := 205) rfl), rfl⟩
theorem fl_X3_15 : Cond.fieldLink RX3 15 "ThroneBacks$Hall" "law" "LThroneBacks$Law;" ∈ lw_good := List.mem_filter.mpr ⟨tm_1 (List.mem_of_getElem? (i := 209) rfl), rfl⟩
theorem fl_X9_9 : Cond.fieldLink RX9 9 "ThroneBacks$State" "tired" "[I" ∈ lw_good := List.mem_filter.mpr ⟨tm_1 (List.mem_of_getElem? (i := 227) rfl), rfl⟩
theorem fl_X9_15 : Cond.fieldLink RX9 15 "ThroneBacks$State" "boreTimes" "[I" ∈ lw_good := List.mem_filter.mpr ⟨tm_1 (List.mem_of_getElem? (i := 232) rfl), rfl⟩
theorem fl_X9_18 : Cond.fieldLink RX9 18 "ThroneBacks$State" "boreBits" "[I" ∈ lw_good := List.mem_filter.mpr ⟨tm_1 (List.mem_of_getElem? (i := 234) rfl), rfl⟩
theorem fl_X9_21 : Cond.fieldLink RX9 21 "ThroneBacks$State" "knownBits" "[I" ∈ lw_good := List.mem_filter.mpr ⟨tm_1 (List.mem_of_getElem? (i := 236) rfl), rfl⟩
theorem fl_X9_24 : Cond.fieldLink RX9 24 "ThroneBacks$State" "hearings" "[I" ∈ lw_good := List.mem_filter.mpr ⟨tm_1 (List.mem_of_getElem? (i := 239) rfl), rfl⟩
theorem fl_X9_27 : Cond.fieldLink RX9 27 "ThroneBacks$State" "borneTimes" "[I" ∈ lw_good := List.mem_filter.mpr ⟨tm_2 (List.mem_of_getElem? (i := 0) rfl), rfl⟩
theorem fl_X9_36 : Cond.fieldLink RX9 36 "ThroneBacks$State" "fellBits" "I" ∈ lw_good := List.mem_filter.mpr ⟨tm_2 (List.mem_of_getElem? (i := 2) rfl), rfl⟩
theorem fl_X9_40 : Cond.fieldLink RX9 40 "ThroneBacks$State" "day" "I" ∈ lw_good := List.mem_filter.mpr ⟨tm_2 (List.mem_of_getElem? (i := 5) rfl), rfl⟩
theorem fl_X9_43 : Cond.fieldLink RX9 43 "ThroneBacks$State" "held" "I" ∈ lw_good := List.mem_filter.mpr ⟨tm_2 (List.mem_of_getElem? (i := 8) rfl), rfl⟩
theorem fl_X5_12 : Cond.fieldLink RX5 12 "ThroneBacks$Past" "now" "LThroneBacks$State;" ∈ lw_good := List.mem_filter.mpr ⟨tm_2 (List.mem_of_getElem? (i := 31) rfl), rfl⟩
theorem fl_X5_18 : Cond.fieldLink RX5 18 "ThroneBacks$Past" "before" "[LThroneBacks$State;" ∈ lw_good := List.mem_filter.mpr ⟨tm_2 (List.mem_of_getElem? (i := 33) rfl), rfl⟩
theorem fl_X5_25 : Cond.fieldLink RX5 25 "ThroneBacks$Past" "works" "I" ∈ lw_good := List.mem_filter.mpr ⟨tm_2 (List.mem_of_getElem? (i := 34) rfl), rfl⟩
theorem fl_X8_30 : Cond.fieldLink RX8 30 "ThroneBacks$Roster" "hall" "LThroneBacks$Hall;" ∈ lw_good := List.mem_filter.mpr ⟨tm_2 (List.mem_of_getElem? (i := 50) rfl), rfl⟩
theorem fl_X8_9 : Cond.fieldLink RX8 9 "ThroneBacks$Roster" "councils" "[I" ∈ lw_good := List.mem_filter.mpr ⟨tm_2 (List.mem_of_getElem? (i := 51) rfl), rfl⟩
theorem fl_X8_15 : Cond.fieldLink RX8 15 "ThroneBacks$Roster" "burdens" "[I" ∈ lw_good := List.mem_filter.mpr ⟨tm_2 (List.mem_of_getElem? (i := 52) rfl), rfl⟩
theorem fl_X8_18 : Cond.fieldLink RX8 18 "ThroneBacks$Roster" "leastFrom" "[I" ∈ lw_good := List.mem_filter.mpr ⟨tm_2 (List.mem_of_getElem? (i := 53) rfl), rfl⟩
theorem fl_X8_21 : Cond.fieldLink RX8 21 "ThroneBacks$Roster" "room" "[I" ∈ lw_good := List.mem_filter.mpr ⟨tm_2 (List.mem_of_getElem? (i := 54) rfl), rfl⟩
theorem fl_X8_24 : Cond.fieldLink RX8 24 "ThroneBacks$Roster" "given" "[I" ∈ lw_good := List.mem_filter.mpr ⟨tm_2 (List.mem_of_getElem? (i := 55) rfl), rfl⟩
theorem fl_X8_27 : Cond.fieldLink RX8 27 "ThroneBacks$Roster" "best" "[I" ∈ lw_good := List.mem_filter.mpr ⟨tm_2 (List.mem_of_getElem? (i := 56) rfl), rfl⟩
theorem fl_X8_34 : Cond.fieldLink RX8 34 "ThroneBacks$Roster" "many" "I" ∈ lw_good := List.mem_filter.mpr ⟨tm_2 (List.mem_of_getElem? (i := 57) rfl), rfl⟩
theorem fl_X8_38 : Cond.fieldLink RX8 38 "ThroneBacks$Roster" "leastSum" "I" ∈ lw_good := List.mem_filter.mpr ⟨tm_2 (List.mem_of_getElem? (i := 58) rfl), rfl⟩
theorem fl_X2_15 : Cond.fieldLink RX2 15 "ThroneBacks$Guess" "hall" "LThroneBacks$Hall;" ∈ lw_good := List.mem_filter.mpr ⟨tm_2 (List.mem_of_getElem? (i := 85) rfl), rfl⟩
theorem fl_X2_19 : Cond.fieldLink RX2 19 "ThroneBacks$Guess" "book" "LThroneBacks$Book;" ∈ lw_good := List.mem_filter.mpr ⟨tm_2 (List.mem_of_getElem? (i := 86) rfl), rfl⟩
theorem fl_X2_11 : Cond.fieldLink RX2 11 "ThroneBacks$Guess" "tally" "[I" ∈ lw_good := List.mem_filter.mpr ⟨tm_2 (List.mem_of_getElem? (i := 87) rfl), rfl⟩
theorem fl_X2_23 : Cond.fieldLink RX2 23 "ThroneBacks$Guess" "pairs" "I" ∈ lw_good := List.mem_filter.mpr ⟨tm_2 (List.mem_of_getElem? (i := 88) rfl), rfl⟩
theorem fl_X2_27 : Cond.fieldLink RX2 27 "ThroneBacks$Guess" "firstPair" "I" ∈ lw_good := List.mem_filter.mpr ⟨tm_2 (List.mem_of_getElem? (i := 90) rfl), rfl⟩
theorem fl_X2_56 : Cond.fieldLink RX2 56 "ThroneBacks$Guess" "lookAt" "I" ∈ lw_good := List.mem_filter.mpr ⟨tm_2 (List.mem_of_getElem? (i := 92) rfl), rfl⟩
theorem fl_X2_59 : Cond.fieldLink RX2 59 "ThroneBacks$Guess" "leftAtWorst" "I" ∈ lw_good := List.mem_filter.mpr ⟨tm_2 (List.mem_of_getElem? (i := 94) rfl), rfl⟩
theorem fl_X7_18 : Cond.fieldLink RX7 18 "ThroneBacks$Reign" "hall" "LThroneBacks$Hall;" ∈ lw_good := List.mem_filter.mpr ⟨tm_2 (List.mem_of_getElem? (i := 119) rfl), rfl⟩
end Words
