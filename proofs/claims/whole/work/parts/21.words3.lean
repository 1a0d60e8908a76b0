section Words
theorem fl_X7_12 : Cond.fieldLink RX7 12 "ThroneBacks$Reign" "state" "LThroneBacks$State;" ∈ lw_good := List.mem_filter.mpr ⟨tm_2 (List.mem_of_getElem? (i := 120) rfl), rfl⟩
theorem fl_X7_26 : Cond.fieldLink RX7 26 "ThroneBacks$Reign" "seed" "I" ∈ lw_good := List.mem_filter.mpr ⟨tm_2 (List.mem_of_getElem? (i := 122) rfl), rfl⟩
theorem fl_X7_30 : Cond.fieldLink RX7 30 "ThroneBacks$Reign" "borne" "I" ∈ lw_good := List.mem_filter.mpr ⟨tm_2 (List.mem_of_getElem? (i := 123) rfl), rfl⟩
theorem fl_X11_10 : Cond.fieldLink RX11 10 "ThroneBacks" "tape" "LThroneBacks$Tape;" ∈ lw_good := List.mem_filter.mpr ⟨tm_2 (List.mem_of_getElem? (i := 134) rfl), rfl⟩
theorem fl_X11_19 : Cond.fieldLink RX11 19 "ThroneBacks" "setting" "LThroneBacks$Court;" ∈ lw_good := List.mem_filter.mpr ⟨tm_2 (List.mem_of_getElem? (i := 135) rfl), rfl⟩
theorem fl_X11_23 : Cond.fieldLink RX11 23 "ThroneBacks" "draftCourt" "LThroneBacks$Court;" ∈ lw_good := List.mem_filter.mpr ⟨tm_2 (List.mem_of_getElem? (i := 136) rfl), rfl⟩
theorem fl_X11_29 : Cond.fieldLink RX11 29 "ThroneBacks" "rule" "LThroneBacks$Law;" ∈ lw_good := List.mem_filter.mpr ⟨tm_2 (List.mem_of_getElem? (i := 137) rfl), rfl⟩
theorem fl_X11_33 : Cond.fieldLink RX11 33 "ThroneBacks" "draftLaw" "LThroneBacks$Law;" ∈ lw_good := List.mem_filter.mpr ⟨tm_2 (List.mem_of_getElem? (i := 138) rfl), rfl⟩
theorem fl_X11_39 : Cond.fieldLink RX11 39 "ThroneBacks" "lines" "LThroneBacks$Book;" ∈ lw_good := List.mem_filter.mpr ⟨tm_2 (List.mem_of_getElem? (i := 139) rfl), rfl⟩
theorem fl_X11_43 : Cond.fieldLink RX11 43 "ThroneBacks" "draftBook" "LThroneBacks$Book;" ∈ lw_good := List.mem_filter.mpr ⟨tm_2 (List.mem_of_getElem? (i := 140) rfl), rfl⟩
theorem fl_X11_49 : Cond.fieldLink RX11 49 "ThroneBacks" "plan" "LThroneBacks$Plan;" ∈ lw_good := List.mem_filter.mpr ⟨tm_2 (List.mem_of_getElem? (i := 141) rfl), rfl⟩
theorem fl_X11_58 : Cond.fieldLink RX11 58 "ThroneBacks" "hall" "LThroneBacks$Hall;" ∈ lw_good := List.mem_filter.mpr ⟨tm_2 (List.mem_of_getElem? (i := 142) rfl), rfl⟩
theorem fl_X11_65 : Cond.fieldLink RX11 65 "ThroneBacks" "past" "LThroneBacks$Past;" ∈ lw_good := List.mem_filter.mpr ⟨tm_2 (List.mem_of_getElem? (i := 143) rfl), rfl⟩
theorem fl_X11_73 : Cond.fieldLink RX11 73 "ThroneBacks" "now" "LThroneBacks$State;" ∈ lw_good := List.mem_filter.mpr ⟨tm_2 (List.mem_of_getElem? (i := 144) rfl), rfl⟩
theorem fl_X11_74 : Cond.fieldLink RX11 74 "ThroneBacks" "images" "[LThroneBacks$Past;" ∈ lw_good := List.mem_filter.mpr ⟨tm_2 (List.mem_of_getElem? (i := 145) rfl), rfl⟩
theorem fl_X11_83 : Cond.fieldLink RX11 83 "ThroneBacks" "giving" "LThroneBacks$Roster;" ∈ lw_good := List.mem_filter.mpr ⟨tm_2 (List.mem_of_getElem? (i := 146) rfl), rfl⟩
theorem fl_X11_92 : Cond.fieldLink RX11 92 "ThroneBacks" "guess" "LThroneBacks$Guess;" ∈ lw_good := List.mem_filter.mpr ⟨tm_2 (List.mem_of_getElem? (i := 147) rfl), rfl⟩
theorem fl_X11_99 : Cond.fieldLink RX11 99 "ThroneBacks" "trial" "LThroneBacks$Reign;" ∈ lw_good := List.mem_filter.mpr ⟨tm_2 (List.mem_of_getElem? (i := 148) rfl), rfl⟩
theorem fl_X11_137 : Cond.fieldLink RX11 137 "ThroneBacks" "imagesKept" "I" ∈ lw_good := List.mem_filter.mpr ⟨tm_2 (List.mem_of_getElem? (i := 149) rfl), rfl⟩
theorem fl_X11_140 : Cond.fieldLink RX11 140 "ThroneBacks" "stepsRefused" "I" ∈ lw_good := List.mem_filter.mpr ⟨tm_2 (List.mem_of_getElem? (i := 150) rfl), rfl⟩
theorem fl_X11_394 : Cond.fieldLink RX11 394 "ThroneBacks" "elementsRefused" "I" ∈ lw_good := List.mem_filter.mpr ⟨tm_2 (List.mem_of_getElem? (i := 151) rfl), rfl⟩
theorem fl_X11_397 : Cond.fieldLink RX11 397 "ThroneBacks" "argumentsRefused" "I" ∈ lw_good := List.mem_filter.mpr ⟨tm_2 (List.mem_of_getElem? (i := 152) rfl), rfl⟩
theorem fl_J0_38 : Cond.fieldLink RJ0 38 "java/lang/String" "COMPACT_STRINGS" "Z" ∈ lw_good := List.mem_filter.mpr ⟨tm_3 (List.mem_of_getElem? (i := 121) rfl), rfl⟩
theorem fl_J0_1053 : Cond.fieldLink RJ0 1053 "jdk/internal/util/Preconditions" "SIOOBE_FORMATTER" "Ljava/util/function/BiFunction;" ∈ lw_good := List.mem_filter.mpr ⟨tm_3 (List.mem_of_getElem? (i := 137) rfl), rfl⟩
theorem fl_J2_44 : Cond.fieldLink RJ2 44 "java/lang/StringUTF16" "$assertionsDisabled" "Z" ∈ lw_good := List.mem_filter.mpr ⟨tm_3 (List.mem_of_getElem? (i := 155) rfl), rfl⟩
theorem fl_J2_59 : Cond.fieldLink RJ2 59 "java/lang/StringUTF16" "HI_BYTE_SHIFT" "I" ∈ lw_good := List.mem_filter.mpr ⟨tm_3 (List.mem_of_getElem? (i := 157) rfl), rfl⟩
theorem fl_J2_63 : Cond.fieldLink RJ2 63 "java/lang/StringUTF16" "LO_BYTE_SHIFT" "I" ∈ lw_good := List.mem_filter.mpr ⟨tm_3 (List.mem_of_getElem? (i := 159) rfl), rfl⟩
theorem fl_X12_3 : Cond.fieldLink RX12 3 "ThroneBacksModel" "thrown" "I" ∈ lw_good := List.mem_filter.mpr ⟨tm_6 (List.mem_of_getElem? (i := 165) rfl), rfl⟩
theorem fl_X12_7 : Cond.fieldLink RX12 7 "ThroneBacksModel" "refused" "[I" ∈ lw_good := List.mem_filter.mpr ⟨tm_6 (List.mem_of_getElem? (i := 166) rfl), rfl⟩
theorem fl_X12_99 : Cond.fieldLink RX12 99 "ThroneBacksModel" "taped" "I" ∈ lw_good := List.mem_filter.mpr ⟨tm_6 (List.mem_of_getElem? (i := 167) rfl), rfl⟩
theorem fl_X12_111 : Cond.fieldLink RX12 111 "ThroneBacksModel" "size" "I" ∈ lw_good := List.mem_filter.mpr ⟨tm_6 (List.mem_of_getElem? (i := 168) rfl), rfl⟩
theorem fl_X12_108 : Cond.fieldLink RX12 108 "ThroneBacksModel" "at" "I" ∈ lw_good := List.mem_filter.mpr ⟨tm_6 (List.mem_of_getElem? (i := 169) rfl), rfl⟩
theorem fl_X12_102 : Cond.fieldLink RX12 102 "ThroneBacksModel" "bad" "I" ∈ lw_good := List.mem_filter.mpr ⟨tm_6 (List.mem_of_getElem? (i := 170) rfl), rfl⟩
theorem fl_X12_105 : Cond.fieldLink RX12 105 "ThroneBacksModel" "badKind" "I" ∈ lw_good := List.mem_filter.mpr ⟨tm_6 (List.mem_of_getElem? (i := 171) rfl), rfl⟩
theorem fl_X12_142 : Cond.fieldLink RX12 142 "ThroneBacksModel" "opens" "I" ∈ lw_good := List.mem_filter.mpr ⟨tm_6 (List.mem_of_getElem? (i := 172) rfl), rfl⟩
theorem fl_X12_17 : Cond.fieldLink RX12 17 "ThroneBacksModel" "faultAt" "I" ∈ lw_good := List.mem_filter.mpr ⟨tm_6 (List.mem_of_getElem? (i := 173) rfl), rfl⟩
theorem fl_X12_20 : Cond.fieldLink RX12 20 "ThroneBacksModel" "tape" "[I" ∈ lw_good := List.mem_filter.mpr ⟨tm_6 (List.mem_of_getElem? (i := 174) rfl), rfl⟩
theorem fl_X12_23 : Cond.fieldLink RX12 23 "ThroneBacksModel" "newBack" "[I" ∈ lw_good := List.mem_filter.mpr ⟨tm_6 (List.mem_of_getElem? (i := 175) rfl), rfl⟩
theorem fl_X12_26 : Cond.fieldLink RX12 26 "ThroneBacksModel" "newCouncil" "[I" ∈ lw_good := List.mem_filter.mpr ⟨tm_6 (List.mem_of_getElem? (i := 176) rfl), rfl⟩
theorem fl_X12_29 : Cond.fieldLink RX12 29 "ThroneBacksModel" "back" "[I" ∈ lw_good := List.mem_filter.mpr ⟨tm_6 (List.mem_of_getElem? (i := 177) rfl), rfl⟩
theorem fl_X12_32 : Cond.fieldLink RX12 32 "ThroneBacksModel" "council" "[I" ∈ lw_good := List.mem_filter.mpr ⟨tm_6 (List.mem_of_getElem? (i := 178) rfl), rfl⟩
theorem fl_X12_145 : Cond.fieldLink RX12 145 "ThroneBacksModel" "newBacks" "I" ∈ lw_good := List.mem_filter.mpr ⟨tm_6 (List.mem_of_getElem? (i := 179) rfl), rfl⟩
theorem fl_X12_148 : Cond.fieldLink RX12 148 "ThroneBacksModel" "newCouncils" "I" ∈ lw_good := List.mem_filter.mpr ⟨tm_6 (List.mem_of_getElem? (i := 180) rfl), rfl⟩
theorem fl_X12_151 : Cond.fieldLink RX12 151 "ThroneBacksModel" "newKing" "I" ∈ lw_good := List.mem_filter.mpr ⟨tm_6 (List.mem_of_getElem? (i := 181) rfl), rfl⟩
theorem fl_X12_154 : Cond.fieldLink RX12 154 "ThroneBacksModel" "backs" "I" ∈ lw_good := List.mem_filter.mpr ⟨tm_6 (List.mem_of_getElem? (i := 182) rfl), rfl⟩
theorem fl_X12_157 : Cond.fieldLink RX12 157 "ThroneBacksModel" "councils" "I" ∈ lw_good := List.mem_filter.mpr ⟨tm_6 (List.mem_of_getElem? (i := 183) rfl), rfl⟩
theorem fl_X12_160 : Cond.fieldLink RX12 160 "ThroneBacksModel" "king" "I" ∈ lw_good := List.mem_filter.mpr ⟨tm_6 (List.mem_of_getElem? (i := 184) rfl), rfl⟩
theorem fl_X12_35 : Cond.fieldLink RX12 35 "ThroneBacksModel" "newCode" "[I" ∈ lw_good := List.mem_filter.mpr ⟨tm_6 (List.mem_of_getElem? (i := 185) rfl), rfl⟩
theorem fl_X12_38 : Cond.fieldLink RX12 38 "ThroneBacksModel" "newOf" "[I" ∈ lw_good := List.mem_filter.mpr ⟨tm_6 (List.mem_of_getElem? (i := 186) rfl), rfl⟩
theorem fl_X12_41 : Cond.fieldLink RX12 41 "ThroneBacksModel" "code" "[I" ∈ lw_good := List.mem_filter.mpr ⟨tm_6 (List.mem_of_getElem? (i := 187) rfl), rfl⟩
theorem fl_X12_44 : Cond.fieldLink RX12 44 "ThroneBacksModel" "ofCode" "[I" ∈ lw_good := List.mem_filter.mpr ⟨tm_6 (List.mem_of_getElem? (i := 188) rfl), rfl⟩
theorem fl_X12_47 : Cond.fieldLink RX12 47 "ThroneBacksModel" "stack" "[I" ∈ lw_good := List.mem_filter.mpr ⟨tm_6 (List.mem_of_getElem? (i := 189) rfl), rfl⟩
theorem fl_X12_230 : Cond.fieldLink RX12 230 "ThroneBacksModel" "newCodes" "I" ∈ lw_good := List.mem_filter.mpr ⟨tm_6 (List.mem_of_getElem? (i := 190) rfl), rfl⟩
theorem fl_X12_167 : Cond.fieldLink RX12 167 "ThroneBacksModel" "codes" "I" ∈ lw_good := List.mem_filter.mpr ⟨tm_6 (List.mem_of_getElem? (i := 191) rfl), rfl⟩
theorem fl_X12_50 : Cond.fieldLink RX12 50 "ThroneBacksModel" "facts" "[I" ∈ lw_good := List.mem_filter.mpr ⟨tm_6 (List.mem_of_getElem? (i := 192) rfl), rfl⟩
theorem fl_X12_53 : Cond.fieldLink RX12 53 "ThroneBacksModel" "newStep" "[I" ∈ lw_good := List.mem_filter.mpr ⟨tm_6 (List.mem_of_getElem? (i := 193) rfl), rfl⟩
theorem fl_X12_56 : Cond.fieldLink RX12 56 "ThroneBacksModel" "step" "[I" ∈ lw_good := List.mem_filter.mpr ⟨tm_6 (List.mem_of_getElem? (i := 194) rfl), rfl⟩
theorem fl_X12_281 : Cond.fieldLink RX12 281 "ThroneBacksModel" "newSteps" "I" ∈ lw_good := List.mem_filter.mpr ⟨tm_6 (List.mem_of_getElem? (i := 195) rfl), rfl⟩
theorem fl_X12_173 : Cond.fieldLink RX12 173 "ThroneBacksModel" "works" "I" ∈ lw_good := List.mem_filter.mpr ⟨tm_6 (List.mem_of_getElem? (i := 196) rfl), rfl⟩
theorem fl_X12_179 : Cond.fieldLink RX12 179 "ThroneBacksModel" "refusedSteps" "I" ∈ lw_good := List.mem_filter.mpr ⟨tm_6 (List.mem_of_getElem? (i := 197) rfl), rfl⟩
theorem fl_X12_313 : Cond.fieldLink RX12 313 "ThroneBacksModel" "begun" "I" ∈ lw_good := List.mem_filter.mpr ⟨tm_6 (List.mem_of_getElem? (i := 198) rfl), rfl⟩
theorem fl_X12_316 : Cond.fieldLink RX12 316 "ThroneBacksModel" "done" "I" ∈ lw_good := List.mem_filter.mpr ⟨tm_6 (List.mem_of_getElem? (i := 199) rfl), rfl⟩
theorem fl_X12_319 : Cond.fieldLink RX12 319 "ThroneBacksModel" "refusedNow" "I" ∈ lw_good := List.mem_filter.mpr ⟨tm_6 (List.mem_of_getElem? (i := 200) rfl), rfl⟩
theorem fl_X12_59 : Cond.fieldLink RX12 59 "ThroneBacksModel" "now" "[I" ∈ lw_good := List.mem_filter.mpr ⟨tm_6 (List.mem_of_getElem? (i := 201) rfl), rfl⟩
theorem fl_X12_62 : Cond.fieldLink RX12 62 "ThroneBacksModel" "s" "[I" ∈ lw_good := List.mem_filter.mpr ⟨tm_6 (List.mem_of_getElem? (i := 202) rfl), rfl⟩
theorem fl_X12_65 : Cond.fieldLink RX12 65 "ThroneBacksModel" "past" "[I" ∈ lw_good := List.mem_filter.mpr ⟨tm_6 (List.mem_of_getElem? (i := 203) rfl), rfl⟩
theorem fl_X12_68 : Cond.fieldLink RX12 68 "ThroneBacksModel" "newBook" "[I" ∈ lw_good := List.mem_filter.mpr ⟨tm_6 (List.mem_of_getElem? (i := 204) rfl), rfl⟩
theorem fl_X12_71 : Cond.fieldLink RX12 71 "ThroneBacksModel" "book" "[I" ∈ lw_good := List.mem_filter.mpr ⟨tm_6 (List.mem_of_getElem? (i := 205) rfl), rfl⟩
theorem fl_X12_170 : Cond.fieldLink RX12 170 "ThroneBacksModel" "written" "I" ∈ lw_good := List.mem_filter.mpr ⟨tm_6 (List.mem_of_getElem? (i := 206) rfl), rfl⟩
theorem fl_X12_74 : Cond.fieldLink RX12 74 "ThroneBacksModel" "place" "[I" ∈ lw_good := List.mem_filter.mpr ⟨tm_6 (List.mem_of_getElem? (i := 207) rfl), rfl⟩
theorem fl_X12_77 : Cond.fieldLink RX12 77 "ThroneBacksModel" "leastBy" "[I" ∈ lw_good := List.mem_filter.mpr ⟨tm_6 (List.mem_of_getElem? (i := 208) rfl), rfl⟩
theorem fl_X12_394 : Cond.fieldLink RX12 394 "ThroneBacksModel" "placed" "I" ∈ lw_good := List.mem_filter.mpr ⟨tm_6 (List.mem_of_getElem? (i := 209) rfl), rfl⟩
theorem fl_X12_80 : Cond.fieldLink RX12 80 "ThroneBacksModel" "givenTo" "[I" ∈ lw_good := List.mem_filter.mpr ⟨tm_6 (List.mem_of_getElem? (i := 210) rfl), rfl⟩
theorem fl_X12_83 : Cond.fieldLink RX12 83 "ThroneBacksModel" "leftBy" "[I" ∈ lw_good := List.mem_filter.mpr ⟨tm_6 (List.mem_of_getElem? (i := 211) rfl), rfl⟩
theorem fl_X12_86 : Cond.fieldLink RX12 86 "ThroneBacksModel" "lyingBy" "[J" ∈ lw_good := List.mem_filter.mpr ⟨tm_6 (List.mem_of_getElem? (i := 212) rfl), rfl⟩
theorem fl_X12_446 : Cond.fieldLink RX12 446 "ThroneBacksModel" "seedNow" "I" ∈ lw_good := List.mem_filter.mpr ⟨tm_6 (List.mem_of_getElem? (i := 213) rfl), rfl⟩
theorem fl_X12_90 : Cond.fieldLink RX12 90 "ThroneBacksModel" "image" "[I" ∈ lw_good := List.mem_filter.mpr ⟨tm_6 (List.mem_of_getElem? (i := 214) rfl), rfl⟩
theorem fl_X12_176 : Cond.fieldLink RX12 176 "ThroneBacksModel" "images" "I" ∈ lw_good := List.mem_filter.mpr ⟨tm_6 (List.mem_of_getElem? (i := 215) rfl), rfl⟩
theorem fl_J0_9 : Cond.fieldLink RJ0 9 "java/lang/String" "value" "[B" ∈ lw_good := List.mem_filter.mpr ⟨tm_9 (List.mem_of_getElem? (i := 98) rfl), rfl⟩
theorem fl_J0_15 : Cond.fieldLink RJ0 15 "java/lang/String" "coder" "B" ∈ lw_good := List.mem_filter.mpr ⟨tm_9 (List.mem_of_getElem? (i := 99) rfl), rfl⟩
theorem ct_X10_46 : Cond.constant RX10 46 99999 ∈ lw_good := List.mem_filter.mpr ⟨tm_3 (List.mem_of_getElem? (i := 183) rfl), rfl⟩
theorem ct_X6_38 : Cond.constant RX6 38 1000000 ∈ lw_good := List.mem_filter.mpr ⟨tm_4 (List.mem_of_getElem? (i := 107) rfl), rfl⟩
theorem ct_J6_265 : Cond.constant RJ6 265 1431655765 ∈ lw_good := List.mem_filter.mpr ⟨tm_4 (List.mem_of_getElem? (i := 150) rfl), rfl⟩
theorem ct_J6_266 : Cond.constant RJ6 266 858993459 ∈ lw_good := List.mem_filter.mpr ⟨tm_4 (List.mem_of_getElem? (i := 151) rfl), rfl⟩
theorem ct_J6_267 : Cond.constant RJ6 267 252645135 ∈ lw_good := List.mem_filter.mpr ⟨tm_4 (List.mem_of_getElem? (i := 152) rfl), rfl⟩
theorem ct_X7_73 : Cond.constant RX7 73 1103515245 ∈ lw_good := List.mem_filter.mpr ⟨tm_6 (List.mem_of_getElem? (i := 127) rfl), rfl⟩
theorem ct_X12_397 : Cond.constant RX12 397 99999 ∈ lw_good := List.mem_filter.mpr ⟨tm_8 (List.mem_of_getElem? (i := 160) rfl), rfl⟩
theorem ct_X12_449 : Cond.constant RX12 449 1103515245 ∈ lw_good := List.mem_filter.mpr ⟨tm_9 (List.mem_of_getElem? (i := 47) rfl), rfl⟩
theorem ct_X11_357 : Cond.constantLong RX11 357 2 ∈ lw_good := List.mem_filter.mpr ⟨tm_6 (List.mem_of_getElem? (i := 25) rfl), rfl⟩
theorem ct_X12_431 : Cond.constantLong RX12 431 16 ∈ lw_good := List.mem_filter.mpr ⟨tm_8 (List.mem_of_getElem? (i := 221) rfl), rfl⟩
theorem kl_L_8 : Cond.classLink RL 8 "ThroneBacks" ∈ lw_good := List.mem_filter.mpr ⟨tm_1 (List.mem_of_getElem? (i := 27) rfl), rfl⟩
theorem kl_X11_7 : Cond.classLink RX11 7 "ThroneBacks$Tape" ∈ lw_good := List.mem_filter.mpr ⟨tm_1 (List.mem_of_getElem? (i := 35) rfl), rfl⟩
theorem kl_X11_16 : Cond.classLink RX11 16 "ThroneBacks$Court" ∈ lw_good := List.mem_filter.mpr ⟨tm_1 (List.mem_of_getElem? (i := 70) rfl), rfl⟩
theorem kl_X11_26 : Cond.classLink RX11 26 "ThroneBacks$Law" ∈ lw_good := List.mem_filter.mpr ⟨tm_1 (List.mem_of_getElem? (i := 121) rfl), rfl⟩
theorem kl_X11_36 : Cond.classLink RX11 36 "ThroneBacks$Book" ∈ lw_good := List.mem_filter.mpr ⟨tm_1 (List.mem_of_getElem? (i := 148) rfl), rfl⟩
theorem kl_X11_46 : Cond.classLink RX11 46 "ThroneBacks$Plan" ∈ lw_good := List.mem_filter.mpr ⟨tm_1 (List.mem_of_getElem? (i := 170) rfl), rfl⟩
theorem kl_X11_53 : Cond.classLink RX11 53 "ThroneBacks$Hall" ∈ lw_good := List.mem_filter.mpr ⟨tm_1 (List.mem_of_getElem? (i := 199) rfl), rfl⟩
theorem kl_X11_62 : Cond.classLink RX11 62 "ThroneBacks$Past" ∈ lw_good := List.mem_filter.mpr ⟨tm_1 (List.mem_of_getElem? (i := 215) rfl), rfl⟩
theorem kl_X5_9 : Cond.classLink RX5 9 "ThroneBacks$State" ∈ lw_good := List.mem_filter.mpr ⟨tm_1 (List.mem_of_getElem? (i := 221) rfl), rfl⟩
theorem kl_X11_78 : Cond.classLink RX11 78 "ThroneBacks$Roster" ∈ lw_good := List.mem_filter.mpr ⟨tm_2 (List.mem_of_getElem? (i := 44) rfl), rfl⟩
theorem kl_X11_87 : Cond.classLink RX11 87 "ThroneBacks$Guess" ∈ lw_good := List.mem_filter.mpr ⟨tm_2 (List.mem_of_getElem? (i := 79) rfl), rfl⟩
theorem kl_X11_96 : Cond.classLink RX11 96 "ThroneBacks$Reign" ∈ lw_good := List.mem_filter.mpr ⟨tm_2 (List.mem_of_getElem? (i := 111) rfl), rfl⟩
theorem kl_X7_9 : Cond.classLink RX7 9 "ThroneBacks$State" ∈ lw_good := List.mem_filter.mpr ⟨tm_2 (List.mem_of_getElem? (i := 117) rfl), rfl⟩
theorem kl_L_13 : Cond.classLink RL 13 "java/lang/IllegalArgumentException" ∈ lw_good := List.mem_filter.mpr ⟨tm_3 (List.mem_of_getElem? (i := 2) rfl), rfl⟩
theorem kl_X11_409 : Cond.classLink RX11 409 "java/lang/IllegalArgumentException" ∈ lw_good := List.mem_filter.mpr ⟨tm_3 (List.mem_of_getElem? (i := 18) rfl), rfl⟩
theorem kl_L_31 : Cond.classLink RL 31 "java/util/NoSuchElementException" ∈ lw_good := List.mem_filter.mpr ⟨tm_5 (List.mem_of_getElem? (i := 34) rfl), rfl⟩
theorem kl_X11_400 : Cond.classLink RX11 400 "java/util/NoSuchElementException" ∈ lw_good := List.mem_filter.mpr ⟨tm_5 (List.mem_of_getElem? (i := 43) rfl), rfl⟩
theorem kl_L_120 : Cond.classLink RL 120 "ThroneBacksModel" ∈ lw_good := List.mem_filter.mpr ⟨tm_6 (List.mem_of_getElem? (i := 147) rfl), rfl⟩
theorem iz_RX11 : Cond.initialized RX11 ∈ lw_good := List.mem_filter.mpr ⟨tm_1 (List.mem_of_getElem? (i := 1) rfl), rfl⟩
theorem iz_RX0 : Cond.initialized RX0 ∈ lw_good := List.mem_filter.mpr ⟨tm_1 (List.mem_of_getElem? (i := 5) rfl), rfl⟩
theorem iz_RX1 : Cond.initialized RX1 ∈ lw_good := List.mem_filter.mpr ⟨tm_1 (List.mem_of_getElem? (i := 3) rfl), rfl⟩
theorem iz_RX2 : Cond.initialized RX2 ∈ lw_good := List.mem_filter.mpr ⟨tm_1 (List.mem_of_getElem? (i := 12) rfl), rfl⟩
theorem iz_RX3 : Cond.initialized RX3 ∈ lw_good := List.mem_filter.mpr ⟨tm_1 (List.mem_of_getElem? (i := 8) rfl), rfl⟩
theorem iz_RX4 : Cond.initialized RX4 ∈ lw_good := List.mem_filter.mpr ⟨tm_1 (List.mem_of_getElem? (i := 4) rfl), rfl⟩
theorem iz_RX5 : Cond.initialized RX5 ∈ lw_good := List.mem_filter.mpr ⟨tm_1 (List.mem_of_getElem? (i := 9) rfl), rfl⟩
theorem iz_RX6 : Cond.initialized RX6 ∈ lw_good := List.mem_filter.mpr ⟨tm_1 (List.mem_of_getElem? (i := 7) rfl), rfl⟩
theorem iz_RX7 : Cond.initialized RX7 ∈ lw_good := List.mem_filter.mpr ⟨tm_1 (List.mem_of_getElem? (i := 13) rfl), rfl⟩
theorem iz_RX8 : Cond.initialized RX8 ∈ lw_good := List.mem_filter.mpr ⟨tm_1 (List.mem_of_getElem? (i := 11) rfl), rfl⟩
theorem iz_RX9 : Cond.initialized RX9 ∈ lw_good := List.mem_filter.mpr ⟨tm_1 (List.mem_of_getElem? (i := 10) rfl), rfl⟩
theorem iz_RX10 : Cond.initialized RX10 ∈ lw_good := List.mem_filter.mpr ⟨tm_1 (List.mem_of_getElem? (i := 2) rfl), rfl⟩
theorem iz_RL : Cond.initialized RL ∈ lw_good := List.mem_filter.mpr ⟨tm_1 (List.mem_of_getElem? (i := 0) rfl), rfl⟩
theorem iz_RX12 : Cond.initialized RX12 ∈ lw_good := List.mem_filter.mpr ⟨tm_1 (List.mem_of_getElem? (i := 14) rfl), rfl⟩
theorem iz_IllegalArgumentException : Cond.initialized "java/lang/IllegalArgumentException" ∈ lw_good := List.mem_filter.mpr ⟨tm_1 (List.mem_of_getElem? (i := 19) rfl), rfl⟩
theorem iz_RJ6 : Cond.initialized RJ6 ∈ lw_good := List.mem_filter.mpr ⟨tm_1 (List.mem_of_getElem? (i := 25) rfl), rfl⟩
theorem iz_RJ9 : Cond.initialized RJ9 ∈ lw_good := List.mem_filter.mpr ⟨tm_1 (List.mem_of_getElem? (i := 15) rfl), rfl⟩
theorem iz_RJ0 : Cond.initialized RJ0 ∈ lw_good := List.mem_filter.mpr ⟨tm_1 (List.mem_of_getElem? (i := 20) rfl), rfl⟩
theorem iz_RJ1 : Cond.initialized RJ1 ∈ lw_good := List.mem_filter.mpr ⟨tm_1 (List.mem_of_getElem? (i := 21) rfl), rfl⟩
theorem iz_RJ2 : Cond.initialized RJ2 ∈ lw_good := List.mem_filter.mpr ⟨tm_1 (List.mem_of_getElem? (i := 23) rfl), rfl⟩
theorem iz_RJ10 : Cond.initialized RJ10 ∈ lw_good := List.mem_filter.mpr ⟨tm_1 (List.mem_of_getElem? (i := 24) rfl), rfl⟩
theorem iz_RJ7 : Cond.initialized RJ7 ∈ lw_good := List.mem_filter.mpr ⟨tm_1 (List.mem_of_getElem? (i := 6) rfl), rfl⟩
theorem iz_NoSuchElementException : Cond.initialized "java/util/NoSuchElementException" ∈ lw_good := List.mem_filter.mpr ⟨tm_1 (List.mem_of_getElem? (i := 26) rfl), rfl⟩
theorem iz_RJ3 : Cond.initialized RJ3 ∈ lw_good := List.mem_filter.mpr ⟨tm_1 (List.mem_of_getElem? (i := 22) rfl), rfl⟩
theorem in_obj : Cond.instanceMethod objectInit ∈ lw_good := List.mem_filter.mpr ⟨tm_1 (List.mem_of_getElem? (i := 33) rfl), rfl⟩
theorem cd_obj : Cond.code objectInit ⟨#[0xb1]⟩ 1 none ∈ lw_good := List.mem_filter.mpr ⟨tm_1 (List.mem_of_getElem? (i := 34) rfl), rfl⟩
theorem na_copy : Cond.native arraycopyName ∈ lw_good := List.mem_filter.mpr ⟨tm_2 (List.mem_of_getElem? (i := 218) rfl), rfl⟩
theorem sa_copy : Cond.static arraycopyName ∈ lw_good := List.mem_filter.mpr ⟨tm_2 (List.mem_of_getElem? (i := 217) rfl), rfl⟩
theorem ac_int : Cond.arrayClass .int ∈ lw_good := List.mem_filter.mpr ⟨tm_1 (List.mem_of_getElem? (i := 120) rfl), rfl⟩
theorem ac_byte : Cond.arrayClass .byte ∈ lw_good := List.mem_filter.mpr ⟨tm_1 (List.mem_of_getElem? (i := 69) rfl), rfl⟩
theorem ac_long : Cond.arrayClass .long ∈ lw_good := List.mem_filter.mpr ⟨tm_7 (List.mem_of_getElem? (i := 79) rfl), rfl⟩
theorem mn_X11_9 : Cond.methodLinkNest RX11 9 yX10_init "ThroneBacks" ∈ lw_tbl := tm_1 (List.mem_of_getElem? (i := 37) rfl)
theorem mn_X11_18 : Cond.methodLinkNest RX11 18 yX1_init "ThroneBacks" ∈ lw_tbl := tm_1 (List.mem_of_getElem? (i := 72) rfl)
theorem mn_X11_48 : Cond.methodLinkNest RX11 48 yX6_init "ThroneBacks" ∈ lw_tbl := tm_1 (List.mem_of_getElem? (i := 172) rfl)
theorem mn_X5_11 : Cond.methodLinkNest RX5 11 yX9_init "ThroneBacks" ∈ lw_tbl := tm_1 (List.mem_of_getElem? (i := 223) rfl)
theorem mn_X7_11 : Cond.methodLinkNest RX7 11 yX9_init "ThroneBacks" ∈ lw_tbl := tm_2 (List.mem_of_getElem? (i := 118) rfl)
theorem fn_X11_103 : Cond.fieldLinkNest RX11 103 "ThroneBacks$Tape" "size" "I" "ThroneBacks" ∈ lw_tbl := tm_1 (List.mem_of_getElem? (i := 42) rfl)
theorem fn_X0_48 : Cond.fieldLinkNest RX0 48 "ThroneBacks$Tape" "at" "I" "ThroneBacks" ∈ lw_tbl := tm_1 (List.mem_of_getElem? (i := 46) rfl)
theorem fn_X11_175 : Cond.fieldLinkNest RX11 175 "ThroneBacks$Tape" "faultPlace" "I" "ThroneBacks" ∈ lw_tbl := tm_1 (List.mem_of_getElem? (i := 51) rfl)
theorem fn_X8_60 : Cond.fieldLinkNest RX8 60 "ThroneBacks$Court" "strength" "[I" "ThroneBacks" ∈ lw_tbl := tm_1 (List.mem_of_getElem? (i := 77) rfl)
theorem fn_X3_97 : Cond.fieldLinkNest RX3 97 "ThroneBacks$Court" "strength" "[I" "ThroneBacks" ∈ lw_tbl := tm_1 (List.mem_of_getElem? (i := 78) rfl)
theorem fn_X11_217 : Cond.fieldLinkNest RX11 217 "ThroneBacks$Court" "strength" "[I" "ThroneBacks" ∈ lw_tbl := tm_1 (List.mem_of_getElem? (i := 79) rfl)
theorem fn_X3_19 : Cond.fieldLinkNest RX3 19 "ThroneBacks$Court" "care" "[I" "ThroneBacks" ∈ lw_tbl := tm_1 (List.mem_of_getElem? (i := 81) rfl)
theorem fn_X11_221 : Cond.fieldLinkNest RX11 221 "ThroneBacks$Court" "care" "[I" "ThroneBacks" ∈ lw_tbl := tm_1 (List.mem_of_getElem? (i := 82) rfl)
theorem fn_X3_59 : Cond.fieldLinkNest RX3 59 "ThroneBacks$Court" "hours" "[I" "ThroneBacks" ∈ lw_tbl := tm_1 (List.mem_of_getElem? (i := 84) rfl)
theorem fn_X11_243 : Cond.fieldLinkNest RX11 243 "ThroneBacks$Court" "hours" "[I" "ThroneBacks" ∈ lw_tbl := tm_1 (List.mem_of_getElem? (i := 85) rfl)
theorem fn_X3_56 : Cond.fieldLinkNest RX3 56 "ThroneBacks$Court" "lie" "[I" "ThroneBacks" ∈ lw_tbl := tm_1 (List.mem_of_getElem? (i := 87) rfl)
theorem fn_X11_246 : Cond.fieldLinkNest RX11 246 "ThroneBacks$Court" "lie" "[I" "ThroneBacks" ∈ lw_tbl := tm_1 (List.mem_of_getElem? (i := 88) rfl)
theorem fn_X2_36 : Cond.fieldLinkNest RX2 36 "ThroneBacks$Court" "backs" "I" "ThroneBacks" ∈ lw_tbl := tm_1 (List.mem_of_getElem? (i := 89) rfl)
theorem fn_X7_39 : Cond.fieldLinkNest RX7 39 "ThroneBacks$Court" "backs" "I" "ThroneBacks" ∈ lw_tbl := tm_1 (List.mem_of_getElem? (i := 90) rfl)
theorem fn_X8_51 : Cond.fieldLinkNest RX8 51 "ThroneBacks$Court" "backs" "I" "ThroneBacks" ∈ lw_tbl := tm_1 (List.mem_of_getElem? (i := 92) rfl)
theorem fn_X11_143 : Cond.fieldLinkNest RX11 143 "ThroneBacks$Court" "backs" "I" "ThroneBacks" ∈ lw_tbl := tm_1 (List.mem_of_getElem? (i := 93) rfl)
theorem fn_X6_104 : Cond.fieldLinkNest RX6 104 "ThroneBacks$Court" "backs" "I" "ThroneBacks" ∈ lw_tbl := tm_1 (List.mem_of_getElem? (i := 94) rfl)
theorem fn_X3_113 : Cond.fieldLinkNest RX3 113 "ThroneBacks$Court" "backs" "I" "ThroneBacks" ∈ lw_tbl := tm_1 (List.mem_of_getElem? (i := 95) rfl)
theorem fn_X8_47 : Cond.fieldLinkNest RX8 47 "ThroneBacks$Court" "councils" "I" "ThroneBacks" ∈ lw_tbl := tm_1 (List.mem_of_getElem? (i := 96) rfl)
theorem fn_X2_41 : Cond.fieldLinkNest RX2 41 "ThroneBacks$Court" "councils" "I" "ThroneBacks" ∈ lw_tbl := tm_1 (List.mem_of_getElem? (i := 97) rfl)
theorem fn_X7_44 : Cond.fieldLinkNest RX7 44 "ThroneBacks$Court" "councils" "I" "ThroneBacks" ∈ lw_tbl := tm_1 (List.mem_of_getElem? (i := 98) rfl)
theorem fn_X6_109 : Cond.fieldLinkNest RX6 109 "ThroneBacks$Court" "councils" "I" "ThroneBacks" ∈ lw_tbl := tm_1 (List.mem_of_getElem? (i := 100) rfl)
theorem fn_X11_184 : Cond.fieldLinkNest RX11 184 "ThroneBacks$Court" "councils" "I" "ThroneBacks" ∈ lw_tbl := tm_1 (List.mem_of_getElem? (i := 101) rfl)
theorem fn_X3_40 : Cond.fieldLinkNest RX3 40 "ThroneBacks$Court" "weight" "I" "ThroneBacks" ∈ lw_tbl := tm_1 (List.mem_of_getElem? (i := 103) rfl)
theorem fn_X11_187 : Cond.fieldLinkNest RX11 187 "ThroneBacks$Court" "weight" "I" "ThroneBacks" ∈ lw_tbl := tm_1 (List.mem_of_getElem? (i := 104) rfl)
theorem fn_X2_84 : Cond.fieldLinkNest RX2 84 "ThroneBacks$Book" "tired" "[I" "ThroneBacks" ∈ lw_tbl := tm_1 (List.mem_of_getElem? (i := 162) rfl)
theorem fn_X11_172 : Cond.fieldLinkNest RX11 172 "ThroneBacks$Book" "many" "I" "ThroneBacks" ∈ lw_tbl := tm_1 (List.mem_of_getElem? (i := 164) rfl)
theorem fn_X11_163 : Cond.fieldLinkNest RX11 163 "ThroneBacks$Plan" "refused" "I" "ThroneBacks" ∈ lw_tbl := tm_1 (List.mem_of_getElem? (i := 183) rfl)
theorem fn_X8_41 : Cond.fieldLinkNest RX8 41 "ThroneBacks$Hall" "court" "LThroneBacks$Court;" "ThroneBacks" ∈ lw_tbl := tm_1 (List.mem_of_getElem? (i := 206) rfl)
theorem fn_X2_30 : Cond.fieldLinkNest RX2 30 "ThroneBacks$Hall" "court" "LThroneBacks$Court;" "ThroneBacks" ∈ lw_tbl := tm_1 (List.mem_of_getElem? (i := 207) rfl)
theorem fn_X7_33 : Cond.fieldLinkNest RX7 33 "ThroneBacks$Hall" "court" "LThroneBacks$Court;" "ThroneBacks" ∈ lw_tbl := tm_1 (List.mem_of_getElem? (i := 208) rfl)
theorem fn_X8_63 : Cond.fieldLinkNest RX8 63 "ThroneBacks$State" "tired" "[I" "ThroneBacks" ∈ lw_tbl := tm_1 (List.mem_of_getElem? (i := 228) rfl)
theorem fn_X3_25 : Cond.fieldLinkNest RX3 25 "ThroneBacks$State" "tired" "[I" "ThroneBacks" ∈ lw_tbl := tm_1 (List.mem_of_getElem? (i := 229) rfl)
theorem fn_X2_81 : Cond.fieldLinkNest RX2 81 "ThroneBacks$State" "tired" "[I" "ThroneBacks" ∈ lw_tbl := tm_1 (List.mem_of_getElem? (i := 230) rfl)
theorem fn_X11_224 : Cond.fieldLinkNest RX11 224 "ThroneBacks$State" "tired" "[I" "ThroneBacks" ∈ lw_tbl := tm_1 (List.mem_of_getElem? (i := 231) rfl)
theorem fn_X11_234 : Cond.fieldLinkNest RX11 234 "ThroneBacks$State" "boreTimes" "[I" "ThroneBacks" ∈ lw_tbl := tm_1 (List.mem_of_getElem? (i := 233) rfl)
theorem fn_X11_237 : Cond.fieldLinkNest RX11 237 "ThroneBacks$State" "boreBits" "[I" "ThroneBacks" ∈ lw_tbl := tm_1 (List.mem_of_getElem? (i := 235) rfl)
theorem fn_X3_66 : Cond.fieldLinkNest RX3 66 "ThroneBacks$State" "knownBits" "[I" "ThroneBacks" ∈ lw_tbl := tm_1 (List.mem_of_getElem? (i := 237) rfl)
theorem fn_X11_231 : Cond.fieldLinkNest RX11 231 "ThroneBacks$State" "knownBits" "[I" "ThroneBacks" ∈ lw_tbl := tm_1 (List.mem_of_getElem? (i := 238) rfl)
theorem fn_X11_249 : Cond.fieldLinkNest RX11 249 "ThroneBacks$State" "borneTimes" "[I" "ThroneBacks" ∈ lw_tbl := tm_2 (List.mem_of_getElem? (i := 1) rfl)
theorem fn_X3_103 : Cond.fieldLinkNest RX3 103 "ThroneBacks$State" "fellBits" "I" "ThroneBacks" ∈ lw_tbl := tm_2 (List.mem_of_getElem? (i := 3) rfl)
theorem fn_X11_198 : Cond.fieldLinkNest RX11 198 "ThroneBacks$State" "fellBits" "I" "ThroneBacks" ∈ lw_tbl := tm_2 (List.mem_of_getElem? (i := 4) rfl)
theorem fn_X3_47 : Cond.fieldLinkNest RX3 47 "ThroneBacks$State" "day" "I" "ThroneBacks" ∈ lw_tbl := tm_2 (List.mem_of_getElem? (i := 6) rfl)
theorem fn_X11_190 : Cond.fieldLinkNest RX11 190 "ThroneBacks$State" "day" "I" "ThroneBacks" ∈ lw_tbl := tm_2 (List.mem_of_getElem? (i := 7) rfl)
theorem fn_X3_44 : Cond.fieldLinkNest RX3 44 "ThroneBacks$State" "held" "I" "ThroneBacks" ∈ lw_tbl := tm_2 (List.mem_of_getElem? (i := 9) rfl)
theorem fn_X11_195 : Cond.fieldLinkNest RX11 195 "ThroneBacks$State" "held" "I" "ThroneBacks" ∈ lw_tbl := tm_2 (List.mem_of_getElem? (i := 10) rfl)
theorem fn_X11_69 : Cond.fieldLinkNest RX11 69 "ThroneBacks$Past" "now" "LThroneBacks$State;" "ThroneBacks" ∈ lw_tbl := tm_2 (List.mem_of_getElem? (i := 32) rfl)
theorem fn_X11_150 : Cond.fieldLinkNest RX11 150 "ThroneBacks$Past" "works" "I" "ThroneBacks" ∈ lw_tbl := tm_2 (List.mem_of_getElem? (i := 35) rfl)
theorem fn_X11_299 : Cond.fieldLinkNest RX11 299 "ThroneBacks$Roster" "leastSum" "I" "ThroneBacks" ∈ lw_tbl := tm_2 (List.mem_of_getElem? (i := 59) rfl)
theorem fn_X11_328 : Cond.fieldLinkNest RX11 328 "ThroneBacks$Guess" "pairs" "I" "ThroneBacks" ∈ lw_tbl := tm_2 (List.mem_of_getElem? (i := 89) rfl)
theorem fn_X11_331 : Cond.fieldLinkNest RX11 331 "ThroneBacks$Guess" "firstPair" "I" "ThroneBacks" ∈ lw_tbl := tm_2 (List.mem_of_getElem? (i := 91) rfl)
theorem fn_X11_337 : Cond.fieldLinkNest RX11 337 "ThroneBacks$Guess" "lookAt" "I" "ThroneBacks" ∈ lw_tbl := tm_2 (List.mem_of_getElem? (i := 93) rfl)
theorem fn_X11_340 : Cond.fieldLinkNest RX11 340 "ThroneBacks$Guess" "leftAtWorst" "I" "ThroneBacks" ∈ lw_tbl := tm_2 (List.mem_of_getElem? (i := 95) rfl)
theorem fn_X11_380 : Cond.fieldLinkNest RX11 380 "ThroneBacks$Reign" "state" "LThroneBacks$State;" "ThroneBacks" ∈ lw_tbl := tm_2 (List.mem_of_getElem? (i := 121) rfl)
theorem fn_X11_377 : Cond.fieldLinkNest RX11 377 "ThroneBacks$Reign" "borne" "I" "ThroneBacks" ∈ lw_tbl := tm_2 (List.mem_of_getElem? (i := 124) rfl)
theorem sr_X11_411 : Cond.stringRef RX11 411 "a number outside its range" ∈ lw_tbl := tm_3 (List.mem_of_getElem? (i := 58) rfl)
theorem sr_X1_57 : Cond.stringRef RX1 57 "back" ∈ lw_tbl := tm_3 (List.mem_of_getElem? (i := 108) rfl)
theorem sr_X1_63 : Cond.stringRef RX1 63 "council" ∈ lw_tbl := tm_3 (List.mem_of_getElem? (i := 161) rfl)
theorem sr_X1_65 : Cond.stringRef RX1 65 "king" ∈ lw_tbl := tm_3 (List.mem_of_getElem? (i := 162) rfl)
theorem sr_X4_85 : Cond.stringRef RX4 85 "least" ∈ lw_tbl := tm_4 (List.mem_of_getElem? (i := 21) rfl)
theorem sr_X4_91 : Cond.stringRef RX4 91 "most" ∈ lw_tbl := tm_4 (List.mem_of_getElem? (i := 23) rfl)
theorem sr_X4_106 : Cond.stringRef RX4 106 "weight" ∈ lw_tbl := tm_4 (List.mem_of_getElem? (i := 32) rfl)
theorem sr_X4_108 : Cond.stringRef RX4 108 "held" ∈ lw_tbl := tm_4 (List.mem_of_getElem? (i := 33) rfl)
theorem sr_X4_110 : Cond.stringRef RX4 110 "lie" ∈ lw_tbl := tm_4 (List.mem_of_getElem? (i := 34) rfl)
theorem sr_X4_112 : Cond.stringRef RX4 112 "hours" ∈ lw_tbl := tm_4 (List.mem_of_getElem? (i := 35) rfl)
theorem sr_X4_114 : Cond.stringRef RX4 114 "care" ∈ lw_tbl := tm_4 (List.mem_of_getElem? (i := 36) rfl)
theorem sr_X4_116 : Cond.stringRef RX4 116 "tired" ∈ lw_tbl := tm_4 (List.mem_of_getElem? (i := 37) rfl)
theorem sr_X4_118 : Cond.stringRef RX4 118 "knows" ∈ lw_tbl := tm_4 (List.mem_of_getElem? (i := 38) rfl)
theorem sr_X4_120 : Cond.stringRef RX4 120 "day" ∈ lw_tbl := tm_4 (List.mem_of_getElem? (i := 39) rfl)
theorem sr_X4_122 : Cond.stringRef RX4 122 "back" ∈ lw_tbl := tm_4 (List.mem_of_getElem? (i := 40) rfl)
theorem sr_X6_99 : Cond.stringRef RX6 99 "sit" ∈ lw_tbl := tm_4 (List.mem_of_getElem? (i := 73) rfl)
theorem sr_X6_116 : Cond.stringRef RX6 116 "tell" ∈ lw_tbl := tm_4 (List.mem_of_getElem? (i := 84) rfl)
theorem sr_X6_117 : Cond.stringRef RX6 117 "hold" ∈ lw_tbl := tm_4 (List.mem_of_getElem? (i := 85) rfl)
theorem sr_X6_122 : Cond.stringRef RX6 122 "rest" ∈ lw_tbl := tm_4 (List.mem_of_getElem? (i := 90) rfl)
theorem sr_X6_123 : Cond.stringRef RX6 123 "day" ∈ lw_tbl := tm_4 (List.mem_of_getElem? (i := 91) rfl)
theorem sr_X6_129 : Cond.stringRef RX6 129 "again" ∈ lw_tbl := tm_4 (List.mem_of_getElem? (i := 92) rfl)
theorem sr_X11_402 : Cond.stringRef RX11 402 "no such back" ∈ lw_tbl := tm_5 (List.mem_of_getElem? (i := 52) rfl)
theorem sr_X11_407 : Cond.stringRef RX11 407 "no such council" ∈ lw_tbl := tm_5 (List.mem_of_getElem? (i := 71) rfl)
theorem sr_X11_414 : Cond.stringRef RX11 414 "bits of none such" ∈ lw_tbl := tm_5 (List.mem_of_getElem? (i := 146) rfl)
theorem sr_X12_203 : Cond.stringRef RX12 203 "council" ∈ lw_tbl := tm_7 (List.mem_of_getElem? (i := 112) rfl)
theorem sr_X12_182 : Cond.stringRef RX12 182 "back" ∈ lw_tbl := tm_7 (List.mem_of_getElem? (i := 129) rfl)
theorem sr_X12_187 : Cond.stringRef RX12 187 "king" ∈ lw_tbl := tm_7 (List.mem_of_getElem? (i := 133) rfl)
theorem sr_X12_264 : Cond.stringRef RX12 264 "least" ∈ lw_tbl := tm_7 (List.mem_of_getElem? (i := 189) rfl)
theorem sr_X12_269 : Cond.stringRef RX12 269 "most" ∈ lw_tbl := tm_7 (List.mem_of_getElem? (i := 194) rfl)
theorem sr_X12_248 : Cond.stringRef RX12 248 "weight" ∈ lw_tbl := tm_7 (List.mem_of_getElem? (i := 199) rfl)
theorem sr_X12_250 : Cond.stringRef RX12 250 "held" ∈ lw_tbl := tm_7 (List.mem_of_getElem? (i := 200) rfl)
theorem sr_X12_252 : Cond.stringRef RX12 252 "lie" ∈ lw_tbl := tm_7 (List.mem_of_getElem? (i := 201) rfl)
theorem sr_X12_254 : Cond.stringRef RX12 254 "hours" ∈ lw_tbl := tm_7 (List.mem_of_getElem? (i := 202) rfl)
theorem sr_X12_256 : Cond.stringRef RX12 256 "care" ∈ lw_tbl := tm_7 (List.mem_of_getElem? (i := 203) rfl)
theorem sr_X12_258 : Cond.stringRef RX12 258 "tired" ∈ lw_tbl := tm_7 (List.mem_of_getElem? (i := 204) rfl)
theorem sr_X12_260 : Cond.stringRef RX12 260 "knows" ∈ lw_tbl := tm_7 (List.mem_of_getElem? (i := 205) rfl)
theorem sr_X12_262 : Cond.stringRef RX12 262 "day" ∈ lw_tbl := tm_7 (List.mem_of_getElem? (i := 206) rfl)
theorem sr_X12_284 : Cond.stringRef RX12 284 "sit" ∈ lw_tbl := tm_7 (List.mem_of_getElem? (i := 218) rfl)
theorem sr_X12_286 : Cond.stringRef RX12 286 "tell" ∈ lw_tbl := tm_7 (List.mem_of_getElem? (i := 219) rfl)
theorem sr_X12_288 : Cond.stringRef RX12 288 "hold" ∈ lw_tbl := tm_7 (List.mem_of_getElem? (i := 220) rfl)
theorem sr_X12_290 : Cond.stringRef RX12 290 "rest" ∈ lw_tbl := tm_7 (List.mem_of_getElem? (i := 221) rfl)
theorem sr_X12_292 : Cond.stringRef RX12 292 "again" ∈ lw_tbl := tm_7 (List.mem_of_getElem? (i := 222) rfl)
theorem ao_State : Cond.arrayOver (.object "ThroneBacks$State") ∈ lw_tbl := tm_2 (List.mem_of_getElem? (i := 30) rfl)
theorem ao_Past : Cond.arrayOver (.object "ThroneBacks$Past") ∈ lw_tbl := tm_2 (List.mem_of_getElem? (i := 43) rfl)
end Words
