section Words
theorem se_X11_isEasedTo : Cond.selects RX11 yX11_isEasedTo yX11_isEasedTo ∈ lw_good := List.mem_filter.mpr ⟨tp_3 (List.mem_of_getElem? (i := 0) rfl), rfl⟩
theorem cd_X11_strengthOf : Cond.code yX11_strengthOf cX11_strengthOf 4 (some .int) ∈ lw_good := List.mem_filter.mpr ⟨tm_6 (List.mem_of_getElem? (i := 7) rfl), rfl⟩
theorem in_X11_strengthOf : Cond.instanceMethod yX11_strengthOf ∈ lw_good := List.mem_filter.mpr ⟨tm_6 (List.mem_of_getElem? (i := 6) rfl), rfl⟩
theorem se_X11_strengthOf : Cond.selects RX11 yX11_strengthOf yX11_strengthOf ∈ lw_good := List.mem_filter.mpr ⟨tp_3 (List.mem_of_getElem? (i := 4) rfl), rfl⟩
theorem cd_X11_needsEach : Cond.code yX11_needsEach cX11_needsEach 5 (some .boolean) ∈ lw_good := List.mem_filter.mpr ⟨tm_6 (List.mem_of_getElem? (i := 11) rfl), rfl⟩
theorem in_X11_needsEach : Cond.instanceMethod yX11_needsEach ∈ lw_good := List.mem_filter.mpr ⟨tm_6 (List.mem_of_getElem? (i := 10) rfl), rfl⟩
theorem se_X11_needsEach : Cond.selects RX11 yX11_needsEach yX11_needsEach ∈ lw_good := List.mem_filter.mpr ⟨tp_3 (List.mem_of_getElem? (i := 5) rfl), rfl⟩
theorem cd_X11_balmGiven : Cond.code yX11_balmGiven cX11_balmGiven 5 (some .int) ∈ lw_good := List.mem_filter.mpr ⟨tm_6 (List.mem_of_getElem? (i := 49) rfl), rfl⟩
theorem in_X11_balmGiven : Cond.instanceMethod yX11_balmGiven ∈ lw_good := List.mem_filter.mpr ⟨tm_6 (List.mem_of_getElem? (i := 48) rfl), rfl⟩
theorem se_X11_balmGiven : Cond.selects RX11 yX11_balmGiven yX11_balmGiven ∈ lw_good := List.mem_filter.mpr ⟨tp_3 (List.mem_of_getElem? (i := 6) rfl), rfl⟩
theorem cd_X11_choices : Cond.code yX11_choices cX11_choices 5 (some .long) ∈ lw_good := List.mem_filter.mpr ⟨tm_6 (List.mem_of_getElem? (i := 21) rfl), rfl⟩
theorem sa_X11_choices : Cond.static yX11_choices ∈ lw_good := List.mem_filter.mpr ⟨tm_6 (List.mem_of_getElem? (i := 20) rfl), rfl⟩
theorem cd_X11_power : Cond.code yX11_power cX11_power 5 (some .long) ∈ lw_good := List.mem_filter.mpr ⟨tm_6 (List.mem_of_getElem? (i := 24) rfl), rfl⟩
theorem sa_X11_power : Cond.static yX11_power ∈ lw_good := List.mem_filter.mpr ⟨tm_6 (List.mem_of_getElem? (i := 23) rfl), rfl⟩
theorem cd_X11_hasBy : Cond.code yX11_hasBy cX11_hasBy 4 (some .int) ∈ lw_good := List.mem_filter.mpr ⟨tm_6 (List.mem_of_getElem? (i := 38) rfl), rfl⟩
theorem sa_X11_hasBy : Cond.static yX11_hasBy ∈ lw_good := List.mem_filter.mpr ⟨tm_6 (List.mem_of_getElem? (i := 37) rfl), rfl⟩
theorem cd_X11_isRest : Cond.code yX11_isRest cX11_isRest 4 (some .boolean) ∈ lw_good := List.mem_filter.mpr ⟨tm_6 (List.mem_of_getElem? (i := 35) rfl), rfl⟩
theorem sa_X11_isRest : Cond.static yX11_isRest ∈ lw_good := List.mem_filter.mpr ⟨tm_6 (List.mem_of_getElem? (i := 34) rfl), rfl⟩
theorem cd_X12_thrown : Cond.code yX12_thrown cX12_thrown 1 (some .int) ∈ lw_good := List.mem_filter.mpr ⟨tm_6 (List.mem_of_getElem? (i := 146) rfl), rfl⟩
theorem in_X12_thrown : Cond.instanceMethod yX12_thrown ∈ lw_good := List.mem_filter.mpr ⟨tm_6 (List.mem_of_getElem? (i := 144) rfl), rfl⟩
theorem se_X12_thrown : Cond.selects RX12 yX12_thrown yX12_thrown ∈ lw_good := List.mem_filter.mpr ⟨tm_6 (List.mem_of_getElem? (i := 145) rfl), rfl⟩
theorem cd_X12_may : Cond.code yX12_may cX12_may 4 (some .boolean) ∈ lw_good := List.mem_filter.mpr ⟨tm_7 (List.mem_of_getElem? (i := 95) rfl), rfl⟩
theorem in_X12_may : Cond.instanceMethod yX12_may ∈ lw_good := List.mem_filter.mpr ⟨tm_7 (List.mem_of_getElem? (i := 94) rfl), rfl⟩
theorem se_X12_may : Cond.selects RX12 yX12_may yX12_may ∈ lw_good := List.mem_filter.mpr ⟨tp_3 (List.mem_of_getElem? (i := 13) rfl), rfl⟩
theorem cd_X12_within : Cond.code yX12_within cX12_within 3 (some .boolean) ∈ lw_good := List.mem_filter.mpr ⟨tm_8 (List.mem_of_getElem? (i := 79) rfl), rfl⟩
theorem sa_X12_within : Cond.static yX12_within ∈ lw_good := List.mem_filter.mpr ⟨tm_8 (List.mem_of_getElem? (i := 78) rfl), rfl⟩
theorem cd_X12_init : Cond.code yX12_init cX12_init 1 none ∈ lw_good := List.mem_filter.mpr ⟨tm_6 (List.mem_of_getElem? (i := 151) rfl), rfl⟩
theorem in_X12_init : Cond.instanceMethod yX12_init ∈ lw_good := List.mem_filter.mpr ⟨tm_6 (List.mem_of_getElem? (i := 150) rfl), rfl⟩
theorem cd_X12_feed : Cond.code yX12_feed cX12_feed 8 (some .int) ∈ lw_good := List.mem_filter.mpr ⟨tm_7 (List.mem_of_getElem? (i := 83) rfl), rfl⟩
theorem in_X12_feed : Cond.instanceMethod yX12_feed ∈ lw_good := List.mem_filter.mpr ⟨tm_7 (List.mem_of_getElem? (i := 81) rfl), rfl⟩
theorem se_X12_feed : Cond.selects RX12 yX12_feed yX12_feed ∈ lw_good := List.mem_filter.mpr ⟨tm_7 (List.mem_of_getElem? (i := 82) rfl), rfl⟩
theorem cd_X12_fine : Cond.code yX12_fine cX12_fine 1 (some .boolean) ∈ lw_good := List.mem_filter.mpr ⟨tm_7 (List.mem_of_getElem? (i := 103) rfl), rfl⟩
theorem in_X12_fine : Cond.instanceMethod yX12_fine ∈ lw_good := List.mem_filter.mpr ⟨tm_7 (List.mem_of_getElem? (i := 102) rfl), rfl⟩
theorem se_X12_fine : Cond.selects RX12 yX12_fine yX12_fine ∈ lw_good := List.mem_filter.mpr ⟨tp_3 (List.mem_of_getElem? (i := 15) rfl), rfl⟩
theorem cd_X12_wrong : Cond.code yX12_wrong cX12_wrong 3 none ∈ lw_good := List.mem_filter.mpr ⟨tm_7 (List.mem_of_getElem? (i := 137) rfl), rfl⟩
theorem in_X12_wrong : Cond.instanceMethod yX12_wrong ∈ lw_good := List.mem_filter.mpr ⟨tm_7 (List.mem_of_getElem? (i := 136) rfl), rfl⟩
theorem se_X12_wrong : Cond.selects RX12 yX12_wrong yX12_wrong ∈ lw_good := List.mem_filter.mpr ⟨tp_4 (List.mem_of_getElem? (i := 4) rfl), rfl⟩
theorem cd_X12_here : Cond.code yX12_here cX12_here 1 (some .int) ∈ lw_good := List.mem_filter.mpr ⟨tm_7 (List.mem_of_getElem? (i := 111) rfl), rfl⟩
theorem in_X12_here : Cond.instanceMethod yX12_here ∈ lw_good := List.mem_filter.mpr ⟨tm_7 (List.mem_of_getElem? (i := 110) rfl), rfl⟩
theorem se_X12_here : Cond.selects RX12 yX12_here yX12_here ∈ lw_good := List.mem_filter.mpr ⟨tp_4 (List.mem_of_getElem? (i := 1) rfl), rfl⟩
theorem cd_X12_isSmall : Cond.code yX12_isSmall cX12_isSmall 1 (some .boolean) ∈ lw_good := List.mem_filter.mpr ⟨tm_7 (List.mem_of_getElem? (i := 121) rfl), rfl⟩
theorem sa_X12_isSmall : Cond.static yX12_isSmall ∈ lw_good := List.mem_filter.mpr ⟨tm_7 (List.mem_of_getElem? (i := 120) rfl), rfl⟩
theorem cd_X12_isDigit : Cond.code yX12_isDigit cX12_isDigit 1 (some .boolean) ∈ lw_good := List.mem_filter.mpr ⟨tm_7 (List.mem_of_getElem? (i := 156) rfl), rfl⟩
theorem sa_X12_isDigit : Cond.static yX12_isDigit ∈ lw_good := List.mem_filter.mpr ⟨tm_7 (List.mem_of_getElem? (i := 155) rfl), rfl⟩
theorem cd_X12_wordHere : Cond.code yX12_wordHere cX12_wordHere 4 (some .int) ∈ lw_good := List.mem_filter.mpr ⟨tm_7 (List.mem_of_getElem? (i := 125) rfl), rfl⟩
theorem in_X12_wordHere : Cond.instanceMethod yX12_wordHere ∈ lw_good := List.mem_filter.mpr ⟨tm_7 (List.mem_of_getElem? (i := 124) rfl), rfl⟩
theorem se_X12_wordHere : Cond.selects RX12 yX12_wordHere yX12_wordHere ∈ lw_good := List.mem_filter.mpr ⟨tp_4 (List.mem_of_getElem? (i := 3) rfl), rfl⟩
theorem cd_X12_of : Cond.code yX12_of cX12_of 3 (some .int) ∈ lw_good := List.mem_filter.mpr ⟨tm_7 (List.mem_of_getElem? (i := 132) rfl), rfl⟩
theorem sa_X12_of : Cond.static yX12_of ∈ lw_good := List.mem_filter.mpr ⟨tm_7 (List.mem_of_getElem? (i := 131) rfl), rfl⟩
theorem cd_X12_pass : Cond.code yX12_pass cX12_pass 1 none ∈ lw_good := List.mem_filter.mpr ⟨tm_7 (List.mem_of_getElem? (i := 145) rfl), rfl⟩
theorem in_X12_pass : Cond.instanceMethod yX12_pass ∈ lw_good := List.mem_filter.mpr ⟨tm_7 (List.mem_of_getElem? (i := 144) rfl), rfl⟩
theorem se_X12_pass : Cond.selects RX12 yX12_pass yX12_pass ∈ lw_good := List.mem_filter.mpr ⟨tp_4 (List.mem_of_getElem? (i := 6) rfl), rfl⟩
theorem cd_X12_readNumber : Cond.code yX12_readNumber cX12_readNumber 6 (some .int) ∈ lw_good := List.mem_filter.mpr ⟨tm_7 (List.mem_of_getElem? (i := 153) rfl), rfl⟩
theorem in_X12_readNumber : Cond.instanceMethod yX12_readNumber ∈ lw_good := List.mem_filter.mpr ⟨tm_7 (List.mem_of_getElem? (i := 152) rfl), rfl⟩
theorem se_X12_readNumber : Cond.selects RX12 yX12_readNumber yX12_readNumber ∈ lw_good := List.mem_filter.mpr ⟨tp_4 (List.mem_of_getElem? (i := 8) rfl), rfl⟩
theorem cd_X12_sign : Cond.code yX12_sign cX12_sign 2 none ∈ lw_good := List.mem_filter.mpr ⟨tm_7 (List.mem_of_getElem? (i := 160) rfl), rfl⟩
theorem in_X12_sign : Cond.instanceMethod yX12_sign ∈ lw_good := List.mem_filter.mpr ⟨tm_7 (List.mem_of_getElem? (i := 159) rfl), rfl⟩
theorem se_X12_sign : Cond.selects RX12 yX12_sign yX12_sign ∈ lw_good := List.mem_filter.mpr ⟨tp_4 (List.mem_of_getElem? (i := 9) rfl), rfl⟩
theorem cd_X12_isMore : Cond.code yX12_isMore cX12_isMore 1 (some .boolean) ∈ lw_good := List.mem_filter.mpr ⟨tm_7 (List.mem_of_getElem? (i := 107) rfl), rfl⟩
theorem in_X12_isMore : Cond.instanceMethod yX12_isMore ∈ lw_good := List.mem_filter.mpr ⟨tm_7 (List.mem_of_getElem? (i := 106) rfl), rfl⟩
theorem se_X12_isMore : Cond.selects RX12 yX12_isMore yX12_isMore ∈ lw_good := List.mem_filter.mpr ⟨tp_4 (List.mem_of_getElem? (i := 0) rfl), rfl⟩
theorem cd_X12_begins : Cond.code yX12_begins cX12_begins 2 none ∈ lw_good := List.mem_filter.mpr ⟨tm_7 (List.mem_of_getElem? (i := 99) rfl), rfl⟩
theorem in_X12_begins : Cond.instanceMethod yX12_begins ∈ lw_good := List.mem_filter.mpr ⟨tm_7 (List.mem_of_getElem? (i := 98) rfl), rfl⟩
theorem se_X12_begins : Cond.selects RX12 yX12_begins yX12_begins ∈ lw_good := List.mem_filter.mpr ⟨tp_3 (List.mem_of_getElem? (i := 14) rfl), rfl⟩
theorem cd_X12_result : Cond.code yX12_result cX12_result 2 (some .int) ∈ lw_good := List.mem_filter.mpr ⟨tm_7 (List.mem_of_getElem? (i := 164) rfl), rfl⟩
theorem in_X12_result : Cond.instanceMethod yX12_result ∈ lw_good := List.mem_filter.mpr ⟨tm_7 (List.mem_of_getElem? (i := 163) rfl), rfl⟩
theorem se_X12_result : Cond.selects RX12 yX12_result yX12_result ∈ lw_good := List.mem_filter.mpr ⟨tp_4 (List.mem_of_getElem? (i := 10) rfl), rfl⟩
theorem cd_X12_fault : Cond.code yX12_fault cX12_fault 1 (some .int) ∈ lw_good := List.mem_filter.mpr ⟨tm_7 (List.mem_of_getElem? (i := 87) rfl), rfl⟩
theorem in_X12_fault : Cond.instanceMethod yX12_fault ∈ lw_good := List.mem_filter.mpr ⟨tm_7 (List.mem_of_getElem? (i := 85) rfl), rfl⟩
theorem se_X12_fault : Cond.selects RX12 yX12_fault yX12_fault ∈ lw_good := List.mem_filter.mpr ⟨tm_7 (List.mem_of_getElem? (i := 86) rfl), rfl⟩
theorem cd_X12_copies : Cond.code yX12_copies cX12_copies 5 none ∈ lw_good := List.mem_filter.mpr ⟨tm_6 (List.mem_of_getElem? (i := 164) rfl), rfl⟩
theorem in_X12_copies : Cond.instanceMethod yX12_copies ∈ lw_good := List.mem_filter.mpr ⟨tm_6 (List.mem_of_getElem? (i := 163) rfl), rfl⟩
theorem se_X12_copies : Cond.selects RX12 yX12_copies yX12_copies ∈ lw_good := List.mem_filter.mpr ⟨tp_3 (List.mem_of_getElem? (i := 12) rfl), rfl⟩
theorem cd_X12_clears : Cond.code yX12_clears cX12_clears 1 none ∈ lw_good := List.mem_filter.mpr ⟨tm_6 (List.mem_of_getElem? (i := 156) rfl), rfl⟩
theorem in_X12_clears : Cond.instanceMethod yX12_clears ∈ lw_good := List.mem_filter.mpr ⟨tm_6 (List.mem_of_getElem? (i := 155) rfl), rfl⟩
theorem se_X12_clears : Cond.selects RX12 yX12_clears yX12_clears ∈ lw_good := List.mem_filter.mpr ⟨tp_3 (List.mem_of_getElem? (i := 10) rfl), rfl⟩
theorem cd_X12_sets : Cond.code yX12_sets cX12_sets 2 none ∈ lw_good := List.mem_filter.mpr ⟨tm_6 (List.mem_of_getElem? (i := 160) rfl), rfl⟩
theorem in_X12_sets : Cond.instanceMethod yX12_sets ∈ lw_good := List.mem_filter.mpr ⟨tm_6 (List.mem_of_getElem? (i := 159) rfl), rfl⟩
theorem se_X12_sets : Cond.selects RX12 yX12_sets yX12_sets ∈ lw_good := List.mem_filter.mpr ⟨tp_3 (List.mem_of_getElem? (i := 11) rfl), rfl⟩
theorem cd_X12_standsHere : Cond.code yX12_standsHere cX12_standsHere 3 (some .boolean) ∈ lw_good := List.mem_filter.mpr ⟨tm_7 (List.mem_of_getElem? (i := 116) rfl), rfl⟩
theorem in_X12_standsHere : Cond.instanceMethod yX12_standsHere ∈ lw_good := List.mem_filter.mpr ⟨tm_7 (List.mem_of_getElem? (i := 115) rfl), rfl⟩
theorem se_X12_standsHere : Cond.selects RX12 yX12_standsHere yX12_standsHere ∈ lw_good := List.mem_filter.mpr ⟨tp_4 (List.mem_of_getElem? (i := 2) rfl), rfl⟩
theorem cd_X12_isRow : Cond.code yX12_isRow cX12_isRow 1 (some .boolean) ∈ lw_good := List.mem_filter.mpr ⟨tm_7 (List.mem_of_getElem? (i := 128) rfl), rfl⟩
theorem sa_X12_isRow : Cond.static yX12_isRow ∈ lw_good := List.mem_filter.mpr ⟨tm_7 (List.mem_of_getElem? (i := 127) rfl), rfl⟩
theorem cd_X12_isFull : Cond.code yX12_isFull cX12_isFull 2 (some .boolean) ∈ lw_good := List.mem_filter.mpr ⟨tm_7 (List.mem_of_getElem? (i := 141) rfl), rfl⟩
theorem in_X12_isFull : Cond.instanceMethod yX12_isFull ∈ lw_good := List.mem_filter.mpr ⟨tm_7 (List.mem_of_getElem? (i := 140) rfl), rfl⟩
theorem se_X12_isFull : Cond.selects RX12 yX12_isFull yX12_isFull ∈ lw_good := List.mem_filter.mpr ⟨tp_4 (List.mem_of_getElem? (i := 5) rfl), rfl⟩
theorem cd_X12_readRow : Cond.code yX12_readRow cX12_readRow 2 none ∈ lw_good := List.mem_filter.mpr ⟨tm_7 (List.mem_of_getElem? (i := 149) rfl), rfl⟩
theorem in_X12_readRow : Cond.instanceMethod yX12_readRow ∈ lw_good := List.mem_filter.mpr ⟨tm_7 (List.mem_of_getElem? (i := 148) rfl), rfl⟩
theorem se_X12_readRow : Cond.selects RX12 yX12_readRow yX12_readRow ∈ lw_good := List.mem_filter.mpr ⟨tp_4 (List.mem_of_getElem? (i := 7) rfl), rfl⟩
theorem cd_X12_court : Cond.code yX12_court cX12_court 5 (some .int) ∈ lw_good := List.mem_filter.mpr ⟨tm_7 (List.mem_of_getElem? (i := 91) rfl), rfl⟩
theorem in_X12_court : Cond.instanceMethod yX12_court ∈ lw_good := List.mem_filter.mpr ⟨tm_7 (List.mem_of_getElem? (i := 89) rfl), rfl⟩
theorem se_X12_court : Cond.selects RX12 yX12_court yX12_court ∈ lw_good := List.mem_filter.mpr ⟨tm_7 (List.mem_of_getElem? (i := 90) rfl), rfl⟩
theorem cd_X12_emit : Cond.code yX12_emit cX12_emit 3 none ∈ lw_good := List.mem_filter.mpr ⟨tm_7 (List.mem_of_getElem? (i := 188) rfl), rfl⟩
theorem in_X12_emit : Cond.instanceMethod yX12_emit ∈ lw_good := List.mem_filter.mpr ⟨tm_7 (List.mem_of_getElem? (i := 187) rfl), rfl⟩
theorem se_X12_emit : Cond.selects RX12 yX12_emit yX12_emit ∈ lw_good := List.mem_filter.mpr ⟨tp_4 (List.mem_of_getElem? (i := 15) rfl), rfl⟩
theorem cd_X12_opensOne : Cond.code yX12_opensOne cX12_opensOne 2 none ∈ lw_good := List.mem_filter.mpr ⟨tm_7 (List.mem_of_getElem? (i := 184) rfl), rfl⟩
theorem in_X12_opensOne : Cond.instanceMethod yX12_opensOne ∈ lw_good := List.mem_filter.mpr ⟨tm_7 (List.mem_of_getElem? (i := 183) rfl), rfl⟩
theorem se_X12_opensOne : Cond.selects RX12 yX12_opensOne yX12_opensOne ∈ lw_good := List.mem_filter.mpr ⟨tp_4 (List.mem_of_getElem? (i := 14) rfl), rfl⟩
theorem cd_X12_readSum : Cond.code yX12_readSum cX12_readSum 2 none ∈ lw_good := List.mem_filter.mpr ⟨tm_7 (List.mem_of_getElem? (i := 172) rfl), rfl⟩
theorem in_X12_readSum : Cond.instanceMethod yX12_readSum ∈ lw_good := List.mem_filter.mpr ⟨tm_7 (List.mem_of_getElem? (i := 171) rfl), rfl⟩
theorem se_X12_readSum : Cond.selects RX12 yX12_readSum yX12_readSum ∈ lw_good := List.mem_filter.mpr ⟨tp_4 (List.mem_of_getElem? (i := 11) rfl), rfl⟩
theorem cd_X12_readProduct : Cond.code yX12_readProduct cX12_readProduct 2 none ∈ lw_good := List.mem_filter.mpr ⟨tm_7 (List.mem_of_getElem? (i := 176) rfl), rfl⟩
theorem in_X12_readProduct : Cond.instanceMethod yX12_readProduct ∈ lw_good := List.mem_filter.mpr ⟨tm_7 (List.mem_of_getElem? (i := 175) rfl), rfl⟩
theorem se_X12_readProduct : Cond.selects RX12 yX12_readProduct yX12_readProduct ∈ lw_good := List.mem_filter.mpr ⟨tp_4 (List.mem_of_getElem? (i := 12) rfl), rfl⟩
theorem cd_X12_readTwo : Cond.code yX12_readTwo cX12_readTwo 3 none ∈ lw_good := List.mem_filter.mpr ⟨tm_7 (List.mem_of_getElem? (i := 193) rfl), rfl⟩
theorem in_X12_readTwo : Cond.instanceMethod yX12_readTwo ∈ lw_good := List.mem_filter.mpr ⟨tm_7 (List.mem_of_getElem? (i := 192) rfl), rfl⟩
theorem se_X12_readTwo : Cond.selects RX12 yX12_readTwo yX12_readTwo ∈ lw_good := List.mem_filter.mpr ⟨tp_5 (List.mem_of_getElem? (i := 0) rfl), rfl⟩
theorem cd_X12_factHere : Cond.code yX12_factHere cX12_factHere 2 (some .int) ∈ lw_good := List.mem_filter.mpr ⟨tm_7 (List.mem_of_getElem? (i := 198) rfl), rfl⟩
theorem in_X12_factHere : Cond.instanceMethod yX12_factHere ∈ lw_good := List.mem_filter.mpr ⟨tm_7 (List.mem_of_getElem? (i := 197) rfl), rfl⟩
theorem se_X12_factHere : Cond.selects RX12 yX12_factHere yX12_factHere ∈ lw_good := List.mem_filter.mpr ⟨tp_5 (List.mem_of_getElem? (i := 1) rfl), rfl⟩
theorem cd_X12_readUnit : Cond.code yX12_readUnit cX12_readUnit 2 none ∈ lw_good := List.mem_filter.mpr ⟨tm_7 (List.mem_of_getElem? (i := 180) rfl), rfl⟩
theorem in_X12_readUnit : Cond.instanceMethod yX12_readUnit ∈ lw_good := List.mem_filter.mpr ⟨tm_7 (List.mem_of_getElem? (i := 179) rfl), rfl⟩
theorem se_X12_readUnit : Cond.selects RX12 yX12_readUnit yX12_readUnit ∈ lw_good := List.mem_filter.mpr ⟨tp_4 (List.mem_of_getElem? (i := 13) rfl), rfl⟩
theorem cd_X12_law : Cond.code yX12_law cX12_law 3 (some .int) ∈ lw_good := List.mem_filter.mpr ⟨tm_7 (List.mem_of_getElem? (i := 168) rfl), rfl⟩
theorem in_X12_law : Cond.instanceMethod yX12_law ∈ lw_good := List.mem_filter.mpr ⟨tm_7 (List.mem_of_getElem? (i := 166) rfl), rfl⟩
theorem se_X12_law : Cond.selects RX12 yX12_law yX12_law ∈ lw_good := List.mem_filter.mpr ⟨tm_7 (List.mem_of_getElem? (i := 167) rfl), rfl⟩
theorem cd_X12_valueNow : Cond.code yX12_valueNow cX12_valueNow 4 (some .int) ∈ lw_good := List.mem_filter.mpr ⟨tm_8 (List.mem_of_getElem? (i := 41) rfl), rfl⟩
theorem in_X12_valueNow : Cond.instanceMethod yX12_valueNow ∈ lw_good := List.mem_filter.mpr ⟨tm_8 (List.mem_of_getElem? (i := 40) rfl), rfl⟩
theorem se_X12_valueNow : Cond.selects RX12 yX12_valueNow yX12_valueNow ∈ lw_good := List.mem_filter.mpr ⟨tp_6 (List.mem_of_getElem? (i := 0) rfl), rfl⟩
theorem cd_X12_both : Cond.code yX12_both cX12_both 3 (some .int) ∈ lw_good := List.mem_filter.mpr ⟨tm_8 (List.mem_of_getElem? (i := 44) rfl), rfl⟩
theorem sa_X12_both : Cond.static yX12_both ∈ lw_good := List.mem_filter.mpr ⟨tm_8 (List.mem_of_getElem? (i := 43) rfl), rfl⟩
theorem cd_X12_loadNow : Cond.code yX12_loadNow cX12_loadNow 2 (some .int) ∈ lw_good := List.mem_filter.mpr ⟨tm_8 (List.mem_of_getElem? (i := 37) rfl), rfl⟩
theorem in_X12_loadNow : Cond.instanceMethod yX12_loadNow ∈ lw_good := List.mem_filter.mpr ⟨tm_8 (List.mem_of_getElem? (i := 36) rfl), rfl⟩
theorem se_X12_loadNow : Cond.selects RX12 yX12_loadNow yX12_loadNow ∈ lw_good := List.mem_filter.mpr ⟨tp_5 (List.mem_of_getElem? (i := 15) rfl), rfl⟩
theorem cd_X12_tellsStep : Cond.code yX12_tellsStep cX12_tellsStep 4 none ∈ lw_good := List.mem_filter.mpr ⟨tm_7 (List.mem_of_getElem? (i := 230) rfl), rfl⟩
theorem in_X12_tellsStep : Cond.instanceMethod yX12_tellsStep ∈ lw_good := List.mem_filter.mpr ⟨tm_7 (List.mem_of_getElem? (i := 229) rfl), rfl⟩
theorem se_X12_tellsStep : Cond.selects RX12 yX12_tellsStep yX12_tellsStep ∈ lw_good := List.mem_filter.mpr ⟨tp_5 (List.mem_of_getElem? (i := 4) rfl), rfl⟩
theorem cd_X12_stepOf : Cond.code yX12_stepOf cX12_stepOf 1 (some .int) ∈ lw_good := List.mem_filter.mpr ⟨tm_7 (List.mem_of_getElem? (i := 217) rfl), rfl⟩
theorem sa_X12_stepOf : Cond.static yX12_stepOf ∈ lw_good := List.mem_filter.mpr ⟨tm_7 (List.mem_of_getElem? (i := 216) rfl), rfl⟩
theorem cd_X12_readBack : Cond.code yX12_readBack cX12_readBack 1 (some .int) ∈ lw_good := List.mem_filter.mpr ⟨tm_7 (List.mem_of_getElem? (i := 234) rfl), rfl⟩
theorem in_X12_readBack : Cond.instanceMethod yX12_readBack ∈ lw_good := List.mem_filter.mpr ⟨tm_7 (List.mem_of_getElem? (i := 233) rfl), rfl⟩
theorem se_X12_readBack : Cond.selects RX12 yX12_readBack yX12_readBack ∈ lw_good := List.mem_filter.mpr ⟨tp_5 (List.mem_of_getElem? (i := 5) rfl), rfl⟩
theorem cd_X12_readAgain : Cond.code yX12_readAgain cX12_readAgain 3 none ∈ lw_good := List.mem_filter.mpr ⟨tm_7 (List.mem_of_getElem? (i := 226) rfl), rfl⟩
theorem in_X12_readAgain : Cond.instanceMethod yX12_readAgain ∈ lw_good := List.mem_filter.mpr ⟨tm_7 (List.mem_of_getElem? (i := 225) rfl), rfl⟩
theorem se_X12_readAgain : Cond.selects RX12 yX12_readAgain yX12_readAgain ∈ lw_good := List.mem_filter.mpr ⟨tp_5 (List.mem_of_getElem? (i := 3) rfl), rfl⟩
theorem cd_X12_readStep : Cond.code yX12_readStep cX12_readStep 3 none ∈ lw_good := List.mem_filter.mpr ⟨tm_7 (List.mem_of_getElem? (i := 214) rfl), rfl⟩
theorem in_X12_readStep : Cond.instanceMethod yX12_readStep ∈ lw_good := List.mem_filter.mpr ⟨tm_7 (List.mem_of_getElem? (i := 213) rfl), rfl⟩
theorem se_X12_readStep : Cond.selects RX12 yX12_readStep yX12_readStep ∈ lw_good := List.mem_filter.mpr ⟨tp_5 (List.mem_of_getElem? (i := 2) rfl), rfl⟩
theorem cd_X12_work : Cond.code yX12_work cX12_work 4 (some .int) ∈ lw_good := List.mem_filter.mpr ⟨tm_7 (List.mem_of_getElem? (i := 210) rfl), rfl⟩
theorem in_X12_work : Cond.instanceMethod yX12_work ∈ lw_good := List.mem_filter.mpr ⟨tm_7 (List.mem_of_getElem? (i := 208) rfl), rfl⟩
theorem se_X12_work : Cond.selects RX12 yX12_work yX12_work ∈ lw_good := List.mem_filter.mpr ⟨tm_7 (List.mem_of_getElem? (i := 209) rfl), rfl⟩
theorem cd_X12_goesSteps : Cond.code yX12_goesSteps cX12_goesSteps 6 none ∈ lw_good := List.mem_filter.mpr ⟨tm_8 (List.mem_of_getElem? (i := 2) rfl), rfl⟩
theorem in_X12_goesSteps : Cond.instanceMethod yX12_goesSteps ∈ lw_good := List.mem_filter.mpr ⟨tm_8 (List.mem_of_getElem? (i := 1) rfl), rfl⟩
theorem se_X12_goesSteps : Cond.selects RX12 yX12_goesSteps yX12_goesSteps ∈ lw_good := List.mem_filter.mpr ⟨tp_5 (List.mem_of_getElem? (i := 7) rfl), rfl⟩
theorem cd_X12_take : Cond.code yX12_take cX12_take 1 none ∈ lw_good := List.mem_filter.mpr ⟨tm_7 (List.mem_of_getElem? (i := 238) rfl), rfl⟩
theorem in_X12_take : Cond.instanceMethod yX12_take ∈ lw_good := List.mem_filter.mpr ⟨tm_7 (List.mem_of_getElem? (i := 237) rfl), rfl⟩
theorem se_X12_take : Cond.selects RX12 yX12_take yX12_take ∈ lw_good := List.mem_filter.mpr ⟨tp_5 (List.mem_of_getElem? (i := 6) rfl), rfl⟩
theorem cd_X12_heardOf : Cond.code yX12_heardOf cX12_heardOf 3 (some .int) ∈ lw_good := List.mem_filter.mpr ⟨tm_8 (List.mem_of_getElem? (i := 26) rfl), rfl⟩
theorem in_X12_heardOf : Cond.instanceMethod yX12_heardOf ∈ lw_good := List.mem_filter.mpr ⟨tm_8 (List.mem_of_getElem? (i := 25) rfl), rfl⟩
theorem se_X12_heardOf : Cond.selects RX12 yX12_heardOf yX12_heardOf ∈ lw_good := List.mem_filter.mpr ⟨tp_5 (List.mem_of_getElem? (i := 13) rfl), rfl⟩
theorem cd_X12_knownBy : Cond.code yX12_knownBy cX12_knownBy 4 (some .int) ∈ lw_good := List.mem_filter.mpr ⟨tm_8 (List.mem_of_getElem? (i := 22) rfl), rfl⟩
theorem in_X12_knownBy : Cond.instanceMethod yX12_knownBy ∈ lw_good := List.mem_filter.mpr ⟨tm_8 (List.mem_of_getElem? (i := 21) rfl), rfl⟩
theorem se_X12_knownBy : Cond.selects RX12 yX12_knownBy yX12_knownBy ∈ lw_good := List.mem_filter.mpr ⟨tp_5 (List.mem_of_getElem? (i := 12) rfl), rfl⟩
theorem cd_X12_ones : Cond.code yX12_ones cX12_ones 3 (some .int) ∈ lw_good := List.mem_filter.mpr ⟨tm_8 (List.mem_of_getElem? (i := 29) rfl), rfl⟩
theorem sa_X12_ones : Cond.static yX12_ones ∈ lw_good := List.mem_filter.mpr ⟨tm_8 (List.mem_of_getElem? (i := 28) rfl), rfl⟩
theorem cd_X12_loadOf : Cond.code yX12_loadOf cX12_loadOf 10 (some .int) ∈ lw_good := List.mem_filter.mpr ⟨tm_8 (List.mem_of_getElem? (i := 33) rfl), rfl⟩
theorem in_X12_loadOf : Cond.instanceMethod yX12_loadOf ∈ lw_good := List.mem_filter.mpr ⟨tm_8 (List.mem_of_getElem? (i := 32) rfl), rfl⟩
theorem se_X12_loadOf : Cond.selects RX12 yX12_loadOf yX12_loadOf ∈ lw_good := List.mem_filter.mpr ⟨tp_5 (List.mem_of_getElem? (i := 14) rfl), rfl⟩
theorem cd_X12_loadBy : Cond.code yX12_loadBy cX12_loadBy 3 (some .int) ∈ lw_good := List.mem_filter.mpr ⟨tm_8 (List.mem_of_getElem? (i := 18) rfl), rfl⟩
theorem in_X12_loadBy : Cond.instanceMethod yX12_loadBy ∈ lw_good := List.mem_filter.mpr ⟨tm_8 (List.mem_of_getElem? (i := 17) rfl), rfl⟩
theorem se_X12_loadBy : Cond.selects RX12 yX12_loadBy yX12_loadBy ∈ lw_good := List.mem_filter.mpr ⟨tp_5 (List.mem_of_getElem? (i := 11) rfl), rfl⟩
theorem cd_X12_burdenBy : Cond.code yX12_burdenBy cX12_burdenBy 3 (some .int) ∈ lw_good := List.mem_filter.mpr ⟨tm_8 (List.mem_of_getElem? (i := 14) rfl), rfl⟩
theorem in_X12_burdenBy : Cond.instanceMethod yX12_burdenBy ∈ lw_good := List.mem_filter.mpr ⟨tm_8 (List.mem_of_getElem? (i := 13) rfl), rfl⟩
theorem se_X12_burdenBy : Cond.selects RX12 yX12_burdenBy yX12_burdenBy ∈ lw_good := List.mem_filter.mpr ⟨tp_5 (List.mem_of_getElem? (i := 10) rfl), rfl⟩
theorem cd_X12_isSat : Cond.code yX12_isSat cX12_isSat 3 (some .boolean) ∈ lw_good := List.mem_filter.mpr ⟨tm_8 (List.mem_of_getElem? (i := 10) rfl), rfl⟩
theorem in_X12_isSat : Cond.instanceMethod yX12_isSat ∈ lw_good := List.mem_filter.mpr ⟨tm_8 (List.mem_of_getElem? (i := 9) rfl), rfl⟩
theorem se_X12_isSat : Cond.selects RX12 yX12_isSat yX12_isSat ∈ lw_good := List.mem_filter.mpr ⟨tp_5 (List.mem_of_getElem? (i := 9) rfl), rfl⟩
theorem cd_X12_newsOf : Cond.code yX12_newsOf cX12_newsOf 3 (some .int) ∈ lw_good := List.mem_filter.mpr ⟨tm_8 (List.mem_of_getElem? (i := 52) rfl), rfl⟩
theorem in_X12_newsOf : Cond.instanceMethod yX12_newsOf ∈ lw_good := List.mem_filter.mpr ⟨tm_8 (List.mem_of_getElem? (i := 51) rfl), rfl⟩
theorem se_X12_newsOf : Cond.selects RX12 yX12_newsOf yX12_newsOf ∈ lw_good := List.mem_filter.mpr ⟨tp_6 (List.mem_of_getElem? (i := 2) rfl), rfl⟩
theorem cd_X12_isToldOn : Cond.code yX12_isToldOn cX12_isToldOn 5 (some .boolean) ∈ lw_good := List.mem_filter.mpr ⟨tm_8 (List.mem_of_getElem? (i := 48) rfl), rfl⟩
theorem in_X12_isToldOn : Cond.instanceMethod yX12_isToldOn ∈ lw_good := List.mem_filter.mpr ⟨tm_8 (List.mem_of_getElem? (i := 47) rfl), rfl⟩
theorem se_X12_isToldOn : Cond.selects RX12 yX12_isToldOn yX12_isToldOn ∈ lw_good := List.mem_filter.mpr ⟨tp_6 (List.mem_of_getElem? (i := 1) rfl), rfl⟩
theorem cd_X12_isRaised : Cond.code yX12_isRaised cX12_isRaised 2 (some .boolean) ∈ lw_good := List.mem_filter.mpr ⟨tm_8 (List.mem_of_getElem? (i := 56) rfl), rfl⟩
theorem in_X12_isRaised : Cond.instanceMethod yX12_isRaised ∈ lw_good := List.mem_filter.mpr ⟨tm_8 (List.mem_of_getElem? (i := 55) rfl), rfl⟩
theorem se_X12_isRaised : Cond.selects RX12 yX12_isRaised yX12_isRaised ∈ lw_good := List.mem_filter.mpr ⟨tp_6 (List.mem_of_getElem? (i := 3) rfl), rfl⟩
theorem cd_X12_isRested : Cond.code yX12_isRested cX12_isRested 2 (some .boolean) ∈ lw_good := List.mem_filter.mpr ⟨tm_8 (List.mem_of_getElem? (i := 60) rfl), rfl⟩
theorem in_X12_isRested : Cond.instanceMethod yX12_isRested ∈ lw_good := List.mem_filter.mpr ⟨tm_8 (List.mem_of_getElem? (i := 59) rfl), rfl⟩
theorem se_X12_isRested : Cond.selects RX12 yX12_isRested yX12_isRested ∈ lw_good := List.mem_filter.mpr ⟨tp_6 (List.mem_of_getElem? (i := 4) rfl), rfl⟩
theorem cd_X12_passes : Cond.code yX12_passes cX12_passes 3 none ∈ lw_good := List.mem_filter.mpr ⟨tm_8 (List.mem_of_getElem? (i := 64) rfl), rfl⟩
theorem in_X12_passes : Cond.instanceMethod yX12_passes ∈ lw_good := List.mem_filter.mpr ⟨tm_8 (List.mem_of_getElem? (i := 63) rfl), rfl⟩
theorem se_X12_passes : Cond.selects RX12 yX12_passes yX12_passes ∈ lw_good := List.mem_filter.mpr ⟨tp_6 (List.mem_of_getElem? (i := 5) rfl), rfl⟩
theorem cd_X12_isDone : Cond.code yX12_isDone cX12_isDone 4 (some .boolean) ∈ lw_good := List.mem_filter.mpr ⟨tm_8 (List.mem_of_getElem? (i := 6) rfl), rfl⟩
theorem in_X12_isDone : Cond.instanceMethod yX12_isDone ∈ lw_good := List.mem_filter.mpr ⟨tm_8 (List.mem_of_getElem? (i := 5) rfl), rfl⟩
theorem se_X12_isDone : Cond.selects RX12 yX12_isDone yX12_isDone ∈ lw_good := List.mem_filter.mpr ⟨tp_5 (List.mem_of_getElem? (i := 8) rfl), rfl⟩
theorem cd_X12_book : Cond.code yX12_book cX12_book 6 (some .int) ∈ lw_good := List.mem_filter.mpr ⟨tm_8 (List.mem_of_getElem? (i := 68) rfl), rfl⟩
theorem in_X12_book : Cond.instanceMethod yX12_book ∈ lw_good := List.mem_filter.mpr ⟨tm_8 (List.mem_of_getElem? (i := 66) rfl), rfl⟩
theorem se_X12_book : Cond.selects RX12 yX12_book yX12_book ∈ lw_good := List.mem_filter.mpr ⟨tm_8 (List.mem_of_getElem? (i := 67) rfl), rfl⟩
theorem cd_X12_undo : Cond.code yX12_undo cX12_undo 2 (some .int) ∈ lw_good := List.mem_filter.mpr ⟨tm_8 (List.mem_of_getElem? (i := 72) rfl), rfl⟩
theorem in_X12_undo : Cond.instanceMethod yX12_undo ∈ lw_good := List.mem_filter.mpr ⟨tm_8 (List.mem_of_getElem? (i := 70) rfl), rfl⟩
theorem se_X12_undo : Cond.selects RX12 yX12_undo yX12_undo ∈ lw_good := List.mem_filter.mpr ⟨tm_8 (List.mem_of_getElem? (i := 71) rfl), rfl⟩
theorem cd_X12_sumOf : Cond.code yX12_sumOf cX12_sumOf 5 (some .int) ∈ lw_good := List.mem_filter.mpr ⟨tm_8 (List.mem_of_getElem? (i := 87) rfl), rfl⟩
theorem in_X12_sumOf : Cond.instanceMethod yX12_sumOf ∈ lw_good := List.mem_filter.mpr ⟨tm_8 (List.mem_of_getElem? (i := 86) rfl), rfl⟩
theorem se_X12_sumOf : Cond.selects RX12 yX12_sumOf yX12_sumOf ∈ lw_good := List.mem_filter.mpr ⟨tp_6 (List.mem_of_getElem? (i := 7) rfl), rfl⟩
theorem cd_X12_bitsOf : Cond.code yX12_bitsOf cX12_bitsOf 4 (some .int) ∈ lw_good := List.mem_filter.mpr ⟨tm_8 (List.mem_of_getElem? (i := 83) rfl), rfl⟩
theorem in_X12_bitsOf : Cond.instanceMethod yX12_bitsOf ∈ lw_good := List.mem_filter.mpr ⟨tm_8 (List.mem_of_getElem? (i := 82) rfl), rfl⟩
theorem se_X12_bitsOf : Cond.selects RX12 yX12_bitsOf yX12_bitsOf ∈ lw_good := List.mem_filter.mpr ⟨tp_6 (List.mem_of_getElem? (i := 6) rfl), rfl⟩
theorem cd_X12_standing : Cond.code yX12_standing cX12_standing 1 (some .int) ∈ lw_good := List.mem_filter.mpr ⟨tm_8 (List.mem_of_getElem? (i := 212) rfl), rfl⟩
theorem in_X12_standing : Cond.instanceMethod yX12_standing ∈ lw_good := List.mem_filter.mpr ⟨tm_8 (List.mem_of_getElem? (i := 211) rfl), rfl⟩
theorem se_X12_standing : Cond.selects RX12 yX12_standing yX12_standing ∈ lw_good := List.mem_filter.mpr ⟨tp_7 (List.mem_of_getElem? (i := 6) rfl), rfl⟩
theorem cd_X12_knownAny : Cond.code yX12_knownAny cX12_knownAny 3 (some .int) ∈ lw_good := List.mem_filter.mpr ⟨tm_8 (List.mem_of_getElem? (i := 91) rfl), rfl⟩
theorem in_X12_knownAny : Cond.instanceMethod yX12_knownAny ∈ lw_good := List.mem_filter.mpr ⟨tm_8 (List.mem_of_getElem? (i := 90) rfl), rfl⟩
theorem se_X12_knownAny : Cond.selects RX12 yX12_knownAny yX12_knownAny ∈ lw_good := List.mem_filter.mpr ⟨tp_6 (List.mem_of_getElem? (i := 8) rfl), rfl⟩
theorem cd_X12_knownAll : Cond.code yX12_knownAll cX12_knownAll 3 (some .int) ∈ lw_good := List.mem_filter.mpr ⟨tm_8 (List.mem_of_getElem? (i := 95) rfl), rfl⟩
theorem in_X12_knownAll : Cond.instanceMethod yX12_knownAll ∈ lw_good := List.mem_filter.mpr ⟨tm_8 (List.mem_of_getElem? (i := 94) rfl), rfl⟩
theorem se_X12_knownAll : Cond.selects RX12 yX12_knownAll yX12_knownAll ∈ lw_good := List.mem_filter.mpr ⟨tp_6 (List.mem_of_getElem? (i := 9) rfl), rfl⟩
theorem cd_X12_told : Cond.code yX12_told cX12_told 2 (some .int) ∈ lw_good := List.mem_filter.mpr ⟨tm_8 (List.mem_of_getElem? (i := 76) rfl), rfl⟩
theorem in_X12_told : Cond.instanceMethod yX12_told ∈ lw_good := List.mem_filter.mpr ⟨tm_8 (List.mem_of_getElem? (i := 74) rfl), rfl⟩
theorem se_X12_told : Cond.selects RX12 yX12_told yX12_told ∈ lw_good := List.mem_filter.mpr ⟨tm_8 (List.mem_of_getElem? (i := 75) rfl), rfl⟩
theorem cd_X12_isBack : Cond.code yX12_isBack cX12_isBack 3 (some .boolean) ∈ lw_good := List.mem_filter.mpr ⟨tm_8 (List.mem_of_getElem? (i := 103) rfl), rfl⟩
theorem in_X12_isBack : Cond.instanceMethod yX12_isBack ∈ lw_good := List.mem_filter.mpr ⟨tm_8 (List.mem_of_getElem? (i := 102) rfl), rfl⟩
theorem se_X12_isBack : Cond.selects RX12 yX12_isBack yX12_isBack ∈ lw_good := List.mem_filter.mpr ⟨tp_6 (List.mem_of_getElem? (i := 10) rfl), rfl⟩
theorem cd_X12_isCouncil : Cond.code yX12_isCouncil cX12_isCouncil 3 (some .boolean) ∈ lw_good := List.mem_filter.mpr ⟨tm_8 (List.mem_of_getElem? (i := 111) rfl), rfl⟩
theorem in_X12_isCouncil : Cond.instanceMethod yX12_isCouncil ∈ lw_good := List.mem_filter.mpr ⟨tm_8 (List.mem_of_getElem? (i := 110) rfl), rfl⟩
theorem se_X12_isCouncil : Cond.selects RX12 yX12_isCouncil yX12_isCouncil ∈ lw_good := List.mem_filter.mpr ⟨tp_6 (List.mem_of_getElem? (i := 11) rfl), rfl⟩
theorem cd_X12_back : Cond.code yX12_back cX12_back 3 (some .int) ∈ lw_good := List.mem_filter.mpr ⟨tm_8 (List.mem_of_getElem? (i := 99) rfl), rfl⟩
theorem in_X12_back : Cond.instanceMethod yX12_back ∈ lw_good := List.mem_filter.mpr ⟨tm_8 (List.mem_of_getElem? (i := 97) rfl), rfl⟩
theorem se_X12_back : Cond.selects RX12 yX12_back yX12_back ∈ lw_good := List.mem_filter.mpr ⟨tm_8 (List.mem_of_getElem? (i := 98) rfl), rfl⟩
theorem cd_X12_council : Cond.code yX12_council cX12_council 5 (some .int) ∈ lw_good := List.mem_filter.mpr ⟨tm_8 (List.mem_of_getElem? (i := 107) rfl), rfl⟩
theorem in_X12_council : Cond.instanceMethod yX12_council ∈ lw_good := List.mem_filter.mpr ⟨tm_8 (List.mem_of_getElem? (i := 105) rfl), rfl⟩
theorem se_X12_council : Cond.selects RX12 yX12_council yX12_council ∈ lw_good := List.mem_filter.mpr ⟨tm_8 (List.mem_of_getElem? (i := 106) rfl), rfl⟩
theorem cd_X12_hearing : Cond.code yX12_hearing cX12_hearing 3 (some .int) ∈ lw_good := List.mem_filter.mpr ⟨tm_8 (List.mem_of_getElem? (i := 115) rfl), rfl⟩
theorem in_X12_hearing : Cond.instanceMethod yX12_hearing ∈ lw_good := List.mem_filter.mpr ⟨tm_8 (List.mem_of_getElem? (i := 113) rfl), rfl⟩
theorem se_X12_hearing : Cond.selects RX12 yX12_hearing yX12_hearing ∈ lw_good := List.mem_filter.mpr ⟨tm_8 (List.mem_of_getElem? (i := 114) rfl), rfl⟩
theorem cd_X12_load : Cond.code yX12_load cX12_load 3 (some .int) ∈ lw_good := List.mem_filter.mpr ⟨tm_8 (List.mem_of_getElem? (i := 119) rfl), rfl⟩
theorem in_X12_load : Cond.instanceMethod yX12_load ∈ lw_good := List.mem_filter.mpr ⟨tm_8 (List.mem_of_getElem? (i := 117) rfl), rfl⟩
theorem se_X12_load : Cond.selects RX12 yX12_load yX12_load ∈ lw_good := List.mem_filter.mpr ⟨tm_8 (List.mem_of_getElem? (i := 118) rfl), rfl⟩
theorem cd_X12_burden : Cond.code yX12_burden cX12_burden 3 (some .int) ∈ lw_good := List.mem_filter.mpr ⟨tm_8 (List.mem_of_getElem? (i := 123) rfl), rfl⟩
theorem in_X12_burden : Cond.instanceMethod yX12_burden ∈ lw_good := List.mem_filter.mpr ⟨tm_8 (List.mem_of_getElem? (i := 121) rfl), rfl⟩
theorem se_X12_burden : Cond.selects RX12 yX12_burden yX12_burden ∈ lw_good := List.mem_filter.mpr ⟨tm_8 (List.mem_of_getElem? (i := 122) rfl), rfl⟩
theorem cd_X12_would : Cond.code yX12_would cX12_would 10 (some .int) ∈ lw_good := List.mem_filter.mpr ⟨tm_8 (List.mem_of_getElem? (i := 127) rfl), rfl⟩
theorem in_X12_would : Cond.instanceMethod yX12_would ∈ lw_good := List.mem_filter.mpr ⟨tm_8 (List.mem_of_getElem? (i := 125) rfl), rfl⟩
theorem se_X12_would : Cond.selects RX12 yX12_would yX12_would ∈ lw_good := List.mem_filter.mpr ⟨tm_8 (List.mem_of_getElem? (i := 126) rfl), rfl⟩
theorem cd_X12_ahead : Cond.code yX12_ahead cX12_ahead 5 (some .int) ∈ lw_good := List.mem_filter.mpr ⟨tm_8 (List.mem_of_getElem? (i := 131) rfl), rfl⟩
theorem in_X12_ahead : Cond.instanceMethod yX12_ahead ∈ lw_good := List.mem_filter.mpr ⟨tm_8 (List.mem_of_getElem? (i := 129) rfl), rfl⟩
theorem se_X12_ahead : Cond.selects RX12 yX12_ahead yX12_ahead ∈ lw_good := List.mem_filter.mpr ⟨tm_8 (List.mem_of_getElem? (i := 130) rfl), rfl⟩
theorem cd_X12_bears : Cond.code yX12_bears cX12_bears 3 (some .boolean) ∈ lw_good := List.mem_filter.mpr ⟨tm_8 (List.mem_of_getElem? (i := 139) rfl), rfl⟩
theorem in_X12_bears : Cond.instanceMethod yX12_bears ∈ lw_good := List.mem_filter.mpr ⟨tm_8 (List.mem_of_getElem? (i := 138) rfl), rfl⟩
theorem se_X12_bears : Cond.selects RX12 yX12_bears yX12_bears ∈ lw_good := List.mem_filter.mpr ⟨tp_6 (List.mem_of_getElem? (i := 12) rfl), rfl⟩
theorem cd_X12_could : Cond.code yX12_could cX12_could 4 (some .int) ∈ lw_good := List.mem_filter.mpr ⟨tm_8 (List.mem_of_getElem? (i := 135) rfl), rfl⟩
theorem in_X12_could : Cond.instanceMethod yX12_could ∈ lw_good := List.mem_filter.mpr ⟨tm_8 (List.mem_of_getElem? (i := 133) rfl), rfl⟩
theorem se_X12_could : Cond.selects RX12 yX12_could yX12_could ∈ lw_good := List.mem_filter.mpr ⟨tm_8 (List.mem_of_getElem? (i := 134) rfl), rfl⟩
theorem cd_X12_ready : Cond.code yX12_ready cX12_ready 4 (some .int) ∈ lw_good := List.mem_filter.mpr ⟨tm_8 (List.mem_of_getElem? (i := 143) rfl), rfl⟩
theorem in_X12_ready : Cond.instanceMethod yX12_ready ∈ lw_good := List.mem_filter.mpr ⟨tm_8 (List.mem_of_getElem? (i := 141) rfl), rfl⟩
theorem se_X12_ready : Cond.selects RX12 yX12_ready yX12_ready ∈ lw_good := List.mem_filter.mpr ⟨tm_8 (List.mem_of_getElem? (i := 142) rfl), rfl⟩
theorem cd_X12_places : Cond.code yX12_places cX12_places 3 none ∈ lw_good := List.mem_filter.mpr ⟨tm_8 (List.mem_of_getElem? (i := 159) rfl), rfl⟩
theorem in_X12_places : Cond.instanceMethod yX12_places ∈ lw_good := List.mem_filter.mpr ⟨tm_8 (List.mem_of_getElem? (i := 158) rfl), rfl⟩
theorem se_X12_places : Cond.selects RX12 yX12_places yX12_places ∈ lw_good := List.mem_filter.mpr ⟨tp_6 (List.mem_of_getElem? (i := 15) rfl), rfl⟩
theorem cd_X12_togetherFor : Cond.code yX12_togetherFor cX12_togetherFor 5 (some .int) ∈ lw_good := List.mem_filter.mpr ⟨tm_8 (List.mem_of_getElem? (i := 164) rfl), rfl⟩
theorem in_X12_togetherFor : Cond.instanceMethod yX12_togetherFor ∈ lw_good := List.mem_filter.mpr ⟨tm_8 (List.mem_of_getElem? (i := 163) rfl), rfl⟩
theorem se_X12_togetherFor : Cond.selects RX12 yX12_togetherFor yX12_togetherFor ∈ lw_good := List.mem_filter.mpr ⟨tp_7 (List.mem_of_getElem? (i := 0) rfl), rfl⟩
theorem cd_X12_laysRoster : Cond.code yX12_laysRoster cX12_laysRoster 7 none ∈ lw_good := List.mem_filter.mpr ⟨tm_8 (List.mem_of_getElem? (i := 155) rfl), rfl⟩
theorem in_X12_laysRoster : Cond.instanceMethod yX12_laysRoster ∈ lw_good := List.mem_filter.mpr ⟨tm_8 (List.mem_of_getElem? (i := 154) rfl), rfl⟩
theorem se_X12_laysRoster : Cond.selects RX12 yX12_laysRoster yX12_laysRoster ∈ lw_good := List.mem_filter.mpr ⟨tp_6 (List.mem_of_getElem? (i := 14) rfl), rfl⟩
theorem cd_X12_isSo : Cond.code yX12_isSo cX12_isSo 9 (some .boolean) ∈ lw_good := List.mem_filter.mpr ⟨tm_8 (List.mem_of_getElem? (i := 172) rfl), rfl⟩
theorem in_X12_isSo : Cond.instanceMethod yX12_isSo ∈ lw_good := List.mem_filter.mpr ⟨tm_8 (List.mem_of_getElem? (i := 171) rfl), rfl⟩
theorem se_X12_isSo : Cond.selects RX12 yX12_isSo yX12_isSo ∈ lw_good := List.mem_filter.mpr ⟨tp_7 (List.mem_of_getElem? (i := 1) rfl), rfl⟩
theorem cd_X12_isFewCouncils : Cond.code yX12_isFewCouncils cX12_isFewCouncils 2 (some .boolean) ∈ lw_good := List.mem_filter.mpr ⟨tm_8 (List.mem_of_getElem? (i := 151) rfl), rfl⟩
theorem in_X12_isFewCouncils : Cond.instanceMethod yX12_isFewCouncils ∈ lw_good := List.mem_filter.mpr ⟨tm_8 (List.mem_of_getElem? (i := 150) rfl), rfl⟩
theorem se_X12_isFewCouncils : Cond.selects RX12 yX12_isFewCouncils yX12_isFewCouncils ∈ lw_good := List.mem_filter.mpr ⟨tp_6 (List.mem_of_getElem? (i := 13) rfl), rfl⟩
theorem cd_X12_roster : Cond.code yX12_roster cX12_roster 3 (some .int) ∈ lw_good := List.mem_filter.mpr ⟨tm_8 (List.mem_of_getElem? (i := 147) rfl), rfl⟩
theorem in_X12_roster : Cond.instanceMethod yX12_roster ∈ lw_good := List.mem_filter.mpr ⟨tm_8 (List.mem_of_getElem? (i := 145) rfl), rfl⟩
theorem se_X12_roster : Cond.selects RX12 yX12_roster yX12_roster ∈ lw_good := List.mem_filter.mpr ⟨tm_8 (List.mem_of_getElem? (i := 146) rfl), rfl⟩
theorem cd_X12_gives : Cond.code yX12_gives cX12_gives 5 (some .int) ∈ lw_good := List.mem_filter.mpr ⟨tm_8 (List.mem_of_getElem? (i := 168) rfl), rfl⟩
theorem in_X12_gives : Cond.instanceMethod yX12_gives ∈ lw_good := List.mem_filter.mpr ⟨tm_8 (List.mem_of_getElem? (i := 166) rfl), rfl⟩
theorem se_X12_gives : Cond.selects RX12 yX12_gives yX12_gives ∈ lw_good := List.mem_filter.mpr ⟨tm_8 (List.mem_of_getElem? (i := 167) rfl), rfl⟩
theorem cd_X12_word : Cond.code yX12_word cX12_word 5 (some .int) ∈ lw_good := List.mem_filter.mpr ⟨tm_8 (List.mem_of_getElem? (i := 176) rfl), rfl⟩
theorem in_X12_word : Cond.instanceMethod yX12_word ∈ lw_good := List.mem_filter.mpr ⟨tm_8 (List.mem_of_getElem? (i := 174) rfl), rfl⟩
theorem se_X12_word : Cond.selects RX12 yX12_word yX12_word ∈ lw_good := List.mem_filter.mpr ⟨tm_8 (List.mem_of_getElem? (i := 175) rfl), rfl⟩
theorem cd_X12_ease : Cond.code yX12_ease cX12_ease 5 (some .int) ∈ lw_good := List.mem_filter.mpr ⟨tm_8 (List.mem_of_getElem? (i := 180) rfl), rfl⟩
theorem in_X12_ease : Cond.instanceMethod yX12_ease ∈ lw_good := List.mem_filter.mpr ⟨tm_8 (List.mem_of_getElem? (i := 178) rfl), rfl⟩
theorem se_X12_ease : Cond.selects RX12 yX12_ease yX12_ease ∈ lw_good := List.mem_filter.mpr ⟨tm_8 (List.mem_of_getElem? (i := 179) rfl), rfl⟩
theorem cd_X12_hoursAbove : Cond.code yX12_hoursAbove cX12_hoursAbove 6 (some .int) ∈ lw_good := List.mem_filter.mpr ⟨tm_8 (List.mem_of_getElem? (i := 184) rfl), rfl⟩
theorem in_X12_hoursAbove : Cond.instanceMethod yX12_hoursAbove ∈ lw_good := List.mem_filter.mpr ⟨tm_8 (List.mem_of_getElem? (i := 183) rfl), rfl⟩
theorem se_X12_hoursAbove : Cond.selects RX12 yX12_hoursAbove yX12_hoursAbove ∈ lw_good := List.mem_filter.mpr ⟨tp_7 (List.mem_of_getElem? (i := 2) rfl), rfl⟩
theorem cd_X12_tiredThen : Cond.code yX12_tiredThen cX12_tiredThen 4 (some .int) ∈ lw_good := List.mem_filter.mpr ⟨tm_8 (List.mem_of_getElem? (i := 196) rfl), rfl⟩
theorem in_X12_tiredThen : Cond.instanceMethod yX12_tiredThen ∈ lw_good := List.mem_filter.mpr ⟨tm_8 (List.mem_of_getElem? (i := 195) rfl), rfl⟩
theorem se_X12_tiredThen : Cond.selects RX12 yX12_tiredThen yX12_tiredThen ∈ lw_good := List.mem_filter.mpr ⟨tp_7 (List.mem_of_getElem? (i := 4) rfl), rfl⟩
theorem cd_X12_isFit : Cond.code yX12_isFit cX12_isFit 5 (some .boolean) ∈ lw_good := List.mem_filter.mpr ⟨tm_8 (List.mem_of_getElem? (i := 192) rfl), rfl⟩
theorem in_X12_isFit : Cond.instanceMethod yX12_isFit ∈ lw_good := List.mem_filter.mpr ⟨tm_8 (List.mem_of_getElem? (i := 191) rfl), rfl⟩
theorem se_X12_isFit : Cond.selects RX12 yX12_isFit yX12_isFit ∈ lw_good := List.mem_filter.mpr ⟨tp_7 (List.mem_of_getElem? (i := 3) rfl), rfl⟩
theorem cd_X12_fits : Cond.code yX12_fits cX12_fits 6 (some .int) ∈ lw_good := List.mem_filter.mpr ⟨tm_8 (List.mem_of_getElem? (i := 188) rfl), rfl⟩
theorem in_X12_fits : Cond.instanceMethod yX12_fits ∈ lw_good := List.mem_filter.mpr ⟨tm_8 (List.mem_of_getElem? (i := 186) rfl), rfl⟩
theorem se_X12_fits : Cond.selects RX12 yX12_fits yX12_fits ∈ lw_good := List.mem_filter.mpr ⟨tm_8 (List.mem_of_getElem? (i := 187) rfl), rfl⟩
theorem cd_X12_worstOf : Cond.code yX12_worstOf cX12_worstOf 6 (some .int) ∈ lw_good := List.mem_filter.mpr ⟨tm_8 (List.mem_of_getElem? (i := 204) rfl), rfl⟩
theorem in_X12_worstOf : Cond.instanceMethod yX12_worstOf ∈ lw_good := List.mem_filter.mpr ⟨tm_8 (List.mem_of_getElem? (i := 203) rfl), rfl⟩
theorem se_X12_worstOf : Cond.selects RX12 yX12_worstOf yX12_worstOf ∈ lw_good := List.mem_filter.mpr ⟨tp_7 (List.mem_of_getElem? (i := 5) rfl), rfl⟩
theorem cd_X12_look : Cond.code yX12_look cX12_look 6 (some .int) ∈ lw_good := List.mem_filter.mpr ⟨tm_8 (List.mem_of_getElem? (i := 200) rfl), rfl⟩
theorem in_X12_look : Cond.instanceMethod yX12_look ∈ lw_good := List.mem_filter.mpr ⟨tm_8 (List.mem_of_getElem? (i := 198) rfl), rfl⟩
theorem se_X12_look : Cond.selects RX12 yX12_look yX12_look ∈ lw_good := List.mem_filter.mpr ⟨tm_8 (List.mem_of_getElem? (i := 199) rfl), rfl⟩
theorem cd_X12_strengthOf : Cond.code yX12_strengthOf cX12_strengthOf 4 (some .int) ∈ lw_good := List.mem_filter.mpr ⟨tm_8 (List.mem_of_getElem? (i := 216) rfl), rfl⟩
theorem in_X12_strengthOf : Cond.instanceMethod yX12_strengthOf ∈ lw_good := List.mem_filter.mpr ⟨tm_8 (List.mem_of_getElem? (i := 215) rfl), rfl⟩
theorem se_X12_strengthOf : Cond.selects RX12 yX12_strengthOf yX12_strengthOf ∈ lw_good := List.mem_filter.mpr ⟨tp_7 (List.mem_of_getElem? (i := 7) rfl), rfl⟩
theorem cd_X12_quorum : Cond.code yX12_quorum cX12_quorum 9 (some .int) ∈ lw_good := List.mem_filter.mpr ⟨tm_8 (List.mem_of_getElem? (i := 208) rfl), rfl⟩
theorem in_X12_quorum : Cond.instanceMethod yX12_quorum ∈ lw_good := List.mem_filter.mpr ⟨tm_8 (List.mem_of_getElem? (i := 206) rfl), rfl⟩
theorem se_X12_quorum : Cond.selects RX12 yX12_quorum yX12_quorum ∈ lw_good := List.mem_filter.mpr ⟨tm_8 (List.mem_of_getElem? (i := 207) rfl), rfl⟩
theorem cd_X12_least : Cond.code yX12_least cX12_least 11 (some .long) ∈ lw_good := List.mem_filter.mpr ⟨tm_8 (List.mem_of_getElem? (i := 224) rfl), rfl⟩
theorem sa_X12_least : Cond.static yX12_least ∈ lw_good := List.mem_filter.mpr ⟨tm_8 (List.mem_of_getElem? (i := 223) rfl), rfl⟩
theorem cd_X12_lies : Cond.code yX12_lies cX12_lies 10 (some .long) ∈ lw_good := List.mem_filter.mpr ⟨tm_8 (List.mem_of_getElem? (i := 220) rfl), rfl⟩
theorem in_X12_lies : Cond.instanceMethod yX12_lies ∈ lw_good := List.mem_filter.mpr ⟨tm_8 (List.mem_of_getElem? (i := 218) rfl), rfl⟩
theorem se_X12_lies : Cond.selects RX12 yX12_lies yX12_lies ∈ lw_good := List.mem_filter.mpr ⟨tm_8 (List.mem_of_getElem? (i := 219) rfl), rfl⟩
theorem cd_X12_hasBy : Cond.code yX12_hasBy cX12_hasBy 4 (some .int) ∈ lw_good := List.mem_filter.mpr ⟨tm_8 (List.mem_of_getElem? (i := 231) rfl), rfl⟩
theorem sa_X12_hasBy : Cond.static yX12_hasBy ∈ lw_good := List.mem_filter.mpr ⟨tm_8 (List.mem_of_getElem? (i := 230) rfl), rfl⟩
theorem cd_X12_kneel : Cond.code yX12_kneel cX12_kneel 9 (some .int) ∈ lw_good := List.mem_filter.mpr ⟨tm_8 (List.mem_of_getElem? (i := 228) rfl), rfl⟩
theorem in_X12_kneel : Cond.instanceMethod yX12_kneel ∈ lw_good := List.mem_filter.mpr ⟨tm_8 (List.mem_of_getElem? (i := 226) rfl), rfl⟩
theorem se_X12_kneel : Cond.selects RX12 yX12_kneel yX12_kneel ∈ lw_good := List.mem_filter.mpr ⟨tm_8 (List.mem_of_getElem? (i := 227) rfl), rfl⟩
theorem cd_X12_bounded : Cond.code yX12_bounded cX12_bounded 3 (some .int) ∈ lw_good := List.mem_filter.mpr ⟨tm_9 (List.mem_of_getElem? (i := 3) rfl), rfl⟩
theorem in_X12_bounded : Cond.instanceMethod yX12_bounded ∈ lw_good := List.mem_filter.mpr ⟨tm_9 (List.mem_of_getElem? (i := 2) rfl), rfl⟩
theorem se_X12_bounded : Cond.selects RX12 yX12_bounded yX12_bounded ∈ lw_good := List.mem_filter.mpr ⟨tp_7 (List.mem_of_getElem? (i := 9) rfl), rfl⟩
theorem cd_X12_balmBy : Cond.code yX12_balmBy cX12_balmBy 5 (some .int) ∈ lw_good := List.mem_filter.mpr ⟨tm_8 (List.mem_of_getElem? (i := 239) rfl), rfl⟩
theorem in_X12_balmBy : Cond.instanceMethod yX12_balmBy ∈ lw_good := List.mem_filter.mpr ⟨tm_8 (List.mem_of_getElem? (i := 238) rfl), rfl⟩
theorem se_X12_balmBy : Cond.selects RX12 yX12_balmBy yX12_balmBy ∈ lw_good := List.mem_filter.mpr ⟨tp_7 (List.mem_of_getElem? (i := 8) rfl), rfl⟩
theorem cd_X12_balm : Cond.code yX12_balm cX12_balm 5 (some .int) ∈ lw_good := List.mem_filter.mpr ⟨tm_8 (List.mem_of_getElem? (i := 235) rfl), rfl⟩
theorem in_X12_balm : Cond.instanceMethod yX12_balm ∈ lw_good := List.mem_filter.mpr ⟨tm_8 (List.mem_of_getElem? (i := 233) rfl), rfl⟩
theorem se_X12_balm : Cond.selects RX12 yX12_balm yX12_balm ∈ lw_good := List.mem_filter.mpr ⟨tm_8 (List.mem_of_getElem? (i := 234) rfl), rfl⟩
theorem cd_X12_weariest : Cond.code yX12_weariest cX12_weariest 4 (some .int) ∈ lw_good := List.mem_filter.mpr ⟨tm_9 (List.mem_of_getElem? (i := 7) rfl), rfl⟩
theorem in_X12_weariest : Cond.instanceMethod yX12_weariest ∈ lw_good := List.mem_filter.mpr ⟨tm_9 (List.mem_of_getElem? (i := 5) rfl), rfl⟩
theorem se_X12_weariest : Cond.selects RX12 yX12_weariest yX12_weariest ∈ lw_good := List.mem_filter.mpr ⟨tm_9 (List.mem_of_getElem? (i := 6) rfl), rfl⟩
theorem cd_X12_heaviest : Cond.code yX12_heaviest cX12_heaviest 5 (some .int) ∈ lw_good := List.mem_filter.mpr ⟨tm_9 (List.mem_of_getElem? (i := 11) rfl), rfl⟩
theorem in_X12_heaviest : Cond.instanceMethod yX12_heaviest ∈ lw_good := List.mem_filter.mpr ⟨tm_9 (List.mem_of_getElem? (i := 9) rfl), rfl⟩
theorem se_X12_heaviest : Cond.selects RX12 yX12_heaviest yX12_heaviest ∈ lw_good := List.mem_filter.mpr ⟨tm_9 (List.mem_of_getElem? (i := 10) rfl), rfl⟩
theorem cd_X12_listeners : Cond.code yX12_listeners cX12_listeners 4 (some .int) ∈ lw_good := List.mem_filter.mpr ⟨tm_9 (List.mem_of_getElem? (i := 15) rfl), rfl⟩
theorem in_X12_listeners : Cond.instanceMethod yX12_listeners ∈ lw_good := List.mem_filter.mpr ⟨tm_9 (List.mem_of_getElem? (i := 13) rfl), rfl⟩
theorem se_X12_listeners : Cond.selects RX12 yX12_listeners yX12_listeners ∈ lw_good := List.mem_filter.mpr ⟨tm_9 (List.mem_of_getElem? (i := 14) rfl), rfl⟩
theorem cd_X12_sure : Cond.code yX12_sure cX12_sure 5 (some .int) ∈ lw_good := List.mem_filter.mpr ⟨tm_9 (List.mem_of_getElem? (i := 19) rfl), rfl⟩
theorem in_X12_sure : Cond.instanceMethod yX12_sure ∈ lw_good := List.mem_filter.mpr ⟨tm_9 (List.mem_of_getElem? (i := 17) rfl), rfl⟩
theorem se_X12_sure : Cond.selects RX12 yX12_sure yX12_sure ∈ lw_good := List.mem_filter.mpr ⟨tm_9 (List.mem_of_getElem? (i := 18) rfl), rfl⟩
theorem cd_X12_bearers : Cond.code yX12_bearers cX12_bearers 4 (some .int) ∈ lw_good := List.mem_filter.mpr ⟨tm_9 (List.mem_of_getElem? (i := 23) rfl), rfl⟩
theorem in_X12_bearers : Cond.instanceMethod yX12_bearers ∈ lw_good := List.mem_filter.mpr ⟨tm_9 (List.mem_of_getElem? (i := 21) rfl), rfl⟩
theorem se_X12_bearers : Cond.selects RX12 yX12_bearers yX12_bearers ∈ lw_good := List.mem_filter.mpr ⟨tm_9 (List.mem_of_getElem? (i := 22) rfl), rfl⟩
theorem cd_X12_rumour : Cond.code yX12_rumour cX12_rumour 7 (some .int) ∈ lw_good := List.mem_filter.mpr ⟨tm_9 (List.mem_of_getElem? (i := 27) rfl), rfl⟩
theorem in_X12_rumour : Cond.instanceMethod yX12_rumour ∈ lw_good := List.mem_filter.mpr ⟨tm_9 (List.mem_of_getElem? (i := 25) rfl), rfl⟩
theorem se_X12_rumour : Cond.selects RX12 yX12_rumour yX12_rumour ∈ lw_good := List.mem_filter.mpr ⟨tm_9 (List.mem_of_getElem? (i := 26) rfl), rfl⟩
theorem cd_X12_lied : Cond.code yX12_lied cX12_lied 5 (some .int) ∈ lw_good := List.mem_filter.mpr ⟨tm_9 (List.mem_of_getElem? (i := 31) rfl), rfl⟩
theorem in_X12_lied : Cond.instanceMethod yX12_lied ∈ lw_good := List.mem_filter.mpr ⟨tm_9 (List.mem_of_getElem? (i := 29) rfl), rfl⟩
theorem se_X12_lied : Cond.selects RX12 yX12_lied yX12_lied ∈ lw_good := List.mem_filter.mpr ⟨tm_9 (List.mem_of_getElem? (i := 30) rfl), rfl⟩
theorem cd_X12_draws : Cond.code yX12_draws cX12_draws 2 (some .int) ∈ lw_good := List.mem_filter.mpr ⟨tm_9 (List.mem_of_getElem? (i := 46) rfl), rfl⟩
theorem in_X12_draws : Cond.instanceMethod yX12_draws ∈ lw_good := List.mem_filter.mpr ⟨tm_9 (List.mem_of_getElem? (i := 45) rfl), rfl⟩
theorem se_X12_draws : Cond.selects RX12 yX12_draws yX12_draws ∈ lw_good := List.mem_filter.mpr ⟨tp_7 (List.mem_of_getElem? (i := 11) rfl), rfl⟩
theorem cd_X12_reignGoes : Cond.code yX12_reignGoes cX12_reignGoes 8 none ∈ lw_good := List.mem_filter.mpr ⟨tm_9 (List.mem_of_getElem? (i := 42) rfl), rfl⟩
theorem in_X12_reignGoes : Cond.instanceMethod yX12_reignGoes ∈ lw_good := List.mem_filter.mpr ⟨tm_9 (List.mem_of_getElem? (i := 41) rfl), rfl⟩
theorem se_X12_reignGoes : Cond.selects RX12 yX12_reignGoes yX12_reignGoes ∈ lw_good := List.mem_filter.mpr ⟨tp_7 (List.mem_of_getElem? (i := 10) rfl), rfl⟩
theorem cd_X12_isReign : Cond.code yX12_isReign cX12_isReign 2 (some .boolean) ∈ lw_good := List.mem_filter.mpr ⟨tm_9 (List.mem_of_getElem? (i := 38) rfl), rfl⟩
theorem sa_X12_isReign : Cond.static yX12_isReign ∈ lw_good := List.mem_filter.mpr ⟨tm_9 (List.mem_of_getElem? (i := 37) rfl), rfl⟩
theorem cd_X12_borneMore : Cond.code yX12_borneMore cX12_borneMore 3 (some .int) ∈ lw_good := List.mem_filter.mpr ⟨tm_9 (List.mem_of_getElem? (i := 51) rfl), rfl⟩
theorem in_X12_borneMore : Cond.instanceMethod yX12_borneMore ∈ lw_good := List.mem_filter.mpr ⟨tm_9 (List.mem_of_getElem? (i := 50) rfl), rfl⟩
theorem se_X12_borneMore : Cond.selects RX12 yX12_borneMore yX12_borneMore ∈ lw_good := List.mem_filter.mpr ⟨tp_7 (List.mem_of_getElem? (i := 12) rfl), rfl⟩
theorem cd_X12_reign : Cond.code yX12_reign cX12_reign 5 (some .int) ∈ lw_good := List.mem_filter.mpr ⟨tm_9 (List.mem_of_getElem? (i := 35) rfl), rfl⟩
theorem in_X12_reign : Cond.instanceMethod yX12_reign ∈ lw_good := List.mem_filter.mpr ⟨tm_9 (List.mem_of_getElem? (i := 33) rfl), rfl⟩
theorem se_X12_reign : Cond.selects RX12 yX12_reign yX12_reign ∈ lw_good := List.mem_filter.mpr ⟨tm_9 (List.mem_of_getElem? (i := 34) rfl), rfl⟩
theorem cd_X12_span : Cond.code yX12_span cX12_span 12 (some .int) ∈ lw_good := List.mem_filter.mpr ⟨tm_9 (List.mem_of_getElem? (i := 55) rfl), rfl⟩
theorem in_X12_span : Cond.instanceMethod yX12_span ∈ lw_good := List.mem_filter.mpr ⟨tm_9 (List.mem_of_getElem? (i := 53) rfl), rfl⟩
theorem se_X12_span : Cond.selects RX12 yX12_span yX12_span ∈ lw_good := List.mem_filter.mpr ⟨tm_9 (List.mem_of_getElem? (i := 54) rfl), rfl⟩
theorem cd_X12_keepsRow : Cond.code yX12_keepsRow cX12_keepsRow 6 (some .int) ∈ lw_good := List.mem_filter.mpr ⟨tm_9 (List.mem_of_getElem? (i := 67) rfl), rfl⟩
theorem in_X12_keepsRow : Cond.instanceMethod yX12_keepsRow ∈ lw_good := List.mem_filter.mpr ⟨tm_9 (List.mem_of_getElem? (i := 66) rfl), rfl⟩
theorem se_X12_keepsRow : Cond.selects RX12 yX12_keepsRow yX12_keepsRow ∈ lw_good := List.mem_filter.mpr ⟨tp_7 (List.mem_of_getElem? (i := 14) rfl), rfl⟩
theorem cd_X12_keepsAll : Cond.code yX12_keepsAll cX12_keepsAll 4 none ∈ lw_good := List.mem_filter.mpr ⟨tm_9 (List.mem_of_getElem? (i := 63) rfl), rfl⟩
theorem in_X12_keepsAll : Cond.instanceMethod yX12_keepsAll ∈ lw_good := List.mem_filter.mpr ⟨tm_9 (List.mem_of_getElem? (i := 62) rfl), rfl⟩
theorem se_X12_keepsAll : Cond.selects RX12 yX12_keepsAll yX12_keepsAll ∈ lw_good := List.mem_filter.mpr ⟨tp_7 (List.mem_of_getElem? (i := 13) rfl), rfl⟩
theorem cd_X12_image : Cond.code yX12_image cX12_image 1 (some .int) ∈ lw_good := List.mem_filter.mpr ⟨tm_9 (List.mem_of_getElem? (i := 59) rfl), rfl⟩
theorem in_X12_image : Cond.instanceMethod yX12_image ∈ lw_good := List.mem_filter.mpr ⟨tm_9 (List.mem_of_getElem? (i := 57) rfl), rfl⟩
theorem se_X12_image : Cond.selects RX12 yX12_image yX12_image ∈ lw_good := List.mem_filter.mpr ⟨tm_9 (List.mem_of_getElem? (i := 58) rfl), rfl⟩
theorem cd_X12_restore : Cond.code yX12_restore cX12_restore 1 (some .int) ∈ lw_good := List.mem_filter.mpr ⟨tm_9 (List.mem_of_getElem? (i := 71) rfl), rfl⟩
theorem in_X12_restore : Cond.instanceMethod yX12_restore ∈ lw_good := List.mem_filter.mpr ⟨tm_9 (List.mem_of_getElem? (i := 69) rfl), rfl⟩
theorem se_X12_restore : Cond.selects RX12 yX12_restore yX12_restore ∈ lw_good := List.mem_filter.mpr ⟨tm_9 (List.mem_of_getElem? (i := 70) rfl), rfl⟩
theorem cd_X12_status : Cond.code yX12_status cX12_status 2 (some .int) ∈ lw_good := List.mem_filter.mpr ⟨tm_9 (List.mem_of_getElem? (i := 75) rfl), rfl⟩
theorem in_X12_status : Cond.instanceMethod yX12_status ∈ lw_good := List.mem_filter.mpr ⟨tm_9 (List.mem_of_getElem? (i := 73) rfl), rfl⟩
theorem se_X12_status : Cond.selects RX12 yX12_status yX12_status ∈ lw_good := List.mem_filter.mpr ⟨tm_9 (List.mem_of_getElem? (i := 74) rfl), rfl⟩
theorem cd_X12_count : Cond.code yX12_count cX12_count 2 (some .int) ∈ lw_good := List.mem_filter.mpr ⟨tm_9 (List.mem_of_getElem? (i := 79) rfl), rfl⟩
theorem in_X12_count : Cond.instanceMethod yX12_count ∈ lw_good := List.mem_filter.mpr ⟨tm_9 (List.mem_of_getElem? (i := 77) rfl), rfl⟩
theorem se_X12_count : Cond.selects RX12 yX12_count yX12_count ∈ lw_good := List.mem_filter.mpr ⟨tm_9 (List.mem_of_getElem? (i := 78) rfl), rfl⟩
theorem cd_J6_bitCount_0f7a4 : Cond.code yJ6_bitCount_0f7a4 cJ6_bitCount_0f7a4 1 (some .int) ∈ lw_good := List.mem_filter.mpr ⟨tm_4 (List.mem_of_getElem? (i := 149) rfl), rfl⟩
theorem sa_J6_bitCount_0f7a4 : Cond.static yJ6_bitCount_0f7a4 ∈ lw_good := List.mem_filter.mpr ⟨tm_4 (List.mem_of_getElem? (i := 148) rfl), rfl⟩
theorem cd_J9_max_7cf53 : Cond.code yJ9_max_7cf53 cJ9_max_7cf53 2 (some .int) ∈ lw_good := List.mem_filter.mpr ⟨tm_4 (List.mem_of_getElem? (i := 114) rfl), rfl⟩
theorem sa_J9_max_7cf53 : Cond.static yJ9_max_7cf53 ∈ lw_good := List.mem_filter.mpr ⟨tm_4 (List.mem_of_getElem? (i := 113) rfl), rfl⟩
theorem cd_J9_min_7cf53 : Cond.code yJ9_min_7cf53 cJ9_min_7cf53 2 (some .int) ∈ lw_good := List.mem_filter.mpr ⟨tm_3 (List.mem_of_getElem? (i := 13) rfl), rfl⟩
theorem sa_J9_min_7cf53 : Cond.static yJ9_min_7cf53 ∈ lw_good := List.mem_filter.mpr ⟨tm_3 (List.mem_of_getElem? (i := 12) rfl), rfl⟩
theorem cd_J0_length_8abf5 : Cond.code yJ0_length_8abf5 cJ0_length_8abf5 1 (some .int) ∈ lw_good := List.mem_filter.mpr ⟨tm_3 (List.mem_of_getElem? (i := 116) rfl), rfl⟩
theorem in_J0_length_8abf5 : Cond.instanceMethod yJ0_length_8abf5 ∈ lw_good := List.mem_filter.mpr ⟨tm_3 (List.mem_of_getElem? (i := 114) rfl), rfl⟩
theorem se_J0_length_8abf5 : Cond.selects RJ0 yJ0_length_8abf5 yJ0_length_8abf5 ∈ lw_good := List.mem_filter.mpr ⟨tm_3 (List.mem_of_getElem? (i := 115) rfl), rfl⟩
theorem cd_J0_charAt_5068e : Cond.code yJ0_charAt_5068e cJ0_charAt_5068e 2 (some .char) ∈ lw_good := List.mem_filter.mpr ⟨tm_3 (List.mem_of_getElem? (i := 126) rfl), rfl⟩
theorem in_J0_charAt_5068e : Cond.instanceMethod yJ0_charAt_5068e ∈ lw_good := List.mem_filter.mpr ⟨tm_3 (List.mem_of_getElem? (i := 124) rfl), rfl⟩
theorem se_J0_charAt_5068e : Cond.selects RJ0 yJ0_charAt_5068e yJ0_charAt_5068e ∈ lw_good := List.mem_filter.mpr ⟨tm_3 (List.mem_of_getElem? (i := 125) rfl), rfl⟩
theorem cd_J0_coder_7d493 : Cond.code yJ0_coder_7d493 cJ0_coder_7d493 1 (some .byte) ∈ lw_good := List.mem_filter.mpr ⟨tm_3 (List.mem_of_getElem? (i := 120) rfl), rfl⟩
theorem in_J0_coder_7d493 : Cond.instanceMethod yJ0_coder_7d493 ∈ lw_good := List.mem_filter.mpr ⟨tm_3 (List.mem_of_getElem? (i := 118) rfl), rfl⟩
theorem se_J0_coder_7d493 : Cond.selects RJ0 yJ0_coder_7d493 yJ0_coder_7d493 ∈ lw_good := List.mem_filter.mpr ⟨tm_3 (List.mem_of_getElem? (i := 119) rfl), rfl⟩
theorem cd_J0_isLatin1_aae02 : Cond.code yJ0_isLatin1_aae02 cJ0_isLatin1_aae02 1 (some .boolean) ∈ lw_good := List.mem_filter.mpr ⟨tm_3 (List.mem_of_getElem? (i := 130) rfl), rfl⟩
theorem in_J0_isLatin1_aae02 : Cond.instanceMethod yJ0_isLatin1_aae02 ∈ lw_good := List.mem_filter.mpr ⟨tm_3 (List.mem_of_getElem? (i := 128) rfl), rfl⟩
theorem se_J0_isLatin1_aae02 : Cond.selects RJ0 yJ0_isLatin1_aae02 yJ0_isLatin1_aae02 ∈ lw_good := List.mem_filter.mpr ⟨tm_3 (List.mem_of_getElem? (i := 129) rfl), rfl⟩
theorem cd_J0_checkIndex_df160 : Cond.code yJ0_checkIndex_df160 cJ0_checkIndex_df160 2 none ∈ lw_good := List.mem_filter.mpr ⟨tm_3 (List.mem_of_getElem? (i := 136) rfl), rfl⟩
theorem sa_J0_checkIndex_df160 : Cond.static yJ0_checkIndex_df160 ∈ lw_good := List.mem_filter.mpr ⟨tm_3 (List.mem_of_getElem? (i := 135) rfl), rfl⟩
theorem cd_J1_charAt_3b067 : Cond.code yJ1_charAt_3b067 cJ1_charAt_3b067 2 (some .char) ∈ lw_good := List.mem_filter.mpr ⟨tm_3 (List.mem_of_getElem? (i := 133) rfl), rfl⟩
theorem sa_J1_charAt_3b067 : Cond.static yJ1_charAt_3b067 ∈ lw_good := List.mem_filter.mpr ⟨tm_3 (List.mem_of_getElem? (i := 132) rfl), rfl⟩
theorem cd_J2_getChar_3b067 : Cond.code yJ2_getChar_3b067 cJ2_getChar_3b067 2 (some .char) ∈ lw_good := List.mem_filter.mpr ⟨tm_3 (List.mem_of_getElem? (i := 154) rfl), rfl⟩
theorem sa_J2_getChar_3b067 : Cond.static yJ2_getChar_3b067 ∈ lw_good := List.mem_filter.mpr ⟨tm_3 (List.mem_of_getElem? (i := 153) rfl), rfl⟩
theorem cd_J2_length_9d52b : Cond.code yJ2_length_9d52b cJ2_length_9d52b 1 (some .int) ∈ lw_good := List.mem_filter.mpr ⟨tm_3 (List.mem_of_getElem? (i := 150) rfl), rfl⟩
theorem sa_J2_length_9d52b : Cond.static yJ2_length_9d52b ∈ lw_good := List.mem_filter.mpr ⟨tm_3 (List.mem_of_getElem? (i := 149) rfl), rfl⟩
theorem cd_J2_charAt_3b067 : Cond.code yJ2_charAt_3b067 cJ2_charAt_3b067 2 (some .char) ∈ lw_good := List.mem_filter.mpr ⟨tm_3 (List.mem_of_getElem? (i := 144) rfl), rfl⟩
theorem sa_J2_charAt_3b067 : Cond.static yJ2_charAt_3b067 ∈ lw_good := List.mem_filter.mpr ⟨tm_3 (List.mem_of_getElem? (i := 143) rfl), rfl⟩
theorem cd_J2_checkIndex_2214a : Cond.code yJ2_checkIndex_2214a cJ2_checkIndex_2214a 2 none ∈ lw_good := List.mem_filter.mpr ⟨tm_3 (List.mem_of_getElem? (i := 147) rfl), rfl⟩
theorem sa_J2_checkIndex_2214a : Cond.static yJ2_checkIndex_2214a ∈ lw_good := List.mem_filter.mpr ⟨tm_3 (List.mem_of_getElem? (i := 146) rfl), rfl⟩
theorem cd_J7_fill_53178 : Cond.code yJ7_fill_53178 cJ7_fill_53178 4 none ∈ lw_good := List.mem_filter.mpr ⟨tm_1 (List.mem_of_getElem? (i := 160) rfl), rfl⟩
theorem sa_J7_fill_53178 : Cond.static yJ7_fill_53178 ∈ lw_good := List.mem_filter.mpr ⟨tm_1 (List.mem_of_getElem? (i := 159) rfl), rfl⟩
theorem cd_J3_checkIndex_8e157 : Cond.code yJ3_checkIndex_8e157 cJ3_checkIndex_8e157 3 (some .int) ∈ lw_good := List.mem_filter.mpr ⟨tm_3 (List.mem_of_getElem? (i := 141) rfl), rfl⟩
theorem sa_J3_checkIndex_8e157 : Cond.static yJ3_checkIndex_8e157 ∈ lw_good := List.mem_filter.mpr ⟨tm_3 (List.mem_of_getElem? (i := 140) rfl), rfl⟩
theorem sa_L_court : Cond.static yL_court ∈ lw_good := List.mem_filter.mpr ⟨tm_3 (List.mem_of_getElem? (i := 0) rfl), rfl⟩
theorem sa_L_law : Cond.static yL_law ∈ lw_good := List.mem_filter.mpr ⟨tm_3 (List.mem_of_getElem? (i := 222) rfl), rfl⟩
theorem sa_L_work : Cond.static yL_work ∈ lw_good := List.mem_filter.mpr ⟨tm_4 (List.mem_of_getElem? (i := 52) rfl), rfl⟩
theorem sa_L_book : Cond.static yL_book ∈ lw_good := List.mem_filter.mpr ⟨tm_4 (List.mem_of_getElem? (i := 213) rfl), rfl⟩
theorem sa_L_told : Cond.static yL_told ∈ lw_good := List.mem_filter.mpr ⟨tm_5 (List.mem_of_getElem? (i := 1) rfl), rfl⟩
theorem sa_L_back : Cond.static yL_back ∈ lw_good := List.mem_filter.mpr ⟨tm_5 (List.mem_of_getElem? (i := 32) rfl), rfl⟩
theorem sa_L_council : Cond.static yL_council ∈ lw_good := List.mem_filter.mpr ⟨tm_5 (List.mem_of_getElem? (i := 61) rfl), rfl⟩
theorem sa_L_hearing : Cond.static yL_hearing ∈ lw_good := List.mem_filter.mpr ⟨tm_5 (List.mem_of_getElem? (i := 77) rfl), rfl⟩
theorem sa_L_load : Cond.static yL_load ∈ lw_good := List.mem_filter.mpr ⟨tm_5 (List.mem_of_getElem? (i := 85) rfl), rfl⟩
theorem sa_L_burden : Cond.static yL_burden ∈ lw_good := List.mem_filter.mpr ⟨tm_5 (List.mem_of_getElem? (i := 93) rfl), rfl⟩
theorem sa_L_would : Cond.static yL_would ∈ lw_good := List.mem_filter.mpr ⟨tm_5 (List.mem_of_getElem? (i := 101) rfl), rfl⟩
theorem sa_L_ahead : Cond.static yL_ahead ∈ lw_good := List.mem_filter.mpr ⟨tm_5 (List.mem_of_getElem? (i := 112) rfl), rfl⟩
theorem sa_L_could : Cond.static yL_could ∈ lw_good := List.mem_filter.mpr ⟨tm_5 (List.mem_of_getElem? (i := 120) rfl), rfl⟩
theorem sa_L_roster : Cond.static yL_roster ∈ lw_good := List.mem_filter.mpr ⟨tm_5 (List.mem_of_getElem? (i := 131) rfl), rfl⟩
theorem sa_L_gives : Cond.static yL_gives ∈ lw_good := List.mem_filter.mpr ⟨tm_5 (List.mem_of_getElem? (i := 164) rfl), rfl⟩
theorem sa_L_word : Cond.static yL_word ∈ lw_good := List.mem_filter.mpr ⟨tm_5 (List.mem_of_getElem? (i := 175) rfl), rfl⟩
theorem sa_L_ease : Cond.static yL_ease ∈ lw_good := List.mem_filter.mpr ⟨tm_5 (List.mem_of_getElem? (i := 186) rfl), rfl⟩
theorem sa_L_fits : Cond.static yL_fits ∈ lw_good := List.mem_filter.mpr ⟨tm_5 (List.mem_of_getElem? (i := 198) rfl), rfl⟩
theorem sa_L_look : Cond.static yL_look ∈ lw_good := List.mem_filter.mpr ⟨tm_5 (List.mem_of_getElem? (i := 220) rfl), rfl⟩
theorem sa_L_quorum : Cond.static yL_quorum ∈ lw_good := List.mem_filter.mpr ⟨tm_5 (List.mem_of_getElem? (i := 238) rfl), rfl⟩
theorem sa_L_lies : Cond.static yL_lies ∈ lw_good := List.mem_filter.mpr ⟨tm_6 (List.mem_of_getElem? (i := 13) rfl), rfl⟩
theorem sa_L_kneel : Cond.static yL_kneel ∈ lw_good := List.mem_filter.mpr ⟨tm_6 (List.mem_of_getElem? (i := 27) rfl), rfl⟩
theorem sa_L_balm : Cond.static yL_balm ∈ lw_good := List.mem_filter.mpr ⟨tm_6 (List.mem_of_getElem? (i := 40) rfl), rfl⟩
theorem sa_L_weariest : Cond.static yL_weariest ∈ lw_good := List.mem_filter.mpr ⟨tm_6 (List.mem_of_getElem? (i := 51) rfl), rfl⟩
theorem sa_L_heaviest : Cond.static yL_heaviest ∈ lw_good := List.mem_filter.mpr ⟨tm_6 (List.mem_of_getElem? (i := 58) rfl), rfl⟩
theorem sa_L_listeners : Cond.static yL_listeners ∈ lw_good := List.mem_filter.mpr ⟨tm_6 (List.mem_of_getElem? (i := 65) rfl), rfl⟩
theorem sa_L_ready : Cond.static yL_ready ∈ lw_good := List.mem_filter.mpr ⟨tm_6 (List.mem_of_getElem? (i := 73) rfl), rfl⟩
theorem sa_L_sure : Cond.static yL_sure ∈ lw_good := List.mem_filter.mpr ⟨tm_6 (List.mem_of_getElem? (i := 80) rfl), rfl⟩
theorem sa_L_bearers : Cond.static yL_bearers ∈ lw_good := List.mem_filter.mpr ⟨tm_6 (List.mem_of_getElem? (i := 87) rfl), rfl⟩
theorem sa_L_rumour : Cond.static yL_rumour ∈ lw_good := List.mem_filter.mpr ⟨tm_6 (List.mem_of_getElem? (i := 94) rfl), rfl⟩
theorem sa_L_lied : Cond.static yL_lied ∈ lw_good := List.mem_filter.mpr ⟨tm_6 (List.mem_of_getElem? (i := 101) rfl), rfl⟩
theorem sa_L_reign : Cond.static yL_reign ∈ lw_good := List.mem_filter.mpr ⟨tm_6 (List.mem_of_getElem? (i := 108) rfl), rfl⟩
theorem sa_L_span : Cond.static yL_span ∈ lw_good := List.mem_filter.mpr ⟨tm_6 (List.mem_of_getElem? (i := 137) rfl), rfl⟩
theorem ml_L_119 : Cond.methodLink RL 119 yX11_init ∈ lw_good := List.mem_filter.mpr ⟨tm_1 (List.mem_of_getElem? (i := 29) rfl), rfl⟩
theorem ml_X11_1 : Cond.methodLink RX11 1 objectInit ∈ lw_good := List.mem_filter.mpr ⟨tm_1 (List.mem_of_getElem? (i := 32) rfl), rfl⟩
theorem ml_X10_3 : Cond.methodLink RX10 3 objectInit ∈ lw_good := List.mem_filter.mpr ⟨tm_1 (List.mem_of_getElem? (i := 40) rfl), rfl⟩
theorem ml_X1_3 : Cond.methodLink RX1 3 objectInit ∈ lw_good := List.mem_filter.mpr ⟨tm_1 (List.mem_of_getElem? (i := 75) rfl), rfl⟩
theorem ml_X11_28 : Cond.methodLink RX11 28 yX4_init ∈ lw_good := List.mem_filter.mpr ⟨tm_1 (List.mem_of_getElem? (i := 123) rfl), rfl⟩
theorem ml_X4_3 : Cond.methodLink RX4 3 objectInit ∈ lw_good := List.mem_filter.mpr ⟨tm_1 (List.mem_of_getElem? (i := 126) rfl), rfl⟩
theorem ml_X4_21 : Cond.methodLink RX4 21 yX4_beUsual ∈ lw_good := List.mem_filter.mpr ⟨tm_1 (List.mem_of_getElem? (i := 127) rfl), rfl⟩
theorem ml_X4_28 : Cond.methodLink RX4 28 yX4_add ∈ lw_good := List.mem_filter.mpr ⟨tm_1 (List.mem_of_getElem? (i := 131) rfl), rfl⟩
theorem ml_X11_38 : Cond.methodLink RX11 38 yX0_init ∈ lw_good := List.mem_filter.mpr ⟨tm_1 (List.mem_of_getElem? (i := 150) rfl), rfl⟩
theorem ml_X0_3 : Cond.methodLink RX0 3 objectInit ∈ lw_good := List.mem_filter.mpr ⟨tm_1 (List.mem_of_getElem? (i := 153) rfl), rfl⟩
theorem ml_X0_15 : Cond.methodLink RX0 15 yX0_clear ∈ lw_good := List.mem_filter.mpr ⟨tm_1 (List.mem_of_getElem? (i := 154) rfl), rfl⟩
end Words
