section Words
theorem tm_1 {w : Cond} (h : w ∈ tables_1_1) : w ∈ lw_tbl := List.mem_append_right _ (show w ∈ tables_1 from List.mem_append_left _ h)
theorem tm_2 {w : Cond} (h : w ∈ tables_1_2) : w ∈ lw_tbl := List.mem_append_right _ (show w ∈ tables_1 from List.mem_append_right _ (List.mem_append_left _ h))
theorem tm_3 {w : Cond} (h : w ∈ tables_1_3) : w ∈ lw_tbl := List.mem_append_right _ (show w ∈ tables_1 from List.mem_append_right _ (List.mem_append_right _ (List.mem_append_left _ h)))
theorem tm_4 {w : Cond} (h : w ∈ tables_1_4) : w ∈ lw_tbl := List.mem_append_right _ (show w ∈ tables_1 from List.mem_append_right _ (List.mem_append_right _ (List.mem_append_right _ (List.mem_append_left _ h))))
theorem tm_5 {w : Cond} (h : w ∈ tables_1_5) : w ∈ lw_tbl := List.mem_append_right _ (show w ∈ tables_1 from List.mem_append_right _ (List.mem_append_right _ (List.mem_append_right _ (List.mem_append_right _ (List.mem_append_left _ h)))))
theorem tm_6 {w : Cond} (h : w ∈ tables_1_6) : w ∈ lw_tbl := List.mem_append_right _ (show w ∈ tables_1 from List.mem_append_right _ (List.mem_append_right _ (List.mem_append_right _ (List.mem_append_right _ (List.mem_append_right _ (List.mem_append_left _ h))))))
theorem tm_7 {w : Cond} (h : w ∈ tables_1_7) : w ∈ lw_tbl := List.mem_append_right _ (show w ∈ tables_1 from List.mem_append_right _ (List.mem_append_right _ (List.mem_append_right _ (List.mem_append_right _ (List.mem_append_right _ (List.mem_append_right _ (List.mem_append_left _ h)))))))
theorem tm_8 {w : Cond} (h : w ∈ tables_1_8) : w ∈ lw_tbl := List.mem_append_right _ (show w ∈ tables_1 from List.mem_append_right _ (List.mem_append_right _ (List.mem_append_right _ (List.mem_append_right _ (List.mem_append_right _ (List.mem_append_right _ (List.mem_append_right _ (List.mem_append_left _ h))))))))
theorem tm_9 {w : Cond} (h : w ∈ tables_1_9) : w ∈ lw_tbl := List.mem_append_right _ (show w ∈ tables_1 from List.mem_append_right _ (List.mem_append_right _ (List.mem_append_right _ (List.mem_append_right _ (List.mem_append_right _ (List.mem_append_right _ (List.mem_append_right _ (List.mem_append_right _ (h)))))))))
theorem tp_1 {q : MethodName × Nat} (h : q ∈ lw_privs_1) : Cond.selects q.1.cls q.1 q.1 ∈ lw_tbl := List.mem_append_left _ (List.mem_map.mpr ⟨q, (show q ∈ lw_privs from List.mem_append_left _ h), rfl⟩)
theorem tp_2 {q : MethodName × Nat} (h : q ∈ lw_privs_2) : Cond.selects q.1.cls q.1 q.1 ∈ lw_tbl := List.mem_append_left _ (List.mem_map.mpr ⟨q, (show q ∈ lw_privs from List.mem_append_right _ (List.mem_append_left _ h)), rfl⟩)
theorem tp_3 {q : MethodName × Nat} (h : q ∈ lw_privs_3) : Cond.selects q.1.cls q.1 q.1 ∈ lw_tbl := List.mem_append_left _ (List.mem_map.mpr ⟨q, (show q ∈ lw_privs from List.mem_append_right _ (List.mem_append_right _ (List.mem_append_left _ h))), rfl⟩)
theorem tp_4 {q : MethodName × Nat} (h : q ∈ lw_privs_4) : Cond.selects q.1.cls q.1 q.1 ∈ lw_tbl := List.mem_append_left _ (List.mem_map.mpr ⟨q, (show q ∈ lw_privs from List.mem_append_right _ (List.mem_append_right _ (List.mem_append_right _ (List.mem_append_left _ h)))), rfl⟩)
theorem tp_5 {q : MethodName × Nat} (h : q ∈ lw_privs_5) : Cond.selects q.1.cls q.1 q.1 ∈ lw_tbl := List.mem_append_left _ (List.mem_map.mpr ⟨q, (show q ∈ lw_privs from List.mem_append_right _ (List.mem_append_right _ (List.mem_append_right _ (List.mem_append_right _ (List.mem_append_left _ h))))), rfl⟩)
theorem tp_6 {q : MethodName × Nat} (h : q ∈ lw_privs_6) : Cond.selects q.1.cls q.1 q.1 ∈ lw_tbl := List.mem_append_left _ (List.mem_map.mpr ⟨q, (show q ∈ lw_privs from List.mem_append_right _ (List.mem_append_right _ (List.mem_append_right _ (List.mem_append_right _ (List.mem_append_right _ (List.mem_append_left _ h)))))), rfl⟩)
theorem tp_7 {q : MethodName × Nat} (h : q ∈ lw_privs_7) : Cond.selects q.1.cls q.1 q.1 ∈ lw_tbl := List.mem_append_left _ (List.mem_map.mpr ⟨q, (show q ∈ lw_privs from List.mem_append_right _ (List.mem_append_right _ (List.mem_append_right _ (List.mem_append_right _ (List.mem_append_right _ (List.mem_append_right _ (h))))))), rfl⟩)
theorem cd_X0_init : Cond.code yX0_init cX0_init 1 none ∈ lw_good := List.mem_filter.mpr ⟨tm_1 (List.mem_of_getElem? (i := 152) rfl), rfl⟩
theorem in_X0_init : Cond.instanceMethod yX0_init ∈ lw_good := List.mem_filter.mpr ⟨tm_1 (List.mem_of_getElem? (i := 151) rfl), rfl⟩
theorem cd_X0_clear : Cond.code yX0_clear cX0_clear 1 none ∈ lw_good := List.mem_filter.mpr ⟨tm_1 (List.mem_of_getElem? (i := 157) rfl), rfl⟩
theorem in_X0_clear : Cond.instanceMethod yX0_clear ∈ lw_good := List.mem_filter.mpr ⟨tm_1 (List.mem_of_getElem? (i := 155) rfl), rfl⟩
theorem se_X0_clear : Cond.selects RX0 yX0_clear yX0_clear ∈ lw_good := List.mem_filter.mpr ⟨tm_1 (List.mem_of_getElem? (i := 156) rfl), rfl⟩
theorem cd_X0_copyFrom : Cond.code yX0_copyFrom cX0_copyFrom 2 none ∈ lw_good := List.mem_filter.mpr ⟨tm_4 (List.mem_of_getElem? (i := 238) rfl), rfl⟩
theorem in_X0_copyFrom : Cond.instanceMethod yX0_copyFrom ∈ lw_good := List.mem_filter.mpr ⟨tm_4 (List.mem_of_getElem? (i := 236) rfl), rfl⟩
theorem se_X0_copyFrom : Cond.selects RX0 yX0_copyFrom yX0_copyFrom ∈ lw_good := List.mem_filter.mpr ⟨tm_4 (List.mem_of_getElem? (i := 237) rfl), rfl⟩
theorem cd_X0_hasLine : Cond.code yX0_hasLine cX0_hasLine 2 (some .boolean) ∈ lw_good := List.mem_filter.mpr ⟨tm_4 (List.mem_of_getElem? (i := 232) rfl), rfl⟩
theorem in_X0_hasLine : Cond.instanceMethod yX0_hasLine ∈ lw_good := List.mem_filter.mpr ⟨tm_4 (List.mem_of_getElem? (i := 230) rfl), rfl⟩
theorem se_X0_hasLine : Cond.selects RX0 yX0_hasLine yX0_hasLine ∈ lw_good := List.mem_filter.mpr ⟨tm_4 (List.mem_of_getElem? (i := 231) rfl), rfl⟩
theorem cd_X0_readFrom : Cond.code yX0_readFrom cX0_readFrom 4 (some .boolean) ∈ lw_good := List.mem_filter.mpr ⟨tm_4 (List.mem_of_getElem? (i := 222) rfl), rfl⟩
theorem in_X0_readFrom : Cond.instanceMethod yX0_readFrom ∈ lw_good := List.mem_filter.mpr ⟨tm_4 (List.mem_of_getElem? (i := 220) rfl), rfl⟩
theorem se_X0_readFrom : Cond.selects RX0 yX0_readFrom yX0_readFrom ∈ lw_good := List.mem_filter.mpr ⟨tm_4 (List.mem_of_getElem? (i := 221) rfl), rfl⟩
theorem cd_X0_readLine : Cond.code yX0_readLine cX0_readLine 6 (some .boolean) ∈ lw_good := List.mem_filter.mpr ⟨tm_4 (List.mem_of_getElem? (i := 227) rfl), rfl⟩
theorem in_X0_readLine : Cond.instanceMethod yX0_readLine ∈ lw_good := List.mem_filter.mpr ⟨tm_4 (List.mem_of_getElem? (i := 226) rfl), rfl⟩
theorem se_X0_readLine : Cond.selects RX0 yX0_readLine yX0_readLine ∈ lw_good := List.mem_filter.mpr ⟨tp_2 (List.mem_of_getElem? (i := 7) rfl), rfl⟩
theorem cd_X1_init : Cond.code yX1_init cX1_init 1 none ∈ lw_good := List.mem_filter.mpr ⟨tm_1 (List.mem_of_getElem? (i := 74) rfl), rfl⟩
theorem in_X1_init : Cond.instanceMethod yX1_init ∈ lw_good := List.mem_filter.mpr ⟨tm_1 (List.mem_of_getElem? (i := 73) rfl), rfl⟩
theorem cd_X1_copyFrom : Cond.code yX1_copyFrom cX1_copyFrom 2 none ∈ lw_good := List.mem_filter.mpr ⟨tm_3 (List.mem_of_getElem? (i := 208) rfl), rfl⟩
theorem in_X1_copyFrom : Cond.instanceMethod yX1_copyFrom ∈ lw_good := List.mem_filter.mpr ⟨tm_3 (List.mem_of_getElem? (i := 206) rfl), rfl⟩
theorem se_X1_copyFrom : Cond.selects RX1 yX1_copyFrom yX1_copyFrom ∈ lw_good := List.mem_filter.mpr ⟨tm_3 (List.mem_of_getElem? (i := 207) rfl), rfl⟩
theorem cd_X1_backBits : Cond.code yX1_backBits cX1_backBits 1 (some .int) ∈ lw_good := List.mem_filter.mpr ⟨tm_5 (List.mem_of_getElem? (i := 184) rfl), rfl⟩
theorem in_X1_backBits : Cond.instanceMethod yX1_backBits ∈ lw_good := List.mem_filter.mpr ⟨tm_5 (List.mem_of_getElem? (i := 182) rfl), rfl⟩
theorem se_X1_backBits : Cond.selects RX1 yX1_backBits yX1_backBits ∈ lw_good := List.mem_filter.mpr ⟨tm_5 (List.mem_of_getElem? (i := 183) rfl), rfl⟩
theorem cd_X1_councilBits : Cond.code yX1_councilBits cX1_councilBits 1 (some .int) ∈ lw_good := List.mem_filter.mpr ⟨tm_5 (List.mem_of_getElem? (i := 30) rfl), rfl⟩
theorem in_X1_councilBits : Cond.instanceMethod yX1_councilBits ∈ lw_good := List.mem_filter.mpr ⟨tm_5 (List.mem_of_getElem? (i := 28) rfl), rfl⟩
theorem se_X1_councilBits : Cond.selects RX1 yX1_councilBits yX1_councilBits ∈ lw_good := List.mem_filter.mpr ⟨tm_5 (List.mem_of_getElem? (i := 29) rfl), rfl⟩
theorem cd_X1_readFrom : Cond.code yX1_readFrom cX1_readFrom 3 (some .boolean) ∈ lw_good := List.mem_filter.mpr ⟨tm_3 (List.mem_of_getElem? (i := 95) rfl), rfl⟩
theorem in_X1_readFrom : Cond.instanceMethod yX1_readFrom ∈ lw_good := List.mem_filter.mpr ⟨tm_3 (List.mem_of_getElem? (i := 93) rfl), rfl⟩
theorem se_X1_readFrom : Cond.selects RX1 yX1_readFrom yX1_readFrom ∈ lw_good := List.mem_filter.mpr ⟨tm_3 (List.mem_of_getElem? (i := 94) rfl), rfl⟩
theorem cd_X1_readClause : Cond.code yX1_readClause cX1_readClause 6 (some .boolean) ∈ lw_good := List.mem_filter.mpr ⟨tm_3 (List.mem_of_getElem? (i := 103) rfl), rfl⟩
theorem in_X1_readClause : Cond.instanceMethod yX1_readClause ∈ lw_good := List.mem_filter.mpr ⟨tm_3 (List.mem_of_getElem? (i := 102) rfl), rfl⟩
theorem se_X1_readClause : Cond.selects RX1 yX1_readClause yX1_readClause ∈ lw_good := List.mem_filter.mpr ⟨tp_1 (List.mem_of_getElem? (i := 5) rfl), rfl⟩
theorem cd_X1_readBack : Cond.code yX1_readBack cX1_readBack 4 (some .boolean) ∈ lw_good := List.mem_filter.mpr ⟨tm_3 (List.mem_of_getElem? (i := 174) rfl), rfl⟩
theorem in_X1_readBack : Cond.instanceMethod yX1_readBack ∈ lw_good := List.mem_filter.mpr ⟨tm_3 (List.mem_of_getElem? (i := 173) rfl), rfl⟩
theorem se_X1_readBack : Cond.selects RX1 yX1_readBack yX1_readBack ∈ lw_good := List.mem_filter.mpr ⟨tp_1 (List.mem_of_getElem? (i := 6) rfl), rfl⟩
theorem cd_X1_readCouncil : Cond.code yX1_readCouncil cX1_readCouncil 4 (some .boolean) ∈ lw_good := List.mem_filter.mpr ⟨tm_3 (List.mem_of_getElem? (i := 188) rfl), rfl⟩
theorem in_X1_readCouncil : Cond.instanceMethod yX1_readCouncil ∈ lw_good := List.mem_filter.mpr ⟨tm_3 (List.mem_of_getElem? (i := 187) rfl), rfl⟩
theorem se_X1_readCouncil : Cond.selects RX1 yX1_readCouncil yX1_readCouncil ∈ lw_good := List.mem_filter.mpr ⟨tp_1 (List.mem_of_getElem? (i := 7) rfl), rfl⟩
theorem cd_X1_readKing : Cond.code yX1_readKing cX1_readKing 2 (some .boolean) ∈ lw_good := List.mem_filter.mpr ⟨tm_3 (List.mem_of_getElem? (i := 192) rfl), rfl⟩
theorem in_X1_readKing : Cond.instanceMethod yX1_readKing ∈ lw_good := List.mem_filter.mpr ⟨tm_3 (List.mem_of_getElem? (i := 191) rfl), rfl⟩
theorem se_X1_readKing : Cond.selects RX1 yX1_readKing yX1_readKing ∈ lw_good := List.mem_filter.mpr ⟨tp_1 (List.mem_of_getElem? (i := 8) rfl), rfl⟩
theorem cd_X2_init : Cond.code yX2_init cX2_init 3 none ∈ lw_good := List.mem_filter.mpr ⟨tm_2 (List.mem_of_getElem? (i := 83) rfl), rfl⟩
theorem in_X2_init : Cond.instanceMethod yX2_init ∈ lw_good := List.mem_filter.mpr ⟨tm_2 (List.mem_of_getElem? (i := 82) rfl), rfl⟩
theorem cd_X2_findFits : Cond.code yX2_findFits cX2_findFits 4 none ∈ lw_good := List.mem_filter.mpr ⟨tm_5 (List.mem_of_getElem? (i := 207) rfl), rfl⟩
theorem in_X2_findFits : Cond.instanceMethod yX2_findFits ∈ lw_good := List.mem_filter.mpr ⟨tm_5 (List.mem_of_getElem? (i := 205) rfl), rfl⟩
theorem se_X2_findFits : Cond.selects RX2 yX2_findFits yX2_findFits ∈ lw_good := List.mem_filter.mpr ⟨tm_5 (List.mem_of_getElem? (i := 206) rfl), rfl⟩
theorem cd_X2_findLook : Cond.code yX2_findLook cX2_findLook 4 none ∈ lw_good := List.mem_filter.mpr ⟨tm_5 (List.mem_of_getElem? (i := 229) rfl), rfl⟩
theorem in_X2_findLook : Cond.instanceMethod yX2_findLook ∈ lw_good := List.mem_filter.mpr ⟨tm_5 (List.mem_of_getElem? (i := 227) rfl), rfl⟩
theorem se_X2_findLook : Cond.selects RX2 yX2_findLook yX2_findLook ∈ lw_good := List.mem_filter.mpr ⟨tm_5 (List.mem_of_getElem? (i := 228) rfl), rfl⟩
theorem cd_X2_added : Cond.code yX2_added cX2_added 4 (some .int) ∈ lw_good := List.mem_filter.mpr ⟨tm_5 (List.mem_of_getElem? (i := 211) rfl), rfl⟩
theorem in_X2_added : Cond.instanceMethod yX2_added ∈ lw_good := List.mem_filter.mpr ⟨tm_5 (List.mem_of_getElem? (i := 210) rfl), rfl⟩
theorem se_X2_added : Cond.selects RX2 yX2_added yX2_added ∈ lw_good := List.mem_filter.mpr ⟨tp_3 (List.mem_of_getElem? (i := 1) rfl), rfl⟩
theorem cd_X2_isRight : Cond.code yX2_isRight cX2_isRight 6 (some .boolean) ∈ lw_good := List.mem_filter.mpr ⟨tm_5 (List.mem_of_getElem? (i := 217) rfl), rfl⟩
theorem in_X2_isRight : Cond.instanceMethod yX2_isRight ∈ lw_good := List.mem_filter.mpr ⟨tm_5 (List.mem_of_getElem? (i := 216) rfl), rfl⟩
theorem se_X2_isRight : Cond.selects RX2 yX2_isRight yX2_isRight ∈ lw_good := List.mem_filter.mpr ⟨tp_3 (List.mem_of_getElem? (i := 2) rfl), rfl⟩
theorem cd_X2_worstLeft : Cond.code yX2_worstLeft cX2_worstLeft 9 (some .int) ∈ lw_good := List.mem_filter.mpr ⟨tm_5 (List.mem_of_getElem? (i := 234) rfl), rfl⟩
theorem in_X2_worstLeft : Cond.instanceMethod yX2_worstLeft ∈ lw_good := List.mem_filter.mpr ⟨tm_5 (List.mem_of_getElem? (i := 233) rfl), rfl⟩
theorem se_X2_worstLeft : Cond.selects RX2 yX2_worstLeft yX2_worstLeft ∈ lw_good := List.mem_filter.mpr ⟨tp_3 (List.mem_of_getElem? (i := 3) rfl), rfl⟩
theorem cd_X3_init : Cond.code yX3_init cX3_init 3 none ∈ lw_good := List.mem_filter.mpr ⟨tm_1 (List.mem_of_getElem? (i := 203) rfl), rfl⟩
theorem in_X3_init : Cond.instanceMethod yX3_init ∈ lw_good := List.mem_filter.mpr ⟨tm_1 (List.mem_of_getElem? (i := 202) rfl), rfl⟩
theorem cd_X3_restOfDay : Cond.code yX3_restOfDay cX3_restOfDay 2 (some .int) ∈ lw_good := List.mem_filter.mpr ⟨tm_4 (List.mem_of_getElem? (i := 160) rfl), rfl⟩
theorem in_X3_restOfDay : Cond.instanceMethod yX3_restOfDay ∈ lw_good := List.mem_filter.mpr ⟨tm_4 (List.mem_of_getElem? (i := 158) rfl), rfl⟩
theorem se_X3_restOfDay : Cond.selects RX3 yX3_restOfDay yX3_restOfDay ∈ lw_good := List.mem_filter.mpr ⟨tm_4 (List.mem_of_getElem? (i := 159) rfl), rfl⟩
theorem cd_X3_tiredIn : Cond.code yX3_tiredIn cX3_tiredIn 4 (some .int) ∈ lw_good := List.mem_filter.mpr ⟨tm_4 (List.mem_of_getElem? (i := 156) rfl), rfl⟩
theorem in_X3_tiredIn : Cond.instanceMethod yX3_tiredIn ∈ lw_good := List.mem_filter.mpr ⟨tm_4 (List.mem_of_getElem? (i := 154) rfl), rfl⟩
theorem se_X3_tiredIn : Cond.selects RX3 yX3_tiredIn yX3_tiredIn ∈ lw_good := List.mem_filter.mpr ⟨tm_4 (List.mem_of_getElem? (i := 155) rfl), rfl⟩
theorem cd_X3_loadOn : Cond.code yX3_loadOn cX3_loadOn 6 (some .int) ∈ lw_good := List.mem_filter.mpr ⟨tm_4 (List.mem_of_getElem? (i := 138) rfl), rfl⟩
theorem in_X3_loadOn : Cond.instanceMethod yX3_loadOn ∈ lw_good := List.mem_filter.mpr ⟨tm_4 (List.mem_of_getElem? (i := 136) rfl), rfl⟩
theorem se_X3_loadOn : Cond.selects RX3 yX3_loadOn yX3_loadOn ∈ lw_good := List.mem_filter.mpr ⟨tm_4 (List.mem_of_getElem? (i := 137) rfl), rfl⟩
theorem cd_X3_burdenOn : Cond.code yX3_burdenOn cX3_burdenOn 5 (some .int) ∈ lw_good := List.mem_filter.mpr ⟨tm_4 (List.mem_of_getElem? (i := 134) rfl), rfl⟩
theorem in_X3_burdenOn : Cond.instanceMethod yX3_burdenOn ∈ lw_good := List.mem_filter.mpr ⟨tm_4 (List.mem_of_getElem? (i := 132) rfl), rfl⟩
theorem se_X3_burdenOn : Cond.selects RX3 yX3_burdenOn yX3_burdenOn ∈ lw_good := List.mem_filter.mpr ⟨tm_4 (List.mem_of_getElem? (i := 133) rfl), rfl⟩
theorem cd_X3_bearsIn : Cond.code yX3_bearsIn cX3_bearsIn 6 (some .boolean) ∈ lw_good := List.mem_filter.mpr ⟨tm_5 (List.mem_of_getElem? (i := 129) rfl), rfl⟩
theorem in_X3_bearsIn : Cond.instanceMethod yX3_bearsIn ∈ lw_good := List.mem_filter.mpr ⟨tm_5 (List.mem_of_getElem? (i := 127) rfl), rfl⟩
theorem se_X3_bearsIn : Cond.selects RX3 yX3_bearsIn yX3_bearsIn ∈ lw_good := List.mem_filter.mpr ⟨tm_5 (List.mem_of_getElem? (i := 128) rfl), rfl⟩
theorem cd_X3_sit : Cond.code yX3_sit cX3_sit 4 (some .boolean) ∈ lw_good := List.mem_filter.mpr ⟨tm_4 (List.mem_of_getElem? (i := 126) rfl), rfl⟩
theorem in_X3_sit : Cond.instanceMethod yX3_sit ∈ lw_good := List.mem_filter.mpr ⟨tm_4 (List.mem_of_getElem? (i := 124) rfl), rfl⟩
theorem se_X3_sit : Cond.selects RX3 yX3_sit yX3_sit ∈ lw_good := List.mem_filter.mpr ⟨tm_4 (List.mem_of_getElem? (i := 125) rfl), rfl⟩
theorem cd_X3_hold : Cond.code yX3_hold cX3_hold 3 (some .boolean) ∈ lw_good := List.mem_filter.mpr ⟨tm_4 (List.mem_of_getElem? (i := 199) rfl), rfl⟩
theorem in_X3_hold : Cond.instanceMethod yX3_hold ∈ lw_good := List.mem_filter.mpr ⟨tm_4 (List.mem_of_getElem? (i := 197) rfl), rfl⟩
theorem se_X3_hold : Cond.selects RX3 yX3_hold yX3_hold ∈ lw_good := List.mem_filter.mpr ⟨tm_4 (List.mem_of_getElem? (i := 198) rfl), rfl⟩
theorem cd_X3_dawn : Cond.code yX3_dawn cX3_dawn 2 (some .boolean) ∈ lw_good := List.mem_filter.mpr ⟨tm_4 (List.mem_of_getElem? (i := 207) rfl), rfl⟩
theorem in_X3_dawn : Cond.instanceMethod yX3_dawn ∈ lw_good := List.mem_filter.mpr ⟨tm_4 (List.mem_of_getElem? (i := 205) rfl), rfl⟩
theorem se_X3_dawn : Cond.selects RX3 yX3_dawn yX3_dawn ∈ lw_good := List.mem_filter.mpr ⟨tm_4 (List.mem_of_getElem? (i := 206) rfl), rfl⟩
theorem cd_X3_passDay : Cond.code yX3_passDay cX3_passDay 3 none ∈ lw_good := List.mem_filter.mpr ⟨tm_4 (List.mem_of_getElem? (i := 211) rfl), rfl⟩
theorem in_X3_passDay : Cond.instanceMethod yX3_passDay ∈ lw_good := List.mem_filter.mpr ⟨tm_4 (List.mem_of_getElem? (i := 209) rfl), rfl⟩
theorem se_X3_passDay : Cond.selects RX3 yX3_passDay yX3_passDay ∈ lw_good := List.mem_filter.mpr ⟨tm_4 (List.mem_of_getElem? (i := 210) rfl), rfl⟩
theorem cd_X3_knownByAllWhoStand : Cond.code yX3_knownByAllWhoStand cX3_knownByAllWhoStand 4 (some .int) ∈ lw_good := List.mem_filter.mpr ⟨tm_5 (List.mem_of_getElem? (i := 26) rfl), rfl⟩
theorem in_X3_knownByAllWhoStand : Cond.instanceMethod yX3_knownByAllWhoStand ∈ lw_good := List.mem_filter.mpr ⟨tm_5 (List.mem_of_getElem? (i := 24) rfl), rfl⟩
theorem se_X3_knownByAllWhoStand : Cond.selects RX3 yX3_knownByAllWhoStand yX3_knownByAllWhoStand ∈ lw_good := List.mem_filter.mpr ⟨tm_5 (List.mem_of_getElem? (i := 25) rfl), rfl⟩
theorem cd_X4_init : Cond.code yX4_init cX4_init 1 none ∈ lw_good := List.mem_filter.mpr ⟨tm_1 (List.mem_of_getElem? (i := 125) rfl), rfl⟩
theorem in_X4_init : Cond.instanceMethod yX4_init ∈ lw_good := List.mem_filter.mpr ⟨tm_1 (List.mem_of_getElem? (i := 124) rfl), rfl⟩
theorem cd_X4_beUsual : Cond.code yX4_beUsual cX4_beUsual 1 none ∈ lw_good := List.mem_filter.mpr ⟨tm_1 (List.mem_of_getElem? (i := 130) rfl), rfl⟩
theorem in_X4_beUsual : Cond.instanceMethod yX4_beUsual ∈ lw_good := List.mem_filter.mpr ⟨tm_1 (List.mem_of_getElem? (i := 128) rfl), rfl⟩
theorem se_X4_beUsual : Cond.selects RX4 yX4_beUsual yX4_beUsual ∈ lw_good := List.mem_filter.mpr ⟨tm_1 (List.mem_of_getElem? (i := 129) rfl), rfl⟩
theorem cd_X4_copyFrom : Cond.code yX4_copyFrom cX4_copyFrom 2 none ∈ lw_good := List.mem_filter.mpr ⟨tm_4 (List.mem_of_getElem? (i := 49) rfl), rfl⟩
theorem in_X4_copyFrom : Cond.instanceMethod yX4_copyFrom ∈ lw_good := List.mem_filter.mpr ⟨tm_4 (List.mem_of_getElem? (i := 47) rfl), rfl⟩
theorem se_X4_copyFrom : Cond.selects RX4 yX4_copyFrom yX4_copyFrom ∈ lw_good := List.mem_filter.mpr ⟨tm_4 (List.mem_of_getElem? (i := 48) rfl), rfl⟩
theorem cd_X4_readFrom : Cond.code yX4_readFrom cX4_readFrom 2 (some .boolean) ∈ lw_good := List.mem_filter.mpr ⟨tm_3 (List.mem_of_getElem? (i := 231) rfl), rfl⟩
theorem in_X4_readFrom : Cond.instanceMethod yX4_readFrom ∈ lw_good := List.mem_filter.mpr ⟨tm_3 (List.mem_of_getElem? (i := 229) rfl), rfl⟩
theorem se_X4_readFrom : Cond.selects RX4 yX4_readFrom yX4_readFrom ∈ lw_good := List.mem_filter.mpr ⟨tm_3 (List.mem_of_getElem? (i := 230) rfl), rfl⟩
theorem cd_X4_tellKing : Cond.code yX4_tellKing cX4_tellKing 4 none ∈ lw_good := List.mem_filter.mpr ⟨tm_4 (List.mem_of_getElem? (i := 142) rfl), rfl⟩
theorem in_X4_tellKing : Cond.instanceMethod yX4_tellKing ∈ lw_good := List.mem_filter.mpr ⟨tm_4 (List.mem_of_getElem? (i := 140) rfl), rfl⟩
theorem se_X4_tellKing : Cond.selects RX4 yX4_tellKing yX4_tellKing ∈ lw_good := List.mem_filter.mpr ⟨tm_4 (List.mem_of_getElem? (i := 141) rfl), rfl⟩
theorem cd_X4_tellCouncil : Cond.code yX4_tellCouncil cX4_tellCouncil 3 none ∈ lw_good := List.mem_filter.mpr ⟨tm_4 (List.mem_of_getElem? (i := 146) rfl), rfl⟩
theorem in_X4_tellCouncil : Cond.instanceMethod yX4_tellCouncil ∈ lw_good := List.mem_filter.mpr ⟨tm_4 (List.mem_of_getElem? (i := 144) rfl), rfl⟩
theorem se_X4_tellCouncil : Cond.selects RX4 yX4_tellCouncil yX4_tellCouncil ∈ lw_good := List.mem_filter.mpr ⟨tm_4 (List.mem_of_getElem? (i := 145) rfl), rfl⟩
theorem cd_X4_tellBack : Cond.code yX4_tellBack cX4_tellBack 5 none ∈ lw_good := List.mem_filter.mpr ⟨tm_4 (List.mem_of_getElem? (i := 165) rfl), rfl⟩
theorem in_X4_tellBack : Cond.instanceMethod yX4_tellBack ∈ lw_good := List.mem_filter.mpr ⟨tm_4 (List.mem_of_getElem? (i := 163) rfl), rfl⟩
theorem se_X4_tellBack : Cond.selects RX4 yX4_tellBack yX4_tellBack ∈ lw_good := List.mem_filter.mpr ⟨tm_4 (List.mem_of_getElem? (i := 164) rfl), rfl⟩
theorem cd_X4_loadAsTold : Cond.code yX4_loadAsTold cX4_loadAsTold 4 (some .int) ∈ lw_good := List.mem_filter.mpr ⟨tm_4 (List.mem_of_getElem? (i := 169) rfl), rfl⟩
theorem in_X4_loadAsTold : Cond.instanceMethod yX4_loadAsTold ∈ lw_good := List.mem_filter.mpr ⟨tm_4 (List.mem_of_getElem? (i := 167) rfl), rfl⟩
theorem se_X4_loadAsTold : Cond.selects RX4 yX4_loadAsTold yX4_loadAsTold ∈ lw_good := List.mem_filter.mpr ⟨tm_4 (List.mem_of_getElem? (i := 168) rfl), rfl⟩
theorem cd_X4_outcome : Cond.code yX4_outcome cX4_outcome 3 (some .int) ∈ lw_good := List.mem_filter.mpr ⟨tm_4 (List.mem_of_getElem? (i := 172) rfl), rfl⟩
theorem sa_X4_outcome : Cond.static yX4_outcome ∈ lw_good := List.mem_filter.mpr ⟨tm_4 (List.mem_of_getElem? (i := 171) rfl), rfl⟩
theorem cd_X4_add : Cond.code yX4_add cX4_add 2 (some .boolean) ∈ lw_good := List.mem_filter.mpr ⟨tm_1 (List.mem_of_getElem? (i := 134) rfl), rfl⟩
theorem in_X4_add : Cond.instanceMethod yX4_add ∈ lw_good := List.mem_filter.mpr ⟨tm_1 (List.mem_of_getElem? (i := 133) rfl), rfl⟩
theorem se_X4_add : Cond.selects RX4 yX4_add yX4_add ∈ lw_good := List.mem_filter.mpr ⟨tp_1 (List.mem_of_getElem? (i := 0) rfl), rfl⟩
theorem cd_X4_readSum : Cond.code yX4_readSum cX4_readSum 5 (some .boolean) ∈ lw_good := List.mem_filter.mpr ⟨tm_3 (List.mem_of_getElem? (i := 235) rfl), rfl⟩
theorem in_X4_readSum : Cond.instanceMethod yX4_readSum ∈ lw_good := List.mem_filter.mpr ⟨tm_3 (List.mem_of_getElem? (i := 234) rfl), rfl⟩
theorem se_X4_readSum : Cond.selects RX4 yX4_readSum yX4_readSum ∈ lw_good := List.mem_filter.mpr ⟨tp_1 (List.mem_of_getElem? (i := 9) rfl), rfl⟩
theorem cd_X4_readProduct : Cond.code yX4_readProduct cX4_readProduct 5 (some .boolean) ∈ lw_good := List.mem_filter.mpr ⟨tm_3 (List.mem_of_getElem? (i := 239) rfl), rfl⟩
theorem in_X4_readProduct : Cond.instanceMethod yX4_readProduct ∈ lw_good := List.mem_filter.mpr ⟨tm_3 (List.mem_of_getElem? (i := 238) rfl), rfl⟩
theorem se_X4_readProduct : Cond.selects RX4 yX4_readProduct yX4_readProduct ∈ lw_good := List.mem_filter.mpr ⟨tp_1 (List.mem_of_getElem? (i := 10) rfl), rfl⟩
theorem cd_X4_readUnit : Cond.code yX4_readUnit cX4_readUnit 5 (some .boolean) ∈ lw_good := List.mem_filter.mpr ⟨tm_4 (List.mem_of_getElem? (i := 3) rfl), rfl⟩
theorem in_X4_readUnit : Cond.instanceMethod yX4_readUnit ∈ lw_good := List.mem_filter.mpr ⟨tm_4 (List.mem_of_getElem? (i := 2) rfl), rfl⟩
theorem se_X4_readUnit : Cond.selects RX4 yX4_readUnit yX4_readUnit ∈ lw_good := List.mem_filter.mpr ⟨tp_1 (List.mem_of_getElem? (i := 11) rfl), rfl⟩
theorem cd_X4_readInner : Cond.code yX4_readInner cX4_readInner 3 (some .boolean) ∈ lw_good := List.mem_filter.mpr ⟨tm_4 (List.mem_of_getElem? (i := 10) rfl), rfl⟩
theorem in_X4_readInner : Cond.instanceMethod yX4_readInner ∈ lw_good := List.mem_filter.mpr ⟨tm_4 (List.mem_of_getElem? (i := 9) rfl), rfl⟩
theorem se_X4_readInner : Cond.selects RX4 yX4_readInner yX4_readInner ∈ lw_good := List.mem_filter.mpr ⟨tp_1 (List.mem_of_getElem? (i := 12) rfl), rfl⟩
theorem cd_X4_readPair : Cond.code yX4_readPair cX4_readPair 3 (some .boolean) ∈ lw_good := List.mem_filter.mpr ⟨tm_4 (List.mem_of_getElem? (i := 27) rfl), rfl⟩
theorem in_X4_readPair : Cond.instanceMethod yX4_readPair ∈ lw_good := List.mem_filter.mpr ⟨tm_4 (List.mem_of_getElem? (i := 26) rfl), rfl⟩
theorem se_X4_readPair : Cond.selects RX4 yX4_readPair yX4_readPair ∈ lw_good := List.mem_filter.mpr ⟨tp_1 (List.mem_of_getElem? (i := 13) rfl), rfl⟩
theorem cd_X4_thingOf : Cond.code yX4_thingOf cX4_thingOf 1 (some .int) ∈ lw_good := List.mem_filter.mpr ⟨tm_4 (List.mem_of_getElem? (i := 31) rfl), rfl⟩
theorem sa_X4_thingOf : Cond.static yX4_thingOf ∈ lw_good := List.mem_filter.mpr ⟨tm_4 (List.mem_of_getElem? (i := 30) rfl), rfl⟩
theorem cd_X5_init : Cond.code yX5_init cX5_init 2 none ∈ lw_good := List.mem_filter.mpr ⟨tm_1 (List.mem_of_getElem? (i := 219) rfl), rfl⟩
theorem in_X5_init : Cond.instanceMethod yX5_init ∈ lw_good := List.mem_filter.mpr ⟨tm_1 (List.mem_of_getElem? (i := 218) rfl), rfl⟩
theorem cd_X5_clear : Cond.code yX5_clear cX5_clear 1 none ∈ lw_good := List.mem_filter.mpr ⟨tm_3 (List.mem_of_getElem? (i := 215) rfl), rfl⟩
theorem in_X5_clear : Cond.instanceMethod yX5_clear ∈ lw_good := List.mem_filter.mpr ⟨tm_3 (List.mem_of_getElem? (i := 213) rfl), rfl⟩
theorem se_X5_clear : Cond.selects RX5 yX5_clear yX5_clear ∈ lw_good := List.mem_filter.mpr ⟨tm_3 (List.mem_of_getElem? (i := 214) rfl), rfl⟩
theorem cd_X5_copyFrom : Cond.code yX5_copyFrom cX5_copyFrom 3 none ∈ lw_good := List.mem_filter.mpr ⟨tm_2 (List.mem_of_getElem? (i := 226) rfl), rfl⟩
theorem in_X5_copyFrom : Cond.instanceMethod yX5_copyFrom ∈ lw_good := List.mem_filter.mpr ⟨tm_2 (List.mem_of_getElem? (i := 224) rfl), rfl⟩
theorem se_X5_copyFrom : Cond.selects RX5 yX5_copyFrom yX5_copyFrom ∈ lw_good := List.mem_filter.mpr ⟨tm_2 (List.mem_of_getElem? (i := 225) rfl), rfl⟩
theorem cd_X5_keepNow : Cond.code yX5_keepNow cX5_keepNow 1 none ∈ lw_good := List.mem_filter.mpr ⟨tm_4 (List.mem_of_getElem? (i := 102) rfl), rfl⟩
theorem in_X5_keepNow : Cond.instanceMethod yX5_keepNow ∈ lw_good := List.mem_filter.mpr ⟨tm_4 (List.mem_of_getElem? (i := 100) rfl), rfl⟩
theorem se_X5_keepNow : Cond.selects RX5 yX5_keepNow yX5_keepNow ∈ lw_good := List.mem_filter.mpr ⟨tm_4 (List.mem_of_getElem? (i := 101) rfl), rfl⟩
theorem cd_X5_takeBack : Cond.code yX5_takeBack cX5_takeBack 1 none ∈ lw_good := List.mem_filter.mpr ⟨tm_2 (List.mem_of_getElem? (i := 211) rfl), rfl⟩
theorem in_X5_takeBack : Cond.instanceMethod yX5_takeBack ∈ lw_good := List.mem_filter.mpr ⟨tm_2 (List.mem_of_getElem? (i := 209) rfl), rfl⟩
theorem se_X5_takeBack : Cond.selects RX5 yX5_takeBack yX5_takeBack ∈ lw_good := List.mem_filter.mpr ⟨tm_2 (List.mem_of_getElem? (i := 210) rfl), rfl⟩
theorem cd_X6_init : Cond.code yX6_init cX6_init 1 none ∈ lw_good := List.mem_filter.mpr ⟨tm_1 (List.mem_of_getElem? (i := 174) rfl), rfl⟩
theorem in_X6_init : Cond.instanceMethod yX6_init ∈ lw_good := List.mem_filter.mpr ⟨tm_1 (List.mem_of_getElem? (i := 173) rfl), rfl⟩
theorem cd_X6_readFrom : Cond.code yX6_readFrom cX6_readFrom 3 (some .boolean) ∈ lw_good := List.mem_filter.mpr ⟨tm_4 (List.mem_of_getElem? (i := 61) rfl), rfl⟩
theorem in_X6_readFrom : Cond.instanceMethod yX6_readFrom ∈ lw_good := List.mem_filter.mpr ⟨tm_4 (List.mem_of_getElem? (i := 59) rfl), rfl⟩
theorem se_X6_readFrom : Cond.selects RX6 yX6_readFrom yX6_readFrom ∈ lw_good := List.mem_filter.mpr ⟨tm_4 (List.mem_of_getElem? (i := 60) rfl), rfl⟩
theorem cd_X6_carryOut : Cond.code yX6_carryOut cX6_carryOut 7 (some .int) ∈ lw_good := List.mem_filter.mpr ⟨tm_4 (List.mem_of_getElem? (i := 106) rfl), rfl⟩
theorem in_X6_carryOut : Cond.instanceMethod yX6_carryOut ∈ lw_good := List.mem_filter.mpr ⟨tm_4 (List.mem_of_getElem? (i := 104) rfl), rfl⟩
theorem se_X6_carryOut : Cond.selects RX6 yX6_carryOut yX6_carryOut ∈ lw_good := List.mem_filter.mpr ⟨tm_4 (List.mem_of_getElem? (i := 105) rfl), rfl⟩
theorem cd_X6_enter : Cond.code yX6_enter cX6_enter 2 (some .int) ∈ lw_good := List.mem_filter.mpr ⟨tm_4 (List.mem_of_getElem? (i := 118) rfl), rfl⟩
theorem in_X6_enter : Cond.instanceMethod yX6_enter ∈ lw_good := List.mem_filter.mpr ⟨tm_4 (List.mem_of_getElem? (i := 117) rfl), rfl⟩
theorem se_X6_enter : Cond.selects RX6 yX6_enter yX6_enter ∈ lw_good := List.mem_filter.mpr ⟨tp_2 (List.mem_of_getElem? (i := 5) rfl), rfl⟩
theorem cd_X6_turn : Cond.code yX6_turn cX6_turn 2 (some .int) ∈ lw_good := List.mem_filter.mpr ⟨tm_4 (List.mem_of_getElem? (i := 111) rfl), rfl⟩
theorem in_X6_turn : Cond.instanceMethod yX6_turn ∈ lw_good := List.mem_filter.mpr ⟨tm_4 (List.mem_of_getElem? (i := 110) rfl), rfl⟩
theorem se_X6_turn : Cond.selects RX6 yX6_turn yX6_turn ∈ lw_good := List.mem_filter.mpr ⟨tp_2 (List.mem_of_getElem? (i := 4) rfl), rfl⟩
theorem cd_X6_begin : Cond.code yX6_begin cX6_begin 4 (some .boolean) ∈ lw_good := List.mem_filter.mpr ⟨tm_4 (List.mem_of_getElem? (i := 122) rfl), rfl⟩
theorem in_X6_begin : Cond.instanceMethod yX6_begin ∈ lw_good := List.mem_filter.mpr ⟨tm_4 (List.mem_of_getElem? (i := 121) rfl), rfl⟩
theorem se_X6_begin : Cond.selects RX6 yX6_begin yX6_begin ∈ lw_good := List.mem_filter.mpr ⟨tp_2 (List.mem_of_getElem? (i := 6) rfl), rfl⟩
theorem cd_X6_readSteps : Cond.code yX6_readSteps cX6_readSteps 5 (some .boolean) ∈ lw_good := List.mem_filter.mpr ⟨tm_4 (List.mem_of_getElem? (i := 65) rfl), rfl⟩
theorem in_X6_readSteps : Cond.instanceMethod yX6_readSteps ∈ lw_good := List.mem_filter.mpr ⟨tm_4 (List.mem_of_getElem? (i := 64) rfl), rfl⟩
theorem se_X6_readSteps : Cond.selects RX6 yX6_readSteps yX6_readSteps ∈ lw_good := List.mem_filter.mpr ⟨tp_1 (List.mem_of_getElem? (i := 14) rfl), rfl⟩
theorem cd_X6_readStep : Cond.code yX6_readStep cX6_readStep 4 (some .boolean) ∈ lw_good := List.mem_filter.mpr ⟨tm_4 (List.mem_of_getElem? (i := 71) rfl), rfl⟩
theorem in_X6_readStep : Cond.instanceMethod yX6_readStep ∈ lw_good := List.mem_filter.mpr ⟨tm_4 (List.mem_of_getElem? (i := 70) rfl), rfl⟩
theorem se_X6_readStep : Cond.selects RX6 yX6_readStep yX6_readStep ∈ lw_good := List.mem_filter.mpr ⟨tp_1 (List.mem_of_getElem? (i := 15) rfl), rfl⟩
theorem cd_X6_readNumber : Cond.code yX6_readNumber cX6_readNumber 5 (some .boolean) ∈ lw_good := List.mem_filter.mpr ⟨tm_4 (List.mem_of_getElem? (i := 89) rfl), rfl⟩
theorem in_X6_readNumber : Cond.instanceMethod yX6_readNumber ∈ lw_good := List.mem_filter.mpr ⟨tm_4 (List.mem_of_getElem? (i := 88) rfl), rfl⟩
theorem se_X6_readNumber : Cond.selects RX6 yX6_readNumber yX6_readNumber ∈ lw_good := List.mem_filter.mpr ⟨tp_2 (List.mem_of_getElem? (i := 2) rfl), rfl⟩
theorem cd_X6_readNumbers : Cond.code yX6_readNumbers cX6_readNumbers 7 (some .boolean) ∈ lw_good := List.mem_filter.mpr ⟨tm_4 (List.mem_of_getElem? (i := 78) rfl), rfl⟩
theorem in_X6_readNumbers : Cond.instanceMethod yX6_readNumbers ∈ lw_good := List.mem_filter.mpr ⟨tm_4 (List.mem_of_getElem? (i := 77) rfl), rfl⟩
theorem se_X6_readNumbers : Cond.selects RX6 yX6_readNumbers yX6_readNumbers ∈ lw_good := List.mem_filter.mpr ⟨tp_2 (List.mem_of_getElem? (i := 0) rfl), rfl⟩
theorem cd_X6_readAgain : Cond.code yX6_readAgain cX6_readAgain 5 (some .boolean) ∈ lw_good := List.mem_filter.mpr ⟨tm_4 (List.mem_of_getElem? (i := 96) rfl), rfl⟩
theorem in_X6_readAgain : Cond.instanceMethod yX6_readAgain ∈ lw_good := List.mem_filter.mpr ⟨tm_4 (List.mem_of_getElem? (i := 95) rfl), rfl⟩
theorem se_X6_readAgain : Cond.selects RX6 yX6_readAgain yX6_readAgain ∈ lw_good := List.mem_filter.mpr ⟨tp_2 (List.mem_of_getElem? (i := 3) rfl), rfl⟩
theorem cd_X6_add : Cond.code yX6_add cX6_add 4 (some .boolean) ∈ lw_good := List.mem_filter.mpr ⟨tm_4 (List.mem_of_getElem? (i := 83) rfl), rfl⟩
theorem in_X6_add : Cond.instanceMethod yX6_add ∈ lw_good := List.mem_filter.mpr ⟨tm_4 (List.mem_of_getElem? (i := 82) rfl), rfl⟩
theorem se_X6_add : Cond.selects RX6 yX6_add yX6_add ∈ lw_good := List.mem_filter.mpr ⟨tp_2 (List.mem_of_getElem? (i := 1) rfl), rfl⟩
theorem cd_X7_init : Cond.code yX7_init cX7_init 2 none ∈ lw_good := List.mem_filter.mpr ⟨tm_2 (List.mem_of_getElem? (i := 115) rfl), rfl⟩
theorem in_X7_init : Cond.instanceMethod yX7_init ∈ lw_good := List.mem_filter.mpr ⟨tm_2 (List.mem_of_getElem? (i := 114) rfl), rfl⟩
theorem cd_X7_run : Cond.code yX7_run cX7_run 8 none ∈ lw_good := List.mem_filter.mpr ⟨tm_6 (List.mem_of_getElem? (i := 117) rfl), rfl⟩
theorem in_X7_run : Cond.instanceMethod yX7_run ∈ lw_good := List.mem_filter.mpr ⟨tm_6 (List.mem_of_getElem? (i := 115) rfl), rfl⟩
theorem se_X7_run : Cond.selects RX7 yX7_run yX7_run ∈ lw_good := List.mem_filter.mpr ⟨tm_6 (List.mem_of_getElem? (i := 116) rfl), rfl⟩
theorem cd_X7_bearOrRest : Cond.code yX7_bearOrRest cX7_bearOrRest 3 none ∈ lw_good := List.mem_filter.mpr ⟨tm_6 (List.mem_of_getElem? (i := 122) rfl), rfl⟩
theorem in_X7_bearOrRest : Cond.instanceMethod yX7_bearOrRest ∈ lw_good := List.mem_filter.mpr ⟨tm_6 (List.mem_of_getElem? (i := 121) rfl), rfl⟩
theorem se_X7_bearOrRest : Cond.selects RX7 yX7_bearOrRest yX7_bearOrRest ∈ lw_good := List.mem_filter.mpr ⟨tp_3 (List.mem_of_getElem? (i := 7) rfl), rfl⟩
theorem cd_X7_tellByChance : Cond.code yX7_tellByChance cX7_tellByChance 4 none ∈ lw_good := List.mem_filter.mpr ⟨tm_6 (List.mem_of_getElem? (i := 133) rfl), rfl⟩
theorem in_X7_tellByChance : Cond.instanceMethod yX7_tellByChance ∈ lw_good := List.mem_filter.mpr ⟨tm_6 (List.mem_of_getElem? (i := 132) rfl), rfl⟩
theorem se_X7_tellByChance : Cond.selects RX7 yX7_tellByChance yX7_tellByChance ∈ lw_good := List.mem_filter.mpr ⟨tp_3 (List.mem_of_getElem? (i := 9) rfl), rfl⟩
theorem cd_X7_draw : Cond.code yX7_draw cX7_draw 3 (some .int) ∈ lw_good := List.mem_filter.mpr ⟨tm_6 (List.mem_of_getElem? (i := 126) rfl), rfl⟩
theorem in_X7_draw : Cond.instanceMethod yX7_draw ∈ lw_good := List.mem_filter.mpr ⟨tm_6 (List.mem_of_getElem? (i := 125) rfl), rfl⟩
theorem se_X7_draw : Cond.selects RX7 yX7_draw yX7_draw ∈ lw_good := List.mem_filter.mpr ⟨tp_3 (List.mem_of_getElem? (i := 8) rfl), rfl⟩
theorem cd_X8_init : Cond.code yX8_init cX8_init 2 none ∈ lw_good := List.mem_filter.mpr ⟨tm_2 (List.mem_of_getElem? (i := 48) rfl), rfl⟩
theorem in_X8_init : Cond.instanceMethod yX8_init ∈ lw_good := List.mem_filter.mpr ⟨tm_2 (List.mem_of_getElem? (i := 47) rfl), rfl⟩
theorem cd_X8_search : Cond.code yX8_search cX8_search 4 none ∈ lw_good := List.mem_filter.mpr ⟨tm_5 (List.mem_of_getElem? (i := 151) rfl), rfl⟩
theorem in_X8_search : Cond.instanceMethod yX8_search ∈ lw_good := List.mem_filter.mpr ⟨tm_5 (List.mem_of_getElem? (i := 149) rfl), rfl⟩
theorem se_X8_search : Cond.selects RX8 yX8_search yX8_search ∈ lw_good := List.mem_filter.mpr ⟨tm_5 (List.mem_of_getElem? (i := 150) rfl), rfl⟩
theorem cd_X8_givenTo : Cond.code yX8_givenTo cX8_givenTo 3 (some .int) ∈ lw_good := List.mem_filter.mpr ⟨tm_5 (List.mem_of_getElem? (i := 173) rfl), rfl⟩
theorem in_X8_givenTo : Cond.instanceMethod yX8_givenTo ∈ lw_good := List.mem_filter.mpr ⟨tm_5 (List.mem_of_getElem? (i := 171) rfl), rfl⟩
theorem se_X8_givenTo : Cond.selects RX8 yX8_givenTo yX8_givenTo ∈ lw_good := List.mem_filter.mpr ⟨tm_5 (List.mem_of_getElem? (i := 172) rfl), rfl⟩
theorem cd_X8_weigh : Cond.code yX8_weigh cX8_weigh 6 (some .boolean) ∈ lw_good := List.mem_filter.mpr ⟨tm_5 (List.mem_of_getElem? (i := 156) rfl), rfl⟩
theorem in_X8_weigh : Cond.instanceMethod yX8_weigh ∈ lw_good := List.mem_filter.mpr ⟨tm_5 (List.mem_of_getElem? (i := 155) rfl), rfl⟩
theorem se_X8_weigh : Cond.selects RX8 yX8_weigh yX8_weigh ∈ lw_good := List.mem_filter.mpr ⟨tp_2 (List.mem_of_getElem? (i := 14) rfl), rfl⟩
theorem cd_X8_give : Cond.code yX8_give cX8_give 6 none ∈ lw_good := List.mem_filter.mpr ⟨tm_5 (List.mem_of_getElem? (i := 161) rfl), rfl⟩
theorem in_X8_give : Cond.instanceMethod yX8_give ∈ lw_good := List.mem_filter.mpr ⟨tm_5 (List.mem_of_getElem? (i := 160) rfl), rfl⟩
theorem se_X8_give : Cond.selects RX8 yX8_give yX8_give ∈ lw_good := List.mem_filter.mpr ⟨tp_2 (List.mem_of_getElem? (i := 15) rfl), rfl⟩
theorem cd_X9_init : Cond.code yX9_init cX9_init 1 none ∈ lw_good := List.mem_filter.mpr ⟨tm_1 (List.mem_of_getElem? (i := 225) rfl), rfl⟩
theorem in_X9_init : Cond.instanceMethod yX9_init ∈ lw_good := List.mem_filter.mpr ⟨tm_1 (List.mem_of_getElem? (i := 224) rfl), rfl⟩
theorem cd_X9_clear : Cond.code yX9_clear cX9_clear 1 none ∈ lw_good := List.mem_filter.mpr ⟨tm_3 (List.mem_of_getElem? (i := 219) rfl), rfl⟩
theorem in_X9_clear : Cond.instanceMethod yX9_clear ∈ lw_good := List.mem_filter.mpr ⟨tm_3 (List.mem_of_getElem? (i := 217) rfl), rfl⟩
theorem se_X9_clear : Cond.selects RX9 yX9_clear yX9_clear ∈ lw_good := List.mem_filter.mpr ⟨tm_3 (List.mem_of_getElem? (i := 218) rfl), rfl⟩
theorem cd_X9_copyFrom : Cond.code yX9_copyFrom cX9_copyFrom 2 none ∈ lw_good := List.mem_filter.mpr ⟨tm_2 (List.mem_of_getElem? (i := 215) rfl), rfl⟩
theorem in_X9_copyFrom : Cond.instanceMethod yX9_copyFrom ∈ lw_good := List.mem_filter.mpr ⟨tm_2 (List.mem_of_getElem? (i := 213) rfl), rfl⟩
theorem se_X9_copyFrom : Cond.selects RX9 yX9_copyFrom yX9_copyFrom ∈ lw_good := List.mem_filter.mpr ⟨tm_2 (List.mem_of_getElem? (i := 214) rfl), rfl⟩
theorem cd_X9_hasFallen : Cond.code yX9_hasFallen cX9_hasFallen 2 (some .boolean) ∈ lw_good := List.mem_filter.mpr ⟨tm_4 (List.mem_of_getElem? (i := 130) rfl), rfl⟩
theorem in_X9_hasFallen : Cond.instanceMethod yX9_hasFallen ∈ lw_good := List.mem_filter.mpr ⟨tm_4 (List.mem_of_getElem? (i := 128) rfl), rfl⟩
theorem se_X9_hasFallen : Cond.selects RX9 yX9_hasFallen yX9_hasFallen ∈ lw_good := List.mem_filter.mpr ⟨tm_4 (List.mem_of_getElem? (i := 129) rfl), rfl⟩
theorem cd_X9_hearingsOf : Cond.code yX9_hearingsOf cX9_hearingsOf 4 (some .int) ∈ lw_good := List.mem_filter.mpr ⟨tm_4 (List.mem_of_getElem? (i := 193) rfl), rfl⟩
theorem in_X9_hearingsOf : Cond.instanceMethod yX9_hearingsOf ∈ lw_good := List.mem_filter.mpr ⟨tm_4 (List.mem_of_getElem? (i := 191) rfl), rfl⟩
theorem se_X9_hearingsOf : Cond.selects RX9 yX9_hearingsOf yX9_hearingsOf ∈ lw_good := List.mem_filter.mpr ⟨tm_4 (List.mem_of_getElem? (i := 192) rfl), rfl⟩
theorem cd_X9_learn : Cond.code yX9_learn cX9_learn 4 none ∈ lw_good := List.mem_filter.mpr ⟨tm_4 (List.mem_of_getElem? (i := 180) rfl), rfl⟩
theorem in_X9_learn : Cond.instanceMethod yX9_learn ∈ lw_good := List.mem_filter.mpr ⟨tm_4 (List.mem_of_getElem? (i := 178) rfl), rfl⟩
theorem se_X9_learn : Cond.selects RX9 yX9_learn yX9_learn ∈ lw_good := List.mem_filter.mpr ⟨tm_4 (List.mem_of_getElem? (i := 179) rfl), rfl⟩
theorem cd_X9_bear : Cond.code yX9_bear cX9_bear 4 none ∈ lw_good := List.mem_filter.mpr ⟨tm_4 (List.mem_of_getElem? (i := 176) rfl), rfl⟩
theorem in_X9_bear : Cond.instanceMethod yX9_bear ∈ lw_good := List.mem_filter.mpr ⟨tm_4 (List.mem_of_getElem? (i := 174) rfl), rfl⟩
theorem se_X9_bear : Cond.selects RX9 yX9_bear yX9_bear ∈ lw_good := List.mem_filter.mpr ⟨tm_4 (List.mem_of_getElem? (i := 175) rfl), rfl⟩
theorem cd_X9_hasNewsFor : Cond.code yX9_hasNewsFor cX9_hasNewsFor 3 (some .boolean) ∈ lw_good := List.mem_filter.mpr ⟨tm_4 (List.mem_of_getElem? (i := 188) rfl), rfl⟩
theorem in_X9_hasNewsFor : Cond.instanceMethod yX9_hasNewsFor ∈ lw_good := List.mem_filter.mpr ⟨tm_4 (List.mem_of_getElem? (i := 186) rfl), rfl⟩
theorem se_X9_hasNewsFor : Cond.selects RX9 yX9_hasNewsFor yX9_hasNewsFor ∈ lw_good := List.mem_filter.mpr ⟨tm_4 (List.mem_of_getElem? (i := 187) rfl), rfl⟩
theorem cd_X9_tell : Cond.code yX9_tell cX9_tell 5 (some .boolean) ∈ lw_good := List.mem_filter.mpr ⟨tm_4 (List.mem_of_getElem? (i := 184) rfl), rfl⟩
theorem in_X9_tell : Cond.instanceMethod yX9_tell ∈ lw_good := List.mem_filter.mpr ⟨tm_4 (List.mem_of_getElem? (i := 182) rfl), rfl⟩
theorem se_X9_tell : Cond.selects RX9 yX9_tell yX9_tell ∈ lw_good := List.mem_filter.mpr ⟨tm_4 (List.mem_of_getElem? (i := 183) rfl), rfl⟩
theorem cd_X9_rest : Cond.code yX9_rest cX9_rest 2 (some .boolean) ∈ lw_good := List.mem_filter.mpr ⟨tm_4 (List.mem_of_getElem? (i := 203) rfl), rfl⟩
theorem in_X9_rest : Cond.instanceMethod yX9_rest ∈ lw_good := List.mem_filter.mpr ⟨tm_4 (List.mem_of_getElem? (i := 201) rfl), rfl⟩
theorem se_X9_rest : Cond.selects RX9 yX9_rest yX9_rest ∈ lw_good := List.mem_filter.mpr ⟨tm_4 (List.mem_of_getElem? (i := 202) rfl), rfl⟩
theorem cd_X9_tiredTogether : Cond.code yX9_tiredTogether cX9_tiredTogether 6 (some .int) ∈ lw_good := List.mem_filter.mpr ⟨tm_5 (List.mem_of_getElem? (i := 14) rfl), rfl⟩
theorem in_X9_tiredTogether : Cond.instanceMethod yX9_tiredTogether ∈ lw_good := List.mem_filter.mpr ⟨tm_5 (List.mem_of_getElem? (i := 12) rfl), rfl⟩
theorem se_X9_tiredTogether : Cond.selects RX9 yX9_tiredTogether yX9_tiredTogether ∈ lw_good := List.mem_filter.mpr ⟨tm_5 (List.mem_of_getElem? (i := 13) rfl), rfl⟩
theorem cd_X9_borneTogether : Cond.code yX9_borneTogether cX9_borneTogether 6 (some .int) ∈ lw_good := List.mem_filter.mpr ⟨tm_5 (List.mem_of_getElem? (i := 18) rfl), rfl⟩
theorem in_X9_borneTogether : Cond.instanceMethod yX9_borneTogether ∈ lw_good := List.mem_filter.mpr ⟨tm_5 (List.mem_of_getElem? (i := 16) rfl), rfl⟩
theorem se_X9_borneTogether : Cond.selects RX9 yX9_borneTogether yX9_borneTogether ∈ lw_good := List.mem_filter.mpr ⟨tm_5 (List.mem_of_getElem? (i := 17) rfl), rfl⟩
theorem cd_X9_knownByAny : Cond.code yX9_knownByAny cX9_knownByAny 6 (some .int) ∈ lw_good := List.mem_filter.mpr ⟨tm_5 (List.mem_of_getElem? (i := 22) rfl), rfl⟩
theorem in_X9_knownByAny : Cond.instanceMethod yX9_knownByAny ∈ lw_good := List.mem_filter.mpr ⟨tm_5 (List.mem_of_getElem? (i := 20) rfl), rfl⟩
theorem se_X9_knownByAny : Cond.selects RX9 yX9_knownByAny yX9_knownByAny ∈ lw_good := List.mem_filter.mpr ⟨tm_5 (List.mem_of_getElem? (i := 21) rfl), rfl⟩
theorem cd_X10_init : Cond.code yX10_init cX10_init 1 none ∈ lw_good := List.mem_filter.mpr ⟨tm_1 (List.mem_of_getElem? (i := 39) rfl), rfl⟩
theorem in_X10_init : Cond.instanceMethod yX10_init ∈ lw_good := List.mem_filter.mpr ⟨tm_1 (List.mem_of_getElem? (i := 38) rfl), rfl⟩
theorem cd_X10_put : Cond.code yX10_put cX10_put 3 none ∈ lw_good := List.mem_filter.mpr ⟨tm_2 (List.mem_of_getElem? (i := 199) rfl), rfl⟩
theorem in_X10_put : Cond.instanceMethod yX10_put ∈ lw_good := List.mem_filter.mpr ⟨tm_2 (List.mem_of_getElem? (i := 197) rfl), rfl⟩
theorem se_X10_put : Cond.selects RX10 yX10_put yX10_put ∈ lw_good := List.mem_filter.mpr ⟨tm_2 (List.mem_of_getElem? (i := 198) rfl), rfl⟩
theorem cd_X10_open : Cond.code yX10_open cX10_open 2 none ∈ lw_good := List.mem_filter.mpr ⟨tm_3 (List.mem_of_getElem? (i := 87) rfl), rfl⟩
theorem in_X10_open : Cond.instanceMethod yX10_open ∈ lw_good := List.mem_filter.mpr ⟨tm_3 (List.mem_of_getElem? (i := 85) rfl), rfl⟩
theorem se_X10_open : Cond.selects RX10 yX10_open yX10_open ∈ lw_good := List.mem_filter.mpr ⟨tm_3 (List.mem_of_getElem? (i := 86) rfl), rfl⟩
theorem cd_X10_faultAnswer : Cond.code yX10_faultAnswer cX10_faultAnswer 1 (some .int) ∈ lw_good := List.mem_filter.mpr ⟨tm_3 (List.mem_of_getElem? (i := 204) rfl), rfl⟩
theorem in_X10_faultAnswer : Cond.instanceMethod yX10_faultAnswer ∈ lw_good := List.mem_filter.mpr ⟨tm_3 (List.mem_of_getElem? (i := 202) rfl), rfl⟩
theorem se_X10_faultAnswer : Cond.selects RX10 yX10_faultAnswer yX10_faultAnswer ∈ lw_good := List.mem_filter.mpr ⟨tm_3 (List.mem_of_getElem? (i := 203) rfl), rfl⟩
theorem cd_X10_isAtEnd : Cond.code yX10_isAtEnd cX10_isAtEnd 1 (some .boolean) ∈ lw_good := List.mem_filter.mpr ⟨tm_3 (List.mem_of_getElem? (i := 99) rfl), rfl⟩
theorem in_X10_isAtEnd : Cond.instanceMethod yX10_isAtEnd ∈ lw_good := List.mem_filter.mpr ⟨tm_3 (List.mem_of_getElem? (i := 97) rfl), rfl⟩
theorem se_X10_isAtEnd : Cond.selects RX10 yX10_isAtEnd yX10_isAtEnd ∈ lw_good := List.mem_filter.mpr ⟨tm_3 (List.mem_of_getElem? (i := 98) rfl), rfl⟩
theorem cd_X10_isAt : Cond.code yX10_isAt cX10_isAt 2 (some .boolean) ∈ lw_good := List.mem_filter.mpr ⟨tm_3 (List.mem_of_getElem? (i := 200) rfl), rfl⟩
theorem in_X10_isAt : Cond.instanceMethod yX10_isAt ∈ lw_good := List.mem_filter.mpr ⟨tm_3 (List.mem_of_getElem? (i := 198) rfl), rfl⟩
theorem se_X10_isAt : Cond.selects RX10 yX10_isAt yX10_isAt ∈ lw_good := List.mem_filter.mpr ⟨tm_3 (List.mem_of_getElem? (i := 199) rfl), rfl⟩
theorem cd_X10_isAtDigit : Cond.code yX10_isAtDigit cX10_isAtDigit 1 (some .boolean) ∈ lw_good := List.mem_filter.mpr ⟨tm_3 (List.mem_of_getElem? (i := 182) rfl), rfl⟩
theorem in_X10_isAtDigit : Cond.instanceMethod yX10_isAtDigit ∈ lw_good := List.mem_filter.mpr ⟨tm_3 (List.mem_of_getElem? (i := 180) rfl), rfl⟩
theorem se_X10_isAtDigit : Cond.selects RX10 yX10_isAtDigit yX10_isAtDigit ∈ lw_good := List.mem_filter.mpr ⟨tm_3 (List.mem_of_getElem? (i := 181) rfl), rfl⟩
theorem cd_X10_sign : Cond.code yX10_sign cX10_sign 1 (some .int) ∈ lw_good := List.mem_filter.mpr ⟨tm_4 (List.mem_of_getElem? (i := 44) rfl), rfl⟩
theorem in_X10_sign : Cond.instanceMethod yX10_sign ∈ lw_good := List.mem_filter.mpr ⟨tm_4 (List.mem_of_getElem? (i := 42) rfl), rfl⟩
theorem se_X10_sign : Cond.selects RX10 yX10_sign yX10_sign ∈ lw_good := List.mem_filter.mpr ⟨tm_4 (List.mem_of_getElem? (i := 43) rfl), rfl⟩
theorem cd_X10_step : Cond.code yX10_step cX10_step 1 none ∈ lw_good := List.mem_filter.mpr ⟨tm_4 (List.mem_of_getElem? (i := 18) rfl), rfl⟩
theorem in_X10_step : Cond.instanceMethod yX10_step ∈ lw_good := List.mem_filter.mpr ⟨tm_4 (List.mem_of_getElem? (i := 16) rfl), rfl⟩
theorem se_X10_step : Cond.selects RX10 yX10_step yX10_step ∈ lw_good := List.mem_filter.mpr ⟨tm_4 (List.mem_of_getElem? (i := 17) rfl), rfl⟩
theorem cd_X10_needSign : Cond.code yX10_needSign cX10_needSign 2 (some .boolean) ∈ lw_good := List.mem_filter.mpr ⟨tm_3 (List.mem_of_getElem? (i := 196) rfl), rfl⟩
theorem in_X10_needSign : Cond.instanceMethod yX10_needSign ∈ lw_good := List.mem_filter.mpr ⟨tm_3 (List.mem_of_getElem? (i := 194) rfl), rfl⟩
theorem se_X10_needSign : Cond.selects RX10 yX10_needSign yX10_needSign ∈ lw_good := List.mem_filter.mpr ⟨tm_3 (List.mem_of_getElem? (i := 195) rfl), rfl⟩
theorem cd_X10_needNumber : Cond.code yX10_needNumber cX10_needNumber 6 (some .int) ∈ lw_good := List.mem_filter.mpr ⟨tm_3 (List.mem_of_getElem? (i := 178) rfl), rfl⟩
theorem in_X10_needNumber : Cond.instanceMethod yX10_needNumber ∈ lw_good := List.mem_filter.mpr ⟨tm_3 (List.mem_of_getElem? (i := 176) rfl), rfl⟩
theorem se_X10_needNumber : Cond.selects RX10 yX10_needNumber yX10_needNumber ∈ lw_good := List.mem_filter.mpr ⟨tm_3 (List.mem_of_getElem? (i := 177) rfl), rfl⟩
theorem cd_X10_takeWord : Cond.code yX10_takeWord cX10_takeWord 1 none ∈ lw_good := List.mem_filter.mpr ⟨tm_3 (List.mem_of_getElem? (i := 107) rfl), rfl⟩
theorem in_X10_takeWord : Cond.instanceMethod yX10_takeWord ∈ lw_good := List.mem_filter.mpr ⟨tm_3 (List.mem_of_getElem? (i := 105) rfl), rfl⟩
theorem se_X10_takeWord : Cond.selects RX10 yX10_takeWord yX10_takeWord ∈ lw_good := List.mem_filter.mpr ⟨tm_3 (List.mem_of_getElem? (i := 106) rfl), rfl⟩
theorem cd_X10_isWord : Cond.code yX10_isWord cX10_isWord 3 (some .boolean) ∈ lw_good := List.mem_filter.mpr ⟨tm_3 (List.mem_of_getElem? (i := 112) rfl), rfl⟩
theorem in_X10_isWord : Cond.instanceMethod yX10_isWord ∈ lw_good := List.mem_filter.mpr ⟨tm_3 (List.mem_of_getElem? (i := 110) rfl), rfl⟩
theorem se_X10_isWord : Cond.selects RX10 yX10_isWord yX10_isWord ∈ lw_good := List.mem_filter.mpr ⟨tm_3 (List.mem_of_getElem? (i := 111) rfl), rfl⟩
theorem cd_X10_failHere : Cond.code yX10_failHere cX10_failHere 2 (some .boolean) ∈ lw_good := List.mem_filter.mpr ⟨tm_4 (List.mem_of_getElem? (i := 14) rfl), rfl⟩
theorem in_X10_failHere : Cond.instanceMethod yX10_failHere ∈ lw_good := List.mem_filter.mpr ⟨tm_4 (List.mem_of_getElem? (i := 12) rfl), rfl⟩
theorem se_X10_failHere : Cond.selects RX10 yX10_failHere yX10_failHere ∈ lw_good := List.mem_filter.mpr ⟨tm_4 (List.mem_of_getElem? (i := 13) rfl), rfl⟩
theorem cd_X10_failWord : Cond.code yX10_failWord cX10_failWord 2 (some .boolean) ∈ lw_good := List.mem_filter.mpr ⟨tm_3 (List.mem_of_getElem? (i := 166) rfl), rfl⟩
theorem in_X10_failWord : Cond.instanceMethod yX10_failWord ∈ lw_good := List.mem_filter.mpr ⟨tm_3 (List.mem_of_getElem? (i := 164) rfl), rfl⟩
theorem se_X10_failWord : Cond.selects RX10 yX10_failWord yX10_failWord ∈ lw_good := List.mem_filter.mpr ⟨tm_3 (List.mem_of_getElem? (i := 165) rfl), rfl⟩
theorem cd_X10_fail : Cond.code yX10_fail cX10_fail 3 (some .boolean) ∈ lw_good := List.mem_filter.mpr ⟨tm_3 (List.mem_of_getElem? (i := 170) rfl), rfl⟩
theorem in_X10_fail : Cond.instanceMethod yX10_fail ∈ lw_good := List.mem_filter.mpr ⟨tm_3 (List.mem_of_getElem? (i := 168) rfl), rfl⟩
theorem se_X10_fail : Cond.selects RX10 yX10_fail yX10_fail ∈ lw_good := List.mem_filter.mpr ⟨tm_3 (List.mem_of_getElem? (i := 169) rfl), rfl⟩
theorem cd_X10_skipBlanks : Cond.code yX10_skipBlanks cX10_skipBlanks 1 none ∈ lw_good := List.mem_filter.mpr ⟨tm_3 (List.mem_of_getElem? (i := 91) rfl), rfl⟩
theorem in_X10_skipBlanks : Cond.instanceMethod yX10_skipBlanks ∈ lw_good := List.mem_filter.mpr ⟨tm_3 (List.mem_of_getElem? (i := 90) rfl), rfl⟩
theorem se_X10_skipBlanks : Cond.selects RX10 yX10_skipBlanks yX10_skipBlanks ∈ lw_good := List.mem_filter.mpr ⟨tp_1 (List.mem_of_getElem? (i := 4) rfl), rfl⟩
theorem cd_X11_init : Cond.code yX11_init cX11_init 1 none ∈ lw_good := List.mem_filter.mpr ⟨tm_1 (List.mem_of_getElem? (i := 31) rfl), rfl⟩
theorem in_X11_init : Cond.instanceMethod yX11_init ∈ lw_good := List.mem_filter.mpr ⟨tm_1 (List.mem_of_getElem? (i := 30) rfl), rfl⟩
theorem cd_X11_feed : Cond.code yX11_feed cX11_feed 6 (some .int) ∈ lw_good := List.mem_filter.mpr ⟨tm_2 (List.mem_of_getElem? (i := 195) rfl), rfl⟩
theorem in_X11_feed : Cond.instanceMethod yX11_feed ∈ lw_good := List.mem_filter.mpr ⟨tm_2 (List.mem_of_getElem? (i := 193) rfl), rfl⟩
theorem se_X11_feed : Cond.selects RX11 yX11_feed yX11_feed ∈ lw_good := List.mem_filter.mpr ⟨tm_2 (List.mem_of_getElem? (i := 194) rfl), rfl⟩
theorem cd_X11_court : Cond.code yX11_court cX11_court 2 (some .int) ∈ lw_good := List.mem_filter.mpr ⟨tm_3 (List.mem_of_getElem? (i := 6) rfl), rfl⟩
theorem in_X11_court : Cond.instanceMethod yX11_court ∈ lw_good := List.mem_filter.mpr ⟨tm_3 (List.mem_of_getElem? (i := 4) rfl), rfl⟩
theorem se_X11_court : Cond.selects RX11 yX11_court yX11_court ∈ lw_good := List.mem_filter.mpr ⟨tm_3 (List.mem_of_getElem? (i := 5) rfl), rfl⟩
theorem cd_X11_law : Cond.code yX11_law cX11_law 2 (some .int) ∈ lw_good := List.mem_filter.mpr ⟨tm_3 (List.mem_of_getElem? (i := 227) rfl), rfl⟩
theorem in_X11_law : Cond.instanceMethod yX11_law ∈ lw_good := List.mem_filter.mpr ⟨tm_3 (List.mem_of_getElem? (i := 225) rfl), rfl⟩
theorem se_X11_law : Cond.selects RX11 yX11_law yX11_law ∈ lw_good := List.mem_filter.mpr ⟨tm_3 (List.mem_of_getElem? (i := 226) rfl), rfl⟩
theorem cd_X11_work : Cond.code yX11_work cX11_work 3 (some .int) ∈ lw_good := List.mem_filter.mpr ⟨tm_4 (List.mem_of_getElem? (i := 57) rfl), rfl⟩
theorem in_X11_work : Cond.instanceMethod yX11_work ∈ lw_good := List.mem_filter.mpr ⟨tm_4 (List.mem_of_getElem? (i := 55) rfl), rfl⟩
theorem se_X11_work : Cond.selects RX11 yX11_work yX11_work ∈ lw_good := List.mem_filter.mpr ⟨tm_4 (List.mem_of_getElem? (i := 56) rfl), rfl⟩
theorem cd_X11_book : Cond.code yX11_book cX11_book 2 (some .int) ∈ lw_good := List.mem_filter.mpr ⟨tm_4 (List.mem_of_getElem? (i := 218) rfl), rfl⟩
theorem in_X11_book : Cond.instanceMethod yX11_book ∈ lw_good := List.mem_filter.mpr ⟨tm_4 (List.mem_of_getElem? (i := 216) rfl), rfl⟩
theorem se_X11_book : Cond.selects RX11 yX11_book yX11_book ∈ lw_good := List.mem_filter.mpr ⟨tm_4 (List.mem_of_getElem? (i := 217) rfl), rfl⟩
theorem cd_X11_fault : Cond.code yX11_fault cX11_fault 1 (some .int) ∈ lw_good := List.mem_filter.mpr ⟨tm_2 (List.mem_of_getElem? (i := 203) rfl), rfl⟩
theorem in_X11_fault : Cond.instanceMethod yX11_fault ∈ lw_good := List.mem_filter.mpr ⟨tm_2 (List.mem_of_getElem? (i := 201) rfl), rfl⟩
theorem se_X11_fault : Cond.selects RX11 yX11_fault yX11_fault ∈ lw_good := List.mem_filter.mpr ⟨tm_2 (List.mem_of_getElem? (i := 202) rfl), rfl⟩
theorem cd_X11_undo : Cond.code yX11_undo cX11_undo 1 (some .int) ∈ lw_good := List.mem_filter.mpr ⟨tm_2 (List.mem_of_getElem? (i := 207) rfl), rfl⟩
theorem in_X11_undo : Cond.instanceMethod yX11_undo ∈ lw_good := List.mem_filter.mpr ⟨tm_2 (List.mem_of_getElem? (i := 205) rfl), rfl⟩
theorem se_X11_undo : Cond.selects RX11 yX11_undo yX11_undo ∈ lw_good := List.mem_filter.mpr ⟨tm_2 (List.mem_of_getElem? (i := 206) rfl), rfl⟩
theorem cd_X11_told : Cond.code yX11_told cX11_told 2 (some .int) ∈ lw_good := List.mem_filter.mpr ⟨tm_5 (List.mem_of_getElem? (i := 6) rfl), rfl⟩
theorem in_X11_told : Cond.instanceMethod yX11_told ∈ lw_good := List.mem_filter.mpr ⟨tm_5 (List.mem_of_getElem? (i := 4) rfl), rfl⟩
theorem se_X11_told : Cond.selects RX11 yX11_told yX11_told ∈ lw_good := List.mem_filter.mpr ⟨tm_5 (List.mem_of_getElem? (i := 5) rfl), rfl⟩
theorem cd_X11_back : Cond.code yX11_back cX11_back 3 (some .int) ∈ lw_good := List.mem_filter.mpr ⟨tm_5 (List.mem_of_getElem? (i := 38) rfl), rfl⟩
theorem in_X11_back : Cond.instanceMethod yX11_back ∈ lw_good := List.mem_filter.mpr ⟨tm_5 (List.mem_of_getElem? (i := 36) rfl), rfl⟩
theorem se_X11_back : Cond.selects RX11 yX11_back yX11_back ∈ lw_good := List.mem_filter.mpr ⟨tm_5 (List.mem_of_getElem? (i := 37) rfl), rfl⟩
theorem cd_X11_council : Cond.code yX11_council cX11_council 3 (some .int) ∈ lw_good := List.mem_filter.mpr ⟨tm_5 (List.mem_of_getElem? (i := 66) rfl), rfl⟩
theorem in_X11_council : Cond.instanceMethod yX11_council ∈ lw_good := List.mem_filter.mpr ⟨tm_5 (List.mem_of_getElem? (i := 64) rfl), rfl⟩
theorem se_X11_council : Cond.selects RX11 yX11_council yX11_council ∈ lw_good := List.mem_filter.mpr ⟨tm_5 (List.mem_of_getElem? (i := 65) rfl), rfl⟩
theorem cd_X11_hearing : Cond.code yX11_hearing cX11_hearing 3 (some .int) ∈ lw_good := List.mem_filter.mpr ⟨tm_5 (List.mem_of_getElem? (i := 82) rfl), rfl⟩
theorem in_X11_hearing : Cond.instanceMethod yX11_hearing ∈ lw_good := List.mem_filter.mpr ⟨tm_5 (List.mem_of_getElem? (i := 80) rfl), rfl⟩
theorem se_X11_hearing : Cond.selects RX11 yX11_hearing yX11_hearing ∈ lw_good := List.mem_filter.mpr ⟨tm_5 (List.mem_of_getElem? (i := 81) rfl), rfl⟩
theorem cd_X11_load : Cond.code yX11_load cX11_load 3 (some .int) ∈ lw_good := List.mem_filter.mpr ⟨tm_5 (List.mem_of_getElem? (i := 90) rfl), rfl⟩
theorem in_X11_load : Cond.instanceMethod yX11_load ∈ lw_good := List.mem_filter.mpr ⟨tm_5 (List.mem_of_getElem? (i := 88) rfl), rfl⟩
theorem se_X11_load : Cond.selects RX11 yX11_load yX11_load ∈ lw_good := List.mem_filter.mpr ⟨tm_5 (List.mem_of_getElem? (i := 89) rfl), rfl⟩
theorem cd_X11_burden : Cond.code yX11_burden cX11_burden 3 (some .int) ∈ lw_good := List.mem_filter.mpr ⟨tm_5 (List.mem_of_getElem? (i := 98) rfl), rfl⟩
theorem in_X11_burden : Cond.instanceMethod yX11_burden ∈ lw_good := List.mem_filter.mpr ⟨tm_5 (List.mem_of_getElem? (i := 96) rfl), rfl⟩
theorem se_X11_burden : Cond.selects RX11 yX11_burden yX11_burden ∈ lw_good := List.mem_filter.mpr ⟨tm_5 (List.mem_of_getElem? (i := 97) rfl), rfl⟩
theorem cd_X11_would : Cond.code yX11_would cX11_would 10 (some .int) ∈ lw_good := List.mem_filter.mpr ⟨tm_5 (List.mem_of_getElem? (i := 106) rfl), rfl⟩
theorem in_X11_would : Cond.instanceMethod yX11_would ∈ lw_good := List.mem_filter.mpr ⟨tm_5 (List.mem_of_getElem? (i := 104) rfl), rfl⟩
theorem se_X11_would : Cond.selects RX11 yX11_would yX11_would ∈ lw_good := List.mem_filter.mpr ⟨tm_5 (List.mem_of_getElem? (i := 105) rfl), rfl⟩
theorem cd_X11_ahead : Cond.code yX11_ahead cX11_ahead 7 (some .int) ∈ lw_good := List.mem_filter.mpr ⟨tm_5 (List.mem_of_getElem? (i := 117) rfl), rfl⟩
theorem in_X11_ahead : Cond.instanceMethod yX11_ahead ∈ lw_good := List.mem_filter.mpr ⟨tm_5 (List.mem_of_getElem? (i := 115) rfl), rfl⟩
theorem se_X11_ahead : Cond.selects RX11 yX11_ahead yX11_ahead ∈ lw_good := List.mem_filter.mpr ⟨tm_5 (List.mem_of_getElem? (i := 116) rfl), rfl⟩
theorem cd_X11_could : Cond.code yX11_could cX11_could 4 (some .int) ∈ lw_good := List.mem_filter.mpr ⟨tm_5 (List.mem_of_getElem? (i := 125) rfl), rfl⟩
theorem in_X11_could : Cond.instanceMethod yX11_could ∈ lw_good := List.mem_filter.mpr ⟨tm_5 (List.mem_of_getElem? (i := 123) rfl), rfl⟩
theorem se_X11_could : Cond.selects RX11 yX11_could yX11_could ∈ lw_good := List.mem_filter.mpr ⟨tm_5 (List.mem_of_getElem? (i := 124) rfl), rfl⟩
theorem cd_X11_roster : Cond.code yX11_roster cX11_roster 2 (some .int) ∈ lw_good := List.mem_filter.mpr ⟨tm_5 (List.mem_of_getElem? (i := 136) rfl), rfl⟩
theorem in_X11_roster : Cond.instanceMethod yX11_roster ∈ lw_good := List.mem_filter.mpr ⟨tm_5 (List.mem_of_getElem? (i := 134) rfl), rfl⟩
theorem se_X11_roster : Cond.selects RX11 yX11_roster yX11_roster ∈ lw_good := List.mem_filter.mpr ⟨tm_5 (List.mem_of_getElem? (i := 135) rfl), rfl⟩
theorem cd_X11_gives : Cond.code yX11_gives cX11_gives 3 (some .int) ∈ lw_good := List.mem_filter.mpr ⟨tm_5 (List.mem_of_getElem? (i := 169) rfl), rfl⟩
theorem in_X11_gives : Cond.instanceMethod yX11_gives ∈ lw_good := List.mem_filter.mpr ⟨tm_5 (List.mem_of_getElem? (i := 167) rfl), rfl⟩
theorem se_X11_gives : Cond.selects RX11 yX11_gives yX11_gives ∈ lw_good := List.mem_filter.mpr ⟨tm_5 (List.mem_of_getElem? (i := 168) rfl), rfl⟩
theorem cd_X11_word : Cond.code yX11_word cX11_word 4 (some .int) ∈ lw_good := List.mem_filter.mpr ⟨tm_5 (List.mem_of_getElem? (i := 180) rfl), rfl⟩
theorem in_X11_word : Cond.instanceMethod yX11_word ∈ lw_good := List.mem_filter.mpr ⟨tm_5 (List.mem_of_getElem? (i := 178) rfl), rfl⟩
theorem se_X11_word : Cond.selects RX11 yX11_word yX11_word ∈ lw_good := List.mem_filter.mpr ⟨tm_5 (List.mem_of_getElem? (i := 179) rfl), rfl⟩
theorem cd_X11_ease : Cond.code yX11_ease cX11_ease 5 (some .int) ∈ lw_good := List.mem_filter.mpr ⟨tm_5 (List.mem_of_getElem? (i := 191) rfl), rfl⟩
theorem in_X11_ease : Cond.instanceMethod yX11_ease ∈ lw_good := List.mem_filter.mpr ⟨tm_5 (List.mem_of_getElem? (i := 189) rfl), rfl⟩
theorem se_X11_ease : Cond.selects RX11 yX11_ease yX11_ease ∈ lw_good := List.mem_filter.mpr ⟨tm_5 (List.mem_of_getElem? (i := 190) rfl), rfl⟩
theorem cd_X11_fits : Cond.code yX11_fits cX11_fits 2 (some .int) ∈ lw_good := List.mem_filter.mpr ⟨tm_5 (List.mem_of_getElem? (i := 203) rfl), rfl⟩
theorem in_X11_fits : Cond.instanceMethod yX11_fits ∈ lw_good := List.mem_filter.mpr ⟨tm_5 (List.mem_of_getElem? (i := 201) rfl), rfl⟩
theorem se_X11_fits : Cond.selects RX11 yX11_fits yX11_fits ∈ lw_good := List.mem_filter.mpr ⟨tm_5 (List.mem_of_getElem? (i := 202) rfl), rfl⟩
theorem cd_X11_look : Cond.code yX11_look cX11_look 2 (some .int) ∈ lw_good := List.mem_filter.mpr ⟨tm_5 (List.mem_of_getElem? (i := 225) rfl), rfl⟩
theorem in_X11_look : Cond.instanceMethod yX11_look ∈ lw_good := List.mem_filter.mpr ⟨tm_5 (List.mem_of_getElem? (i := 223) rfl), rfl⟩
theorem se_X11_look : Cond.selects RX11 yX11_look yX11_look ∈ lw_good := List.mem_filter.mpr ⟨tm_5 (List.mem_of_getElem? (i := 224) rfl), rfl⟩
theorem cd_X11_quorum : Cond.code yX11_quorum cX11_quorum 6 (some .int) ∈ lw_good := List.mem_filter.mpr ⟨tm_6 (List.mem_of_getElem? (i := 3) rfl), rfl⟩
theorem in_X11_quorum : Cond.instanceMethod yX11_quorum ∈ lw_good := List.mem_filter.mpr ⟨tm_6 (List.mem_of_getElem? (i := 1) rfl), rfl⟩
theorem se_X11_quorum : Cond.selects RX11 yX11_quorum yX11_quorum ∈ lw_good := List.mem_filter.mpr ⟨tm_6 (List.mem_of_getElem? (i := 2) rfl), rfl⟩
theorem cd_X11_lies : Cond.code yX11_lies cX11_lies 9 (some .long) ∈ lw_good := List.mem_filter.mpr ⟨tm_6 (List.mem_of_getElem? (i := 18) rfl), rfl⟩
theorem in_X11_lies : Cond.instanceMethod yX11_lies ∈ lw_good := List.mem_filter.mpr ⟨tm_6 (List.mem_of_getElem? (i := 16) rfl), rfl⟩
theorem se_X11_lies : Cond.selects RX11 yX11_lies yX11_lies ∈ lw_good := List.mem_filter.mpr ⟨tm_6 (List.mem_of_getElem? (i := 17) rfl), rfl⟩
theorem cd_X11_kneel : Cond.code yX11_kneel cX11_kneel 9 (some .int) ∈ lw_good := List.mem_filter.mpr ⟨tm_6 (List.mem_of_getElem? (i := 32) rfl), rfl⟩
theorem in_X11_kneel : Cond.instanceMethod yX11_kneel ∈ lw_good := List.mem_filter.mpr ⟨tm_6 (List.mem_of_getElem? (i := 30) rfl), rfl⟩
theorem se_X11_kneel : Cond.selects RX11 yX11_kneel yX11_kneel ∈ lw_good := List.mem_filter.mpr ⟨tm_6 (List.mem_of_getElem? (i := 31) rfl), rfl⟩
theorem cd_X11_balm : Cond.code yX11_balm cX11_balm 5 (some .int) ∈ lw_good := List.mem_filter.mpr ⟨tm_6 (List.mem_of_getElem? (i := 45) rfl), rfl⟩
theorem in_X11_balm : Cond.instanceMethod yX11_balm ∈ lw_good := List.mem_filter.mpr ⟨tm_6 (List.mem_of_getElem? (i := 43) rfl), rfl⟩
theorem se_X11_balm : Cond.selects RX11 yX11_balm yX11_balm ∈ lw_good := List.mem_filter.mpr ⟨tm_6 (List.mem_of_getElem? (i := 44) rfl), rfl⟩
theorem cd_X11_weariest : Cond.code yX11_weariest cX11_weariest 5 (some .int) ∈ lw_good := List.mem_filter.mpr ⟨tm_6 (List.mem_of_getElem? (i := 56) rfl), rfl⟩
theorem in_X11_weariest : Cond.instanceMethod yX11_weariest ∈ lw_good := List.mem_filter.mpr ⟨tm_6 (List.mem_of_getElem? (i := 54) rfl), rfl⟩
theorem se_X11_weariest : Cond.selects RX11 yX11_weariest yX11_weariest ∈ lw_good := List.mem_filter.mpr ⟨tm_6 (List.mem_of_getElem? (i := 55) rfl), rfl⟩
theorem cd_X11_heaviest : Cond.code yX11_heaviest cX11_heaviest 7 (some .int) ∈ lw_good := List.mem_filter.mpr ⟨tm_6 (List.mem_of_getElem? (i := 63) rfl), rfl⟩
theorem in_X11_heaviest : Cond.instanceMethod yX11_heaviest ∈ lw_good := List.mem_filter.mpr ⟨tm_6 (List.mem_of_getElem? (i := 61) rfl), rfl⟩
theorem se_X11_heaviest : Cond.selects RX11 yX11_heaviest yX11_heaviest ∈ lw_good := List.mem_filter.mpr ⟨tm_6 (List.mem_of_getElem? (i := 62) rfl), rfl⟩
theorem cd_X11_listeners : Cond.code yX11_listeners cX11_listeners 4 (some .int) ∈ lw_good := List.mem_filter.mpr ⟨tm_6 (List.mem_of_getElem? (i := 70) rfl), rfl⟩
theorem in_X11_listeners : Cond.instanceMethod yX11_listeners ∈ lw_good := List.mem_filter.mpr ⟨tm_6 (List.mem_of_getElem? (i := 68) rfl), rfl⟩
theorem se_X11_listeners : Cond.selects RX11 yX11_listeners yX11_listeners ∈ lw_good := List.mem_filter.mpr ⟨tm_6 (List.mem_of_getElem? (i := 69) rfl), rfl⟩
theorem cd_X11_ready : Cond.code yX11_ready cX11_ready 4 (some .int) ∈ lw_good := List.mem_filter.mpr ⟨tm_6 (List.mem_of_getElem? (i := 78) rfl), rfl⟩
theorem in_X11_ready : Cond.instanceMethod yX11_ready ∈ lw_good := List.mem_filter.mpr ⟨tm_6 (List.mem_of_getElem? (i := 76) rfl), rfl⟩
theorem se_X11_ready : Cond.selects RX11 yX11_ready yX11_ready ∈ lw_good := List.mem_filter.mpr ⟨tm_6 (List.mem_of_getElem? (i := 77) rfl), rfl⟩
theorem cd_X11_sure : Cond.code yX11_sure cX11_sure 5 (some .int) ∈ lw_good := List.mem_filter.mpr ⟨tm_6 (List.mem_of_getElem? (i := 85) rfl), rfl⟩
theorem in_X11_sure : Cond.instanceMethod yX11_sure ∈ lw_good := List.mem_filter.mpr ⟨tm_6 (List.mem_of_getElem? (i := 83) rfl), rfl⟩
theorem se_X11_sure : Cond.selects RX11 yX11_sure yX11_sure ∈ lw_good := List.mem_filter.mpr ⟨tm_6 (List.mem_of_getElem? (i := 84) rfl), rfl⟩
theorem cd_X11_bearers : Cond.code yX11_bearers cX11_bearers 4 (some .int) ∈ lw_good := List.mem_filter.mpr ⟨tm_6 (List.mem_of_getElem? (i := 92) rfl), rfl⟩
theorem in_X11_bearers : Cond.instanceMethod yX11_bearers ∈ lw_good := List.mem_filter.mpr ⟨tm_6 (List.mem_of_getElem? (i := 90) rfl), rfl⟩
theorem se_X11_bearers : Cond.selects RX11 yX11_bearers yX11_bearers ∈ lw_good := List.mem_filter.mpr ⟨tm_6 (List.mem_of_getElem? (i := 91) rfl), rfl⟩
theorem cd_X11_rumour : Cond.code yX11_rumour cX11_rumour 7 (some .int) ∈ lw_good := List.mem_filter.mpr ⟨tm_6 (List.mem_of_getElem? (i := 99) rfl), rfl⟩
theorem in_X11_rumour : Cond.instanceMethod yX11_rumour ∈ lw_good := List.mem_filter.mpr ⟨tm_6 (List.mem_of_getElem? (i := 97) rfl), rfl⟩
theorem se_X11_rumour : Cond.selects RX11 yX11_rumour yX11_rumour ∈ lw_good := List.mem_filter.mpr ⟨tm_6 (List.mem_of_getElem? (i := 98) rfl), rfl⟩
theorem cd_X11_lied : Cond.code yX11_lied cX11_lied 6 (some .int) ∈ lw_good := List.mem_filter.mpr ⟨tm_6 (List.mem_of_getElem? (i := 106) rfl), rfl⟩
theorem in_X11_lied : Cond.instanceMethod yX11_lied ∈ lw_good := List.mem_filter.mpr ⟨tm_6 (List.mem_of_getElem? (i := 104) rfl), rfl⟩
theorem se_X11_lied : Cond.selects RX11 yX11_lied yX11_lied ∈ lw_good := List.mem_filter.mpr ⟨tm_6 (List.mem_of_getElem? (i := 105) rfl), rfl⟩
theorem cd_X11_reign : Cond.code yX11_reign cX11_reign 5 (some .int) ∈ lw_good := List.mem_filter.mpr ⟨tm_6 (List.mem_of_getElem? (i := 113) rfl), rfl⟩
theorem in_X11_reign : Cond.instanceMethod yX11_reign ∈ lw_good := List.mem_filter.mpr ⟨tm_6 (List.mem_of_getElem? (i := 111) rfl), rfl⟩
theorem se_X11_reign : Cond.selects RX11 yX11_reign yX11_reign ∈ lw_good := List.mem_filter.mpr ⟨tm_6 (List.mem_of_getElem? (i := 112) rfl), rfl⟩
theorem cd_X11_span : Cond.code yX11_span cX11_span 11 (some .int) ∈ lw_good := List.mem_filter.mpr ⟨tm_6 (List.mem_of_getElem? (i := 142) rfl), rfl⟩
theorem in_X11_span : Cond.instanceMethod yX11_span ∈ lw_good := List.mem_filter.mpr ⟨tm_6 (List.mem_of_getElem? (i := 140) rfl), rfl⟩
theorem se_X11_span : Cond.selects RX11 yX11_span yX11_span ∈ lw_good := List.mem_filter.mpr ⟨tm_6 (List.mem_of_getElem? (i := 141) rfl), rfl⟩
theorem cd_X11_image : Cond.code yX11_image cX11_image 1 (some .int) ∈ lw_good := List.mem_filter.mpr ⟨tm_2 (List.mem_of_getElem? (i := 222) rfl), rfl⟩
theorem in_X11_image : Cond.instanceMethod yX11_image ∈ lw_good := List.mem_filter.mpr ⟨tm_2 (List.mem_of_getElem? (i := 220) rfl), rfl⟩
theorem se_X11_image : Cond.selects RX11 yX11_image yX11_image ∈ lw_good := List.mem_filter.mpr ⟨tm_2 (List.mem_of_getElem? (i := 221) rfl), rfl⟩
theorem cd_X11_restore : Cond.code yX11_restore cX11_restore 1 (some .int) ∈ lw_good := List.mem_filter.mpr ⟨tm_2 (List.mem_of_getElem? (i := 230) rfl), rfl⟩
theorem in_X11_restore : Cond.instanceMethod yX11_restore ∈ lw_good := List.mem_filter.mpr ⟨tm_2 (List.mem_of_getElem? (i := 228) rfl), rfl⟩
theorem se_X11_restore : Cond.selects RX11 yX11_restore yX11_restore ∈ lw_good := List.mem_filter.mpr ⟨tm_2 (List.mem_of_getElem? (i := 229) rfl), rfl⟩
theorem cd_X11_status : Cond.code yX11_status cX11_status 2 (some .int) ∈ lw_good := List.mem_filter.mpr ⟨tm_2 (List.mem_of_getElem? (i := 234) rfl), rfl⟩
theorem in_X11_status : Cond.instanceMethod yX11_status ∈ lw_good := List.mem_filter.mpr ⟨tm_2 (List.mem_of_getElem? (i := 232) rfl), rfl⟩
theorem se_X11_status : Cond.selects RX11 yX11_status yX11_status ∈ lw_good := List.mem_filter.mpr ⟨tm_2 (List.mem_of_getElem? (i := 233) rfl), rfl⟩
theorem cd_X11_count : Cond.code yX11_count cX11_count 2 (some .int) ∈ lw_good := List.mem_filter.mpr ⟨tm_2 (List.mem_of_getElem? (i := 238) rfl), rfl⟩
theorem in_X11_count : Cond.instanceMethod yX11_count ∈ lw_good := List.mem_filter.mpr ⟨tm_2 (List.mem_of_getElem? (i := 236) rfl), rfl⟩
theorem se_X11_count : Cond.selects RX11 yX11_count yX11_count ∈ lw_good := List.mem_filter.mpr ⟨tm_2 (List.mem_of_getElem? (i := 237) rfl), rfl⟩
theorem cd_X11_needBack : Cond.code yX11_needBack cX11_needBack 2 none ∈ lw_good := List.mem_filter.mpr ⟨tm_5 (List.mem_of_getElem? (i := 42) rfl), rfl⟩
theorem in_X11_needBack : Cond.instanceMethod yX11_needBack ∈ lw_good := List.mem_filter.mpr ⟨tm_5 (List.mem_of_getElem? (i := 41) rfl), rfl⟩
theorem se_X11_needBack : Cond.selects RX11 yX11_needBack yX11_needBack ∈ lw_good := List.mem_filter.mpr ⟨tp_2 (List.mem_of_getElem? (i := 9) rfl), rfl⟩
theorem cd_X11_needCouncil : Cond.code yX11_needCouncil cX11_needCouncil 2 none ∈ lw_good := List.mem_filter.mpr ⟨tm_5 (List.mem_of_getElem? (i := 70) rfl), rfl⟩
theorem in_X11_needCouncil : Cond.instanceMethod yX11_needCouncil ∈ lw_good := List.mem_filter.mpr ⟨tm_5 (List.mem_of_getElem? (i := 69) rfl), rfl⟩
theorem se_X11_needCouncil : Cond.selects RX11 yX11_needCouncil yX11_needCouncil ∈ lw_good := List.mem_filter.mpr ⟨tp_2 (List.mem_of_getElem? (i := 10) rfl), rfl⟩
theorem cd_X11_needRange : Cond.code yX11_needRange cX11_needRange 4 none ∈ lw_good := List.mem_filter.mpr ⟨tm_3 (List.mem_of_getElem? (i := 17) rfl), rfl⟩
theorem in_X11_needRange : Cond.instanceMethod yX11_needRange ∈ lw_good := List.mem_filter.mpr ⟨tm_3 (List.mem_of_getElem? (i := 16) rfl), rfl⟩
theorem se_X11_needRange : Cond.selects RX11 yX11_needRange yX11_needRange ∈ lw_good := List.mem_filter.mpr ⟨tp_1 (List.mem_of_getElem? (i := 2) rfl), rfl⟩
theorem cd_X11_needWhat : Cond.code yX11_needWhat cX11_needWhat 3 none ∈ lw_good := List.mem_filter.mpr ⟨tm_5 (List.mem_of_getElem? (i := 10) rfl), rfl⟩
theorem in_X11_needWhat : Cond.instanceMethod yX11_needWhat ∈ lw_good := List.mem_filter.mpr ⟨tm_5 (List.mem_of_getElem? (i := 9) rfl), rfl⟩
theorem se_X11_needWhat : Cond.selects RX11 yX11_needWhat yX11_needWhat ∈ lw_good := List.mem_filter.mpr ⟨tp_2 (List.mem_of_getElem? (i := 8) rfl), rfl⟩
theorem cd_X11_needTextLength : Cond.code yX11_needTextLength cX11_needTextLength 3 none ∈ lw_good := List.mem_filter.mpr ⟨tm_3 (List.mem_of_getElem? (i := 10) rfl), rfl⟩
theorem in_X11_needTextLength : Cond.instanceMethod yX11_needTextLength ∈ lw_good := List.mem_filter.mpr ⟨tm_3 (List.mem_of_getElem? (i := 9) rfl), rfl⟩
theorem se_X11_needTextLength : Cond.selects RX11 yX11_needTextLength yX11_needTextLength ∈ lw_good := List.mem_filter.mpr ⟨tp_1 (List.mem_of_getElem? (i := 1) rfl), rfl⟩
theorem cd_X11_needBits : Cond.code yX11_needBits cX11_needBits 3 none ∈ lw_good := List.mem_filter.mpr ⟨tm_5 (List.mem_of_getElem? (i := 145) rfl), rfl⟩
theorem in_X11_needBits : Cond.instanceMethod yX11_needBits ∈ lw_good := List.mem_filter.mpr ⟨tm_5 (List.mem_of_getElem? (i := 144) rfl), rfl⟩
theorem se_X11_needBits : Cond.selects RX11 yX11_needBits yX11_needBits ∈ lw_good := List.mem_filter.mpr ⟨tp_2 (List.mem_of_getElem? (i := 13) rfl), rfl⟩
theorem cd_X11_needRosterBits : Cond.code yX11_needRosterBits cX11_needRosterBits 2 none ∈ lw_good := List.mem_filter.mpr ⟨tm_5 (List.mem_of_getElem? (i := 140) rfl), rfl⟩
theorem in_X11_needRosterBits : Cond.instanceMethod yX11_needRosterBits ∈ lw_good := List.mem_filter.mpr ⟨tm_5 (List.mem_of_getElem? (i := 139) rfl), rfl⟩
theorem se_X11_needRosterBits : Cond.selects RX11 yX11_needRosterBits yX11_needRosterBits ∈ lw_good := List.mem_filter.mpr ⟨tp_2 (List.mem_of_getElem? (i := 12) rfl), rfl⟩
theorem cd_X11_backsWithBit : Cond.code yX11_backsWithBit cX11_backsWithBit 5 (some .int) ∈ lw_good := List.mem_filter.mpr ⟨tm_5 (List.mem_of_getElem? (i := 75) rfl), rfl⟩
theorem in_X11_backsWithBit : Cond.instanceMethod yX11_backsWithBit ∈ lw_good := List.mem_filter.mpr ⟨tm_5 (List.mem_of_getElem? (i := 74) rfl), rfl⟩
theorem se_X11_backsWithBit : Cond.selects RX11 yX11_backsWithBit yX11_backsWithBit ∈ lw_good := List.mem_filter.mpr ⟨tp_2 (List.mem_of_getElem? (i := 11) rfl), rfl⟩
theorem cd_X11_isEasedTo : Cond.code yX11_isEasedTo cX11_isEasedTo 7 (some .boolean) ∈ lw_good := List.mem_filter.mpr ⟨tm_5 (List.mem_of_getElem? (i := 195) rfl), rfl⟩
theorem in_X11_isEasedTo : Cond.instanceMethod yX11_isEasedTo ∈ lw_good := List.mem_filter.mpr ⟨tm_5 (List.mem_of_getElem? (i := 194) rfl), rfl⟩
end Words
