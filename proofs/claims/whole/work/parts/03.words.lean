set_option maxRecDepth 100000 in
theorem m_0 : (Cond.selects R_Me y_Me_keep y_Me_keep) ∈ GW := gw_in (List.mem_of_getElem? (i := 0) (by decide +kernel)) rfl
set_option maxRecDepth 100000 in
theorem m_1 : (Cond.selects R_Ca y_Ca_dropAll y_Ca_dropAll) ∈ GW := gw_in (List.mem_of_getElem? (i := 1) (by decide +kernel)) rfl
set_option maxRecDepth 100000 in
theorem m_2 : (Cond.selects R_Re y_Re_put y_Re_put) ∈ GW := gw_in (List.mem_of_getElem? (i := 2) (by decide +kernel)) rfl
set_option maxRecDepth 100000 in
theorem m_3 : (Cond.selects R_Re y_Re_agreed y_Re_agreed) ∈ GW := gw_in (List.mem_of_getElem? (i := 3) (by decide +kernel)) rfl
set_option maxRecDepth 100000 in
theorem m_4 : (Cond.selects R_Me y_Me_inspect y_Me_inspect) ∈ GW := gw_in (List.mem_of_getElem? (i := 4) (by decide +kernel)) rfl
set_option maxRecDepth 100000 in
theorem m_5 : (Cond.selects R_V y_V_invert y_V_invert) ∈ GW := gw_in (List.mem_of_getElem? (i := 5) (by decide +kernel)) rfl
set_option maxRecDepth 100000 in
theorem m_6 : (Cond.selects R_Fa y_Fa_append y_Fa_append) ∈ GW := gw_in (List.mem_of_getElem? (i := 6) (by decide +kernel)) rfl
set_option maxRecDepth 100000 in
theorem m_7 : (Cond.selects R_V y_V_makePlannedFaults y_V_makePlannedFaults) ∈ GW := gw_in (List.mem_of_getElem? (i := 7) (by decide +kernel)) rfl
set_option maxRecDepth 100000 in
theorem m_8 : (Cond.selects R_Fa y_Fa_move y_Fa_move) ∈ GW := gw_in (List.mem_of_getElem? (i := 8) (by decide +kernel)) rfl
set_option maxRecDepth 100000 in
theorem m_9 : (Cond.selects R_Re y_Re_vote y_Re_vote) ∈ GW := gw_in (List.mem_of_getElem? (i := 9) (by decide +kernel)) rfl
set_option maxRecDepth 100000 in
theorem m_10 : (Cond.selects R_V y_V_doInstruction y_V_doInstruction) ∈ GW := gw_in (List.mem_of_getElem? (i := 10) (by decide +kernel)) rfl
set_option maxRecDepth 100000 in
theorem m_11 : (Cond.selects R_V y_V_stop y_V_stop) ∈ GW := gw_in (List.mem_of_getElem? (i := 11) (by decide +kernel)) rfl
set_option maxRecDepth 100000 in
theorem m_12 : (Cond.selects R_V y_V_fetch y_V_fetch) ∈ GW := gw_in (List.mem_of_getElem? (i := 12) (by decide +kernel)) rfl
set_option maxRecDepth 100000 in
theorem m_13 : (Cond.selects R_Ca y_Ca_dropIfWrong y_Ca_dropIfWrong) ∈ GW := gw_in (List.mem_of_getElem? (i := 13) (by decide +kernel)) rfl
set_option maxRecDepth 100000 in
theorem m_14 : (Cond.selects R_Ca y_Ca_holds y_Ca_holds) ∈ GW := gw_in (List.mem_of_getElem? (i := 14) (by decide +kernel)) rfl
set_option maxRecDepth 100000 in
theorem m_15 : (Cond.selects R_Ca y_Ca_held y_Ca_held) ∈ GW := gw_in (List.mem_of_getElem? (i := 15) (by decide +kernel)) rfl
set_option maxRecDepth 100000 in
theorem m_16 : (Cond.selects R_Me y_Me_mend y_Me_mend) ∈ GW := gw_in (List.mem_of_getElem? (i := 16) (by decide +kernel)) rfl
set_option maxRecDepth 100000 in
theorem m_17 : (Cond.selects R_Ca y_Ca_fill y_Ca_fill) ∈ GW := gw_in (List.mem_of_getElem? (i := 17) (by decide +kernel)) rfl
set_option maxRecDepth 100000 in
theorem m_18 : (Cond.selects R_V y_V_finish y_V_finish) ∈ GW := gw_in (List.mem_of_getElem? (i := 18) (by decide +kernel)) rfl
set_option maxRecDepth 100000 in
theorem m_19 : (Cond.selects R_Re y_Re_putResult y_Re_putResult) ∈ GW := gw_in (List.mem_of_getElem? (i := 19) (by decide +kernel)) rfl
set_option maxRecDepth 100000 in
theorem m_20 : (Cond.selects R_V y_V_goOn y_V_goOn) ∈ GW := gw_in (List.mem_of_getElem? (i := 20) (by decide +kernel)) rfl
set_option maxRecDepth 100000 in
theorem m_21 : (Cond.selects R_V y_V_jump y_V_jump) ∈ GW := gw_in (List.mem_of_getElem? (i := 21) (by decide +kernel)) rfl
set_option maxRecDepth 100000 in
theorem m_22 : (Cond.selects R_V y_V_jumpByRegister y_V_jumpByRegister) ∈ GW := gw_in (List.mem_of_getElem? (i := 22) (by decide +kernel)) rfl
set_option maxRecDepth 100000 in
theorem m_23 : (Cond.selects R_Re y_Re_operand y_Re_operand) ∈ GW := gw_in (List.mem_of_getElem? (i := 23) (by decide +kernel)) rfl
set_option maxRecDepth 100000 in
theorem m_24 : (Cond.selects R_V y_V_branch y_V_branch) ∈ GW := gw_in (List.mem_of_getElem? (i := 24) (by decide +kernel)) rfl
set_option maxRecDepth 100000 in
theorem m_25 : (Cond.selects R_V y_V_load y_V_load) ∈ GW := gw_in (List.mem_of_getElem? (i := 25) (by decide +kernel)) rfl
set_option maxRecDepth 100000 in
theorem m_26 : (Cond.selects R_V y_V_store y_V_store) ∈ GW := gw_in (List.mem_of_getElem? (i := 26) (by decide +kernel)) rfl
set_option maxRecDepth 100000 in
theorem m_27 : (Cond.selects R_V y_V_save y_V_save) ∈ GW := gw_in (List.mem_of_getElem? (i := 27) (by decide +kernel)) rfl
set_option maxRecDepth 100000 in
theorem m_28 : (Cond.selects R_Ca y_Ca_drop y_Ca_drop) ∈ GW := gw_in (List.mem_of_getElem? (i := 28) (by decide +kernel)) rfl
set_option maxRecDepth 100000 in
theorem m_29 : (Cond.selects R_V y_V_computeWithNumber y_V_computeWithNumber) ∈ GW := gw_in (List.mem_of_getElem? (i := 29) (by decide +kernel)) rfl
set_option maxRecDepth 100000 in
theorem m_30 : (Cond.selects R_V y_V_computeWithRegister y_V_computeWithRegister) ∈ GW := gw_in (List.mem_of_getElem? (i := 30) (by decide +kernel)) rfl
set_option maxRecDepth 100000 in
theorem m_31 : (Cond.selects R_V y_V_doNothing y_V_doNothing) ∈ GW := gw_in (List.mem_of_getElem? (i := 31) (by decide +kernel)) rfl
set_option maxRecDepth 100000 in
theorem m_32 : (Cond.selects R_V y_V_callOrBreak y_V_callOrBreak) ∈ GW := gw_in (List.mem_of_getElem? (i := 32) (by decide +kernel)) rfl
set_option maxRecDepth 100000 in
theorem m_33 : (Cond.selects R_V y_V_scrub y_V_scrub) ∈ GW := gw_in (List.mem_of_getElem? (i := 33) (by decide +kernel)) rfl
set_option maxRecDepth 100000 in
theorem m_34 : (Cond.selects R_Mo y_Mo_makeFaults y_Mo_makeFaults) ∈ GW := gw_in (List.mem_of_getElem? (i := 34) (by decide +kernel)) rfl
set_option maxRecDepth 100000 in
theorem m_35 : (Cond.selects R_Mo y_Mo_change y_Mo_change) ∈ GW := gw_in (List.mem_of_getElem? (i := 35) (by decide +kernel)) rfl
set_option maxRecDepth 100000 in
theorem m_36 : (Cond.selects R_Mo y_Mo_vote y_Mo_vote) ∈ GW := gw_in (List.mem_of_getElem? (i := 36) (by decide +kernel)) rfl
set_option maxRecDepth 100000 in
theorem m_37 : (Cond.selects R_Mo y_Mo_valueOf y_Mo_valueOf) ∈ GW := gw_in (List.mem_of_getElem? (i := 37) (by decide +kernel)) rfl
set_option maxRecDepth 100000 in
theorem m_38 : (Cond.selects R_Mo y_Mo_put y_Mo_put) ∈ GW := gw_in (List.mem_of_getElem? (i := 38) (by decide +kernel)) rfl
set_option maxRecDepth 100000 in
theorem m_39 : (Cond.selects R_Mo y_Mo_instruct y_Mo_instruct) ∈ GW := gw_in (List.mem_of_getElem? (i := 39) (by decide +kernel)) rfl
set_option maxRecDepth 100000 in
theorem m_40 : (Cond.selects R_Mo y_Mo_stop y_Mo_stop) ∈ GW := gw_in (List.mem_of_getElem? (i := 40) (by decide +kernel)) rfl
set_option maxRecDepth 100000 in
theorem m_41 : (Cond.selects R_Mo y_Mo_fetch y_Mo_fetch) ∈ GW := gw_in (List.mem_of_getElem? (i := 41) (by decide +kernel)) rfl
set_option maxRecDepth 100000 in
theorem m_42 : (Cond.selects R_Mo y_Mo_holds y_Mo_holds) ∈ GW := gw_in (List.mem_of_getElem? (i := 42) (by decide +kernel)) rfl
set_option maxRecDepth 100000 in
theorem m_43 : (Cond.selects R_Mo y_Mo_mend y_Mo_mend) ∈ GW := gw_in (List.mem_of_getElem? (i := 43) (by decide +kernel)) rfl
set_option maxRecDepth 100000 in
theorem m_44 : (Cond.selects R_Mo y_Mo_execute y_Mo_execute) ∈ GW := gw_in (List.mem_of_getElem? (i := 44) (by decide +kernel)) rfl
set_option maxRecDepth 100000 in
theorem m_45 : (Cond.selects R_Mo y_Mo_field y_Mo_field) ∈ GW := gw_in (List.mem_of_getElem? (i := 45) (by decide +kernel)) rfl
set_option maxRecDepth 100000 in
theorem m_46 : (Cond.selects R_Mo y_Mo_operand y_Mo_operand) ∈ GW := gw_in (List.mem_of_getElem? (i := 46) (by decide +kernel)) rfl
set_option maxRecDepth 100000 in
theorem m_47 : (Cond.selects R_Mo y_Mo_give y_Mo_give) ∈ GW := gw_in (List.mem_of_getElem? (i := 47) (by decide +kernel)) rfl
set_option maxRecDepth 100000 in
theorem m_48 : (Cond.selects R_Mo y_Mo_numberL y_Mo_numberL) ∈ GW := gw_in (List.mem_of_getElem? (i := 48) (by decide +kernel)) rfl
set_option maxRecDepth 100000 in
theorem m_49 : (Cond.selects R_Mo y_Mo_go y_Mo_go) ∈ GW := gw_in (List.mem_of_getElem? (i := 49) (by decide +kernel)) rfl
set_option maxRecDepth 100000 in
theorem m_50 : (Cond.selects R_Mo y_Mo_jump y_Mo_jump) ∈ GW := gw_in (List.mem_of_getElem? (i := 50) (by decide +kernel)) rfl
set_option maxRecDepth 100000 in
theorem m_51 : (Cond.selects R_Mo y_Mo_illegal y_Mo_illegal) ∈ GW := gw_in (List.mem_of_getElem? (i := 51) (by decide +kernel)) rfl
set_option maxRecDepth 100000 in
theorem m_52 : (Cond.selects R_Mo y_Mo_branch y_Mo_branch) ∈ GW := gw_in (List.mem_of_getElem? (i := 52) (by decide +kernel)) rfl
set_option maxRecDepth 100000 in
theorem m_53 : (Cond.selects R_Mo y_Mo_numberK y_Mo_numberK) ∈ GW := gw_in (List.mem_of_getElem? (i := 53) (by decide +kernel)) rfl
set_option maxRecDepth 100000 in
theorem m_54 : (Cond.selects R_Mo y_Mo_load y_Mo_load) ∈ GW := gw_in (List.mem_of_getElem? (i := 54) (by decide +kernel)) rfl
set_option maxRecDepth 100000 in
theorem m_55 : (Cond.selects R_Mo y_Mo_reaches y_Mo_reaches) ∈ GW := gw_in (List.mem_of_getElem? (i := 55) (by decide +kernel)) rfl
set_option maxRecDepth 100000 in
theorem m_56 : (Cond.selects R_Mo y_Mo_numberJ y_Mo_numberJ) ∈ GW := gw_in (List.mem_of_getElem? (i := 56) (by decide +kernel)) rfl
set_option maxRecDepth 100000 in
theorem m_57 : (Cond.selects R_Mo y_Mo_store y_Mo_store) ∈ GW := gw_in (List.mem_of_getElem? (i := 57) (by decide +kernel)) rfl
set_option maxRecDepth 100000 in
theorem m_58 : (Cond.selects R_Mo y_Mo_save y_Mo_save) ∈ GW := gw_in (List.mem_of_getElem? (i := 58) (by decide +kernel)) rfl
set_option maxRecDepth 100000 in
theorem m_59 : (Cond.selects R_Mo y_Mo_keep y_Mo_keep) ∈ GW := gw_in (List.mem_of_getElem? (i := 59) (by decide +kernel)) rfl
set_option maxRecDepth 100000 in
theorem m_60 : (Cond.selects R_Mo y_Mo_reckon y_Mo_reckon) ∈ GW := gw_in (List.mem_of_getElem? (i := 60) (by decide +kernel)) rfl
set_option maxRecDepth 100000 in
theorem m_61 : (Cond.selects R_Mo y_Mo_reckoned y_Mo_reckoned) ∈ GW := gw_in (List.mem_of_getElem? (i := 61) (by decide +kernel)) rfl
set_option maxRecDepth 100000 in
theorem m_62 : (Cond.selects R_Mo y_Mo_rest y_Mo_rest) ∈ GW := gw_in (List.mem_of_getElem? (i := 62) (by decide +kernel)) rfl
set_option maxRecDepth 100000 in
theorem m_63 : (Cond.selects R_Mo y_Mo_scrub y_Mo_scrub) ∈ GW := gw_in (List.mem_of_getElem? (i := 63) (by decide +kernel)) rfl
set_option maxRecDepth 100000 in
theorem m_65 : (Cond.initialized R_V) ∈ GW := gw_in (List.mem_of_getElem? (i := 65) (by decide +kernel)) rfl
set_option maxRecDepth 100000 in
theorem m_66 : (Cond.initialized R_Me) ∈ GW := gw_in (List.mem_of_getElem? (i := 66) (by decide +kernel)) rfl
set_option maxRecDepth 100000 in
theorem m_67 : (Cond.initialized R_Ca) ∈ GW := gw_in (List.mem_of_getElem? (i := 67) (by decide +kernel)) rfl
set_option maxRecDepth 100000 in
theorem m_68 : (Cond.initialized R_Re) ∈ GW := gw_in (List.mem_of_getElem? (i := 68) (by decide +kernel)) rfl
set_option maxRecDepth 100000 in
theorem m_69 : (Cond.initialized R_Fa) ∈ GW := gw_in (List.mem_of_getElem? (i := 69) (by decide +kernel)) rfl
set_option maxRecDepth 100000 in
theorem m_71 : (Cond.initialized R_Mo) ∈ GW := gw_in (List.mem_of_getElem? (i := 71) (by decide +kernel)) rfl
set_option maxRecDepth 100000 in
theorem m_72 : (Cond.initialized R_Lg) ∈ GW := gw_in (List.mem_of_getElem? (i := 72) (by decide +kernel)) rfl
set_option maxRecDepth 100000 in
theorem m_73 : (Cond.initialized R_Ar) ∈ GW := gw_in (List.mem_of_getElem? (i := 73) (by decide +kernel)) rfl
set_option maxRecDepth 100000 in
theorem m_74 : (Cond.initialized R_Co) ∈ GW := gw_in (List.mem_of_getElem? (i := 74) (by decide +kernel)) rfl
set_option maxRecDepth 100000 in
theorem m_75 : (Cond.initialized R_In) ∈ GW := gw_in (List.mem_of_getElem? (i := 75) (by decide +kernel)) rfl
set_option maxRecDepth 100000 in
theorem m_90 : (Cond.fieldLink R_Me 9 R_Me "kept" "[J") ∈ GW := gw_in (List.mem_of_getElem? (i := 90) (by decide +kernel)) rfl
set_option maxRecDepth 100000 in
theorem m_91 : (Cond.fieldLinkNest R_V 80 R_Me "kept" "[J" R_V) ∈ nestW := nest_in (List.mem_of_getElem? (i := 91) (by decide +kernel)) rfl
set_option maxRecDepth 100000 in
theorem m_92 : (Cond.fieldLink R_Me 40 R_Me "corrected" "I") ∈ GW := gw_in (List.mem_of_getElem? (i := 92) (by decide +kernel)) rfl
set_option maxRecDepth 100000 in
theorem m_93 : (Cond.fieldLinkNest R_V 131 R_Me "corrected" "I" R_V) ∈ nestW := nest_in (List.mem_of_getElem? (i := 93) (by decide +kernel)) rfl
set_option maxRecDepth 100000 in
theorem m_106 : (Cond.fieldLink R_Ca 9 R_Ca "lines" "[J") ∈ GW := gw_in (List.mem_of_getElem? (i := 106) (by decide +kernel)) rfl
set_option maxRecDepth 100000 in
theorem m_107 : (Cond.fieldLinkNest R_V 90 R_Ca "lines" "[J" R_V) ∈ nestW := nest_in (List.mem_of_getElem? (i := 107) (by decide +kernel)) rfl
set_option maxRecDepth 100000 in
theorem m_108 : (Cond.fieldLink R_Ca 27 R_Ca "refetched" "I") ∈ GW := gw_in (List.mem_of_getElem? (i := 108) (by decide +kernel)) rfl
set_option maxRecDepth 100000 in
theorem m_109 : (Cond.fieldLinkNest R_V 140 R_Ca "refetched" "I" R_V) ∈ nestW := nest_in (List.mem_of_getElem? (i := 109) (by decide +kernel)) rfl
set_option maxRecDepth 100000 in
theorem m_121 : (Cond.fieldLink R_Re 9 R_Re "copies" "[I") ∈ GW := gw_in (List.mem_of_getElem? (i := 121) (by decide +kernel)) rfl
set_option maxRecDepth 100000 in
theorem m_122 : (Cond.fieldLinkNest R_V 84 R_Re "copies" "[I" R_V) ∈ nestW := nest_in (List.mem_of_getElem? (i := 122) (by decide +kernel)) rfl
set_option maxRecDepth 100000 in
theorem m_123 : (Cond.fieldLink R_Re 23 R_Re "voted" "I") ∈ GW := gw_in (List.mem_of_getElem? (i := 123) (by decide +kernel)) rfl
set_option maxRecDepth 100000 in
theorem m_124 : (Cond.fieldLinkNest R_V 137 R_Re "voted" "I" R_V) ∈ nestW := nest_in (List.mem_of_getElem? (i := 124) (by decide +kernel)) rfl
set_option maxRecDepth 100000 in
theorem m_137 : (Cond.fieldLink R_Fa 9 R_Fa "cycle" "[I") ∈ GW := gw_in (List.mem_of_getElem? (i := 137) (by decide +kernel)) rfl
set_option maxRecDepth 100000 in
theorem m_138 : (Cond.fieldLinkNest R_V 146 R_Fa "cycle" "[I" R_V) ∈ nestW := nest_in (List.mem_of_getElem? (i := 138) (by decide +kernel)) rfl
set_option maxRecDepth 100000 in
theorem m_139 : (Cond.fieldLink R_Fa 15 R_Fa "part" "[I") ∈ GW := gw_in (List.mem_of_getElem? (i := 139) (by decide +kernel)) rfl
set_option maxRecDepth 100000 in
theorem m_140 : (Cond.fieldLinkNest R_V 149 R_Fa "part" "[I" R_V) ∈ nestW := nest_in (List.mem_of_getElem? (i := 140) (by decide +kernel)) rfl
set_option maxRecDepth 100000 in
theorem m_141 : (Cond.fieldLink R_Fa 18 R_Fa "bit" "[I") ∈ GW := gw_in (List.mem_of_getElem? (i := 141) (by decide +kernel)) rfl
set_option maxRecDepth 100000 in
theorem m_142 : (Cond.fieldLinkNest R_V 152 R_Fa "bit" "[I" R_V) ∈ nestW := nest_in (List.mem_of_getElem? (i := 142) (by decide +kernel)) rfl
set_option maxRecDepth 100000 in
theorem m_143 : (Cond.fieldLink R_Fa 21 R_Fa "size" "I") ∈ GW := gw_in (List.mem_of_getElem? (i := 143) (by decide +kernel)) rfl
set_option maxRecDepth 100000 in
theorem m_144 : (Cond.fieldLinkNest R_V 100 R_Fa "size" "I" R_V) ∈ nestW := nest_in (List.mem_of_getElem? (i := 144) (by decide +kernel)) rfl
set_option maxRecDepth 100000 in
theorem m_160 : (Cond.fieldLink R_V 49 R_V "every" "I") ∈ GW := gw_in (List.mem_of_getElem? (i := 160) (by decide +kernel)) rfl
set_option maxRecDepth 100000 in
theorem m_161 : (Cond.fieldLink R_V 12 R_V "memory" "LVotedCore$Memory;") ∈ GW := gw_in (List.mem_of_getElem? (i := 161) (by decide +kernel)) rfl
set_option maxRecDepth 100000 in
theorem m_162 : (Cond.fieldLink R_V 19 R_V "codeCache" "LVotedCore$Cache;") ∈ GW := gw_in (List.mem_of_getElem? (i := 162) (by decide +kernel)) rfl
set_option maxRecDepth 100000 in
theorem m_163 : (Cond.fieldLink R_V 23 R_V "dataCache" "LVotedCore$Cache;") ∈ GW := gw_in (List.mem_of_getElem? (i := 163) (by decide +kernel)) rfl
set_option maxRecDepth 100000 in
theorem m_164 : (Cond.fieldLink R_V 29 R_V "registers" "LVotedCore$Registers;") ∈ GW := gw_in (List.mem_of_getElem? (i := 164) (by decide +kernel)) rfl
set_option maxRecDepth 100000 in
theorem m_165 : (Cond.fieldLink R_V 36 R_V "faults" "LVotedCore$Faults;") ∈ GW := gw_in (List.mem_of_getElem? (i := 165) (by decide +kernel)) rfl
set_option maxRecDepth 100000 in
theorem m_166 : (Cond.fieldLink R_V 103 R_V "cyclesDone" "I") ∈ GW := gw_in (List.mem_of_getElem? (i := 166) (by decide +kernel)) rfl
set_option maxRecDepth 100000 in
theorem m_167 : (Cond.fieldLink R_V 143 R_V "scrubPlace" "I") ∈ GW := gw_in (List.mem_of_getElem? (i := 167) (by decide +kernel)) rfl
set_option maxRecDepth 100000 in
theorem m_168 : (Cond.fieldLink R_V 134 R_V "detected" "I") ∈ GW := gw_in (List.mem_of_getElem? (i := 168) (by decide +kernel)) rfl
set_option maxRecDepth 100000 in
theorem m_169 : (Cond.fieldLink R_V 110 R_V "stopCause" "I") ∈ GW := gw_in (List.mem_of_getElem? (i := 169) (by decide +kernel)) rfl
set_option maxRecDepth 100000 in
theorem m_170 : (Cond.fieldLink R_V 125 R_V "stopValue" "I") ∈ GW := gw_in (List.mem_of_getElem? (i := 170) (by decide +kernel)) rfl
set_option maxRecDepth 100000 in
theorem m_198 : (Cond.methodLink R_V 53 y_V_isWord) ∈ GW := gw_in (List.mem_of_getElem? (i := 198) (by decide +kernel)) rfl
set_option maxRecDepth 100000 in
theorem m_199 : (Cond.static y_V_isWord) ∈ GW := gw_in (List.mem_of_getElem? (i := 199) (by decide +kernel)) rfl
set_option maxRecDepth 100000 in
theorem m_200 : (Cond.code y_V_isWord prog_1_method_16_code 1 (some .boolean)) ∈ GW := gw_in (List.mem_of_getElem? (i := 200) rfl) rfl
set_option maxRecDepth 100000 in
theorem m_201 : (Cond.methodLinkNest R_V 57 y_Me_keep R_V) ∈ nestW := nest_in (List.mem_of_getElem? (i := 201) (by decide +kernel)) rfl
set_option maxRecDepth 100000 in
theorem m_203 : (Cond.instanceMethod y_Me_keep) ∈ GW := gw_in (List.mem_of_getElem? (i := 203) (by decide +kernel)) rfl
set_option maxRecDepth 100000 in
theorem m_204 : (Cond.code y_Me_keep prog_5_method_2_code 7 none) ∈ GW := gw_in (List.mem_of_getElem? (i := 204) rfl) rfl
set_option maxRecDepth 100000 in
theorem m_205 : (Cond.methodLink R_Me 15 y_Me_spread) ∈ GW := gw_in (List.mem_of_getElem? (i := 205) (by decide +kernel)) rfl
set_option maxRecDepth 100000 in
theorem m_206 : (Cond.static y_Me_spread) ∈ GW := gw_in (List.mem_of_getElem? (i := 206) (by decide +kernel)) rfl
set_option maxRecDepth 100000 in
theorem m_207 : (Cond.code y_Me_spread prog_5_method_7_code 1 (some .long)) ∈ GW := gw_in (List.mem_of_getElem? (i := 207) rfl) rfl
set_option maxRecDepth 100000 in
theorem m_208 : (Cond.constantLong R_Me 44 14) ∈ GW := gw_in (List.mem_of_getElem? (i := 208) (by decide +kernel)) rfl
set_option maxRecDepth 100000 in
theorem m_209 : (Cond.constantLong R_Me 46 2032) ∈ GW := gw_in (List.mem_of_getElem? (i := 209) (by decide +kernel)) rfl
set_option maxRecDepth 100000 in
theorem m_210 : (Cond.constantLong R_Me 48 67106816) ∈ GW := gw_in (List.mem_of_getElem? (i := 210) (by decide +kernel)) rfl
set_option maxRecDepth 100000 in
theorem m_211 : (Cond.constantLong R_Me 50 4227858432) ∈ GW := gw_in (List.mem_of_getElem? (i := 211) (by decide +kernel)) rfl
set_option maxRecDepth 100000 in
theorem m_212 : (Cond.methodLink R_Me 19 y_Me_xorOfNumbers) ∈ GW := gw_in (List.mem_of_getElem? (i := 212) (by decide +kernel)) rfl
set_option maxRecDepth 100000 in
theorem m_213 : (Cond.static y_Me_xorOfNumbers) ∈ GW := gw_in (List.mem_of_getElem? (i := 213) (by decide +kernel)) rfl
set_option maxRecDepth 100000 in
theorem m_214 : (Cond.code y_Me_xorOfNumbers prog_5_method_6_code 4 (some .int)) ∈ GW := gw_in (List.mem_of_getElem? (i := 214) rfl) rfl
set_option maxRecDepth 100000 in
theorem m_215 : (Cond.fieldLink R_Me 23 R_Me "NUMBERED" "[J") ∈ GW := gw_in (List.mem_of_getElem? (i := 215) (by decide +kernel)) rfl
set_option maxRecDepth 100000 in
theorem m_217 : (Cond.methodLink R_Me 26 y_Lg_bitCount) ∈ GW := gw_in (List.mem_of_getElem? (i := 217) (by decide +kernel)) rfl
set_option maxRecDepth 100000 in
theorem m_218 : (Cond.static y_Lg_bitCount) ∈ GW := gw_in (List.mem_of_getElem? (i := 218) (by decide +kernel)) rfl
set_option maxRecDepth 100000 in
theorem m_219 : (Cond.code y_Lg_bitCount prog_10_method_50_code 2 (some .int)) ∈ GW := gw_in (List.mem_of_getElem? (i := 219) rfl) rfl
set_option maxRecDepth 100000 in
theorem m_220 : (Cond.constantLong R_Lg 314 6148914691236517205) ∈ GW := gw_in (List.mem_of_getElem? (i := 220) (by decide +kernel)) rfl
set_option maxRecDepth 100000 in
theorem m_221 : (Cond.constantLong R_Lg 316 3689348814741910323) ∈ GW := gw_in (List.mem_of_getElem? (i := 221) (by decide +kernel)) rfl
set_option maxRecDepth 100000 in
theorem m_222 : (Cond.constantLong R_Lg 318 1085102592571150095) ∈ GW := gw_in (List.mem_of_getElem? (i := 222) (by decide +kernel)) rfl
set_option maxRecDepth 100000 in
theorem m_223 : (Cond.methodLinkNest R_V 61 y_Ca_dropAll R_V) ∈ nestW := nest_in (List.mem_of_getElem? (i := 223) (by decide +kernel)) rfl
set_option maxRecDepth 100000 in
theorem m_225 : (Cond.instanceMethod y_Ca_dropAll) ∈ GW := gw_in (List.mem_of_getElem? (i := 225) (by decide +kernel)) rfl
set_option maxRecDepth 100000 in
theorem m_226 : (Cond.code y_Ca_dropAll prog_2_method_2_code 1 none) ∈ GW := gw_in (List.mem_of_getElem? (i := 226) rfl) rfl
set_option maxRecDepth 100000 in
theorem m_227 : (Cond.methodLink R_Ca 15 y_Ar_fill) ∈ GW := gw_in (List.mem_of_getElem? (i := 227) (by decide +kernel)) rfl
set_option maxRecDepth 100000 in
theorem m_228 : (Cond.static y_Ar_fill) ∈ GW := gw_in (List.mem_of_getElem? (i := 228) (by decide +kernel)) rfl
set_option maxRecDepth 100000 in
theorem m_229 : (Cond.code y_Ar_fill prog_12_method_101_code 5 none) ∈ GW := gw_in (List.mem_of_getElem? (i := 229) rfl) rfl
set_option maxRecDepth 100000 in
theorem m_234 : (Cond.methodLink R_V 64 y_V_isRegister) ∈ GW := gw_in (List.mem_of_getElem? (i := 234) (by decide +kernel)) rfl
set_option maxRecDepth 100000 in
theorem m_235 : (Cond.static y_V_isRegister) ∈ GW := gw_in (List.mem_of_getElem? (i := 235) (by decide +kernel)) rfl
set_option maxRecDepth 100000 in
theorem m_236 : (Cond.code y_V_isRegister prog_1_method_17_code 1 (some .boolean)) ∈ GW := gw_in (List.mem_of_getElem? (i := 236) rfl) rfl
set_option maxRecDepth 100000 in
theorem m_237 : (Cond.methodLinkNest R_V 67 y_Re_put R_V) ∈ nestW := nest_in (List.mem_of_getElem? (i := 237) (by decide +kernel)) rfl
set_option maxRecDepth 100000 in
theorem m_239 : (Cond.instanceMethod y_Re_put) ∈ GW := gw_in (List.mem_of_getElem? (i := 239) (by decide +kernel)) rfl
set_option maxRecDepth 100000 in
theorem m_240 : (Cond.code y_Re_put prog_6_method_3_code 3 none) ∈ GW := gw_in (List.mem_of_getElem? (i := 240) rfl) rfl
set_option maxRecDepth 100000 in
theorem m_245 : (Cond.methodLinkNest R_V 70 y_Re_agreed R_V) ∈ nestW := nest_in (List.mem_of_getElem? (i := 245) (by decide +kernel)) rfl
set_option maxRecDepth 100000 in
theorem m_247 : (Cond.instanceMethod y_Re_agreed) ∈ GW := gw_in (List.mem_of_getElem? (i := 247) (by decide +kernel)) rfl
set_option maxRecDepth 100000 in
theorem m_248 : (Cond.code y_Re_agreed prog_6_method_2_code 5 (some .int)) ∈ GW := gw_in (List.mem_of_getElem? (i := 248) rfl) rfl
set_option maxRecDepth 100000 in
theorem m_253 : (Cond.methodLinkNest R_V 74 y_Me_inspect R_V) ∈ nestW := nest_in (List.mem_of_getElem? (i := 253) (by decide +kernel)) rfl
set_option maxRecDepth 100000 in
theorem m_255 : (Cond.instanceMethod y_Me_inspect) ∈ GW := gw_in (List.mem_of_getElem? (i := 255) (by decide +kernel)) rfl
set_option maxRecDepth 100000 in
theorem m_256 : (Cond.code y_Me_inspect prog_5_method_3_code 4 (some .long)) ∈ GW := gw_in (List.mem_of_getElem? (i := 256) rfl) rfl
set_option maxRecDepth 100000 in
theorem m_257 : (Cond.methodLink R_Me 31 y_Me_putRight) ∈ GW := gw_in (List.mem_of_getElem? (i := 257) (by decide +kernel)) rfl
set_option maxRecDepth 100000 in
theorem m_258 : (Cond.static y_Me_putRight) ∈ GW := gw_in (List.mem_of_getElem? (i := 258) (by decide +kernel)) rfl
set_option maxRecDepth 100000 in
theorem m_259 : (Cond.code y_Me_putRight prog_5_method_5_code 4 (some .long)) ∈ GW := gw_in (List.mem_of_getElem? (i := 259) rfl) rfl
set_option maxRecDepth 100000 in
theorem m_260 : (Cond.constantLong R_Me 35 (-2)) ∈ GW := gw_in (List.mem_of_getElem? (i := 260) (by decide +kernel)) rfl
set_option maxRecDepth 100000 in
theorem m_261 : (Cond.methodLink R_Me 37 y_Me_gathered) ∈ GW := gw_in (List.mem_of_getElem? (i := 261) (by decide +kernel)) rfl
set_option maxRecDepth 100000 in
theorem m_262 : (Cond.static y_Me_gathered) ∈ GW := gw_in (List.mem_of_getElem? (i := 262) (by decide +kernel)) rfl
set_option maxRecDepth 100000 in
theorem m_263 : (Cond.code y_Me_gathered prog_5_method_8_code 2 (some .long)) ∈ GW := gw_in (List.mem_of_getElem? (i := 263) rfl) rfl
set_option maxRecDepth 100000 in
theorem m_264 : (Cond.constantLong R_V 78 (-1)) ∈ GW := gw_in (List.mem_of_getElem? (i := 264) (by decide +kernel)) rfl
set_option maxRecDepth 100000 in
theorem m_269 : (Cond.constantLong R_V 88 4294967295) ∈ GW := gw_in (List.mem_of_getElem? (i := 269) (by decide +kernel)) rfl
set_option maxRecDepth 100000 in
theorem m_274 : (Cond.methodLink R_V 93 y_V_isBit) ∈ GW := gw_in (List.mem_of_getElem? (i := 274) (by decide +kernel)) rfl
set_option maxRecDepth 100000 in
theorem m_275 : (Cond.static y_V_isBit) ∈ GW := gw_in (List.mem_of_getElem? (i := 275) (by decide +kernel)) rfl
set_option maxRecDepth 100000 in
theorem m_276 : (Cond.code y_V_isBit prog_1_method_18_code 2 (some .boolean)) ∈ GW := gw_in (List.mem_of_getElem? (i := 276) rfl) rfl
set_option maxRecDepth 100000 in
theorem m_277 : (Cond.methodLink R_V 97 y_V_invert) ∈ GW := gw_in (List.mem_of_getElem? (i := 277) (by decide +kernel)) rfl
set_option maxRecDepth 100000 in
theorem m_279 : (Cond.instanceMethod y_V_invert) ∈ GW := gw_in (List.mem_of_getElem? (i := 279) (by decide +kernel)) rfl
set_option maxRecDepth 100000 in
theorem m_280 : (Cond.code y_V_invert prog_1_method_20_code 3 none) ∈ GW := gw_in (List.mem_of_getElem? (i := 280) rfl) rfl
set_option maxRecDepth 100000 in
theorem m_285 : (Cond.methodLinkNest R_V 106 y_Fa_append R_V) ∈ nestW := nest_in (List.mem_of_getElem? (i := 285) (by decide +kernel)) rfl
set_option maxRecDepth 100000 in
theorem m_287 : (Cond.instanceMethod y_Fa_append) ∈ GW := gw_in (List.mem_of_getElem? (i := 287) (by decide +kernel)) rfl
set_option maxRecDepth 100000 in
theorem m_288 : (Cond.code y_Fa_append prog_4_method_2_code 4 none) ∈ GW := gw_in (List.mem_of_getElem? (i := 288) rfl) rfl
set_option maxRecDepth 100000 in
theorem m_297 : (Cond.methodLink R_V 113 y_V_makePlannedFaults) ∈ GW := gw_in (List.mem_of_getElem? (i := 297) (by decide +kernel)) rfl
set_option maxRecDepth 100000 in
theorem m_299 : (Cond.instanceMethod y_V_makePlannedFaults) ∈ GW := gw_in (List.mem_of_getElem? (i := 299) (by decide +kernel)) rfl
set_option maxRecDepth 100000 in
theorem m_300 : (Cond.code y_V_makePlannedFaults prog_1_method_21_code 3 none) ∈ GW := gw_in (List.mem_of_getElem? (i := 300) rfl) rfl
set_option maxRecDepth 100000 in
theorem m_301 : (Cond.methodLinkNest R_V 155 y_Fa_move R_V) ∈ nestW := nest_in (List.mem_of_getElem? (i := 301) (by decide +kernel)) rfl
set_option maxRecDepth 100000 in
theorem m_303 : (Cond.instanceMethod y_Fa_move) ∈ GW := gw_in (List.mem_of_getElem? (i := 303) (by decide +kernel)) rfl
set_option maxRecDepth 100000 in
theorem m_304 : (Cond.code y_Fa_move prog_4_method_3_code 3 none) ∈ GW := gw_in (List.mem_of_getElem? (i := 304) rfl) rfl
set_option maxRecDepth 100000 in
theorem m_305 : (Cond.methodLinkNest R_V 116 y_Re_vote R_V) ∈ nestW := nest_in (List.mem_of_getElem? (i := 305) (by decide +kernel)) rfl
set_option maxRecDepth 100000 in
theorem m_307 : (Cond.instanceMethod y_Re_vote) ∈ GW := gw_in (List.mem_of_getElem? (i := 307) (by decide +kernel)) rfl
set_option maxRecDepth 100000 in
theorem m_308 : (Cond.code y_Re_vote prog_6_method_6_code 3 none) ∈ GW := gw_in (List.mem_of_getElem? (i := 308) rfl) rfl
set_option maxRecDepth 100000 in
theorem m_309 : (Cond.methodLink R_Re 15 y_Re_agreed) ∈ GW := gw_in (List.mem_of_getElem? (i := 309) (by decide +kernel)) rfl
set_option maxRecDepth 100000 in
theorem m_310 : (Cond.methodLink R_Re 19 y_Re_put) ∈ GW := gw_in (List.mem_of_getElem? (i := 310) (by decide +kernel)) rfl
set_option maxRecDepth 100000 in
theorem m_311 : (Cond.methodLink R_V 119 y_V_doInstruction) ∈ GW := gw_in (List.mem_of_getElem? (i := 311) (by decide +kernel)) rfl
set_option maxRecDepth 100000 in
theorem m_313 : (Cond.instanceMethod y_V_doInstruction) ∈ GW := gw_in (List.mem_of_getElem? (i := 313) (by decide +kernel)) rfl
set_option maxRecDepth 100000 in
theorem m_314 : (Cond.code y_V_doInstruction prog_1_method_26_code 5 none) ∈ GW := gw_in (List.mem_of_getElem? (i := 314) rfl) rfl
set_option maxRecDepth 100000 in
theorem m_315 : (Cond.methodLink R_V 179 y_V_isAddress) ∈ GW := gw_in (List.mem_of_getElem? (i := 315) (by decide +kernel)) rfl
set_option maxRecDepth 100000 in
theorem m_316 : (Cond.static y_V_isAddress) ∈ GW := gw_in (List.mem_of_getElem? (i := 316) (by decide +kernel)) rfl
set_option maxRecDepth 100000 in
theorem m_317 : (Cond.code y_V_isAddress prog_1_method_19_code 2 (some .boolean)) ∈ GW := gw_in (List.mem_of_getElem? (i := 317) rfl) rfl
set_option maxRecDepth 100000 in
theorem m_318 : (Cond.methodLink R_V 128 y_V_stop) ∈ GW := gw_in (List.mem_of_getElem? (i := 318) (by decide +kernel)) rfl
set_option maxRecDepth 100000 in
theorem m_320 : (Cond.instanceMethod y_V_stop) ∈ GW := gw_in (List.mem_of_getElem? (i := 320) (by decide +kernel)) rfl
set_option maxRecDepth 100000 in
theorem m_321 : (Cond.code y_V_stop prog_1_method_23_code 3 none) ∈ GW := gw_in (List.mem_of_getElem? (i := 321) rfl) rfl
set_option maxRecDepth 100000 in
theorem m_322 : (Cond.methodLink R_V 182 y_V_fetch) ∈ GW := gw_in (List.mem_of_getElem? (i := 322) (by decide +kernel)) rfl
set_option maxRecDepth 100000 in
theorem m_324 : (Cond.instanceMethod y_V_fetch) ∈ GW := gw_in (List.mem_of_getElem? (i := 324) (by decide +kernel)) rfl
set_option maxRecDepth 100000 in
theorem m_325 : (Cond.code y_V_fetch prog_1_method_24_code 5 (some .long)) ∈ GW := gw_in (List.mem_of_getElem? (i := 325) rfl) rfl
set_option maxRecDepth 100000 in
theorem m_326 : (Cond.methodLinkNest R_V 163 y_Ca_dropIfWrong R_V) ∈ nestW := nest_in (List.mem_of_getElem? (i := 326) (by decide +kernel)) rfl
set_option maxRecDepth 100000 in
theorem m_328 : (Cond.instanceMethod y_Ca_dropIfWrong) ∈ GW := gw_in (List.mem_of_getElem? (i := 328) (by decide +kernel)) rfl
set_option maxRecDepth 100000 in
theorem m_329 : (Cond.code y_Ca_dropIfWrong prog_2_method_4_code 2 none) ∈ GW := gw_in (List.mem_of_getElem? (i := 329) rfl) rfl
set_option maxRecDepth 100000 in
theorem m_330 : (Cond.methodLink R_Ca 21 y_Lg_bitCount) ∈ GW := gw_in (List.mem_of_getElem? (i := 330) (by decide +kernel)) rfl
set_option maxRecDepth 100000 in
theorem m_331 : (Cond.methodLinkNest R_V 167 y_Ca_holds R_V) ∈ nestW := nest_in (List.mem_of_getElem? (i := 331) (by decide +kernel)) rfl
set_option maxRecDepth 100000 in
theorem m_333 : (Cond.instanceMethod y_Ca_holds) ∈ GW := gw_in (List.mem_of_getElem? (i := 333) (by decide +kernel)) rfl
set_option maxRecDepth 100000 in
theorem m_334 : (Cond.code y_Ca_holds prog_2_method_5_code 2 (some .boolean)) ∈ GW := gw_in (List.mem_of_getElem? (i := 334) rfl) rfl
set_option maxRecDepth 100000 in
theorem m_335 : (Cond.constantLong R_Ca 31 31) ∈ GW := gw_in (List.mem_of_getElem? (i := 335) (by decide +kernel)) rfl
set_option maxRecDepth 100000 in
theorem m_336 : (Cond.methodLinkNest R_V 170 y_Ca_held R_V) ∈ nestW := nest_in (List.mem_of_getElem? (i := 336) (by decide +kernel)) rfl
set_option maxRecDepth 100000 in
theorem m_338 : (Cond.instanceMethod y_Ca_held) ∈ GW := gw_in (List.mem_of_getElem? (i := 338) (by decide +kernel)) rfl
set_option maxRecDepth 100000 in
theorem m_339 : (Cond.code y_Ca_held prog_2_method_6_code 2 (some .long)) ∈ GW := gw_in (List.mem_of_getElem? (i := 339) rfl) rfl
set_option maxRecDepth 100000 in
theorem m_340 : (Cond.constantLong R_Ca 33 4294967295) ∈ GW := gw_in (List.mem_of_getElem? (i := 340) (by decide +kernel)) rfl
set_option maxRecDepth 100000 in
theorem m_341 : (Cond.methodLinkNest R_V 158 y_Me_mend R_V) ∈ nestW := nest_in (List.mem_of_getElem? (i := 341) (by decide +kernel)) rfl
set_option maxRecDepth 100000 in
theorem m_343 : (Cond.instanceMethod y_Me_mend) ∈ GW := gw_in (List.mem_of_getElem? (i := 343) (by decide +kernel)) rfl
set_option maxRecDepth 100000 in
theorem m_344 : (Cond.code y_Me_mend prog_5_method_4_code 4 (some .long)) ∈ GW := gw_in (List.mem_of_getElem? (i := 344) rfl) rfl
set_option maxRecDepth 100000 in
theorem m_345 : (Cond.constantLong R_V 161 (-2)) ∈ GW := gw_in (List.mem_of_getElem? (i := 345) (by decide +kernel)) rfl
set_option maxRecDepth 100000 in
theorem m_346 : (Cond.methodLinkNest R_V 173 y_Ca_fill R_V) ∈ nestW := nest_in (List.mem_of_getElem? (i := 346) (by decide +kernel)) rfl
set_option maxRecDepth 100000 in
theorem m_348 : (Cond.instanceMethod y_Ca_fill) ∈ GW := gw_in (List.mem_of_getElem? (i := 348) (by decide +kernel)) rfl
set_option maxRecDepth 100000 in
theorem m_349 : (Cond.code y_Ca_fill prog_2_method_7_code 5 none) ∈ GW := gw_in (List.mem_of_getElem? (i := 349) rfl) rfl
set_option maxRecDepth 100000 in
theorem m_350 : (Cond.methodLinkNest R_V 186 y_Co_op R_V) ∈ nestW := nest_in (List.mem_of_getElem? (i := 350) (by decide +kernel)) rfl
set_option maxRecDepth 100000 in
theorem m_351 : (Cond.static y_Co_op) ∈ GW := gw_in (List.mem_of_getElem? (i := 351) (by decide +kernel)) rfl
set_option maxRecDepth 100000 in
theorem m_352 : (Cond.code y_Co_op prog_3_method_2_code 1 (some .int)) ∈ GW := gw_in (List.mem_of_getElem? (i := 352) rfl) rfl
set_option maxRecDepth 100000 in
theorem m_353 : (Cond.methodLinkNest R_V 191 y_Co_d R_V) ∈ nestW := nest_in (List.mem_of_getElem? (i := 353) (by decide +kernel)) rfl
set_option maxRecDepth 100000 in
theorem m_354 : (Cond.static y_Co_d) ∈ GW := gw_in (List.mem_of_getElem? (i := 354) (by decide +kernel)) rfl
set_option maxRecDepth 100000 in
theorem m_355 : (Cond.code y_Co_d prog_3_method_3_code 1 (some .int)) ∈ GW := gw_in (List.mem_of_getElem? (i := 355) rfl) rfl
set_option maxRecDepth 100000 in
theorem m_356 : (Cond.methodLinkNest R_V 194 y_Co_u R_V) ∈ nestW := nest_in (List.mem_of_getElem? (i := 356) (by decide +kernel)) rfl
set_option maxRecDepth 100000 in
theorem m_357 : (Cond.static y_Co_u) ∈ GW := gw_in (List.mem_of_getElem? (i := 357) (by decide +kernel)) rfl
set_option maxRecDepth 100000 in
theorem m_358 : (Cond.code y_Co_u prog_3_method_11_code 1 (some .int)) ∈ GW := gw_in (List.mem_of_getElem? (i := 358) rfl) rfl
set_option maxRecDepth 100000 in
theorem m_359 : (Cond.methodLink R_V 197 y_V_finish) ∈ GW := gw_in (List.mem_of_getElem? (i := 359) (by decide +kernel)) rfl
set_option maxRecDepth 100000 in
theorem m_361 : (Cond.instanceMethod y_V_finish) ∈ GW := gw_in (List.mem_of_getElem? (i := 361) (by decide +kernel)) rfl
set_option maxRecDepth 100000 in
theorem m_362 : (Cond.code y_V_finish prog_1_method_27_code 4 none) ∈ GW := gw_in (List.mem_of_getElem? (i := 362) rfl) rfl
set_option maxRecDepth 100000 in
theorem m_363 : (Cond.methodLinkNest R_V 230 y_Re_putResult R_V) ∈ nestW := nest_in (List.mem_of_getElem? (i := 363) (by decide +kernel)) rfl
set_option maxRecDepth 100000 in
theorem m_365 : (Cond.instanceMethod y_Re_putResult) ∈ GW := gw_in (List.mem_of_getElem? (i := 365) (by decide +kernel)) rfl
set_option maxRecDepth 100000 in
theorem m_366 : (Cond.code y_Re_putResult prog_6_method_5_code 3 none) ∈ GW := gw_in (List.mem_of_getElem? (i := 366) rfl) rfl
set_option maxRecDepth 100000 in
theorem m_367 : (Cond.methodLink R_V 233 y_V_goOn) ∈ GW := gw_in (List.mem_of_getElem? (i := 367) (by decide +kernel)) rfl
set_option maxRecDepth 100000 in
theorem m_369 : (Cond.instanceMethod y_V_goOn) ∈ GW := gw_in (List.mem_of_getElem? (i := 369) (by decide +kernel)) rfl
set_option maxRecDepth 100000 in
theorem m_370 : (Cond.code y_V_goOn prog_1_method_28_code 2 none) ∈ GW := gw_in (List.mem_of_getElem? (i := 370) rfl) rfl
set_option maxRecDepth 100000 in
theorem m_371 : (Cond.methodLinkNest R_V 200 y_Co_l R_V) ∈ nestW := nest_in (List.mem_of_getElem? (i := 371) (by decide +kernel)) rfl
set_option maxRecDepth 100000 in
theorem m_372 : (Cond.static y_Co_l) ∈ GW := gw_in (List.mem_of_getElem? (i := 372) (by decide +kernel)) rfl
set_option maxRecDepth 100000 in
theorem m_373 : (Cond.code y_Co_l prog_3_method_12_code 1 (some .int)) ∈ GW := gw_in (List.mem_of_getElem? (i := 373) rfl) rfl
set_option maxRecDepth 100000 in
theorem m_374 : (Cond.constant R_Co 13 1044480) ∈ GW := gw_in (List.mem_of_getElem? (i := 374) (by decide +kernel)) rfl
set_option maxRecDepth 100000 in
theorem m_375 : (Cond.methodLink R_V 203 y_V_jump) ∈ GW := gw_in (List.mem_of_getElem? (i := 375) (by decide +kernel)) rfl
set_option maxRecDepth 100000 in
theorem m_377 : (Cond.instanceMethod y_V_jump) ∈ GW := gw_in (List.mem_of_getElem? (i := 377) (by decide +kernel)) rfl
set_option maxRecDepth 100000 in
theorem m_378 : (Cond.code y_V_jump prog_1_method_29_code 4 none) ∈ GW := gw_in (List.mem_of_getElem? (i := 378) rfl) rfl
set_option maxRecDepth 100000 in
theorem m_379 : (Cond.methodLink R_V 206 y_V_jumpByRegister) ∈ GW := gw_in (List.mem_of_getElem? (i := 379) (by decide +kernel)) rfl
set_option maxRecDepth 100000 in
theorem m_381 : (Cond.instanceMethod y_V_jumpByRegister) ∈ GW := gw_in (List.mem_of_getElem? (i := 381) (by decide +kernel)) rfl
set_option maxRecDepth 100000 in
theorem m_382 : (Cond.code y_V_jumpByRegister prog_1_method_30_code 4 none) ∈ GW := gw_in (List.mem_of_getElem? (i := 382) rfl) rfl
set_option maxRecDepth 100000 in
theorem m_383 : (Cond.methodLinkNest R_V 236 y_Co_f R_V) ∈ nestW := nest_in (List.mem_of_getElem? (i := 383) (by decide +kernel)) rfl
set_option maxRecDepth 100000 in
theorem m_384 : (Cond.static y_Co_f) ∈ GW := gw_in (List.mem_of_getElem? (i := 384) (by decide +kernel)) rfl
set_option maxRecDepth 100000 in
theorem m_385 : (Cond.code y_Co_f prog_3_method_4_code 1 (some .int)) ∈ GW := gw_in (List.mem_of_getElem? (i := 385) rfl) rfl
set_option maxRecDepth 100000 in
theorem m_386 : (Cond.methodLinkNest R_V 239 y_Co_s R_V) ∈ nestW := nest_in (List.mem_of_getElem? (i := 386) (by decide +kernel)) rfl
set_option maxRecDepth 100000 in
theorem m_387 : (Cond.static y_Co_s) ∈ GW := gw_in (List.mem_of_getElem? (i := 387) (by decide +kernel)) rfl
set_option maxRecDepth 100000 in
theorem m_388 : (Cond.code y_Co_s prog_3_method_5_code 1 (some .int)) ∈ GW := gw_in (List.mem_of_getElem? (i := 388) rfl) rfl
set_option maxRecDepth 100000 in
theorem m_389 : (Cond.methodLinkNest R_V 242 y_Re_operand R_V) ∈ nestW := nest_in (List.mem_of_getElem? (i := 389) (by decide +kernel)) rfl
set_option maxRecDepth 100000 in
theorem m_391 : (Cond.instanceMethod y_Re_operand) ∈ GW := gw_in (List.mem_of_getElem? (i := 391) (by decide +kernel)) rfl
set_option maxRecDepth 100000 in
theorem m_392 : (Cond.code y_Re_operand prog_6_method_4_code 2 (some .int)) ∈ GW := gw_in (List.mem_of_getElem? (i := 392) rfl) rfl
set_option maxRecDepth 100000 in
theorem m_393 : (Cond.methodLinkNest R_V 245 y_Co_i R_V) ∈ nestW := nest_in (List.mem_of_getElem? (i := 393) (by decide +kernel)) rfl
set_option maxRecDepth 100000 in
theorem m_394 : (Cond.static y_Co_i) ∈ GW := gw_in (List.mem_of_getElem? (i := 394) (by decide +kernel)) rfl
set_option maxRecDepth 100000 in
theorem m_395 : (Cond.code y_Co_i prog_3_method_8_code 1 (some .int)) ∈ GW := gw_in (List.mem_of_getElem? (i := 395) rfl) rfl
set_option maxRecDepth 100000 in
theorem m_396 : (Cond.methodLink R_V 209 y_V_branch) ∈ GW := gw_in (List.mem_of_getElem? (i := 396) (by decide +kernel)) rfl
set_option maxRecDepth 100000 in
theorem m_398 : (Cond.instanceMethod y_V_branch) ∈ GW := gw_in (List.mem_of_getElem? (i := 398) (by decide +kernel)) rfl
set_option maxRecDepth 100000 in
theorem m_399 : (Cond.code y_V_branch prog_1_method_31_code 6 none) ∈ GW := gw_in (List.mem_of_getElem? (i := 399) rfl) rfl
set_option maxRecDepth 100000 in
theorem m_400 : (Cond.methodLinkNest R_V 248 y_Co_t R_V) ∈ nestW := nest_in (List.mem_of_getElem? (i := 400) (by decide +kernel)) rfl
set_option maxRecDepth 100000 in
theorem m_401 : (Cond.static y_Co_t) ∈ GW := gw_in (List.mem_of_getElem? (i := 401) (by decide +kernel)) rfl
set_option maxRecDepth 100000 in
theorem m_402 : (Cond.code y_Co_t prog_3_method_6_code 1 (some .int)) ∈ GW := gw_in (List.mem_of_getElem? (i := 402) rfl) rfl
set_option maxRecDepth 100000 in
theorem m_403 : (Cond.methodLinkNest R_V 251 y_Co_isTaken R_V) ∈ nestW := nest_in (List.mem_of_getElem? (i := 403) (by decide +kernel)) rfl
set_option maxRecDepth 100000 in
theorem m_404 : (Cond.static y_Co_isTaken) ∈ GW := gw_in (List.mem_of_getElem? (i := 404) (by decide +kernel)) rfl
set_option maxRecDepth 100000 in
theorem m_405 : (Cond.code y_Co_isTaken prog_3_method_16_code 3 (some .boolean)) ∈ GW := gw_in (List.mem_of_getElem? (i := 405) rfl) rfl
set_option maxRecDepth 100000 in
theorem m_406 : (Cond.methodLink R_Co 15 y_In_compareUnsigned) ∈ GW := gw_in (List.mem_of_getElem? (i := 406) (by decide +kernel)) rfl
set_option maxRecDepth 100000 in
theorem m_407 : (Cond.static y_In_compareUnsigned) ∈ GW := gw_in (List.mem_of_getElem? (i := 407) (by decide +kernel)) rfl
set_option maxRecDepth 100000 in
theorem m_408 : (Cond.code y_In_compareUnsigned prog_9_method_41_code 2 (some .int)) ∈ GW := gw_in (List.mem_of_getElem? (i := 408) rfl) rfl
set_option maxRecDepth 100000 in
theorem m_409 : (Cond.constant R_In 127 (-2147483648)) ∈ GW := gw_in (List.mem_of_getElem? (i := 409) (by decide +kernel)) rfl
set_option maxRecDepth 100000 in
theorem m_410 : (Cond.methodLink R_In 259 y_In_compare) ∈ GW := gw_in (List.mem_of_getElem? (i := 410) (by decide +kernel)) rfl
set_option maxRecDepth 100000 in
theorem m_411 : (Cond.static y_In_compare) ∈ GW := gw_in (List.mem_of_getElem? (i := 411) (by decide +kernel)) rfl
set_option maxRecDepth 100000 in
theorem m_412 : (Cond.code y_In_compare prog_9_method_40_code 2 (some .int)) ∈ GW := gw_in (List.mem_of_getElem? (i := 412) rfl) rfl
set_option maxRecDepth 100000 in
theorem m_413 : (Cond.methodLinkNest R_V 255 y_Co_k R_V) ∈ nestW := nest_in (List.mem_of_getElem? (i := 413) (by decide +kernel)) rfl
set_option maxRecDepth 100000 in
theorem m_414 : (Cond.static y_Co_k) ∈ GW := gw_in (List.mem_of_getElem? (i := 414) (by decide +kernel)) rfl
set_option maxRecDepth 100000 in
theorem m_415 : (Cond.code y_Co_k prog_3_method_10_code 1 (some .int)) ∈ GW := gw_in (List.mem_of_getElem? (i := 415) rfl) rfl
set_option maxRecDepth 100000 in
theorem m_416 : (Cond.methodLink R_V 212 y_V_load) ∈ GW := gw_in (List.mem_of_getElem? (i := 416) (by decide +kernel)) rfl
set_option maxRecDepth 100000 in
theorem m_418 : (Cond.instanceMethod y_V_load) ∈ GW := gw_in (List.mem_of_getElem? (i := 418) (by decide +kernel)) rfl
set_option maxRecDepth 100000 in
theorem m_419 : (Cond.code y_V_load prog_1_method_32_code 7 none) ∈ GW := gw_in (List.mem_of_getElem? (i := 419) rfl) rfl
set_option maxRecDepth 100000 in
theorem m_420 : (Cond.methodLinkNest R_V 258 y_Co_size R_V) ∈ nestW := nest_in (List.mem_of_getElem? (i := 420) (by decide +kernel)) rfl
set_option maxRecDepth 100000 in
theorem m_421 : (Cond.static y_Co_size) ∈ GW := gw_in (List.mem_of_getElem? (i := 421) (by decide +kernel)) rfl
set_option maxRecDepth 100000 in
theorem m_422 : (Cond.code y_Co_size prog_3_method_13_code 1 (some .int)) ∈ GW := gw_in (List.mem_of_getElem? (i := 422) rfl) rfl
set_option maxRecDepth 100000 in
theorem m_423 : (Cond.methodLinkNest R_V 260 y_Co_shiftOf R_V) ∈ nestW := nest_in (List.mem_of_getElem? (i := 423) (by decide +kernel)) rfl
set_option maxRecDepth 100000 in
theorem m_424 : (Cond.static y_Co_shiftOf) ∈ GW := gw_in (List.mem_of_getElem? (i := 424) (by decide +kernel)) rfl
set_option maxRecDepth 100000 in
theorem m_425 : (Cond.code y_Co_shiftOf prog_3_method_14_code 1 (some .int)) ∈ GW := gw_in (List.mem_of_getElem? (i := 425) rfl) rfl
set_option maxRecDepth 100000 in
theorem m_426 : (Cond.methodLinkNest R_V 263 y_Co_loaded R_V) ∈ nestW := nest_in (List.mem_of_getElem? (i := 426) (by decide +kernel)) rfl
set_option maxRecDepth 100000 in
theorem m_427 : (Cond.static y_Co_loaded) ∈ GW := gw_in (List.mem_of_getElem? (i := 427) (by decide +kernel)) rfl
set_option maxRecDepth 100000 in
theorem m_428 : (Cond.code y_Co_loaded prog_3_method_15_code 2 (some .int)) ∈ GW := gw_in (List.mem_of_getElem? (i := 428) rfl) rfl
set_option maxRecDepth 100000 in
theorem m_429 : (Cond.constant R_Co 14 65535) ∈ GW := gw_in (List.mem_of_getElem? (i := 429) (by decide +kernel)) rfl
set_option maxRecDepth 100000 in
theorem m_430 : (Cond.methodLink R_V 215 y_V_store) ∈ GW := gw_in (List.mem_of_getElem? (i := 430) (by decide +kernel)) rfl
set_option maxRecDepth 100000 in
theorem m_432 : (Cond.instanceMethod y_V_store) ∈ GW := gw_in (List.mem_of_getElem? (i := 432) (by decide +kernel)) rfl
set_option maxRecDepth 100000 in
theorem m_433 : (Cond.code y_V_store prog_1_method_33_code 10 none) ∈ GW := gw_in (List.mem_of_getElem? (i := 433) rfl) rfl
set_option maxRecDepth 100000 in
theorem m_434 : (Cond.methodLinkNest R_V 266 y_Co_j R_V) ∈ nestW := nest_in (List.mem_of_getElem? (i := 434) (by decide +kernel)) rfl
set_option maxRecDepth 100000 in
theorem m_435 : (Cond.static y_Co_j) ∈ GW := gw_in (List.mem_of_getElem? (i := 435) (by decide +kernel)) rfl
set_option maxRecDepth 100000 in
theorem m_436 : (Cond.code y_Co_j prog_3_method_9_code 1 (some .int)) ∈ GW := gw_in (List.mem_of_getElem? (i := 436) rfl) rfl
set_option maxRecDepth 100000 in
theorem m_437 : (Cond.methodLink R_Co 7 y_Co_d) ∈ GW := gw_in (List.mem_of_getElem? (i := 437) (by decide +kernel)) rfl
set_option maxRecDepth 100000 in
theorem m_438 : (Cond.methodLink R_V 269 y_V_save) ∈ GW := gw_in (List.mem_of_getElem? (i := 438) (by decide +kernel)) rfl
set_option maxRecDepth 100000 in
theorem m_440 : (Cond.instanceMethod y_V_save) ∈ GW := gw_in (List.mem_of_getElem? (i := 440) (by decide +kernel)) rfl
set_option maxRecDepth 100000 in
theorem m_441 : (Cond.code y_V_save prog_1_method_25_code 3 none) ∈ GW := gw_in (List.mem_of_getElem? (i := 441) rfl) rfl
set_option maxRecDepth 100000 in
theorem m_442 : (Cond.methodLinkNest R_V 176 y_Ca_drop R_V) ∈ nestW := nest_in (List.mem_of_getElem? (i := 442) (by decide +kernel)) rfl
set_option maxRecDepth 100000 in
theorem m_444 : (Cond.instanceMethod y_Ca_drop) ∈ GW := gw_in (List.mem_of_getElem? (i := 444) (by decide +kernel)) rfl
set_option maxRecDepth 100000 in
theorem m_445 : (Cond.code y_Ca_drop prog_2_method_3_code 2 none) ∈ GW := gw_in (List.mem_of_getElem? (i := 445) rfl) rfl
set_option maxRecDepth 100000 in
theorem m_446 : (Cond.constant R_V 272 65535) ∈ GW := gw_in (List.mem_of_getElem? (i := 446) (by decide +kernel)) rfl
set_option maxRecDepth 100000 in
theorem m_447 : (Cond.methodLink R_V 218 y_V_computeWithNumber) ∈ GW := gw_in (List.mem_of_getElem? (i := 447) (by decide +kernel)) rfl
set_option maxRecDepth 100000 in
theorem m_449 : (Cond.instanceMethod y_V_computeWithNumber) ∈ GW := gw_in (List.mem_of_getElem? (i := 449) (by decide +kernel)) rfl
set_option maxRecDepth 100000 in
theorem m_450 : (Cond.code y_V_computeWithNumber prog_1_method_34_code 8 none) ∈ GW := gw_in (List.mem_of_getElem? (i := 450) rfl) rfl
set_option maxRecDepth 100000 in
theorem m_451 : (Cond.methodLinkNest R_V 273 y_Co_g R_V) ∈ nestW := nest_in (List.mem_of_getElem? (i := 451) (by decide +kernel)) rfl
set_option maxRecDepth 100000 in
theorem m_452 : (Cond.static y_Co_g) ∈ GW := gw_in (List.mem_of_getElem? (i := 452) (by decide +kernel)) rfl
set_option maxRecDepth 100000 in
theorem m_453 : (Cond.code y_Co_g prog_3_method_7_code 1 (some .int)) ∈ GW := gw_in (List.mem_of_getElem? (i := 453) rfl) rfl
set_option maxRecDepth 100000 in
theorem m_454 : (Cond.methodLinkNest R_V 276 y_Co_computed R_V) ∈ nestW := nest_in (List.mem_of_getElem? (i := 454) (by decide +kernel)) rfl
set_option maxRecDepth 100000 in
theorem m_455 : (Cond.static y_Co_computed) ∈ GW := gw_in (List.mem_of_getElem? (i := 455) (by decide +kernel)) rfl
set_option maxRecDepth 100000 in
theorem m_456 : (Cond.code y_Co_computed prog_3_method_17_code 4 (some .int)) ∈ GW := gw_in (List.mem_of_getElem? (i := 456) rfl) rfl
set_option maxRecDepth 100000 in
theorem m_457 : (Cond.methodLink R_V 221 y_V_computeWithRegister) ∈ GW := gw_in (List.mem_of_getElem? (i := 457) (by decide +kernel)) rfl
set_option maxRecDepth 100000 in
theorem m_459 : (Cond.instanceMethod y_V_computeWithRegister) ∈ GW := gw_in (List.mem_of_getElem? (i := 459) (by decide +kernel)) rfl
set_option maxRecDepth 100000 in
theorem m_460 : (Cond.code y_V_computeWithRegister prog_1_method_35_code 8 none) ∈ GW := gw_in (List.mem_of_getElem? (i := 460) rfl) rfl
set_option maxRecDepth 100000 in
theorem m_461 : (Cond.methodLink R_V 224 y_V_doNothing) ∈ GW := gw_in (List.mem_of_getElem? (i := 461) (by decide +kernel)) rfl
set_option maxRecDepth 100000 in
theorem m_463 : (Cond.instanceMethod y_V_doNothing) ∈ GW := gw_in (List.mem_of_getElem? (i := 463) (by decide +kernel)) rfl
set_option maxRecDepth 100000 in
theorem m_464 : (Cond.code y_V_doNothing prog_1_method_36_code 3 none) ∈ GW := gw_in (List.mem_of_getElem? (i := 464) rfl) rfl
set_option maxRecDepth 100000 in
theorem m_465 : (Cond.methodLink R_V 227 y_V_callOrBreak) ∈ GW := gw_in (List.mem_of_getElem? (i := 465) (by decide +kernel)) rfl
set_option maxRecDepth 100000 in
theorem m_467 : (Cond.instanceMethod y_V_callOrBreak) ∈ GW := gw_in (List.mem_of_getElem? (i := 467) (by decide +kernel)) rfl
set_option maxRecDepth 100000 in
theorem m_468 : (Cond.code y_V_callOrBreak prog_1_method_37_code 2 none) ∈ GW := gw_in (List.mem_of_getElem? (i := 468) rfl) rfl
set_option maxRecDepth 100000 in
theorem m_469 : (Cond.constant R_V 280 1048691) ∈ GW := gw_in (List.mem_of_getElem? (i := 469) (by decide +kernel)) rfl
set_option maxRecDepth 100000 in
theorem m_470 : (Cond.methodLink R_V 122 y_V_scrub) ∈ GW := gw_in (List.mem_of_getElem? (i := 470) (by decide +kernel)) rfl
set_option maxRecDepth 100000 in
theorem m_472 : (Cond.instanceMethod y_V_scrub) ∈ GW := gw_in (List.mem_of_getElem? (i := 472) (by decide +kernel)) rfl
set_option maxRecDepth 100000 in
theorem m_473 : (Cond.code y_V_scrub prog_1_method_22_code 1 none) ∈ GW := gw_in (List.mem_of_getElem? (i := 473) rfl) rfl
set_option maxRecDepth 100000 in
theorem m_503 : (Cond.fieldLink R_Mo 32 R_Mo "every" "I") ∈ GW := gw_in (List.mem_of_getElem? (i := 503) (by decide +kernel)) rfl
set_option maxRecDepth 100000 in
theorem m_504 : (Cond.fieldLink R_Mo 7 R_Mo "written" "[I") ∈ GW := gw_in (List.mem_of_getElem? (i := 504) (by decide +kernel)) rfl
set_option maxRecDepth 100000 in
theorem m_505 : (Cond.fieldLink R_Mo 13 R_Mo "wrong" "[J") ∈ GW := gw_in (List.mem_of_getElem? (i := 505) (by decide +kernel)) rfl
set_option maxRecDepth 100000 in
theorem m_506 : (Cond.fieldLink R_Mo 17 R_Mo "kept" "[I") ∈ GW := gw_in (List.mem_of_getElem? (i := 506) (by decide +kernel)) rfl
set_option maxRecDepth 100000 in
theorem m_507 : (Cond.fieldLink R_Mo 20 R_Mo "mask" "[I") ∈ GW := gw_in (List.mem_of_getElem? (i := 507) (by decide +kernel)) rfl
set_option maxRecDepth 100000 in
theorem m_508 : (Cond.fieldLink R_Mo 23 R_Mo "lines" "[J") ∈ GW := gw_in (List.mem_of_getElem? (i := 508) (by decide +kernel)) rfl
set_option maxRecDepth 100000 in
theorem m_509 : (Cond.fieldLink R_Mo 187 R_Mo "plans" "I") ∈ GW := gw_in (List.mem_of_getElem? (i := 509) (by decide +kernel)) rfl
set_option maxRecDepth 100000 in
theorem m_510 : (Cond.fieldLink R_Mo 26 R_Mo "plan" "[I") ∈ GW := gw_in (List.mem_of_getElem? (i := 510) (by decide +kernel)) rfl
set_option maxRecDepth 100000 in
theorem m_511 : (Cond.fieldLink R_Mo 190 R_Mo "cycles" "I") ∈ GW := gw_in (List.mem_of_getElem? (i := 511) (by decide +kernel)) rfl
set_option maxRecDepth 100000 in
theorem m_512 : (Cond.fieldLink R_Mo 94 R_Mo "cause" "I") ∈ GW := gw_in (List.mem_of_getElem? (i := 512) (by decide +kernel)) rfl
set_option maxRecDepth 100000 in
theorem m_513 : (Cond.fieldLink R_Mo 97 R_Mo "value" "I") ∈ GW := gw_in (List.mem_of_getElem? (i := 513) (by decide +kernel)) rfl
set_option maxRecDepth 100000 in
theorem m_514 : (Cond.fieldLink R_Mo 29 R_Mo "counts" "[I") ∈ GW := gw_in (List.mem_of_getElem? (i := 514) (by decide +kernel)) rfl
set_option maxRecDepth 100000 in
theorem m_515 : (Cond.fieldLink R_Mo 124 R_Mo "p" "I") ∈ GW := gw_in (List.mem_of_getElem? (i := 515) (by decide +kernel)) rfl
set_option maxRecDepth 100000 in
theorem m_516 : (Cond.fieldLink R_Mo 100 R_Mo "x" "I") ∈ GW := gw_in (List.mem_of_getElem? (i := 516) (by decide +kernel)) rfl
set_option maxRecDepth 100000 in
theorem m_517 : (Cond.fieldLink R_Mo 77 R_Mo "got" "I") ∈ GW := gw_in (List.mem_of_getElem? (i := 517) (by decide +kernel)) rfl
set_option maxRecDepth 100000 in
theorem m_518 : (Cond.fieldLink R_Mo 114 R_Mo "next" "I") ∈ GW := gw_in (List.mem_of_getElem? (i := 518) (by decide +kernel)) rfl
set_option maxRecDepth 100000 in
theorem m_519 : (Cond.fieldLink R_Mo 107 R_Mo "gives" "Z") ∈ GW := gw_in (List.mem_of_getElem? (i := 519) (by decide +kernel)) rfl
set_option maxRecDepth 100000 in
theorem m_520 : (Cond.fieldLink R_Mo 111 R_Mo "given" "I") ∈ GW := gw_in (List.mem_of_getElem? (i := 520) (by decide +kernel)) rfl
set_option maxRecDepth 100000 in
theorem m_562 : (Cond.methodLink R_Mo 135 y_Mo_outside) ∈ GW := gw_in (List.mem_of_getElem? (i := 562) (by decide +kernel)) rfl
set_option maxRecDepth 100000 in
theorem m_563 : (Cond.static y_Mo_outside) ∈ GW := gw_in (List.mem_of_getElem? (i := 563) (by decide +kernel)) rfl
set_option maxRecDepth 100000 in
theorem m_564 : (Cond.code y_Mo_outside prog_8_method_2_code 2 (some .boolean)) ∈ GW := gw_in (List.mem_of_getElem? (i := 564) rfl) rfl
set_option maxRecDepth 100000 in
theorem m_565 : (Cond.methodLink R_Mo 196 y_Mo_makeFaults) ∈ GW := gw_in (List.mem_of_getElem? (i := 565) (by decide +kernel)) rfl
set_option maxRecDepth 100000 in
theorem m_567 : (Cond.instanceMethod y_Mo_makeFaults) ∈ GW := gw_in (List.mem_of_getElem? (i := 567) (by decide +kernel)) rfl
set_option maxRecDepth 100000 in
theorem m_568 : (Cond.code y_Mo_makeFaults prog_8_method_40_code 4 none) ∈ GW := gw_in (List.mem_of_getElem? (i := 568) rfl) rfl
set_option maxRecDepth 100000 in
theorem m_569 : (Cond.methodLink R_Mo 193 y_Mo_change) ∈ GW := gw_in (List.mem_of_getElem? (i := 569) (by decide +kernel)) rfl
set_option maxRecDepth 100000 in
theorem m_571 : (Cond.instanceMethod y_Mo_change) ∈ GW := gw_in (List.mem_of_getElem? (i := 571) (by decide +kernel)) rfl
set_option maxRecDepth 100000 in
theorem m_572 : (Cond.code y_Mo_change prog_8_method_39_code 3 none) ∈ GW := gw_in (List.mem_of_getElem? (i := 572) rfl) rfl
set_option maxRecDepth 100000 in
theorem m_573 : (Cond.methodLink R_Mo 199 y_Mo_vote) ∈ GW := gw_in (List.mem_of_getElem? (i := 573) (by decide +kernel)) rfl
set_option maxRecDepth 100000 in
theorem m_575 : (Cond.instanceMethod y_Mo_vote) ∈ GW := gw_in (List.mem_of_getElem? (i := 575) (by decide +kernel)) rfl
set_option maxRecDepth 100000 in
theorem m_576 : (Cond.code y_Mo_vote prog_8_method_19_code 3 none) ∈ GW := gw_in (List.mem_of_getElem? (i := 576) rfl) rfl
set_option maxRecDepth 100000 in
theorem m_577 : (Cond.methodLink R_Mo 87 y_Mo_valueOf) ∈ GW := gw_in (List.mem_of_getElem? (i := 577) (by decide +kernel)) rfl
set_option maxRecDepth 100000 in
theorem m_579 : (Cond.instanceMethod y_Mo_valueOf) ∈ GW := gw_in (List.mem_of_getElem? (i := 579) (by decide +kernel)) rfl
set_option maxRecDepth 100000 in
theorem m_580 : (Cond.code y_Mo_valueOf prog_8_method_16_code 2 (some .int)) ∈ GW := gw_in (List.mem_of_getElem? (i := 580) rfl) rfl
set_option maxRecDepth 100000 in
theorem m_581 : (Cond.methodLink R_Mo 83 y_Mo_two) ∈ GW := gw_in (List.mem_of_getElem? (i := 581) (by decide +kernel)) rfl
set_option maxRecDepth 100000 in
theorem m_582 : (Cond.static y_Mo_two) ∈ GW := gw_in (List.mem_of_getElem? (i := 582) (by decide +kernel)) rfl
set_option maxRecDepth 100000 in
theorem m_583 : (Cond.code y_Mo_two prog_8_method_15_code 3 (some .int)) ∈ GW := gw_in (List.mem_of_getElem? (i := 583) rfl) rfl
set_option maxRecDepth 100000 in
theorem m_584 : (Cond.methodLink R_Mo 91 y_Mo_put) ∈ GW := gw_in (List.mem_of_getElem? (i := 584) (by decide +kernel)) rfl
set_option maxRecDepth 100000 in
theorem m_586 : (Cond.instanceMethod y_Mo_put) ∈ GW := gw_in (List.mem_of_getElem? (i := 586) (by decide +kernel)) rfl
set_option maxRecDepth 100000 in
theorem m_587 : (Cond.code y_Mo_put prog_8_method_18_code 4 none) ∈ GW := gw_in (List.mem_of_getElem? (i := 587) rfl) rfl
set_option maxRecDepth 100000 in
theorem m_588 : (Cond.methodLink R_Mo 202 y_Mo_instruct) ∈ GW := gw_in (List.mem_of_getElem? (i := 588) (by decide +kernel)) rfl
set_option maxRecDepth 100000 in
theorem m_590 : (Cond.instanceMethod y_Mo_instruct) ∈ GW := gw_in (List.mem_of_getElem? (i := 590) (by decide +kernel)) rfl
set_option maxRecDepth 100000 in
theorem m_591 : (Cond.code y_Mo_instruct prog_8_method_38_code 2 none) ∈ GW := gw_in (List.mem_of_getElem? (i := 591) rfl) rfl
set_option maxRecDepth 100000 in
theorem m_592 : (Cond.methodLink R_Mo 66 y_Mo_stop) ∈ GW := gw_in (List.mem_of_getElem? (i := 592) (by decide +kernel)) rfl
set_option maxRecDepth 100000 in
theorem m_594 : (Cond.instanceMethod y_Mo_stop) ∈ GW := gw_in (List.mem_of_getElem? (i := 594) (by decide +kernel)) rfl
set_option maxRecDepth 100000 in
theorem m_595 : (Cond.code y_Mo_stop prog_8_method_20_code 3 none) ∈ GW := gw_in (List.mem_of_getElem? (i := 595) rfl) rfl
set_option maxRecDepth 100000 in
theorem m_596 : (Cond.methodLink R_Mo 141 y_Mo_fetch) ∈ GW := gw_in (List.mem_of_getElem? (i := 596) (by decide +kernel)) rfl
set_option maxRecDepth 100000 in
theorem m_598 : (Cond.instanceMethod y_Mo_fetch) ∈ GW := gw_in (List.mem_of_getElem? (i := 598) (by decide +kernel)) rfl
set_option maxRecDepth 100000 in
theorem m_599 : (Cond.code y_Mo_fetch prog_8_method_13_code 4 (some .boolean)) ∈ GW := gw_in (List.mem_of_getElem? (i := 599) rfl) rfl
set_option maxRecDepth 100000 in
theorem m_600 : (Cond.methodLink R_Mo 59 y_Mo_holds) ∈ GW := gw_in (List.mem_of_getElem? (i := 600) (by decide +kernel)) rfl
set_option maxRecDepth 100000 in
theorem m_602 : (Cond.instanceMethod y_Mo_holds) ∈ GW := gw_in (List.mem_of_getElem? (i := 602) (by decide +kernel)) rfl
set_option maxRecDepth 100000 in
theorem m_603 : (Cond.code y_Mo_holds prog_8_method_12_code 4 (some .boolean)) ∈ GW := gw_in (List.mem_of_getElem? (i := 603) rfl) rfl
set_option maxRecDepth 100000 in
theorem m_604 : (Cond.methodLink R_Mo 44 y_Mo_isOdd) ∈ GW := gw_in (List.mem_of_getElem? (i := 604) (by decide +kernel)) rfl
set_option maxRecDepth 100000 in
theorem m_605 : (Cond.static y_Mo_isOdd) ∈ GW := gw_in (List.mem_of_getElem? (i := 605) (by decide +kernel)) rfl
set_option maxRecDepth 100000 in
theorem m_606 : (Cond.code y_Mo_isOdd prog_8_method_5_code 4 (some .boolean)) ∈ GW := gw_in (List.mem_of_getElem? (i := 606) rfl) rfl
set_option maxRecDepth 100000 in
theorem m_607 : (Cond.constantLong R_Mo 57 15) ∈ GW := gw_in (List.mem_of_getElem? (i := 607) (by decide +kernel)) rfl
set_option maxRecDepth 100000 in
theorem m_608 : (Cond.methodLink R_Mo 63 y_Mo_mend) ∈ GW := gw_in (List.mem_of_getElem? (i := 608) (by decide +kernel)) rfl
set_option maxRecDepth 100000 in
theorem m_610 : (Cond.instanceMethod y_Mo_mend) ∈ GW := gw_in (List.mem_of_getElem? (i := 610) (by decide +kernel)) rfl
set_option maxRecDepth 100000 in
theorem m_611 : (Cond.code y_Mo_mend prog_8_method_9_code 3 (some .boolean)) ∈ GW := gw_in (List.mem_of_getElem? (i := 611) rfl) rfl
set_option maxRecDepth 100000 in
theorem m_612 : (Cond.methodLink R_Mo 48 y_Mo_wrongBit) ∈ GW := gw_in (List.mem_of_getElem? (i := 612) (by decide +kernel)) rfl
set_option maxRecDepth 100000 in
theorem m_613 : (Cond.static y_Mo_wrongBit) ∈ GW := gw_in (List.mem_of_getElem? (i := 613) (by decide +kernel)) rfl
set_option maxRecDepth 100000 in
theorem m_614 : (Cond.code y_Mo_wrongBit prog_8_method_8_code 3 (some .int)) ∈ GW := gw_in (List.mem_of_getElem? (i := 614) rfl) rfl
set_option maxRecDepth 100000 in
theorem m_615 : (Cond.methodLink R_Mo 40 y_Mo_syndrome) ∈ GW := gw_in (List.mem_of_getElem? (i := 615) (by decide +kernel)) rfl
set_option maxRecDepth 100000 in
theorem m_616 : (Cond.static y_Mo_syndrome) ∈ GW := gw_in (List.mem_of_getElem? (i := 616) (by decide +kernel)) rfl
set_option maxRecDepth 100000 in
theorem m_617 : (Cond.code y_Mo_syndrome prog_8_method_4_code 4 (some .int)) ∈ GW := gw_in (List.mem_of_getElem? (i := 617) rfl) rfl
set_option maxRecDepth 100000 in
theorem m_618 : (Cond.methodLink R_Mo 70 y_Mo_dataOf) ∈ GW := gw_in (List.mem_of_getElem? (i := 618) (by decide +kernel)) rfl
set_option maxRecDepth 100000 in
theorem m_619 : (Cond.static y_Mo_dataOf) ∈ GW := gw_in (List.mem_of_getElem? (i := 619) (by decide +kernel)) rfl
set_option maxRecDepth 100000 in
theorem m_620 : (Cond.code y_Mo_dataOf prog_8_method_6_code 5 (some .int)) ∈ GW := gw_in (List.mem_of_getElem? (i := 620) rfl) rfl
set_option maxRecDepth 100000 in
theorem m_621 : (Cond.methodLink R_Mo 36 y_Mo_isData) ∈ GW := gw_in (List.mem_of_getElem? (i := 621) (by decide +kernel)) rfl
set_option maxRecDepth 100000 in
theorem m_622 : (Cond.static y_Mo_isData) ∈ GW := gw_in (List.mem_of_getElem? (i := 622) (by decide +kernel)) rfl
set_option maxRecDepth 100000 in
theorem m_623 : (Cond.code y_Mo_isData prog_8_method_3_code 1 (some .boolean)) ∈ GW := gw_in (List.mem_of_getElem? (i := 623) rfl) rfl
set_option maxRecDepth 100000 in
theorem m_624 : (Cond.methodLink R_Mo 73 y_Mo_line) ∈ GW := gw_in (List.mem_of_getElem? (i := 624) (by decide +kernel)) rfl
set_option maxRecDepth 100000 in
theorem m_625 : (Cond.static y_Mo_line) ∈ GW := gw_in (List.mem_of_getElem? (i := 625) (by decide +kernel)) rfl
set_option maxRecDepth 100000 in
theorem m_626 : (Cond.code y_Mo_line prog_8_method_11_code 4 (some .long)) ∈ GW := gw_in (List.mem_of_getElem? (i := 626) rfl) rfl
set_option maxRecDepth 100000 in
theorem m_627 : (Cond.constantLong R_Mo 51 4294967295) ∈ GW := gw_in (List.mem_of_getElem? (i := 627) (by decide +kernel)) rfl
set_option maxRecDepth 100000 in
theorem m_628 : (Cond.constantLong R_Mo 53 68719476736) ∈ GW := gw_in (List.mem_of_getElem? (i := 628) (by decide +kernel)) rfl
set_option maxRecDepth 100000 in
theorem m_629 : (Cond.constantLong R_Mo 55 137438953472) ∈ GW := gw_in (List.mem_of_getElem? (i := 629) (by decide +kernel)) rfl
set_option maxRecDepth 100000 in
theorem m_630 : (Cond.methodLink R_Mo 184 y_Mo_execute) ∈ GW := gw_in (List.mem_of_getElem? (i := 630) (by decide +kernel)) rfl
set_option maxRecDepth 100000 in
theorem m_632 : (Cond.instanceMethod y_Mo_execute) ∈ GW := gw_in (List.mem_of_getElem? (i := 632) (by decide +kernel)) rfl
set_option maxRecDepth 100000 in
theorem m_633 : (Cond.code y_Mo_execute prog_8_method_35_code 5 none) ∈ GW := gw_in (List.mem_of_getElem? (i := 633) rfl) rfl
set_option maxRecDepth 100000 in
theorem m_634 : (Cond.methodLink R_Mo 103 y_Mo_field) ∈ GW := gw_in (List.mem_of_getElem? (i := 634) (by decide +kernel)) rfl
set_option maxRecDepth 100000 in
theorem m_636 : (Cond.instanceMethod y_Mo_field) ∈ GW := gw_in (List.mem_of_getElem? (i := 636) (by decide +kernel)) rfl
set_option maxRecDepth 100000 in
theorem m_637 : (Cond.code y_Mo_field prog_8_method_21_code 3 (some .int)) ∈ GW := gw_in (List.mem_of_getElem? (i := 637) rfl) rfl
set_option maxRecDepth 100000 in
theorem m_638 : (Cond.methodLink R_Mo 154 y_Mo_operand) ∈ GW := gw_in (List.mem_of_getElem? (i := 638) (by decide +kernel)) rfl
set_option maxRecDepth 100000 in
theorem m_640 : (Cond.instanceMethod y_Mo_operand) ∈ GW := gw_in (List.mem_of_getElem? (i := 640) (by decide +kernel)) rfl
set_option maxRecDepth 100000 in
theorem m_641 : (Cond.code y_Mo_operand prog_8_method_17_code 2 (some .int)) ∈ GW := gw_in (List.mem_of_getElem? (i := 641) rfl) rfl
set_option maxRecDepth 100000 in
theorem m_642 : (Cond.methodLink R_Mo 144 y_Mo_give) ∈ GW := gw_in (List.mem_of_getElem? (i := 642) (by decide +kernel)) rfl
set_option maxRecDepth 100000 in
theorem m_644 : (Cond.instanceMethod y_Mo_give) ∈ GW := gw_in (List.mem_of_getElem? (i := 644) (by decide +kernel)) rfl
set_option maxRecDepth 100000 in
theorem m_645 : (Cond.code y_Mo_give prog_8_method_25_code 2 none) ∈ GW := gw_in (List.mem_of_getElem? (i := 645) rfl) rfl
set_option maxRecDepth 100000 in
theorem m_646 : (Cond.methodLink R_Mo 157 y_Mo_numberL) ∈ GW := gw_in (List.mem_of_getElem? (i := 646) (by decide +kernel)) rfl
set_option maxRecDepth 100000 in
theorem m_648 : (Cond.instanceMethod y_Mo_numberL) ∈ GW := gw_in (List.mem_of_getElem? (i := 648) (by decide +kernel)) rfl
set_option maxRecDepth 100000 in
theorem m_649 : (Cond.code y_Mo_numberL prog_8_method_24_code 1 (some .int)) ∈ GW := gw_in (List.mem_of_getElem? (i := 649) rfl) rfl
set_option maxRecDepth 100000 in
theorem m_650 : (Cond.methodLink R_Mo 131 y_Mo_go) ∈ GW := gw_in (List.mem_of_getElem? (i := 650) (by decide +kernel)) rfl
set_option maxRecDepth 100000 in
theorem m_652 : (Cond.instanceMethod y_Mo_go) ∈ GW := gw_in (List.mem_of_getElem? (i := 652) (by decide +kernel)) rfl
set_option maxRecDepth 100000 in
theorem m_653 : (Cond.code y_Mo_go prog_8_method_26_code 2 none) ∈ GW := gw_in (List.mem_of_getElem? (i := 653) rfl) rfl
set_option maxRecDepth 100000 in
theorem m_654 : (Cond.methodLink R_Mo 160 y_Mo_jump) ∈ GW := gw_in (List.mem_of_getElem? (i := 654) (by decide +kernel)) rfl
set_option maxRecDepth 100000 in
theorem m_656 : (Cond.instanceMethod y_Mo_jump) ∈ GW := gw_in (List.mem_of_getElem? (i := 656) (by decide +kernel)) rfl
set_option maxRecDepth 100000 in
theorem m_657 : (Cond.code y_Mo_jump prog_8_method_36_code 3 none) ∈ GW := gw_in (List.mem_of_getElem? (i := 657) rfl) rfl
set_option maxRecDepth 100000 in
theorem m_658 : (Cond.methodLink R_Mo 121 y_Mo_illegal) ∈ GW := gw_in (List.mem_of_getElem? (i := 658) (by decide +kernel)) rfl
set_option maxRecDepth 100000 in
theorem m_660 : (Cond.instanceMethod y_Mo_illegal) ∈ GW := gw_in (List.mem_of_getElem? (i := 660) (by decide +kernel)) rfl
set_option maxRecDepth 100000 in
theorem m_661 : (Cond.code y_Mo_illegal prog_8_method_27_code 1 none) ∈ GW := gw_in (List.mem_of_getElem? (i := 661) rfl) rfl
set_option maxRecDepth 100000 in
theorem m_662 : (Cond.methodLink R_Mo 163 y_Mo_branch) ∈ GW := gw_in (List.mem_of_getElem? (i := 662) (by decide +kernel)) rfl
set_option maxRecDepth 100000 in
theorem m_664 : (Cond.instanceMethod y_Mo_branch) ∈ GW := gw_in (List.mem_of_getElem? (i := 664) (by decide +kernel)) rfl
set_option maxRecDepth 100000 in
theorem m_665 : (Cond.code y_Mo_branch prog_8_method_29_code 5 none) ∈ GW := gw_in (List.mem_of_getElem? (i := 665) rfl) rfl
set_option maxRecDepth 100000 in
theorem m_666 : (Cond.methodLink R_Mo 117 y_Mo_isLess) ∈ GW := gw_in (List.mem_of_getElem? (i := 666) (by decide +kernel)) rfl
set_option maxRecDepth 100000 in
theorem m_667 : (Cond.static y_Mo_isLess) ∈ GW := gw_in (List.mem_of_getElem? (i := 667) (by decide +kernel)) rfl
set_option maxRecDepth 100000 in
theorem m_668 : (Cond.code y_Mo_isLess prog_8_method_28_code 3 (some .boolean)) ∈ GW := gw_in (List.mem_of_getElem? (i := 668) rfl) rfl
set_option maxRecDepth 100000 in
theorem m_669 : (Cond.methodLink R_Mo 127 y_Mo_numberK) ∈ GW := gw_in (List.mem_of_getElem? (i := 669) (by decide +kernel)) rfl
set_option maxRecDepth 100000 in
theorem m_671 : (Cond.instanceMethod y_Mo_numberK) ∈ GW := gw_in (List.mem_of_getElem? (i := 671) (by decide +kernel)) rfl
set_option maxRecDepth 100000 in
theorem m_672 : (Cond.code y_Mo_numberK prog_8_method_23_code 1 (some .int)) ∈ GW := gw_in (List.mem_of_getElem? (i := 672) rfl) rfl
set_option maxRecDepth 100000 in
theorem m_673 : (Cond.methodLink R_Mo 167 y_Mo_load) ∈ GW := gw_in (List.mem_of_getElem? (i := 673) (by decide +kernel)) rfl
set_option maxRecDepth 100000 in
theorem m_675 : (Cond.instanceMethod y_Mo_load) ∈ GW := gw_in (List.mem_of_getElem? (i := 675) (by decide +kernel)) rfl
set_option maxRecDepth 100000 in
theorem m_676 : (Cond.code y_Mo_load prog_8_method_31_code 6 none) ∈ GW := gw_in (List.mem_of_getElem? (i := 676) rfl) rfl
set_option maxRecDepth 100000 in
theorem m_677 : (Cond.methodLink R_Mo 138 y_Mo_reaches) ∈ GW := gw_in (List.mem_of_getElem? (i := 677) (by decide +kernel)) rfl
set_option maxRecDepth 100000 in
theorem m_679 : (Cond.instanceMethod y_Mo_reaches) ∈ GW := gw_in (List.mem_of_getElem? (i := 679) (by decide +kernel)) rfl
set_option maxRecDepth 100000 in
theorem m_680 : (Cond.code y_Mo_reaches prog_8_method_30_code 3 (some .boolean)) ∈ GW := gw_in (List.mem_of_getElem? (i := 680) rfl) rfl
set_option maxRecDepth 100000 in
theorem m_681 : (Cond.methodLink R_Mo 170 y_Mo_numberJ) ∈ GW := gw_in (List.mem_of_getElem? (i := 681) (by decide +kernel)) rfl
set_option maxRecDepth 100000 in
theorem m_683 : (Cond.instanceMethod y_Mo_numberJ) ∈ GW := gw_in (List.mem_of_getElem? (i := 683) (by decide +kernel)) rfl
set_option maxRecDepth 100000 in
theorem m_684 : (Cond.code y_Mo_numberJ prog_8_method_22_code 1 (some .int)) ∈ GW := gw_in (List.mem_of_getElem? (i := 684) rfl) rfl
set_option maxRecDepth 100000 in
theorem m_685 : (Cond.methodLink R_Mo 173 y_Mo_store) ∈ GW := gw_in (List.mem_of_getElem? (i := 685) (by decide +kernel)) rfl
set_option maxRecDepth 100000 in
theorem m_687 : (Cond.instanceMethod y_Mo_store) ∈ GW := gw_in (List.mem_of_getElem? (i := 687) (by decide +kernel)) rfl
set_option maxRecDepth 100000 in
theorem m_688 : (Cond.code y_Mo_store prog_8_method_32_code 7 none) ∈ GW := gw_in (List.mem_of_getElem? (i := 688) rfl) rfl
set_option maxRecDepth 100000 in
theorem m_689 : (Cond.constant R_Mo 147 65535) ∈ GW := gw_in (List.mem_of_getElem? (i := 689) (by decide +kernel)) rfl
set_option maxRecDepth 100000 in
theorem m_690 : (Cond.methodLink R_Mo 148 y_Mo_save) ∈ GW := gw_in (List.mem_of_getElem? (i := 690) (by decide +kernel)) rfl
set_option maxRecDepth 100000 in
theorem m_692 : (Cond.instanceMethod y_Mo_save) ∈ GW := gw_in (List.mem_of_getElem? (i := 692) (by decide +kernel)) rfl
set_option maxRecDepth 100000 in
theorem m_693 : (Cond.code y_Mo_save prog_8_method_14_code 3 none) ∈ GW := gw_in (List.mem_of_getElem? (i := 693) rfl) rfl
set_option maxRecDepth 100000 in
theorem m_694 : (Cond.methodLink R_Mo 80 y_Mo_keep) ∈ GW := gw_in (List.mem_of_getElem? (i := 694) (by decide +kernel)) rfl
set_option maxRecDepth 100000 in
theorem m_696 : (Cond.instanceMethod y_Mo_keep) ∈ GW := gw_in (List.mem_of_getElem? (i := 696) (by decide +kernel)) rfl
set_option maxRecDepth 100000 in
theorem m_697 : (Cond.code y_Mo_keep prog_8_method_10_code 3 none) ∈ GW := gw_in (List.mem_of_getElem? (i := 697) rfl) rfl
set_option maxRecDepth 100000 in
theorem m_698 : (Cond.methodLink R_Mo 176 y_Mo_reckon) ∈ GW := gw_in (List.mem_of_getElem? (i := 698) (by decide +kernel)) rfl
set_option maxRecDepth 100000 in
theorem m_700 : (Cond.instanceMethod y_Mo_reckon) ∈ GW := gw_in (List.mem_of_getElem? (i := 700) (by decide +kernel)) rfl
set_option maxRecDepth 100000 in
theorem m_701 : (Cond.code y_Mo_reckon prog_8_method_34_code 7 none) ∈ GW := gw_in (List.mem_of_getElem? (i := 701) rfl) rfl
set_option maxRecDepth 100000 in
theorem m_702 : (Cond.methodLink R_Mo 151 y_Mo_reckoned) ∈ GW := gw_in (List.mem_of_getElem? (i := 702) (by decide +kernel)) rfl
set_option maxRecDepth 100000 in
theorem m_704 : (Cond.instanceMethod y_Mo_reckoned) ∈ GW := gw_in (List.mem_of_getElem? (i := 704) (by decide +kernel)) rfl
set_option maxRecDepth 100000 in
theorem m_705 : (Cond.code y_Mo_reckoned prog_8_method_33_code 4 (some .int)) ∈ GW := gw_in (List.mem_of_getElem? (i := 705) rfl) rfl
set_option maxRecDepth 100000 in
theorem m_706 : (Cond.methodLink R_Mo 180 y_Mo_rest) ∈ GW := gw_in (List.mem_of_getElem? (i := 706) (by decide +kernel)) rfl
set_option maxRecDepth 100000 in
theorem m_708 : (Cond.instanceMethod y_Mo_rest) ∈ GW := gw_in (List.mem_of_getElem? (i := 708) (by decide +kernel)) rfl
set_option maxRecDepth 100000 in
theorem m_709 : (Cond.code y_Mo_rest prog_8_method_37_code 2 none) ∈ GW := gw_in (List.mem_of_getElem? (i := 709) rfl) rfl
set_option maxRecDepth 100000 in
theorem m_710 : (Cond.constant R_Mo 183 1048691) ∈ GW := gw_in (List.mem_of_getElem? (i := 710) (by decide +kernel)) rfl
set_option maxRecDepth 100000 in
theorem m_711 : (Cond.methodLink R_Mo 205 y_Mo_scrub) ∈ GW := gw_in (List.mem_of_getElem? (i := 711) (by decide +kernel)) rfl
set_option maxRecDepth 100000 in
theorem m_713 : (Cond.instanceMethod y_Mo_scrub) ∈ GW := gw_in (List.mem_of_getElem? (i := 713) (by decide +kernel)) rfl
set_option maxRecDepth 100000 in
theorem m_714 : (Cond.code y_Mo_scrub prog_8_method_41_code 1 none) ∈ GW := gw_in (List.mem_of_getElem? (i := 714) rfl) rfl
set_option maxRecDepth 100000 in
theorem m_731 : (Cond.methodLink R_Mo 208 y_Mo_noBit) ∈ GW := gw_in (List.mem_of_getElem? (i := 731) (by decide +kernel)) rfl
set_option maxRecDepth 100000 in
theorem m_732 : (Cond.static y_Mo_noBit) ∈ GW := gw_in (List.mem_of_getElem? (i := 732) (by decide +kernel)) rfl
set_option maxRecDepth 100000 in
theorem m_733 : (Cond.code y_Mo_noBit prog_8_method_46_code 2 (some .boolean)) ∈ GW := gw_in (List.mem_of_getElem? (i := 733) rfl) rfl
set_option maxRecDepth 100000 in
theorem m_750 : (Cond.constantLong R_Mo 211 (-1)) ∈ GW := gw_in (List.mem_of_getElem? (i := 750) (by decide +kernel)) rfl
set_option maxRecDepth 100000 in
theorem m_751 : (Cond.constantLong R_Mo 213 (-2)) ∈ GW := gw_in (List.mem_of_getElem? (i := 751) (by decide +kernel)) rfl
set_option maxRecDepth 100000 in
theorem m_756 : (Cond.methodLink R_Mo 215 y_Mo_encoded) ∈ GW := gw_in (List.mem_of_getElem? (i := 756) (by decide +kernel)) rfl
set_option maxRecDepth 100000 in
theorem m_757 : (Cond.static y_Mo_encoded) ∈ GW := gw_in (List.mem_of_getElem? (i := 757) (by decide +kernel)) rfl
set_option maxRecDepth 100000 in
theorem m_758 : (Cond.code y_Mo_encoded prog_8_method_7_code 6 (some .long)) ∈ GW := gw_in (List.mem_of_getElem? (i := 758) rfl) rfl
set_option maxRecDepth 100000 in
theorem in_V : ∀ w ∈ u_ws R_V F_V 11, w ∈ GW := by decide +kernel
set_option maxRecDepth 100000 in
theorem in_Me : ∀ w ∈ u_ws R_Me F_Me 2, w ∈ GW := by decide +kernel
set_option maxRecDepth 100000 in
theorem in_Ca : ∀ w ∈ u_ws R_Ca F_Ca 2, w ∈ GW := by decide +kernel
set_option maxRecDepth 100000 in
theorem in_Re : ∀ w ∈ u_ws R_Re F_Re 2, w ∈ GW := by decide +kernel
set_option maxRecDepth 100000 in
theorem in_Fa : ∀ w ∈ u_ws R_Fa F_Fa 4, w ∈ GW := by decide +kernel
set_option maxRecDepth 100000 in
theorem in_Mo : ∀ w ∈ u_ws R_Mo F_Mo 18, w ∈ GW := by decide +kernel
