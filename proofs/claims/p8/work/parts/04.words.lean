set_option maxRecDepth 50000 in
theorem tw_1 : Cond.selects R_RDR y_RDR_endRow y_RDR_endRow ∈ GW := List.mem_filter.mpr ⟨List.mem_of_getElem? (i := 1) rfl, rfl⟩
set_option maxRecDepth 50000 in
theorem tw_2 : Cond.selects R_RDR y_RDR_openGroup y_RDR_openGroup ∈ GW := List.mem_filter.mpr ⟨List.mem_of_getElem? (i := 2) rfl, rfl⟩
set_option maxRecDepth 50000 in
theorem tw_3 : Cond.selects R_OPG y_OPG_readName y_OPG_readName ∈ GW := List.mem_filter.mpr ⟨List.mem_of_getElem? (i := 3) rfl, rfl⟩
set_option maxRecDepth 50000 in
theorem tw_4 : Cond.selects R_OPG y_OPG_readFlags y_OPG_readFlags ∈ GW := List.mem_filter.mpr ⟨List.mem_of_getElem? (i := 4) rfl, rfl⟩
set_option maxRecDepth 50000 in
theorem tw_5 : Cond.selects R_OPG y_OPG_takeFlags y_OPG_takeFlags ∈ GW := List.mem_filter.mpr ⟨List.mem_of_getElem? (i := 5) rfl, rfl⟩
set_option maxRecDepth 50000 in
theorem tw_6 : Cond.selects R_RDR y_RDR_partDone y_RDR_partDone ∈ GW := List.mem_filter.mpr ⟨List.mem_of_getElem? (i := 6) rfl, rfl⟩
set_option maxRecDepth 50000 in
theorem tw_7 : Cond.selects R_GRP y_GRP_isNamed y_GRP_isNamed ∈ GW := List.mem_filter.mpr ⟨List.mem_of_getElem? (i := 7) rfl, rfl⟩
set_option maxRecDepth 50000 in
theorem tw_8 : Cond.selects R_RDR y_RDR_enterGroup y_RDR_enterGroup ∈ GW := List.mem_filter.mpr ⟨List.mem_of_getElem? (i := 8) rfl, rfl⟩
set_option maxRecDepth 50000 in
theorem tw_9 : Cond.selects R_RDR y_RDR_closeGroup y_RDR_closeGroup ∈ GW := List.mem_filter.mpr ⟨List.mem_of_getElem? (i := 9) rfl, rfl⟩
set_option maxRecDepth 50000 in
theorem tw_10 : Cond.selects R_RDR y_RDR_endAlternatives y_RDR_endAlternatives ∈ GW := List.mem_filter.mpr ⟨List.mem_of_getElem? (i := 10) rfl, rfl⟩
set_option maxRecDepth 50000 in
theorem tw_11 : Cond.selects R_RDR y_RDR_isOn y_RDR_isOn ∈ GW := List.mem_filter.mpr ⟨List.mem_of_getElem? (i := 11) rfl, rfl⟩
set_option maxRecDepth 50000 in
theorem tw_12 : Cond.selects R_SET y_SET_turnRound y_SET_turnRound ∈ GW := List.mem_filter.mpr ⟨List.mem_of_getElem? (i := 12) rfl, rfl⟩
set_option maxRecDepth 50000 in
theorem tw_13 : Cond.selects R_CLS y_CLS_isSetItem y_CLS_isSetItem ∈ GW := List.mem_filter.mpr ⟨List.mem_of_getElem? (i := 13) rfl, rfl⟩
set_option maxRecDepth 50000 in
theorem tw_14 : Cond.selects R_CLS y_CLS_readSetItem y_CLS_readSetItem ∈ GW := List.mem_filter.mpr ⟨List.mem_of_getElem? (i := 14) rfl, rfl⟩
set_option maxRecDepth 50000 in
theorem tw_15 : Cond.selects R_CLS y_CLS_readSetEscape y_CLS_readSetEscape ∈ GW := List.mem_filter.mpr ⟨List.mem_of_getElem? (i := 15) rfl, rfl⟩
set_option maxRecDepth 50000 in
theorem tw_16 : Cond.selects R_ESC y_ESC_found y_ESC_found ∈ GW := List.mem_filter.mpr ⟨List.mem_of_getElem? (i := 16) rfl, rfl⟩
set_option maxRecDepth 50000 in
theorem tw_17 : Cond.selects R_ESC y_ESC_readNumbered y_ESC_readNumbered ∈ GW := List.mem_filter.mpr ⟨List.mem_of_getElem? (i := 17) rfl, rfl⟩
set_option maxRecDepth 50000 in
theorem tw_18 : Cond.selects R_ESC y_ESC_foundSet y_ESC_foundSet ∈ GW := List.mem_filter.mpr ⟨List.mem_of_getElem? (i := 18) rfl, rfl⟩
set_option maxRecDepth 50000 in
theorem tw_19 : Cond.selects R_ESC y_ESC_readProperty y_ESC_readProperty ∈ GW := List.mem_filter.mpr ⟨List.mem_of_getElem? (i := 19) rfl, rfl⟩
set_option maxRecDepth 50000 in
theorem tw_20 : Cond.selects R_CLS y_CLS_refused y_CLS_refused ∈ GW := List.mem_filter.mpr ⟨List.mem_of_getElem? (i := 20) rfl, rfl⟩
set_option maxRecDepth 50000 in
theorem tw_21 : Cond.selects R_CLS y_CLS_setNamedAt y_CLS_setNamedAt ∈ GW := List.mem_filter.mpr ⟨List.mem_of_getElem? (i := 21) rfl, rfl⟩
set_option maxRecDepth 50000 in
theorem tw_22 : Cond.selects R_CLS y_CLS_readRange y_CLS_readRange ∈ GW := List.mem_filter.mpr ⟨List.mem_of_getElem? (i := 22) rfl, rfl⟩
set_option maxRecDepth 50000 in
theorem tw_23 : Cond.selects R_CLS y_CLS_readSingle y_CLS_readSingle ∈ GW := List.mem_filter.mpr ⟨List.mem_of_getElem? (i := 23) rfl, rfl⟩
set_option maxRecDepth 50000 in
theorem tw_24 : Cond.selects R_SET y_SET_addKin y_SET_addKin ∈ GW := List.mem_filter.mpr ⟨List.mem_of_getElem? (i := 24) rfl, rfl⟩
set_option maxRecDepth 50000 in
theorem tw_25 : Cond.selects R_RDR y_RDR_addClassPart y_RDR_addClassPart ∈ GW := List.mem_filter.mpr ⟨List.mem_of_getElem? (i := 25) rfl, rfl⟩
set_option maxRecDepth 50000 in
theorem tw_26 : Cond.selects R_RDR y_RDR_readEscapePart y_RDR_readEscapePart ∈ GW := List.mem_filter.mpr ⟨List.mem_of_getElem? (i := 26) rfl, rfl⟩
set_option maxRecDepth 50000 in
theorem tw_27 : Cond.selects R_RDR y_RDR_addCharacter y_RDR_addCharacter ∈ GW := List.mem_filter.mpr ⟨List.mem_of_getElem? (i := 27) rfl, rfl⟩
set_option maxRecDepth 50000 in
theorem tw_28 : Cond.selects R_RDR y_RDR_addFixedSet y_RDR_addFixedSet ∈ GW := List.mem_filter.mpr ⟨List.mem_of_getElem? (i := 28) rfl, rfl⟩
set_option maxRecDepth 50000 in
theorem tw_29 : Cond.selects R_RDR y_RDR_readAny y_RDR_readAny ∈ GW := List.mem_filter.mpr ⟨List.mem_of_getElem? (i := 29) rfl, rfl⟩
set_option maxRecDepth 50000 in
theorem tw_30 : Cond.selects R_RDR y_RDR_addAssertion y_RDR_addAssertion ∈ GW := List.mem_filter.mpr ⟨List.mem_of_getElem? (i := 30) rfl, rfl⟩
set_option maxRecDepth 50000 in
theorem tw_31 : Cond.selects R_REP y_REP_readBounds y_REP_readBounds ∈ GW := List.mem_filter.mpr ⟨List.mem_of_getElem? (i := 31) rfl, rfl⟩
set_option maxRecDepth 50000 in
theorem tw_32 : Cond.selects R_REP y_REP_readNumber y_REP_readNumber ∈ GW := List.mem_filter.mpr ⟨List.mem_of_getElem? (i := 32) rfl, rfl⟩
set_option maxRecDepth 50000 in
theorem tw_33 : Cond.selects R_RDR y_RDR_addRepeat y_RDR_addRepeat ∈ GW := List.mem_filter.mpr ⟨List.mem_of_getElem? (i := 33) rfl, rfl⟩
set_option maxRecDepth 50000 in
theorem tw_34 : Cond.selects R_RDR y_RDR_readCharacter y_RDR_readCharacter ∈ GW := List.mem_filter.mpr ⟨List.mem_of_getElem? (i := 34) rfl, rfl⟩
set_option maxRecDepth 50000 in
theorem tw_35 : Cond.selects R_MOD y_MOD_step y_MOD_step ∈ GW := List.mem_filter.mpr ⟨List.mem_of_getElem? (i := 35) rfl, rfl⟩
set_option maxRecDepth 50000 in
theorem tw_36 : Cond.selects R_MOD y_MOD_byteAt y_MOD_byteAt ∈ GW := List.mem_filter.mpr ⟨List.mem_of_getElem? (i := 36) rfl, rfl⟩
set_option maxRecDepth 50000 in
theorem tw_37 : Cond.selects R_MOD y_MOD_open y_MOD_open ∈ GW := List.mem_filter.mpr ⟨List.mem_of_getElem? (i := 37) rfl, rfl⟩
set_option maxRecDepth 50000 in
theorem tw_38 : Cond.selects R_MOD y_MOD_openNamed y_MOD_openNamed ∈ GW := List.mem_filter.mpr ⟨List.mem_of_getElem? (i := 38) rfl, rfl⟩
set_option maxRecDepth 50000 in
theorem tw_39 : Cond.selects R_MOD y_MOD_fail y_MOD_fail ∈ GW := List.mem_filter.mpr ⟨List.mem_of_getElem? (i := 39) rfl, rfl⟩
set_option maxRecDepth 50000 in
theorem tw_40 : Cond.selects R_MOD y_MOD_isNamed y_MOD_isNamed ∈ GW := List.mem_filter.mpr ⟨List.mem_of_getElem? (i := 40) rfl, rfl⟩
set_option maxRecDepth 50000 in
theorem tw_41 : Cond.selects R_MOD y_MOD_enter y_MOD_enter ∈ GW := List.mem_filter.mpr ⟨List.mem_of_getElem? (i := 41) rfl, rfl⟩
set_option maxRecDepth 50000 in
theorem tw_42 : Cond.selects R_MOD y_MOD_openFlagged y_MOD_openFlagged ∈ GW := List.mem_filter.mpr ⟨List.mem_of_getElem? (i := 42) rfl, rfl⟩
set_option maxRecDepth 50000 in
theorem tw_43 : Cond.selects R_MOD y_MOD_make y_MOD_make ∈ GW := List.mem_filter.mpr ⟨List.mem_of_getElem? (i := 43) rfl, rfl⟩
set_option maxRecDepth 50000 in
theorem tw_44 : Cond.selects R_MOD y_MOD_part y_MOD_part ∈ GW := List.mem_filter.mpr ⟨List.mem_of_getElem? (i := 44) rfl, rfl⟩
set_option maxRecDepth 50000 in
theorem tw_45 : Cond.selects R_MOD y_MOD_close y_MOD_close ∈ GW := List.mem_filter.mpr ⟨List.mem_of_getElem? (i := 45) rfl, rfl⟩
set_option maxRecDepth 50000 in
theorem tw_46 : Cond.selects R_MOD y_MOD_endAlternatives y_MOD_endAlternatives ∈ GW := List.mem_filter.mpr ⟨List.mem_of_getElem? (i := 46) rfl, rfl⟩
set_option maxRecDepth 50000 in
theorem tw_47 : Cond.selects R_MOD y_MOD_endRow y_MOD_endRow ∈ GW := List.mem_filter.mpr ⟨List.mem_of_getElem? (i := 47) rfl, rfl⟩
set_option maxRecDepth 50000 in
theorem tw_48 : Cond.selects R_MOD y_MOD_readClass y_MOD_readClass ∈ GW := List.mem_filter.mpr ⟨List.mem_of_getElem? (i := 48) rfl, rfl⟩
set_option maxRecDepth 50000 in
theorem tw_49 : Cond.selects R_MOD y_MOD_empty y_MOD_empty ∈ GW := List.mem_filter.mpr ⟨List.mem_of_getElem? (i := 49) rfl, rfl⟩
set_option maxRecDepth 50000 in
theorem tw_50 : Cond.selects R_MOD y_MOD_item y_MOD_item ∈ GW := List.mem_filter.mpr ⟨List.mem_of_getElem? (i := 50) rfl, rfl⟩
set_option maxRecDepth 50000 in
theorem tw_51 : Cond.selects R_MOD y_MOD_isName y_MOD_isName ∈ GW := List.mem_filter.mpr ⟨List.mem_of_getElem? (i := 51) rfl, rfl⟩
set_option maxRecDepth 50000 in
theorem tw_52 : Cond.selects R_MOD y_MOD_isWord y_MOD_isWord ∈ GW := List.mem_filter.mpr ⟨List.mem_of_getElem? (i := 52) rfl, rfl⟩
set_option maxRecDepth 50000 in
theorem tw_53 : Cond.selects R_MOD y_MOD_fill y_MOD_fill ∈ GW := List.mem_filter.mpr ⟨List.mem_of_getElem? (i := 53) rfl, rfl⟩
set_option maxRecDepth 50000 in
theorem tw_54 : Cond.selects R_MOD y_MOD_add y_MOD_add ∈ GW := List.mem_filter.mpr ⟨List.mem_of_getElem? (i := 54) rfl, rfl⟩
set_option maxRecDepth 50000 in
theorem tw_55 : Cond.selects R_MOD y_MOD_give y_MOD_give ∈ GW := List.mem_filter.mpr ⟨List.mem_of_getElem? (i := 55) rfl, rfl⟩
set_option maxRecDepth 50000 in
theorem tw_56 : Cond.selects R_MOD y_MOD_setAt y_MOD_setAt ∈ GW := List.mem_filter.mpr ⟨List.mem_of_getElem? (i := 56) rfl, rfl⟩
set_option maxRecDepth 50000 in
theorem tw_57 : Cond.selects R_MOD y_MOD_largeAt y_MOD_largeAt ∈ GW := List.mem_filter.mpr ⟨List.mem_of_getElem? (i := 57) rfl, rfl⟩
set_option maxRecDepth 50000 in
theorem tw_58 : Cond.selects R_MOD y_MOD_end y_MOD_end ∈ GW := List.mem_filter.mpr ⟨List.mem_of_getElem? (i := 58) rfl, rfl⟩
set_option maxRecDepth 50000 in
theorem tw_59 : Cond.selects R_MOD y_MOD_escaped y_MOD_escaped ∈ GW := List.mem_filter.mpr ⟨List.mem_of_getElem? (i := 59) rfl, rfl⟩
set_option maxRecDepth 50000 in
theorem tw_60 : Cond.selects R_MOD y_MOD_hexadecimalAt y_MOD_hexadecimalAt ∈ GW := List.mem_filter.mpr ⟨List.mem_of_getElem? (i := 60) rfl, rfl⟩
set_option maxRecDepth 50000 in
theorem tw_61 : Cond.selects R_MOD y_MOD_characterAt y_MOD_characterAt ∈ GW := List.mem_filter.mpr ⟨List.mem_of_getElem? (i := 61) rfl, rfl⟩
set_option maxRecDepth 50000 in
theorem tw_62 : Cond.selects R_MOD y_MOD_isMore y_MOD_isMore ∈ GW := List.mem_filter.mpr ⟨List.mem_of_getElem? (i := 62) rfl, rfl⟩
set_option maxRecDepth 50000 in
theorem tw_63 : Cond.selects R_MOD y_MOD_take y_MOD_take ∈ GW := List.mem_filter.mpr ⟨List.mem_of_getElem? (i := 63) rfl, rfl⟩
set_option maxRecDepth 50000 in
theorem tw_64 : Cond.selects R_MOD y_MOD_shift y_MOD_shift ∈ GW := List.mem_filter.mpr ⟨List.mem_of_getElem? (i := 64) rfl, rfl⟩
set_option maxRecDepth 50000 in
theorem tw_65 : Cond.selects R_MOD y_MOD_has y_MOD_has ∈ GW := List.mem_filter.mpr ⟨List.mem_of_getElem? (i := 65) rfl, rfl⟩
set_option maxRecDepth 50000 in
theorem tw_66 : Cond.selects R_MOD y_MOD_rangeFrom y_MOD_rangeFrom ∈ GW := List.mem_filter.mpr ⟨List.mem_of_getElem? (i := 66) rfl, rfl⟩
set_option maxRecDepth 50000 in
theorem tw_67 : Cond.selects R_MOD y_MOD_negate y_MOD_negate ∈ GW := List.mem_filter.mpr ⟨List.mem_of_getElem? (i := 67) rfl, rfl⟩
set_option maxRecDepth 50000 in
theorem tw_68 : Cond.selects R_MOD y_MOD_classNode y_MOD_classNode ∈ GW := List.mem_filter.mpr ⟨List.mem_of_getElem? (i := 68) rfl, rfl⟩
set_option maxRecDepth 50000 in
theorem tw_69 : Cond.selects R_MOD y_MOD_keep y_MOD_keep ∈ GW := List.mem_filter.mpr ⟨List.mem_of_getElem? (i := 69) rfl, rfl⟩
set_option maxRecDepth 50000 in
theorem tw_70 : Cond.selects R_MOD y_MOD_keepRange y_MOD_keepRange ∈ GW := List.mem_filter.mpr ⟨List.mem_of_getElem? (i := 70) rfl, rfl⟩
set_option maxRecDepth 50000 in
theorem tw_71 : Cond.selects R_MOD y_MOD_escape y_MOD_escape ∈ GW := List.mem_filter.mpr ⟨List.mem_of_getElem? (i := 71) rfl, rfl⟩
set_option maxRecDepth 50000 in
theorem tw_72 : Cond.selects R_MOD y_MOD_assertion y_MOD_assertion ∈ GW := List.mem_filter.mpr ⟨List.mem_of_getElem? (i := 72) rfl, rfl⟩
set_option maxRecDepth 50000 in
theorem tw_73 : Cond.selects R_MOD y_MOD_escapeOfCharacters y_MOD_escapeOfCharacters ∈ GW := List.mem_filter.mpr ⟨List.mem_of_getElem? (i := 73) rfl, rfl⟩
set_option maxRecDepth 50000 in
theorem tw_74 : Cond.selects R_MOD y_MOD_character y_MOD_character ∈ GW := List.mem_filter.mpr ⟨List.mem_of_getElem? (i := 74) rfl, rfl⟩
set_option maxRecDepth 50000 in
theorem tw_75 : Cond.selects R_MOD y_MOD_isRepeat y_MOD_isRepeat ∈ GW := List.mem_filter.mpr ⟨List.mem_of_getElem? (i := 75) rfl, rfl⟩
set_option maxRecDepth 50000 in
theorem tw_76 : Cond.selects R_MOD y_MOD_repeat y_MOD_repeat ∈ GW := List.mem_filter.mpr ⟨List.mem_of_getElem? (i := 76) rfl, rfl⟩
set_option maxRecDepth 50000 in
theorem tw_77 : Cond.selects R_MOD y_MOD_plain y_MOD_plain ∈ GW := List.mem_filter.mpr ⟨List.mem_of_getElem? (i := 77) rfl, rfl⟩
set_option maxRecDepth 50000 in
theorem tw_79 : Cond.initialized R_PN ∈ GW := List.mem_filter.mpr ⟨List.mem_of_getElem? (i := 79) rfl, rfl⟩
set_option maxRecDepth 50000 in
theorem tw_80 : Cond.initialized R_PAT ∈ GW := List.mem_filter.mpr ⟨List.mem_of_getElem? (i := 80) rfl, rfl⟩
set_option maxRecDepth 50000 in
theorem tw_81 : Cond.initialized R_MIS ∈ GW := List.mem_filter.mpr ⟨List.mem_of_getElem? (i := 81) rfl, rfl⟩
set_option maxRecDepth 50000 in
theorem tw_82 : Cond.initialized R_TRE ∈ GW := List.mem_filter.mpr ⟨List.mem_of_getElem? (i := 82) rfl, rfl⟩
set_option maxRecDepth 50000 in
theorem tw_83 : Cond.initialized R_GRP ∈ GW := List.mem_filter.mpr ⟨List.mem_of_getElem? (i := 83) rfl, rfl⟩
set_option maxRecDepth 50000 in
theorem tw_84 : Cond.initialized R_RDR ∈ GW := List.mem_filter.mpr ⟨List.mem_of_getElem? (i := 84) rfl, rfl⟩
set_option maxRecDepth 50000 in
theorem tw_85 : Cond.initialized R_OPN ∈ GW := List.mem_filter.mpr ⟨List.mem_of_getElem? (i := 85) rfl, rfl⟩
set_option maxRecDepth 50000 in
theorem tw_86 : Cond.initialized R_SET ∈ GW := List.mem_filter.mpr ⟨List.mem_of_getElem? (i := 86) rfl, rfl⟩
set_option maxRecDepth 50000 in
theorem tw_87 : Cond.initialized R_ESC ∈ GW := List.mem_filter.mpr ⟨List.mem_of_getElem? (i := 87) rfl, rfl⟩
set_option maxRecDepth 50000 in
theorem tw_88 : Cond.initialized R_CLS ∈ GW := List.mem_filter.mpr ⟨List.mem_of_getElem? (i := 88) rfl, rfl⟩
set_option maxRecDepth 50000 in
theorem tw_89 : Cond.initialized R_OPG ∈ GW := List.mem_filter.mpr ⟨List.mem_of_getElem? (i := 89) rfl, rfl⟩
set_option maxRecDepth 50000 in
theorem tw_90 : Cond.initialized R_REP ∈ GW := List.mem_filter.mpr ⟨List.mem_of_getElem? (i := 90) rfl, rfl⟩
set_option maxRecDepth 50000 in
theorem tw_91 : Cond.initialized R_MOD ∈ GW := List.mem_filter.mpr ⟨List.mem_of_getElem? (i := 91) rfl, rfl⟩
set_option maxRecDepth 50000 in
theorem tw_95 : Cond.initialized "java/lang/IllegalArgumentException" ∈ GW := List.mem_filter.mpr ⟨List.mem_of_getElem? (i := 95) rfl, rfl⟩
set_option maxRecDepth 50000 in
theorem tw_96 : Cond.initialized "java/lang/Math" ∈ GW := List.mem_filter.mpr ⟨List.mem_of_getElem? (i := 96) rfl, rfl⟩
set_option maxRecDepth 50000 in
theorem tw_97 : Cond.initialized "java/lang/System" ∈ GW := List.mem_filter.mpr ⟨List.mem_of_getElem? (i := 97) rfl, rfl⟩
set_option maxRecDepth 50000 in
theorem tw_98 : Cond.initialized R_STR ∈ GW := List.mem_filter.mpr ⟨List.mem_of_getElem? (i := 98) rfl, rfl⟩
set_option maxRecDepth 50000 in
theorem tw_99 : Cond.initialized R_SL1 ∈ GW := List.mem_filter.mpr ⟨List.mem_of_getElem? (i := 99) rfl, rfl⟩
set_option maxRecDepth 50000 in
theorem tw_100 : Cond.initialized R_PRC ∈ GW := List.mem_filter.mpr ⟨List.mem_of_getElem? (i := 100) rfl, rfl⟩
set_option maxRecDepth 50000 in
theorem tw_107 : Cond.methodLink R_PN 1 Lib.objectInit ∈ GW := List.mem_filter.mpr ⟨List.mem_of_getElem? (i := 107) rfl, rfl⟩
set_option maxRecDepth 50000 in
theorem tw_108 : Cond.instanceMethod Lib.objectInit ∈ GW := List.mem_filter.mpr ⟨List.mem_of_getElem? (i := 108) rfl, rfl⟩
set_option maxRecDepth 50000 in
theorem tw_109 : Cond.code Lib.objectInit ⟨#[0xb1]⟩ 1 none ∈ GW := List.mem_filter.mpr ⟨List.mem_of_getElem? (i := 109) rfl, rfl⟩
set_option maxRecDepth 50000 in
theorem tw_110 : Cond.classLink R_PN 7 R_PAT ∈ GW := List.mem_filter.mpr ⟨List.mem_of_getElem? (i := 110) rfl, rfl⟩
set_option maxRecDepth 50000 in
theorem tw_111 : Cond.instantiable R_PAT 2 ∈ GW := List.mem_filter.mpr ⟨List.mem_of_getElem? (i := 111) rfl, rfl⟩
set_option maxRecDepth 50000 in
theorem tn_112 : Cond.methodLinkNest R_PN 9 y_PAT_init "PatternNodes" ∈ NW := List.mem_filter.mpr ⟨List.mem_of_getElem? (i := 112) rfl, rfl⟩
set_option maxRecDepth 50000 in
theorem tw_113 : Cond.instanceMethod y_PAT_init ∈ GW := List.mem_filter.mpr ⟨List.mem_of_getElem? (i := 113) rfl, rfl⟩
set_option maxRecDepth 50000 in
theorem tw_114 : Cond.code y_PAT_init b_PAT_init 1 none ∈ GW := List.mem_filter.mpr ⟨List.mem_of_getElem? (i := 114) rfl, rfl⟩
set_option maxRecDepth 50000 in
theorem tw_115 : Cond.methodLink R_PAT 3 Lib.objectInit ∈ GW := List.mem_filter.mpr ⟨List.mem_of_getElem? (i := 115) rfl, rfl⟩
set_option maxRecDepth 50000 in
theorem tw_116 : Cond.fieldLink R_PAT 9 "PatternNodes$Pattern" "bytes" "[I" ∈ GW := List.mem_filter.mpr ⟨List.mem_of_getElem? (i := 116) rfl, rfl⟩
set_option maxRecDepth 50000 in
theorem tw_117 : Cond.fieldLink R_PAT 15 "PatternNodes$Pattern" "length" "I" ∈ GW := List.mem_filter.mpr ⟨List.mem_of_getElem? (i := 117) rfl, rfl⟩
set_option maxRecDepth 50000 in
theorem tn_118 : Cond.fieldLinkNest R_CLS 42 "PatternNodes$Pattern" "length" "I" "PatternNodes" ∈ NW := List.mem_filter.mpr ⟨List.mem_of_getElem? (i := 118) rfl, rfl⟩
set_option maxRecDepth 50000 in
theorem tn_119 : Cond.fieldLinkNest R_RDR 101 "PatternNodes$Pattern" "length" "I" "PatternNodes" ∈ NW := List.mem_filter.mpr ⟨List.mem_of_getElem? (i := 119) rfl, rfl⟩
set_option maxRecDepth 50000 in
theorem tn_120 : Cond.fieldLinkNest R_PN 91 "PatternNodes$Pattern" "length" "I" "PatternNodes" ∈ NW := List.mem_filter.mpr ⟨List.mem_of_getElem? (i := 120) rfl, rfl⟩
set_option maxRecDepth 50000 in
theorem tw_126 : Cond.arrayClass .int ∈ GW := List.mem_filter.mpr ⟨List.mem_of_getElem? (i := 126) rfl, rfl⟩
set_option maxRecDepth 50000 in
theorem tw_127 : Cond.classLink R_PN 16 R_MIS ∈ GW := List.mem_filter.mpr ⟨List.mem_of_getElem? (i := 127) rfl, rfl⟩
set_option maxRecDepth 50000 in
theorem tw_128 : Cond.instantiable R_MIS 2 ∈ GW := List.mem_filter.mpr ⟨List.mem_of_getElem? (i := 128) rfl, rfl⟩
set_option maxRecDepth 50000 in
theorem tn_129 : Cond.methodLinkNest R_PN 18 y_MIS_init "PatternNodes" ∈ NW := List.mem_filter.mpr ⟨List.mem_of_getElem? (i := 129) rfl, rfl⟩
set_option maxRecDepth 50000 in
theorem tw_130 : Cond.instanceMethod y_MIS_init ∈ GW := List.mem_filter.mpr ⟨List.mem_of_getElem? (i := 130) rfl, rfl⟩
set_option maxRecDepth 50000 in
theorem tw_131 : Cond.code y_MIS_init b_MIS_init 1 none ∈ GW := List.mem_filter.mpr ⟨List.mem_of_getElem? (i := 131) rfl, rfl⟩
set_option maxRecDepth 50000 in
theorem tw_132 : Cond.methodLink R_MIS 3 Lib.objectInit ∈ GW := List.mem_filter.mpr ⟨List.mem_of_getElem? (i := 132) rfl, rfl⟩
set_option maxRecDepth 50000 in
theorem tw_133 : Cond.fieldLink R_MIS 9 "PatternNodes$Mistake" "number" "I" ∈ GW := List.mem_filter.mpr ⟨List.mem_of_getElem? (i := 133) rfl, rfl⟩
set_option maxRecDepth 50000 in
theorem tn_134 : Cond.fieldLinkNest R_RDR 98 "PatternNodes$Mistake" "number" "I" "PatternNodes" ∈ NW := List.mem_filter.mpr ⟨List.mem_of_getElem? (i := 134) rfl, rfl⟩
set_option maxRecDepth 50000 in
theorem tn_135 : Cond.fieldLinkNest R_PN 74 "PatternNodes$Mistake" "number" "I" "PatternNodes" ∈ NW := List.mem_filter.mpr ⟨List.mem_of_getElem? (i := 135) rfl, rfl⟩
set_option maxRecDepth 50000 in
theorem tw_136 : Cond.fieldLink R_MIS 15 "PatternNodes$Mistake" "place" "I" ∈ GW := List.mem_filter.mpr ⟨List.mem_of_getElem? (i := 136) rfl, rfl⟩
set_option maxRecDepth 50000 in
theorem tn_137 : Cond.fieldLinkNest R_PN 85 "PatternNodes$Mistake" "place" "I" "PatternNodes" ∈ NW := List.mem_filter.mpr ⟨List.mem_of_getElem? (i := 137) rfl, rfl⟩
set_option maxRecDepth 50000 in
theorem tw_143 : Cond.classLink R_PN 23 R_TRE ∈ GW := List.mem_filter.mpr ⟨List.mem_of_getElem? (i := 143) rfl, rfl⟩
set_option maxRecDepth 50000 in
theorem tw_144 : Cond.instantiable R_TRE 13 ∈ GW := List.mem_filter.mpr ⟨List.mem_of_getElem? (i := 144) rfl, rfl⟩
set_option maxRecDepth 50000 in
theorem tn_145 : Cond.methodLinkNest R_PN 25 y_TRE_init "PatternNodes" ∈ NW := List.mem_filter.mpr ⟨List.mem_of_getElem? (i := 145) rfl, rfl⟩
set_option maxRecDepth 50000 in
theorem tw_146 : Cond.instanceMethod y_TRE_init ∈ GW := List.mem_filter.mpr ⟨List.mem_of_getElem? (i := 146) rfl, rfl⟩
set_option maxRecDepth 50000 in
theorem tw_147 : Cond.code y_TRE_init b_TRE_init 1 none ∈ GW := List.mem_filter.mpr ⟨List.mem_of_getElem? (i := 147) rfl, rfl⟩
set_option maxRecDepth 50000 in
theorem tw_148 : Cond.methodLink R_TRE 3 Lib.objectInit ∈ GW := List.mem_filter.mpr ⟨List.mem_of_getElem? (i := 148) rfl, rfl⟩
set_option maxRecDepth 50000 in
theorem tw_149 : Cond.fieldLink R_TRE 11 "PatternNodes$Tree" "kinds" "[I" ∈ GW := List.mem_filter.mpr ⟨List.mem_of_getElem? (i := 149) rfl, rfl⟩
set_option maxRecDepth 50000 in
theorem tw_150 : Cond.fieldLink R_TRE 15 "PatternNodes$Tree" "values" "[I" ∈ GW := List.mem_filter.mpr ⟨List.mem_of_getElem? (i := 150) rfl, rfl⟩
set_option maxRecDepth 50000 in
theorem tw_151 : Cond.fieldLink R_TRE 18 "PatternNodes$Tree" "mosts" "[I" ∈ GW := List.mem_filter.mpr ⟨List.mem_of_getElem? (i := 151) rfl, rfl⟩
set_option maxRecDepth 50000 in
theorem tw_152 : Cond.fieldLink R_TRE 21 "PatternNodes$Tree" "owners" "[I" ∈ GW := List.mem_filter.mpr ⟨List.mem_of_getElem? (i := 152) rfl, rfl⟩
set_option maxRecDepth 50000 in
theorem tw_153 : Cond.fieldLink R_TRE 24 "PatternNodes$Tree" "sizes" "[I" ∈ GW := List.mem_filter.mpr ⟨List.mem_of_getElem? (i := 153) rfl, rfl⟩
set_option maxRecDepth 50000 in
theorem tw_154 : Cond.fieldLink R_TRE 27 "PatternNodes$Tree" "firstRanges" "[I" ∈ GW := List.mem_filter.mpr ⟨List.mem_of_getElem? (i := 154) rfl, rfl⟩
set_option maxRecDepth 50000 in
theorem tw_155 : Cond.fieldLink R_TRE 30 "PatternNodes$Tree" "rangeCounts" "[I" ∈ GW := List.mem_filter.mpr ⟨List.mem_of_getElem? (i := 155) rfl, rfl⟩
set_option maxRecDepth 50000 in
theorem tw_156 : Cond.fieldLink R_TRE 33 "PatternNodes$Tree" "begins" "[I" ∈ GW := List.mem_filter.mpr ⟨List.mem_of_getElem? (i := 156) rfl, rfl⟩
set_option maxRecDepth 50000 in
theorem tw_157 : Cond.fieldLink R_TRE 36 "PatternNodes$Tree" "ends" "[I" ∈ GW := List.mem_filter.mpr ⟨List.mem_of_getElem? (i := 157) rfl, rfl⟩
set_option maxRecDepth 50000 in
theorem tw_158 : Cond.fieldLink R_TRE 39 "PatternNodes$Tree" "waiting" "[I" ∈ GW := List.mem_filter.mpr ⟨List.mem_of_getElem? (i := 158) rfl, rfl⟩
set_option maxRecDepth 50000 in
theorem tw_159 : Cond.fieldLink R_TRE 42 "PatternNodes$Tree" "nodes" "I" ∈ GW := List.mem_filter.mpr ⟨List.mem_of_getElem? (i := 159) rfl, rfl⟩
set_option maxRecDepth 50000 in
theorem tn_160 : Cond.fieldLinkNest R_PN 88 "PatternNodes$Tree" "nodes" "I" "PatternNodes" ∈ NW := List.mem_filter.mpr ⟨List.mem_of_getElem? (i := 160) rfl, rfl⟩
set_option maxRecDepth 50000 in
theorem tw_161 : Cond.fieldLink R_TRE 46 "PatternNodes$Tree" "ranges" "I" ∈ GW := List.mem_filter.mpr ⟨List.mem_of_getElem? (i := 161) rfl, rfl⟩
set_option maxRecDepth 50000 in
theorem tw_162 : Cond.fieldLink R_TRE 49 "PatternNodes$Tree" "waits" "I" ∈ GW := List.mem_filter.mpr ⟨List.mem_of_getElem? (i := 162) rfl, rfl⟩
set_option maxRecDepth 50000 in
theorem tw_190 : Cond.classLink R_PN 30 R_GRP ∈ GW := List.mem_filter.mpr ⟨List.mem_of_getElem? (i := 190) rfl, rfl⟩
set_option maxRecDepth 50000 in
theorem tw_191 : Cond.instantiable R_GRP 3 ∈ GW := List.mem_filter.mpr ⟨List.mem_of_getElem? (i := 191) rfl, rfl⟩
set_option maxRecDepth 50000 in
theorem tn_192 : Cond.methodLinkNest R_PN 32 y_GRP_init "PatternNodes" ∈ NW := List.mem_filter.mpr ⟨List.mem_of_getElem? (i := 192) rfl, rfl⟩
set_option maxRecDepth 50000 in
theorem tw_193 : Cond.instanceMethod y_GRP_init ∈ GW := List.mem_filter.mpr ⟨List.mem_of_getElem? (i := 193) rfl, rfl⟩
set_option maxRecDepth 50000 in
theorem tw_194 : Cond.code y_GRP_init b_GRP_init 1 none ∈ GW := List.mem_filter.mpr ⟨List.mem_of_getElem? (i := 194) rfl, rfl⟩
set_option maxRecDepth 50000 in
theorem tw_195 : Cond.methodLink R_GRP 3 Lib.objectInit ∈ GW := List.mem_filter.mpr ⟨List.mem_of_getElem? (i := 195) rfl, rfl⟩
set_option maxRecDepth 50000 in
theorem tw_196 : Cond.fieldLink R_GRP 9 "PatternNodes$NumberedGroups" "lengths" "[I" ∈ GW := List.mem_filter.mpr ⟨List.mem_of_getElem? (i := 196) rfl, rfl⟩
set_option maxRecDepth 50000 in
theorem tw_197 : Cond.fieldLink R_GRP 15 "PatternNodes$NumberedGroups" "letters" "[I" ∈ GW := List.mem_filter.mpr ⟨List.mem_of_getElem? (i := 197) rfl, rfl⟩
set_option maxRecDepth 50000 in
theorem tw_198 : Cond.fieldLink R_GRP 18 "PatternNodes$NumberedGroups" "howMany" "I" ∈ GW := List.mem_filter.mpr ⟨List.mem_of_getElem? (i := 198) rfl, rfl⟩
set_option maxRecDepth 50000 in
theorem tn_199 : Cond.fieldLinkNest R_PN 82 "PatternNodes$NumberedGroups" "howMany" "I" "PatternNodes" ∈ NW := List.mem_filter.mpr ⟨List.mem_of_getElem? (i := 199) rfl, rfl⟩
set_option maxRecDepth 50000 in
theorem tw_207 : Cond.classLink R_PN 37 R_RDR ∈ GW := List.mem_filter.mpr ⟨List.mem_of_getElem? (i := 207) rfl, rfl⟩
set_option maxRecDepth 50000 in
theorem tw_208 : Cond.instantiable R_RDR 13 ∈ GW := List.mem_filter.mpr ⟨List.mem_of_getElem? (i := 208) rfl, rfl⟩
set_option maxRecDepth 50000 in
theorem tw_209 : Cond.methodLink R_PN 39 y_RDR_init ∈ GW := List.mem_filter.mpr ⟨List.mem_of_getElem? (i := 209) rfl, rfl⟩
set_option maxRecDepth 50000 in
theorem tw_210 : Cond.instanceMethod y_RDR_init ∈ GW := List.mem_filter.mpr ⟨List.mem_of_getElem? (i := 210) rfl, rfl⟩
set_option maxRecDepth 50000 in
theorem tw_211 : Cond.code y_RDR_init b_RDR_init 5 none ∈ GW := List.mem_filter.mpr ⟨List.mem_of_getElem? (i := 211) rfl, rfl⟩
set_option maxRecDepth 50000 in
theorem tw_212 : Cond.methodLink R_RDR 3 Lib.objectInit ∈ GW := List.mem_filter.mpr ⟨List.mem_of_getElem? (i := 212) rfl, rfl⟩
set_option maxRecDepth 50000 in
theorem tw_213 : Cond.classLink R_RDR 9 R_OPN ∈ GW := List.mem_filter.mpr ⟨List.mem_of_getElem? (i := 213) rfl, rfl⟩
set_option maxRecDepth 50000 in
theorem tw_214 : Cond.instantiable R_OPN 6 ∈ GW := List.mem_filter.mpr ⟨List.mem_of_getElem? (i := 214) rfl, rfl⟩
set_option maxRecDepth 50000 in
theorem tn_215 : Cond.methodLinkNest R_RDR 11 y_OPN_init "PatternNodes" ∈ NW := List.mem_filter.mpr ⟨List.mem_of_getElem? (i := 215) rfl, rfl⟩
set_option maxRecDepth 50000 in
theorem tw_216 : Cond.instanceMethod y_OPN_init ∈ GW := List.mem_filter.mpr ⟨List.mem_of_getElem? (i := 216) rfl, rfl⟩
set_option maxRecDepth 50000 in
theorem tw_217 : Cond.code y_OPN_init b_OPN_init 1 none ∈ GW := List.mem_filter.mpr ⟨List.mem_of_getElem? (i := 217) rfl, rfl⟩
set_option maxRecDepth 50000 in
theorem tw_218 : Cond.methodLink R_OPN 3 Lib.objectInit ∈ GW := List.mem_filter.mpr ⟨List.mem_of_getElem? (i := 218) rfl, rfl⟩
set_option maxRecDepth 50000 in
theorem tw_219 : Cond.fieldLink R_OPN 9 "PatternNodes$OpenGroups" "places" "[I" ∈ GW := List.mem_filter.mpr ⟨List.mem_of_getElem? (i := 219) rfl, rfl⟩
set_option maxRecDepth 50000 in
theorem tn_220 : Cond.fieldLinkNest R_RDR 109 "PatternNodes$OpenGroups" "places" "[I" "PatternNodes" ∈ NW := List.mem_filter.mpr ⟨List.mem_of_getElem? (i := 220) rfl, rfl⟩
set_option maxRecDepth 50000 in
theorem tw_221 : Cond.fieldLink R_OPN 15 "PatternNodes$OpenGroups" "numbers" "[I" ∈ GW := List.mem_filter.mpr ⟨List.mem_of_getElem? (i := 221) rfl, rfl⟩
set_option maxRecDepth 50000 in
theorem tn_222 : Cond.fieldLinkNest R_RDR 222 "PatternNodes$OpenGroups" "numbers" "[I" "PatternNodes" ∈ NW := List.mem_filter.mpr ⟨List.mem_of_getElem? (i := 222) rfl, rfl⟩
set_option maxRecDepth 50000 in
theorem tw_223 : Cond.fieldLink R_OPN 18 "PatternNodes$OpenGroups" "flagsAround" "[I" ∈ GW := List.mem_filter.mpr ⟨List.mem_of_getElem? (i := 223) rfl, rfl⟩
set_option maxRecDepth 50000 in
theorem tn_224 : Cond.fieldLinkNest R_RDR 225 "PatternNodes$OpenGroups" "flagsAround" "[I" "PatternNodes" ∈ NW := List.mem_filter.mpr ⟨List.mem_of_getElem? (i := 224) rfl, rfl⟩
set_option maxRecDepth 50000 in
theorem tw_225 : Cond.fieldLink R_OPN 21 "PatternNodes$OpenGroups" "rows" "[I" ∈ GW := List.mem_filter.mpr ⟨List.mem_of_getElem? (i := 225) rfl, rfl⟩
set_option maxRecDepth 50000 in
theorem tn_226 : Cond.fieldLinkNest R_RDR 173 "PatternNodes$OpenGroups" "rows" "[I" "PatternNodes" ∈ NW := List.mem_filter.mpr ⟨List.mem_of_getElem? (i := 226) rfl, rfl⟩
set_option maxRecDepth 50000 in
theorem tw_227 : Cond.fieldLink R_OPN 24 "PatternNodes$OpenGroups" "parts" "[I" ∈ GW := List.mem_filter.mpr ⟨List.mem_of_getElem? (i := 227) rfl, rfl⟩
set_option maxRecDepth 50000 in
theorem tn_228 : Cond.fieldLinkNest R_RDR 163 "PatternNodes$OpenGroups" "parts" "[I" "PatternNodes" ∈ NW := List.mem_filter.mpr ⟨List.mem_of_getElem? (i := 228) rfl, rfl⟩
set_option maxRecDepth 50000 in
theorem tw_229 : Cond.fieldLink R_OPN 27 "PatternNodes$OpenGroups" "depth" "I" ∈ GW := List.mem_filter.mpr ⟨List.mem_of_getElem? (i := 229) rfl, rfl⟩
set_option maxRecDepth 50000 in
theorem tn_230 : Cond.fieldLinkNest R_RDR 106 "PatternNodes$OpenGroups" "depth" "I" "PatternNodes" ∈ NW := List.mem_filter.mpr ⟨List.mem_of_getElem? (i := 230) rfl, rfl⟩
set_option maxRecDepth 50000 in
theorem tw_244 : Cond.classLink R_RDR 18 R_SET ∈ GW := List.mem_filter.mpr ⟨List.mem_of_getElem? (i := 244) rfl, rfl⟩
set_option maxRecDepth 50000 in
theorem tw_245 : Cond.instantiable R_SET 3 ∈ GW := List.mem_filter.mpr ⟨List.mem_of_getElem? (i := 245) rfl, rfl⟩
set_option maxRecDepth 50000 in
theorem tn_246 : Cond.methodLinkNest R_RDR 20 y_SET_init "PatternNodes" ∈ NW := List.mem_filter.mpr ⟨List.mem_of_getElem? (i := 246) rfl, rfl⟩
set_option maxRecDepth 50000 in
theorem tw_247 : Cond.instanceMethod y_SET_init ∈ GW := List.mem_filter.mpr ⟨List.mem_of_getElem? (i := 247) rfl, rfl⟩
set_option maxRecDepth 50000 in
theorem tw_248 : Cond.code y_SET_init b_SET_init 1 none ∈ GW := List.mem_filter.mpr ⟨List.mem_of_getElem? (i := 248) rfl, rfl⟩
set_option maxRecDepth 50000 in
theorem tw_249 : Cond.methodLink R_SET 3 Lib.objectInit ∈ GW := List.mem_filter.mpr ⟨List.mem_of_getElem? (i := 249) rfl, rfl⟩
set_option maxRecDepth 50000 in
theorem tw_250 : Cond.fieldLink R_SET 11 "PatternNodes$CharacterSet" "begins" "[I" ∈ GW := List.mem_filter.mpr ⟨List.mem_of_getElem? (i := 250) rfl, rfl⟩
set_option maxRecDepth 50000 in
theorem tn_251 : Cond.fieldLinkNest R_TRE 72 "PatternNodes$CharacterSet" "begins" "[I" "PatternNodes" ∈ NW := List.mem_filter.mpr ⟨List.mem_of_getElem? (i := 251) rfl, rfl⟩
set_option maxRecDepth 50000 in
theorem tw_252 : Cond.fieldLink R_SET 15 "PatternNodes$CharacterSet" "ends" "[I" ∈ GW := List.mem_filter.mpr ⟨List.mem_of_getElem? (i := 252) rfl, rfl⟩
set_option maxRecDepth 50000 in
theorem tn_253 : Cond.fieldLinkNest R_TRE 79 "PatternNodes$CharacterSet" "ends" "[I" "PatternNodes" ∈ NW := List.mem_filter.mpr ⟨List.mem_of_getElem? (i := 253) rfl, rfl⟩
set_option maxRecDepth 50000 in
theorem tw_254 : Cond.fieldLink R_SET 18 "PatternNodes$CharacterSet" "pieces" "I" ∈ GW := List.mem_filter.mpr ⟨List.mem_of_getElem? (i := 254) rfl, rfl⟩
set_option maxRecDepth 50000 in
theorem tn_255 : Cond.fieldLinkNest R_TRE 63 "PatternNodes$CharacterSet" "pieces" "I" "PatternNodes" ∈ NW := List.mem_filter.mpr ⟨List.mem_of_getElem? (i := 255) rfl, rfl⟩
set_option maxRecDepth 50000 in
theorem tw_263 : Cond.classLink R_RDR 52 R_ESC ∈ GW := List.mem_filter.mpr ⟨List.mem_of_getElem? (i := 263) rfl, rfl⟩
set_option maxRecDepth 50000 in
theorem tw_264 : Cond.instantiable R_ESC 6 ∈ GW := List.mem_filter.mpr ⟨List.mem_of_getElem? (i := 264) rfl, rfl⟩
set_option maxRecDepth 50000 in
theorem tw_265 : Cond.methodLink R_RDR 54 y_ESC_init ∈ GW := List.mem_filter.mpr ⟨List.mem_of_getElem? (i := 265) rfl, rfl⟩
set_option maxRecDepth 50000 in
theorem tw_266 : Cond.instanceMethod y_ESC_init ∈ GW := List.mem_filter.mpr ⟨List.mem_of_getElem? (i := 266) rfl, rfl⟩
set_option maxRecDepth 50000 in
theorem tw_267 : Cond.code y_ESC_init b_ESC_init 2 none ∈ GW := List.mem_filter.mpr ⟨List.mem_of_getElem? (i := 267) rfl, rfl⟩
set_option maxRecDepth 50000 in
theorem tw_268 : Cond.methodLink R_ESC 3 Lib.objectInit ∈ GW := List.mem_filter.mpr ⟨List.mem_of_getElem? (i := 268) rfl, rfl⟩
set_option maxRecDepth 50000 in
theorem tn_269 : Cond.fieldLinkNest R_ESC 18 "PatternNodes" "NO_SET" "[I" "PatternNodes" ∈ NW := List.mem_filter.mpr ⟨List.mem_of_getElem? (i := 269) rfl, rfl⟩
set_option maxRecDepth 50000 in
theorem tw_271 : Cond.fieldLink R_ESC 32 "PatternNodes$EscapeReader" "pattern" "LPatternNodes$Pattern;" ∈ GW := List.mem_filter.mpr ⟨List.mem_of_getElem? (i := 271) rfl, rfl⟩
set_option maxRecDepth 50000 in
theorem tw_272 : Cond.fieldLink R_ESC 9 "PatternNodes$EscapeReader" "kind" "I" ∈ GW := List.mem_filter.mpr ⟨List.mem_of_getElem? (i := 272) rfl, rfl⟩
set_option maxRecDepth 50000 in
theorem tn_273 : Cond.fieldLinkNest R_CLS 146 "PatternNodes$EscapeReader" "kind" "I" "PatternNodes" ∈ NW := List.mem_filter.mpr ⟨List.mem_of_getElem? (i := 273) rfl, rfl⟩
set_option maxRecDepth 50000 in
theorem tn_274 : Cond.fieldLinkNest R_RDR 238 "PatternNodes$EscapeReader" "kind" "I" "PatternNodes" ∈ NW := List.mem_filter.mpr ⟨List.mem_of_getElem? (i := 274) rfl, rfl⟩
set_option maxRecDepth 50000 in
theorem tw_275 : Cond.fieldLink R_ESC 15 "PatternNodes$EscapeReader" "value" "I" ∈ GW := List.mem_filter.mpr ⟨List.mem_of_getElem? (i := 275) rfl, rfl⟩
set_option maxRecDepth 50000 in
theorem tn_276 : Cond.fieldLinkNest R_CLS 149 "PatternNodes$EscapeReader" "value" "I" "PatternNodes" ∈ NW := List.mem_filter.mpr ⟨List.mem_of_getElem? (i := 276) rfl, rfl⟩
set_option maxRecDepth 50000 in
theorem tn_277 : Cond.fieldLinkNest R_RDR 241 "PatternNodes$EscapeReader" "value" "I" "PatternNodes" ∈ NW := List.mem_filter.mpr ⟨List.mem_of_getElem? (i := 277) rfl, rfl⟩
set_option maxRecDepth 50000 in
theorem tw_278 : Cond.fieldLink R_ESC 22 "PatternNodes$EscapeReader" "set" "[I" ∈ GW := List.mem_filter.mpr ⟨List.mem_of_getElem? (i := 278) rfl, rfl⟩
set_option maxRecDepth 50000 in
theorem tn_279 : Cond.fieldLinkNest R_CLS 83 "PatternNodes$EscapeReader" "set" "[I" "PatternNodes" ∈ NW := List.mem_filter.mpr ⟨List.mem_of_getElem? (i := 279) rfl, rfl⟩
set_option maxRecDepth 50000 in
theorem tn_280 : Cond.fieldLinkNest R_RDR 247 "PatternNodes$EscapeReader" "set" "[I" "PatternNodes" ∈ NW := List.mem_filter.mpr ⟨List.mem_of_getElem? (i := 280) rfl, rfl⟩
set_option maxRecDepth 50000 in
theorem tw_281 : Cond.fieldLink R_ESC 25 "PatternNodes$EscapeReader" "others" "Z" ∈ GW := List.mem_filter.mpr ⟨List.mem_of_getElem? (i := 281) rfl, rfl⟩
set_option maxRecDepth 50000 in
theorem tn_282 : Cond.fieldLinkNest R_CLS 86 "PatternNodes$EscapeReader" "others" "Z" "PatternNodes" ∈ NW := List.mem_filter.mpr ⟨List.mem_of_getElem? (i := 282) rfl, rfl⟩
set_option maxRecDepth 50000 in
theorem tn_283 : Cond.fieldLinkNest R_RDR 249 "PatternNodes$EscapeReader" "others" "Z" "PatternNodes" ∈ NW := List.mem_filter.mpr ⟨List.mem_of_getElem? (i := 283) rfl, rfl⟩
set_option maxRecDepth 50000 in
theorem tw_284 : Cond.fieldLink R_ESC 29 "PatternNodes$EscapeReader" "after" "I" ∈ GW := List.mem_filter.mpr ⟨List.mem_of_getElem? (i := 284) rfl, rfl⟩
set_option maxRecDepth 50000 in
theorem tn_285 : Cond.fieldLinkNest R_CLS 90 "PatternNodes$EscapeReader" "after" "I" "PatternNodes" ∈ NW := List.mem_filter.mpr ⟨List.mem_of_getElem? (i := 285) rfl, rfl⟩
set_option maxRecDepth 50000 in
theorem tn_286 : Cond.fieldLinkNest R_RDR 256 "PatternNodes$EscapeReader" "after" "I" "PatternNodes" ∈ NW := List.mem_filter.mpr ⟨List.mem_of_getElem? (i := 286) rfl, rfl⟩
set_option maxRecDepth 50000 in
theorem tw_300 : Cond.classLink R_RDR 61 R_CLS ∈ GW := List.mem_filter.mpr ⟨List.mem_of_getElem? (i := 300) rfl, rfl⟩
set_option maxRecDepth 50000 in
theorem tw_301 : Cond.instantiable R_CLS 5 ∈ GW := List.mem_filter.mpr ⟨List.mem_of_getElem? (i := 301) rfl, rfl⟩
set_option maxRecDepth 50000 in
theorem tw_302 : Cond.methodLink R_RDR 63 y_CLS_init ∈ GW := List.mem_filter.mpr ⟨List.mem_of_getElem? (i := 302) rfl, rfl⟩
set_option maxRecDepth 50000 in
theorem tw_303 : Cond.instanceMethod y_CLS_init ∈ GW := List.mem_filter.mpr ⟨List.mem_of_getElem? (i := 303) rfl, rfl⟩
set_option maxRecDepth 50000 in
theorem tw_304 : Cond.code y_CLS_init b_CLS_init 5 none ∈ GW := List.mem_filter.mpr ⟨List.mem_of_getElem? (i := 304) rfl, rfl⟩
set_option maxRecDepth 50000 in
theorem tw_305 : Cond.methodLink R_CLS 3 Lib.objectInit ∈ GW := List.mem_filter.mpr ⟨List.mem_of_getElem? (i := 305) rfl, rfl⟩
set_option maxRecDepth 50000 in
theorem tw_306 : Cond.fieldLink R_CLS 15 "PatternNodes$ClassReader" "pattern" "LPatternNodes$Pattern;" ∈ GW := List.mem_filter.mpr ⟨List.mem_of_getElem? (i := 306) rfl, rfl⟩
set_option maxRecDepth 50000 in
theorem tw_307 : Cond.fieldLink R_CLS 19 "PatternNodes$ClassReader" "mistake" "LPatternNodes$Mistake;" ∈ GW := List.mem_filter.mpr ⟨List.mem_of_getElem? (i := 307) rfl, rfl⟩
set_option maxRecDepth 50000 in
theorem tw_308 : Cond.fieldLink R_CLS 23 "PatternNodes$ClassReader" "escapes" "LPatternNodes$EscapeReader;" ∈ GW := List.mem_filter.mpr ⟨List.mem_of_getElem? (i := 308) rfl, rfl⟩
set_option maxRecDepth 50000 in
theorem tw_309 : Cond.fieldLink R_CLS 27 "PatternNodes$ClassReader" "set" "LPatternNodes$CharacterSet;" ∈ GW := List.mem_filter.mpr ⟨List.mem_of_getElem? (i := 309) rfl, rfl⟩
set_option maxRecDepth 50000 in
theorem tw_310 : Cond.fieldLink R_CLS 9 "PatternNodes$ClassReader" "single" "I" ∈ GW := List.mem_filter.mpr ⟨List.mem_of_getElem? (i := 310) rfl, rfl⟩
set_option maxRecDepth 50000 in
theorem tw_322 : Cond.classLink R_RDR 70 R_OPG ∈ GW := List.mem_filter.mpr ⟨List.mem_of_getElem? (i := 322) rfl, rfl⟩
set_option maxRecDepth 50000 in
theorem tw_323 : Cond.instantiable R_OPG 7 ∈ GW := List.mem_filter.mpr ⟨List.mem_of_getElem? (i := 323) rfl, rfl⟩
set_option maxRecDepth 50000 in
theorem tw_324 : Cond.methodLink R_RDR 72 y_OPG_init ∈ GW := List.mem_filter.mpr ⟨List.mem_of_getElem? (i := 324) rfl, rfl⟩
set_option maxRecDepth 50000 in
theorem tw_325 : Cond.instanceMethod y_OPG_init ∈ GW := List.mem_filter.mpr ⟨List.mem_of_getElem? (i := 325) rfl, rfl⟩
set_option maxRecDepth 50000 in
theorem tw_326 : Cond.code y_OPG_init b_OPG_init 2 none ∈ GW := List.mem_filter.mpr ⟨List.mem_of_getElem? (i := 326) rfl, rfl⟩
set_option maxRecDepth 50000 in
theorem tw_327 : Cond.methodLink R_OPG 3 Lib.objectInit ∈ GW := List.mem_filter.mpr ⟨List.mem_of_getElem? (i := 327) rfl, rfl⟩
set_option maxRecDepth 50000 in
theorem tw_328 : Cond.fieldLink R_OPG 31 "PatternNodes$OpeningReader" "pattern" "LPatternNodes$Pattern;" ∈ GW := List.mem_filter.mpr ⟨List.mem_of_getElem? (i := 328) rfl, rfl⟩
set_option maxRecDepth 50000 in
theorem tw_329 : Cond.fieldLink R_OPG 9 "PatternNodes$OpeningReader" "numbered" "Z" ∈ GW := List.mem_filter.mpr ⟨List.mem_of_getElem? (i := 329) rfl, rfl⟩
set_option maxRecDepth 50000 in
theorem tn_330 : Cond.fieldLinkNest R_RDR 205 "PatternNodes$OpeningReader" "numbered" "Z" "PatternNodes" ∈ NW := List.mem_filter.mpr ⟨List.mem_of_getElem? (i := 330) rfl, rfl⟩
set_option maxRecDepth 50000 in
theorem tw_331 : Cond.fieldLink R_OPG 15 "PatternNodes$OpeningReader" "flagsAlone" "Z" ∈ GW := List.mem_filter.mpr ⟨List.mem_of_getElem? (i := 331) rfl, rfl⟩
set_option maxRecDepth 50000 in
theorem tn_332 : Cond.fieldLinkNest R_RDR 180 "PatternNodes$OpeningReader" "flagsAlone" "Z" "PatternNodes" ∈ NW := List.mem_filter.mpr ⟨List.mem_of_getElem? (i := 332) rfl, rfl⟩
set_option maxRecDepth 50000 in
theorem tw_333 : Cond.fieldLink R_OPG 18 "PatternNodes$OpeningReader" "nameAt" "I" ∈ GW := List.mem_filter.mpr ⟨List.mem_of_getElem? (i := 333) rfl, rfl⟩
set_option maxRecDepth 50000 in
theorem tn_334 : Cond.fieldLinkNest R_RDR 198 "PatternNodes$OpeningReader" "nameAt" "I" "PatternNodes" ∈ NW := List.mem_filter.mpr ⟨List.mem_of_getElem? (i := 334) rfl, rfl⟩
set_option maxRecDepth 50000 in
theorem tw_335 : Cond.fieldLink R_OPG 22 "PatternNodes$OpeningReader" "nameLength" "I" ∈ GW := List.mem_filter.mpr ⟨List.mem_of_getElem? (i := 335) rfl, rfl⟩
set_option maxRecDepth 50000 in
theorem tn_336 : Cond.fieldLinkNest R_RDR 195 "PatternNodes$OpeningReader" "nameLength" "I" "PatternNodes" ∈ NW := List.mem_filter.mpr ⟨List.mem_of_getElem? (i := 336) rfl, rfl⟩
set_option maxRecDepth 50000 in
theorem tw_337 : Cond.fieldLink R_OPG 25 "PatternNodes$OpeningReader" "flags" "I" ∈ GW := List.mem_filter.mpr ⟨List.mem_of_getElem? (i := 337) rfl, rfl⟩
set_option maxRecDepth 50000 in
theorem tn_338 : Cond.fieldLinkNest R_RDR 183 "PatternNodes$OpeningReader" "flags" "I" "PatternNodes" ∈ NW := List.mem_filter.mpr ⟨List.mem_of_getElem? (i := 338) rfl, rfl⟩
set_option maxRecDepth 50000 in
theorem tw_339 : Cond.fieldLink R_OPG 28 "PatternNodes$OpeningReader" "after" "I" ∈ GW := List.mem_filter.mpr ⟨List.mem_of_getElem? (i := 339) rfl, rfl⟩
set_option maxRecDepth 50000 in
theorem tn_340 : Cond.fieldLinkNest R_RDR 188 "PatternNodes$OpeningReader" "after" "I" "PatternNodes" ∈ NW := List.mem_filter.mpr ⟨List.mem_of_getElem? (i := 340) rfl, rfl⟩
set_option maxRecDepth 50000 in
theorem tw_356 : Cond.classLink R_RDR 77 R_REP ∈ GW := List.mem_filter.mpr ⟨List.mem_of_getElem? (i := 356) rfl, rfl⟩
set_option maxRecDepth 50000 in
theorem tw_357 : Cond.instantiable R_REP 6 ∈ GW := List.mem_filter.mpr ⟨List.mem_of_getElem? (i := 357) rfl, rfl⟩
set_option maxRecDepth 50000 in
theorem tw_358 : Cond.methodLink R_RDR 79 y_REP_init ∈ GW := List.mem_filter.mpr ⟨List.mem_of_getElem? (i := 358) rfl, rfl⟩
set_option maxRecDepth 50000 in
theorem tw_359 : Cond.instanceMethod y_REP_init ∈ GW := List.mem_filter.mpr ⟨List.mem_of_getElem? (i := 359) rfl, rfl⟩
set_option maxRecDepth 50000 in
theorem tw_360 : Cond.code y_REP_init b_REP_init 2 none ∈ GW := List.mem_filter.mpr ⟨List.mem_of_getElem? (i := 360) rfl, rfl⟩
set_option maxRecDepth 50000 in
theorem tw_361 : Cond.methodLink R_REP 3 Lib.objectInit ∈ GW := List.mem_filter.mpr ⟨List.mem_of_getElem? (i := 361) rfl, rfl⟩
set_option maxRecDepth 50000 in
theorem tw_362 : Cond.fieldLink R_REP 28 "PatternNodes$RepeatReader" "pattern" "LPatternNodes$Pattern;" ∈ GW := List.mem_filter.mpr ⟨List.mem_of_getElem? (i := 362) rfl, rfl⟩
set_option maxRecDepth 50000 in
theorem tw_363 : Cond.fieldLink R_REP 9 "PatternNodes$RepeatReader" "least" "I" ∈ GW := List.mem_filter.mpr ⟨List.mem_of_getElem? (i := 363) rfl, rfl⟩
set_option maxRecDepth 50000 in
theorem tn_364 : Cond.fieldLinkNest R_RDR 280 "PatternNodes$RepeatReader" "least" "I" "PatternNodes" ∈ NW := List.mem_filter.mpr ⟨List.mem_of_getElem? (i := 364) rfl, rfl⟩
set_option maxRecDepth 50000 in
theorem tw_365 : Cond.fieldLink R_REP 15 "PatternNodes$RepeatReader" "most" "I" ∈ GW := List.mem_filter.mpr ⟨List.mem_of_getElem? (i := 365) rfl, rfl⟩
set_option maxRecDepth 50000 in
theorem tn_366 : Cond.fieldLinkNest R_RDR 283 "PatternNodes$RepeatReader" "most" "I" "PatternNodes" ∈ NW := List.mem_filter.mpr ⟨List.mem_of_getElem? (i := 366) rfl, rfl⟩
set_option maxRecDepth 50000 in
theorem tw_367 : Cond.fieldLink R_REP 18 "PatternNodes$RepeatReader" "marked" "Z" ∈ GW := List.mem_filter.mpr ⟨List.mem_of_getElem? (i := 367) rfl, rfl⟩
set_option maxRecDepth 50000 in
theorem tn_368 : Cond.fieldLinkNest R_RDR 274 "PatternNodes$RepeatReader" "marked" "Z" "PatternNodes" ∈ NW := List.mem_filter.mpr ⟨List.mem_of_getElem? (i := 368) rfl, rfl⟩
set_option maxRecDepth 50000 in
theorem tw_369 : Cond.fieldLink R_REP 22 "PatternNodes$RepeatReader" "after" "I" ∈ GW := List.mem_filter.mpr ⟨List.mem_of_getElem? (i := 369) rfl, rfl⟩
set_option maxRecDepth 50000 in
theorem tn_370 : Cond.fieldLinkNest R_RDR 286 "PatternNodes$RepeatReader" "after" "I" "PatternNodes" ∈ NW := List.mem_filter.mpr ⟨List.mem_of_getElem? (i := 370) rfl, rfl⟩
set_option maxRecDepth 50000 in
theorem tw_371 : Cond.fieldLink R_REP 25 "PatternNodes$RepeatReader" "number" "I" ∈ GW := List.mem_filter.mpr ⟨List.mem_of_getElem? (i := 371) rfl, rfl⟩
set_option maxRecDepth 50000 in
theorem tw_385 : Cond.fieldLink R_RDR 36 "PatternNodes$TreeReader" "pattern" "LPatternNodes$Pattern;" ∈ GW := List.mem_filter.mpr ⟨List.mem_of_getElem? (i := 385) rfl, rfl⟩
set_option maxRecDepth 50000 in
theorem tw_386 : Cond.fieldLink R_RDR 40 "PatternNodes$TreeReader" "mistake" "LPatternNodes$Mistake;" ∈ GW := List.mem_filter.mpr ⟨List.mem_of_getElem? (i := 386) rfl, rfl⟩
set_option maxRecDepth 50000 in
theorem tw_387 : Cond.fieldLink R_RDR 44 "PatternNodes$TreeReader" "tree" "LPatternNodes$Tree;" ∈ GW := List.mem_filter.mpr ⟨List.mem_of_getElem? (i := 387) rfl, rfl⟩
set_option maxRecDepth 50000 in
theorem tw_388 : Cond.fieldLink R_RDR 48 "PatternNodes$TreeReader" "groups" "LPatternNodes$NumberedGroups;" ∈ GW := List.mem_filter.mpr ⟨List.mem_of_getElem? (i := 388) rfl, rfl⟩
set_option maxRecDepth 50000 in
theorem tw_389 : Cond.fieldLink R_RDR 12 "PatternNodes$TreeReader" "open" "LPatternNodes$OpenGroups;" ∈ GW := List.mem_filter.mpr ⟨List.mem_of_getElem? (i := 389) rfl, rfl⟩
set_option maxRecDepth 50000 in
theorem tw_390 : Cond.fieldLink R_RDR 21 "PatternNodes$TreeReader" "set" "LPatternNodes$CharacterSet;" ∈ GW := List.mem_filter.mpr ⟨List.mem_of_getElem? (i := 390) rfl, rfl⟩
set_option maxRecDepth 50000 in
theorem tw_391 : Cond.fieldLink R_RDR 57 "PatternNodes$TreeReader" "escapes" "LPatternNodes$EscapeReader;" ∈ GW := List.mem_filter.mpr ⟨List.mem_of_getElem? (i := 391) rfl, rfl⟩
set_option maxRecDepth 50000 in
theorem tw_392 : Cond.fieldLink R_RDR 66 "PatternNodes$TreeReader" "classes" "LPatternNodes$ClassReader;" ∈ GW := List.mem_filter.mpr ⟨List.mem_of_getElem? (i := 392) rfl, rfl⟩
set_option maxRecDepth 50000 in
theorem tw_393 : Cond.fieldLink R_RDR 73 "PatternNodes$TreeReader" "openings" "LPatternNodes$OpeningReader;" ∈ GW := List.mem_filter.mpr ⟨List.mem_of_getElem? (i := 393) rfl, rfl⟩
set_option maxRecDepth 50000 in
theorem tw_394 : Cond.fieldLink R_RDR 80 "PatternNodes$TreeReader" "repeats" "LPatternNodes$RepeatReader;" ∈ GW := List.mem_filter.mpr ⟨List.mem_of_getElem? (i := 394) rfl, rfl⟩
set_option maxRecDepth 50000 in
theorem tw_395 : Cond.fieldLink R_RDR 25 "PatternNodes$TreeReader" "place" "I" ∈ GW := List.mem_filter.mpr ⟨List.mem_of_getElem? (i := 395) rfl, rfl⟩
set_option maxRecDepth 50000 in
theorem tw_396 : Cond.fieldLink R_RDR 29 "PatternNodes$TreeReader" "flags" "I" ∈ GW := List.mem_filter.mpr ⟨List.mem_of_getElem? (i := 396) rfl, rfl⟩
set_option maxRecDepth 50000 in
theorem tw_397 : Cond.fieldLink R_RDR 32 "PatternNodes$TreeReader" "repeatable" "Z" ∈ GW := List.mem_filter.mpr ⟨List.mem_of_getElem? (i := 397) rfl, rfl⟩
set_option maxRecDepth 50000 in
theorem tw_425 : Cond.fieldLink R_PN 10 "PatternNodes" "pattern" "LPatternNodes$Pattern;" ∈ GW := List.mem_filter.mpr ⟨List.mem_of_getElem? (i := 425) rfl, rfl⟩
set_option maxRecDepth 50000 in
theorem tw_426 : Cond.fieldLink R_PN 19 "PatternNodes" "mistake" "LPatternNodes$Mistake;" ∈ GW := List.mem_filter.mpr ⟨List.mem_of_getElem? (i := 426) rfl, rfl⟩
set_option maxRecDepth 50000 in
theorem tw_427 : Cond.fieldLink R_PN 26 "PatternNodes" "tree" "LPatternNodes$Tree;" ∈ GW := List.mem_filter.mpr ⟨List.mem_of_getElem? (i := 427) rfl, rfl⟩
set_option maxRecDepth 50000 in
theorem tw_428 : Cond.fieldLink R_PN 33 "PatternNodes" "groups" "LPatternNodes$NumberedGroups;" ∈ GW := List.mem_filter.mpr ⟨List.mem_of_getElem? (i := 428) rfl, rfl⟩
set_option maxRecDepth 50000 in
theorem tw_429 : Cond.fieldLink R_PN 42 "PatternNodes" "reader" "LPatternNodes$TreeReader;" ∈ GW := List.mem_filter.mpr ⟨List.mem_of_getElem? (i := 429) rfl, rfl⟩
set_option maxRecDepth 50000 in
theorem tw_445 : Cond.methodLink R_PN 46 y_PAT_append ∈ GW := List.mem_filter.mpr ⟨List.mem_of_getElem? (i := 445) rfl, rfl⟩
set_option maxRecDepth 50000 in
theorem tw_446 : Cond.instanceMethod y_PAT_append ∈ GW := List.mem_filter.mpr ⟨List.mem_of_getElem? (i := 446) rfl, rfl⟩
set_option maxRecDepth 50000 in
theorem tw_447 : Cond.selects R_PAT y_PAT_append y_PAT_append ∈ GW := List.mem_filter.mpr ⟨List.mem_of_getElem? (i := 447) rfl, rfl⟩
set_option maxRecDepth 50000 in
theorem tw_448 : Cond.code y_PAT_append b_PAT_append 5 (some .boolean) ∈ GW := List.mem_filter.mpr ⟨List.mem_of_getElem? (i := 448) rfl, rfl⟩
set_option maxRecDepth 50000 in
theorem tw_461 : Cond.methodLink R_PN 94 y_TRE_told ∈ GW := List.mem_filter.mpr ⟨List.mem_of_getElem? (i := 461) rfl, rfl⟩
set_option maxRecDepth 50000 in
theorem tw_462 : Cond.instanceMethod y_TRE_told ∈ GW := List.mem_filter.mpr ⟨List.mem_of_getElem? (i := 462) rfl, rfl⟩
set_option maxRecDepth 50000 in
theorem tw_463 : Cond.selects R_TRE y_TRE_told y_TRE_told ∈ GW := List.mem_filter.mpr ⟨List.mem_of_getElem? (i := 463) rfl, rfl⟩
set_option maxRecDepth 50000 in
theorem tw_464 : Cond.code y_TRE_told b_TRE_told 3 (some .int) ∈ GW := List.mem_filter.mpr ⟨List.mem_of_getElem? (i := 464) rfl, rfl⟩
set_option maxRecDepth 50000 in
theorem tw_469 : Cond.methodLink R_PN 98 y_TRE_rangeEdge ∈ GW := List.mem_filter.mpr ⟨List.mem_of_getElem? (i := 469) rfl, rfl⟩
set_option maxRecDepth 50000 in
theorem tw_470 : Cond.instanceMethod y_TRE_rangeEdge ∈ GW := List.mem_filter.mpr ⟨List.mem_of_getElem? (i := 470) rfl, rfl⟩
set_option maxRecDepth 50000 in
theorem tw_471 : Cond.selects R_TRE y_TRE_rangeEdge y_TRE_rangeEdge ∈ GW := List.mem_filter.mpr ⟨List.mem_of_getElem? (i := 471) rfl, rfl⟩
set_option maxRecDepth 50000 in
theorem tw_472 : Cond.code y_TRE_rangeEdge b_TRE_rangeEdge 4 (some .int) ∈ GW := List.mem_filter.mpr ⟨List.mem_of_getElem? (i := 472) rfl, rfl⟩
set_option maxRecDepth 50000 in
theorem tw_477 : Cond.methodLink R_PN 102 y_GRP_nameByte ∈ GW := List.mem_filter.mpr ⟨List.mem_of_getElem? (i := 477) rfl, rfl⟩
set_option maxRecDepth 50000 in
theorem tw_478 : Cond.instanceMethod y_GRP_nameByte ∈ GW := List.mem_filter.mpr ⟨List.mem_of_getElem? (i := 478) rfl, rfl⟩
set_option maxRecDepth 50000 in
theorem tw_479 : Cond.selects R_GRP y_GRP_nameByte y_GRP_nameByte ∈ GW := List.mem_filter.mpr ⟨List.mem_of_getElem? (i := 479) rfl, rfl⟩
set_option maxRecDepth 50000 in
theorem tw_480 : Cond.code y_GRP_nameByte b_GRP_nameByte 3 (some .int) ∈ GW := List.mem_filter.mpr ⟨List.mem_of_getElem? (i := 480) rfl, rfl⟩
set_option maxRecDepth 50000 in
theorem tw_489 : Cond.classLink R_PN 50 "java/lang/IllegalArgumentException" ∈ GW := List.mem_filter.mpr ⟨List.mem_of_getElem? (i := 489) rfl, rfl⟩
set_option maxRecDepth 50000 in
theorem tw_490 : Cond.instantiable "java/lang/IllegalArgumentException" 6 ∈ GW := List.mem_filter.mpr ⟨List.mem_of_getElem? (i := 490) rfl, rfl⟩
set_option maxRecDepth 50000 in
theorem tw_555 : Cond.methodLink R_PN 57 y_RDR_begin ∈ GW := List.mem_filter.mpr ⟨List.mem_of_getElem? (i := 555) rfl, rfl⟩
set_option maxRecDepth 50000 in
theorem tw_556 : Cond.instanceMethod y_RDR_begin ∈ GW := List.mem_filter.mpr ⟨List.mem_of_getElem? (i := 556) rfl, rfl⟩
set_option maxRecDepth 50000 in
theorem tw_557 : Cond.selects R_RDR y_RDR_begin y_RDR_begin ∈ GW := List.mem_filter.mpr ⟨List.mem_of_getElem? (i := 557) rfl, rfl⟩
set_option maxRecDepth 50000 in
theorem tw_558 : Cond.code y_RDR_begin b_RDR_begin 2 none ∈ GW := List.mem_filter.mpr ⟨List.mem_of_getElem? (i := 558) rfl, rfl⟩
set_option maxRecDepth 50000 in
theorem tw_559 : Cond.methodLink R_RDR 84 y_MIS_clear ∈ GW := List.mem_filter.mpr ⟨List.mem_of_getElem? (i := 559) rfl, rfl⟩
set_option maxRecDepth 50000 in
theorem tw_560 : Cond.instanceMethod y_MIS_clear ∈ GW := List.mem_filter.mpr ⟨List.mem_of_getElem? (i := 560) rfl, rfl⟩
set_option maxRecDepth 50000 in
theorem tw_561 : Cond.selects R_MIS y_MIS_clear y_MIS_clear ∈ GW := List.mem_filter.mpr ⟨List.mem_of_getElem? (i := 561) rfl, rfl⟩
set_option maxRecDepth 50000 in
theorem tw_562 : Cond.code y_MIS_clear b_MIS_clear 1 none ∈ GW := List.mem_filter.mpr ⟨List.mem_of_getElem? (i := 562) rfl, rfl⟩
set_option maxRecDepth 50000 in
theorem tw_563 : Cond.methodLink R_RDR 89 y_TRE_clear ∈ GW := List.mem_filter.mpr ⟨List.mem_of_getElem? (i := 563) rfl, rfl⟩
set_option maxRecDepth 50000 in
theorem tw_564 : Cond.instanceMethod y_TRE_clear ∈ GW := List.mem_filter.mpr ⟨List.mem_of_getElem? (i := 564) rfl, rfl⟩
set_option maxRecDepth 50000 in
theorem tw_565 : Cond.selects R_TRE y_TRE_clear y_TRE_clear ∈ GW := List.mem_filter.mpr ⟨List.mem_of_getElem? (i := 565) rfl, rfl⟩
set_option maxRecDepth 50000 in
theorem tw_566 : Cond.code y_TRE_clear b_TRE_clear 1 none ∈ GW := List.mem_filter.mpr ⟨List.mem_of_getElem? (i := 566) rfl, rfl⟩
set_option maxRecDepth 50000 in
theorem tw_567 : Cond.methodLink R_RDR 92 y_GRP_clear ∈ GW := List.mem_filter.mpr ⟨List.mem_of_getElem? (i := 567) rfl, rfl⟩
set_option maxRecDepth 50000 in
theorem tw_568 : Cond.instanceMethod y_GRP_clear ∈ GW := List.mem_filter.mpr ⟨List.mem_of_getElem? (i := 568) rfl, rfl⟩
set_option maxRecDepth 50000 in
theorem tw_569 : Cond.selects R_GRP y_GRP_clear y_GRP_clear ∈ GW := List.mem_filter.mpr ⟨List.mem_of_getElem? (i := 569) rfl, rfl⟩
set_option maxRecDepth 50000 in
theorem tw_570 : Cond.code y_GRP_clear b_GRP_clear 1 none ∈ GW := List.mem_filter.mpr ⟨List.mem_of_getElem? (i := 570) rfl, rfl⟩
set_option maxRecDepth 50000 in
theorem tw_571 : Cond.methodLink R_RDR 95 y_OPN_begin ∈ GW := List.mem_filter.mpr ⟨List.mem_of_getElem? (i := 571) rfl, rfl⟩
set_option maxRecDepth 50000 in
theorem tw_572 : Cond.instanceMethod y_OPN_begin ∈ GW := List.mem_filter.mpr ⟨List.mem_of_getElem? (i := 572) rfl, rfl⟩
set_option maxRecDepth 50000 in
theorem tw_573 : Cond.selects R_OPN y_OPN_begin y_OPN_begin ∈ GW := List.mem_filter.mpr ⟨List.mem_of_getElem? (i := 573) rfl, rfl⟩
set_option maxRecDepth 50000 in
theorem tw_574 : Cond.code y_OPN_begin b_OPN_begin 1 none ∈ GW := List.mem_filter.mpr ⟨List.mem_of_getElem? (i := 574) rfl, rfl⟩
set_option maxRecDepth 50000 in
theorem tw_575 : Cond.methodLink R_PN 61 y_RDR_hasMore ∈ GW := List.mem_filter.mpr ⟨List.mem_of_getElem? (i := 575) rfl, rfl⟩
set_option maxRecDepth 50000 in
theorem tw_576 : Cond.instanceMethod y_RDR_hasMore ∈ GW := List.mem_filter.mpr ⟨List.mem_of_getElem? (i := 576) rfl, rfl⟩
set_option maxRecDepth 50000 in
theorem tw_577 : Cond.selects R_RDR y_RDR_hasMore y_RDR_hasMore ∈ GW := List.mem_filter.mpr ⟨List.mem_of_getElem? (i := 577) rfl, rfl⟩
set_option maxRecDepth 50000 in
theorem tw_578 : Cond.code y_RDR_hasMore b_RDR_hasMore 1 (some .boolean) ∈ GW := List.mem_filter.mpr ⟨List.mem_of_getElem? (i := 578) rfl, rfl⟩
set_option maxRecDepth 50000 in
theorem tw_579 : Cond.methodLink R_PN 65 y_RDR_readNext ∈ GW := List.mem_filter.mpr ⟨List.mem_of_getElem? (i := 579) rfl, rfl⟩
set_option maxRecDepth 50000 in
theorem tw_580 : Cond.instanceMethod y_RDR_readNext ∈ GW := List.mem_filter.mpr ⟨List.mem_of_getElem? (i := 580) rfl, rfl⟩
set_option maxRecDepth 50000 in
theorem tw_581 : Cond.selects R_RDR y_RDR_readNext y_RDR_readNext ∈ GW := List.mem_filter.mpr ⟨List.mem_of_getElem? (i := 581) rfl, rfl⟩
set_option maxRecDepth 50000 in
theorem tw_582 : Cond.code y_RDR_readNext b_RDR_readNext 1 none ∈ GW := List.mem_filter.mpr ⟨List.mem_of_getElem? (i := 582) rfl, rfl⟩
set_option maxRecDepth 50000 in
theorem tw_583 : Cond.methodLink R_RDR 120 y_PAT_at ∈ GW := List.mem_filter.mpr ⟨List.mem_of_getElem? (i := 583) rfl, rfl⟩
set_option maxRecDepth 50000 in
theorem tw_584 : Cond.instanceMethod y_PAT_at ∈ GW := List.mem_filter.mpr ⟨List.mem_of_getElem? (i := 584) rfl, rfl⟩
set_option maxRecDepth 50000 in
theorem tw_585 : Cond.selects R_PAT y_PAT_at y_PAT_at ∈ GW := List.mem_filter.mpr ⟨List.mem_of_getElem? (i := 585) rfl, rfl⟩
set_option maxRecDepth 50000 in
theorem tw_586 : Cond.code y_PAT_at b_PAT_at 2 (some .int) ∈ GW := List.mem_filter.mpr ⟨List.mem_of_getElem? (i := 586) rfl, rfl⟩
set_option maxRecDepth 50000 in
theorem tw_587 : Cond.methodLink R_RDR 124 y_RDR_endRow ∈ GW := List.mem_filter.mpr ⟨List.mem_of_getElem? (i := 587) rfl, rfl⟩
set_option maxRecDepth 50000 in
theorem tw_589 : Cond.instanceMethod y_RDR_endRow ∈ GW := List.mem_filter.mpr ⟨List.mem_of_getElem? (i := 589) rfl, rfl⟩
set_option maxRecDepth 50000 in
theorem tw_590 : Cond.code y_RDR_endRow b_RDR_endRow 2 none ∈ GW := List.mem_filter.mpr ⟨List.mem_of_getElem? (i := 590) rfl, rfl⟩
set_option maxRecDepth 50000 in
theorem tw_591 : Cond.methodLink R_RDR 166 y_TRE_waitingSize ∈ GW := List.mem_filter.mpr ⟨List.mem_of_getElem? (i := 591) rfl, rfl⟩
set_option maxRecDepth 50000 in
theorem tw_592 : Cond.instanceMethod y_TRE_waitingSize ∈ GW := List.mem_filter.mpr ⟨List.mem_of_getElem? (i := 592) rfl, rfl⟩
set_option maxRecDepth 50000 in
theorem tw_593 : Cond.selects R_TRE y_TRE_waitingSize y_TRE_waitingSize ∈ GW := List.mem_filter.mpr ⟨List.mem_of_getElem? (i := 593) rfl, rfl⟩
set_option maxRecDepth 50000 in
theorem tw_594 : Cond.code y_TRE_waitingSize b_TRE_waitingSize 4 (some .int) ∈ GW := List.mem_filter.mpr ⟨List.mem_of_getElem? (i := 594) rfl, rfl⟩
set_option maxRecDepth 50000 in
theorem tw_595 : Cond.methodLink R_RDR 169 y_TRE_addOver ∈ GW := List.mem_filter.mpr ⟨List.mem_of_getElem? (i := 595) rfl, rfl⟩
set_option maxRecDepth 50000 in
theorem tw_596 : Cond.instanceMethod y_TRE_addOver ∈ GW := List.mem_filter.mpr ⟨List.mem_of_getElem? (i := 596) rfl, rfl⟩
set_option maxRecDepth 50000 in
theorem tw_597 : Cond.selects R_TRE y_TRE_addOver y_TRE_addOver ∈ GW := List.mem_filter.mpr ⟨List.mem_of_getElem? (i := 597) rfl, rfl⟩
set_option maxRecDepth 50000 in
theorem tw_598 : Cond.code y_TRE_addOver b_TRE_addOver 7 none ∈ GW := List.mem_filter.mpr ⟨List.mem_of_getElem? (i := 598) rfl, rfl⟩
set_option maxRecDepth 50000 in
theorem tw_599 : Cond.constant R_TRE 56 1000000 ∈ GW := List.mem_filter.mpr ⟨List.mem_of_getElem? (i := 599) rfl, rfl⟩
set_option maxRecDepth 50000 in
theorem tw_600 : Cond.methodLink R_TRE 57 Lib.Math.min.name ∈ GW := List.mem_filter.mpr ⟨List.mem_of_getElem? (i := 600) rfl, rfl⟩
set_option maxRecDepth 50000 in
theorem tw_601 : Cond.static Lib.Math.min.name ∈ GW := List.mem_filter.mpr ⟨List.mem_of_getElem? (i := 601) rfl, rfl⟩
set_option maxRecDepth 50000 in
theorem tw_602 : Cond.code Lib.Math.min.name Lib.Math.min.code 2 (some .int) ∈ GW := List.mem_filter.mpr ⟨List.mem_of_getElem? (i := 602) rfl, rfl⟩
set_option maxRecDepth 50000 in
theorem tw_603 : Cond.methodLink R_RDR 127 y_RDR_openGroup ∈ GW := List.mem_filter.mpr ⟨List.mem_of_getElem? (i := 603) rfl, rfl⟩
set_option maxRecDepth 50000 in
theorem tw_605 : Cond.instanceMethod y_RDR_openGroup ∈ GW := List.mem_filter.mpr ⟨List.mem_of_getElem? (i := 605) rfl, rfl⟩
set_option maxRecDepth 50000 in
theorem tw_606 : Cond.code y_RDR_openGroup b_RDR_openGroup 1 none ∈ GW := List.mem_filter.mpr ⟨List.mem_of_getElem? (i := 606) rfl, rfl⟩
set_option maxRecDepth 50000 in
theorem tw_607 : Cond.methodLink R_RDR 176 y_OPG_readOpening ∈ GW := List.mem_filter.mpr ⟨List.mem_of_getElem? (i := 607) rfl, rfl⟩
set_option maxRecDepth 50000 in
theorem tw_608 : Cond.instanceMethod y_OPG_readOpening ∈ GW := List.mem_filter.mpr ⟨List.mem_of_getElem? (i := 608) rfl, rfl⟩
set_option maxRecDepth 50000 in
theorem tw_609 : Cond.selects R_OPG y_OPG_readOpening y_OPG_readOpening ∈ GW := List.mem_filter.mpr ⟨List.mem_of_getElem? (i := 609) rfl, rfl⟩
set_option maxRecDepth 50000 in
theorem tw_610 : Cond.code y_OPG_readOpening b_OPG_readOpening 3 (some .boolean) ∈ GW := List.mem_filter.mpr ⟨List.mem_of_getElem? (i := 610) rfl, rfl⟩
set_option maxRecDepth 50000 in
theorem tw_611 : Cond.methodLink R_OPG 35 y_PAT_at ∈ GW := List.mem_filter.mpr ⟨List.mem_of_getElem? (i := 611) rfl, rfl⟩
set_option maxRecDepth 50000 in
theorem tw_612 : Cond.methodLink R_OPG 41 y_OPG_readName ∈ GW := List.mem_filter.mpr ⟨List.mem_of_getElem? (i := 612) rfl, rfl⟩
set_option maxRecDepth 50000 in
theorem tw_614 : Cond.instanceMethod y_OPG_readName ∈ GW := List.mem_filter.mpr ⟨List.mem_of_getElem? (i := 614) rfl, rfl⟩
set_option maxRecDepth 50000 in
theorem tw_615 : Cond.code y_OPG_readName b_OPG_readName 2 (some .boolean) ∈ GW := List.mem_filter.mpr ⟨List.mem_of_getElem? (i := 615) rfl, rfl⟩
set_option maxRecDepth 50000 in
theorem tn_616 : Cond.methodLinkNest R_OPG 48 y_PN_isWord "PatternNodes" ∈ NW := List.mem_filter.mpr ⟨List.mem_of_getElem? (i := 616) rfl, rfl⟩
set_option maxRecDepth 50000 in
theorem tw_617 : Cond.static y_PN_isWord ∈ GW := List.mem_filter.mpr ⟨List.mem_of_getElem? (i := 617) rfl, rfl⟩
set_option maxRecDepth 50000 in
theorem tw_618 : Cond.code y_PN_isWord b_PN_isWord 1 (some .boolean) ∈ GW := List.mem_filter.mpr ⟨List.mem_of_getElem? (i := 618) rfl, rfl⟩
set_option maxRecDepth 50000 in
theorem tw_619 : Cond.methodLink R_PN 109 y_PN_isDigit ∈ GW := List.mem_filter.mpr ⟨List.mem_of_getElem? (i := 619) rfl, rfl⟩
set_option maxRecDepth 50000 in
theorem tw_620 : Cond.static y_PN_isDigit ∈ GW := List.mem_filter.mpr ⟨List.mem_of_getElem? (i := 620) rfl, rfl⟩
set_option maxRecDepth 50000 in
theorem tw_621 : Cond.code y_PN_isDigit b_PN_isDigit 1 (some .boolean) ∈ GW := List.mem_filter.mpr ⟨List.mem_of_getElem? (i := 621) rfl, rfl⟩
set_option maxRecDepth 50000 in
theorem tw_622 : Cond.methodLink R_OPG 45 y_OPG_readFlags ∈ GW := List.mem_filter.mpr ⟨List.mem_of_getElem? (i := 622) rfl, rfl⟩
set_option maxRecDepth 50000 in
theorem tw_624 : Cond.instanceMethod y_OPG_readFlags ∈ GW := List.mem_filter.mpr ⟨List.mem_of_getElem? (i := 624) rfl, rfl⟩
set_option maxRecDepth 50000 in
theorem tw_625 : Cond.code y_OPG_readFlags b_OPG_readFlags 3 (some .boolean) ∈ GW := List.mem_filter.mpr ⟨List.mem_of_getElem? (i := 625) rfl, rfl⟩
set_option maxRecDepth 50000 in
theorem tw_626 : Cond.methodLink R_OPG 51 y_OPG_takeFlags ∈ GW := List.mem_filter.mpr ⟨List.mem_of_getElem? (i := 626) rfl, rfl⟩
set_option maxRecDepth 50000 in
theorem tw_628 : Cond.instanceMethod y_OPG_takeFlags ∈ GW := List.mem_filter.mpr ⟨List.mem_of_getElem? (i := 628) rfl, rfl⟩
set_option maxRecDepth 50000 in
theorem tw_629 : Cond.code y_OPG_takeFlags b_OPG_takeFlags 4 (some .int) ∈ GW := List.mem_filter.mpr ⟨List.mem_of_getElem? (i := 629) rfl, rfl⟩
set_option maxRecDepth 50000 in
theorem tw_630 : Cond.methodLink R_OPG 55 y_OPG_flagOf ∈ GW := List.mem_filter.mpr ⟨List.mem_of_getElem? (i := 630) rfl, rfl⟩
set_option maxRecDepth 50000 in
theorem tw_631 : Cond.static y_OPG_flagOf ∈ GW := List.mem_filter.mpr ⟨List.mem_of_getElem? (i := 631) rfl, rfl⟩
set_option maxRecDepth 50000 in
theorem tw_632 : Cond.code y_OPG_flagOf b_OPG_flagOf 1 (some .int) ∈ GW := List.mem_filter.mpr ⟨List.mem_of_getElem? (i := 632) rfl, rfl⟩
set_option maxRecDepth 50000 in
theorem tw_633 : Cond.methodLink R_RDR 113 y_MIS_tell ∈ GW := List.mem_filter.mpr ⟨List.mem_of_getElem? (i := 633) rfl, rfl⟩
set_option maxRecDepth 50000 in
theorem tw_634 : Cond.instanceMethod y_MIS_tell ∈ GW := List.mem_filter.mpr ⟨List.mem_of_getElem? (i := 634) rfl, rfl⟩
set_option maxRecDepth 50000 in
theorem tw_635 : Cond.selects R_MIS y_MIS_tell y_MIS_tell ∈ GW := List.mem_filter.mpr ⟨List.mem_of_getElem? (i := 635) rfl, rfl⟩
set_option maxRecDepth 50000 in
theorem tw_636 : Cond.code y_MIS_tell b_MIS_tell 3 none ∈ GW := List.mem_filter.mpr ⟨List.mem_of_getElem? (i := 636) rfl, rfl⟩
set_option maxRecDepth 50000 in
theorem tw_637 : Cond.methodLink R_RDR 184 y_TRE_addLeaf ∈ GW := List.mem_filter.mpr ⟨List.mem_of_getElem? (i := 637) rfl, rfl⟩
set_option maxRecDepth 50000 in
theorem tw_638 : Cond.instanceMethod y_TRE_addLeaf ∈ GW := List.mem_filter.mpr ⟨List.mem_of_getElem? (i := 638) rfl, rfl⟩
set_option maxRecDepth 50000 in
theorem tw_639 : Cond.selects R_TRE y_TRE_addLeaf y_TRE_addLeaf ∈ GW := List.mem_filter.mpr ⟨List.mem_of_getElem? (i := 639) rfl, rfl⟩
set_option maxRecDepth 50000 in
theorem tw_640 : Cond.code y_TRE_addLeaf b_TRE_addLeaf 4 none ∈ GW := List.mem_filter.mpr ⟨List.mem_of_getElem? (i := 640) rfl, rfl⟩
set_option maxRecDepth 50000 in
theorem tw_641 : Cond.methodLink R_TRE 52 y_TRE_addOver ∈ GW := List.mem_filter.mpr ⟨List.mem_of_getElem? (i := 641) rfl, rfl⟩
set_option maxRecDepth 50000 in
theorem tw_642 : Cond.methodLink R_RDR 191 y_RDR_partDone ∈ GW := List.mem_filter.mpr ⟨List.mem_of_getElem? (i := 642) rfl, rfl⟩
set_option maxRecDepth 50000 in
theorem tw_644 : Cond.instanceMethod y_RDR_partDone ∈ GW := List.mem_filter.mpr ⟨List.mem_of_getElem? (i := 644) rfl, rfl⟩
set_option maxRecDepth 50000 in
theorem tw_645 : Cond.code y_RDR_partDone b_RDR_partDone 3 none ∈ GW := List.mem_filter.mpr ⟨List.mem_of_getElem? (i := 645) rfl, rfl⟩
set_option maxRecDepth 50000 in
theorem tw_646 : Cond.methodLink R_RDR 201 y_GRP_hasName ∈ GW := List.mem_filter.mpr ⟨List.mem_of_getElem? (i := 646) rfl, rfl⟩
set_option maxRecDepth 50000 in
theorem tw_647 : Cond.instanceMethod y_GRP_hasName ∈ GW := List.mem_filter.mpr ⟨List.mem_of_getElem? (i := 647) rfl, rfl⟩
set_option maxRecDepth 50000 in
theorem tw_648 : Cond.selects R_GRP y_GRP_hasName y_GRP_hasName ∈ GW := List.mem_filter.mpr ⟨List.mem_of_getElem? (i := 648) rfl, rfl⟩
set_option maxRecDepth 50000 in
theorem tw_649 : Cond.code y_GRP_hasName b_GRP_hasName 5 (some .boolean) ∈ GW := List.mem_filter.mpr ⟨List.mem_of_getElem? (i := 649) rfl, rfl⟩
set_option maxRecDepth 50000 in
theorem tw_650 : Cond.methodLink R_GRP 38 y_GRP_isNamed ∈ GW := List.mem_filter.mpr ⟨List.mem_of_getElem? (i := 650) rfl, rfl⟩
set_option maxRecDepth 50000 in
theorem tw_652 : Cond.instanceMethod y_GRP_isNamed ∈ GW := List.mem_filter.mpr ⟨List.mem_of_getElem? (i := 652) rfl, rfl⟩
set_option maxRecDepth 50000 in
theorem tw_653 : Cond.code y_GRP_isNamed b_GRP_isNamed 5 (some .boolean) ∈ GW := List.mem_filter.mpr ⟨List.mem_of_getElem? (i := 653) rfl, rfl⟩
set_option maxRecDepth 50000 in
theorem tw_654 : Cond.methodLink R_GRP 32 y_PAT_at ∈ GW := List.mem_filter.mpr ⟨List.mem_of_getElem? (i := 654) rfl, rfl⟩
set_option maxRecDepth 50000 in
theorem tw_655 : Cond.methodLink R_RDR 208 y_GRP_isFull ∈ GW := List.mem_filter.mpr ⟨List.mem_of_getElem? (i := 655) rfl, rfl⟩
set_option maxRecDepth 50000 in
theorem tw_656 : Cond.instanceMethod y_GRP_isFull ∈ GW := List.mem_filter.mpr ⟨List.mem_of_getElem? (i := 656) rfl, rfl⟩
set_option maxRecDepth 50000 in
theorem tw_657 : Cond.selects R_GRP y_GRP_isFull y_GRP_isFull ∈ GW := List.mem_filter.mpr ⟨List.mem_of_getElem? (i := 657) rfl, rfl⟩
set_option maxRecDepth 50000 in
theorem tw_658 : Cond.code y_GRP_isFull b_GRP_isFull 1 (some .boolean) ∈ GW := List.mem_filter.mpr ⟨List.mem_of_getElem? (i := 658) rfl, rfl⟩
set_option maxRecDepth 50000 in
theorem tw_659 : Cond.methodLink R_RDR 212 y_RDR_enterGroup ∈ GW := List.mem_filter.mpr ⟨List.mem_of_getElem? (i := 659) rfl, rfl⟩
set_option maxRecDepth 50000 in
theorem tw_661 : Cond.instanceMethod y_RDR_enterGroup ∈ GW := List.mem_filter.mpr ⟨List.mem_of_getElem? (i := 661) rfl, rfl⟩
set_option maxRecDepth 50000 in
theorem tw_662 : Cond.code y_RDR_enterGroup b_RDR_enterGroup 2 none ∈ GW := List.mem_filter.mpr ⟨List.mem_of_getElem? (i := 662) rfl, rfl⟩
set_option maxRecDepth 50000 in
theorem tw_663 : Cond.methodLink R_RDR 215 y_GRP_addGroup ∈ GW := List.mem_filter.mpr ⟨List.mem_of_getElem? (i := 663) rfl, rfl⟩
set_option maxRecDepth 50000 in
theorem tw_664 : Cond.instanceMethod y_GRP_addGroup ∈ GW := List.mem_filter.mpr ⟨List.mem_of_getElem? (i := 664) rfl, rfl⟩
set_option maxRecDepth 50000 in
theorem tw_665 : Cond.selects R_GRP y_GRP_addGroup y_GRP_addGroup ∈ GW := List.mem_filter.mpr ⟨List.mem_of_getElem? (i := 665) rfl, rfl⟩
set_option maxRecDepth 50000 in
theorem tw_666 : Cond.code y_GRP_addGroup b_GRP_addGroup 5 (some .int) ∈ GW := List.mem_filter.mpr ⟨List.mem_of_getElem? (i := 666) rfl, rfl⟩
set_option maxRecDepth 50000 in
theorem tw_667 : Cond.methodLink R_GRP 22 y_GRP_isFull ∈ GW := List.mem_filter.mpr ⟨List.mem_of_getElem? (i := 667) rfl, rfl⟩
set_option maxRecDepth 50000 in
theorem tw_668 : Cond.methodLink R_GRP 26 Lib.Math.min.name ∈ GW := List.mem_filter.mpr ⟨List.mem_of_getElem? (i := 668) rfl, rfl⟩
set_option maxRecDepth 50000 in
theorem tw_669 : Cond.methodLink R_RDR 219 y_OPN_enter ∈ GW := List.mem_filter.mpr ⟨List.mem_of_getElem? (i := 669) rfl, rfl⟩
set_option maxRecDepth 50000 in
theorem tw_670 : Cond.instanceMethod y_OPN_enter ∈ GW := List.mem_filter.mpr ⟨List.mem_of_getElem? (i := 670) rfl, rfl⟩
set_option maxRecDepth 50000 in
theorem tw_671 : Cond.selects R_OPN y_OPN_enter y_OPN_enter ∈ GW := List.mem_filter.mpr ⟨List.mem_of_getElem? (i := 671) rfl, rfl⟩
set_option maxRecDepth 50000 in
theorem tw_672 : Cond.code y_OPN_enter b_OPN_enter 4 none ∈ GW := List.mem_filter.mpr ⟨List.mem_of_getElem? (i := 672) rfl, rfl⟩
set_option maxRecDepth 50000 in
theorem tw_673 : Cond.methodLink R_RDR 130 y_RDR_closeGroup ∈ GW := List.mem_filter.mpr ⟨List.mem_of_getElem? (i := 673) rfl, rfl⟩
set_option maxRecDepth 50000 in
theorem tw_675 : Cond.instanceMethod y_RDR_closeGroup ∈ GW := List.mem_filter.mpr ⟨List.mem_of_getElem? (i := 675) rfl, rfl⟩
set_option maxRecDepth 50000 in
theorem tw_676 : Cond.code y_RDR_closeGroup b_RDR_closeGroup 3 none ∈ GW := List.mem_filter.mpr ⟨List.mem_of_getElem? (i := 676) rfl, rfl⟩
set_option maxRecDepth 50000 in
theorem tw_677 : Cond.methodLink R_RDR 117 y_RDR_endAlternatives ∈ GW := List.mem_filter.mpr ⟨List.mem_of_getElem? (i := 677) rfl, rfl⟩
set_option maxRecDepth 50000 in
theorem tw_679 : Cond.instanceMethod y_RDR_endAlternatives ∈ GW := List.mem_filter.mpr ⟨List.mem_of_getElem? (i := 679) rfl, rfl⟩
set_option maxRecDepth 50000 in
theorem tw_680 : Cond.code y_RDR_endAlternatives b_RDR_endAlternatives 2 none ∈ GW := List.mem_filter.mpr ⟨List.mem_of_getElem? (i := 680) rfl, rfl⟩
set_option maxRecDepth 50000 in
theorem tw_681 : Cond.methodLink R_RDR 228 y_OPN_leave ∈ GW := List.mem_filter.mpr ⟨List.mem_of_getElem? (i := 681) rfl, rfl⟩
set_option maxRecDepth 50000 in
theorem tw_682 : Cond.instanceMethod y_OPN_leave ∈ GW := List.mem_filter.mpr ⟨List.mem_of_getElem? (i := 682) rfl, rfl⟩
set_option maxRecDepth 50000 in
theorem tw_683 : Cond.selects R_OPN y_OPN_leave y_OPN_leave ∈ GW := List.mem_filter.mpr ⟨List.mem_of_getElem? (i := 683) rfl, rfl⟩
set_option maxRecDepth 50000 in
theorem tw_684 : Cond.code y_OPN_leave b_OPN_leave 1 none ∈ GW := List.mem_filter.mpr ⟨List.mem_of_getElem? (i := 684) rfl, rfl⟩
set_option maxRecDepth 50000 in
theorem tw_685 : Cond.methodLink R_RDR 133 y_RDR_isOn ∈ GW := List.mem_filter.mpr ⟨List.mem_of_getElem? (i := 685) rfl, rfl⟩
set_option maxRecDepth 50000 in
theorem tw_687 : Cond.instanceMethod y_RDR_isOn ∈ GW := List.mem_filter.mpr ⟨List.mem_of_getElem? (i := 687) rfl, rfl⟩
set_option maxRecDepth 50000 in
theorem tw_688 : Cond.code y_RDR_isOn b_RDR_isOn 2 (some .boolean) ∈ GW := List.mem_filter.mpr ⟨List.mem_of_getElem? (i := 688) rfl, rfl⟩
set_option maxRecDepth 50000 in
theorem tw_689 : Cond.methodLink R_RDR 137 y_CLS_readClass ∈ GW := List.mem_filter.mpr ⟨List.mem_of_getElem? (i := 689) rfl, rfl⟩
set_option maxRecDepth 50000 in
theorem tw_690 : Cond.instanceMethod y_CLS_readClass ∈ GW := List.mem_filter.mpr ⟨List.mem_of_getElem? (i := 690) rfl, rfl⟩
set_option maxRecDepth 50000 in
theorem tw_691 : Cond.selects R_CLS y_CLS_readClass y_CLS_readClass ∈ GW := List.mem_filter.mpr ⟨List.mem_of_getElem? (i := 691) rfl, rfl⟩
set_option maxRecDepth 50000 in
theorem tw_692 : Cond.code y_CLS_readClass b_CLS_readClass 7 (some .int) ∈ GW := List.mem_filter.mpr ⟨List.mem_of_getElem? (i := 692) rfl, rfl⟩
set_option maxRecDepth 50000 in
theorem tw_693 : Cond.methodLink R_CLS 31 y_PAT_at ∈ GW := List.mem_filter.mpr ⟨List.mem_of_getElem? (i := 693) rfl, rfl⟩
set_option maxRecDepth 50000 in
theorem tw_694 : Cond.methodLink R_CLS 37 y_SET_clear ∈ GW := List.mem_filter.mpr ⟨List.mem_of_getElem? (i := 694) rfl, rfl⟩
set_option maxRecDepth 50000 in
theorem tw_695 : Cond.instanceMethod y_SET_clear ∈ GW := List.mem_filter.mpr ⟨List.mem_of_getElem? (i := 695) rfl, rfl⟩
set_option maxRecDepth 50000 in
theorem tw_696 : Cond.selects R_SET y_SET_clear y_SET_clear ∈ GW := List.mem_filter.mpr ⟨List.mem_of_getElem? (i := 696) rfl, rfl⟩
set_option maxRecDepth 50000 in
theorem tw_697 : Cond.code y_SET_clear b_SET_clear 1 none ∈ GW := List.mem_filter.mpr ⟨List.mem_of_getElem? (i := 697) rfl, rfl⟩
set_option maxRecDepth 50000 in
theorem tw_698 : Cond.methodLink R_CLS 45 y_SET_finish ∈ GW := List.mem_filter.mpr ⟨List.mem_of_getElem? (i := 698) rfl, rfl⟩
set_option maxRecDepth 50000 in
theorem tw_699 : Cond.instanceMethod y_SET_finish ∈ GW := List.mem_filter.mpr ⟨List.mem_of_getElem? (i := 699) rfl, rfl⟩
set_option maxRecDepth 50000 in
theorem tw_700 : Cond.selects R_SET y_SET_finish y_SET_finish ∈ GW := List.mem_filter.mpr ⟨List.mem_of_getElem? (i := 700) rfl, rfl⟩
set_option maxRecDepth 50000 in
theorem tw_701 : Cond.code y_SET_finish b_SET_finish 2 none ∈ GW := List.mem_filter.mpr ⟨List.mem_of_getElem? (i := 701) rfl, rfl⟩
set_option maxRecDepth 50000 in
theorem tw_702 : Cond.methodLink R_SET 52 y_SET_turnRound ∈ GW := List.mem_filter.mpr ⟨List.mem_of_getElem? (i := 702) rfl, rfl⟩
set_option maxRecDepth 50000 in
theorem tw_704 : Cond.instanceMethod y_SET_turnRound ∈ GW := List.mem_filter.mpr ⟨List.mem_of_getElem? (i := 704) rfl, rfl⟩
set_option maxRecDepth 50000 in
theorem tw_705 : Cond.code y_SET_turnRound b_SET_turnRound 6 none ∈ GW := List.mem_filter.mpr ⟨List.mem_of_getElem? (i := 705) rfl, rfl⟩
set_option maxRecDepth 50000 in
theorem tw_706 : Cond.constant R_SET 51 1114111 ∈ GW := List.mem_filter.mpr ⟨List.mem_of_getElem? (i := 706) rfl, rfl⟩
set_option maxRecDepth 50000 in
theorem tw_707 : Cond.constant R_SET 55 55296 ∈ GW := List.mem_filter.mpr ⟨List.mem_of_getElem? (i := 707) rfl, rfl⟩
set_option maxRecDepth 50000 in
theorem tw_708 : Cond.constant R_SET 56 57343 ∈ GW := List.mem_filter.mpr ⟨List.mem_of_getElem? (i := 708) rfl, rfl⟩
set_option maxRecDepth 50000 in
theorem tw_709 : Cond.methodLink R_SET 28 y_SET_add ∈ GW := List.mem_filter.mpr ⟨List.mem_of_getElem? (i := 709) rfl, rfl⟩
set_option maxRecDepth 50000 in
theorem tw_710 : Cond.instanceMethod y_SET_add ∈ GW := List.mem_filter.mpr ⟨List.mem_of_getElem? (i := 710) rfl, rfl⟩
set_option maxRecDepth 50000 in
theorem tw_711 : Cond.selects R_SET y_SET_add y_SET_add ∈ GW := List.mem_filter.mpr ⟨List.mem_of_getElem? (i := 711) rfl, rfl⟩
set_option maxRecDepth 50000 in
theorem tw_712 : Cond.code y_SET_add b_SET_add 8 none ∈ GW := List.mem_filter.mpr ⟨List.mem_of_getElem? (i := 712) rfl, rfl⟩
set_option maxRecDepth 50000 in
theorem tw_713 : Cond.methodLink R_SET 22 arraycopyName ∈ GW := List.mem_filter.mpr ⟨List.mem_of_getElem? (i := 713) rfl, rfl⟩
set_option maxRecDepth 50000 in
theorem tw_714 : Cond.static arraycopyName ∈ GW := List.mem_filter.mpr ⟨List.mem_of_getElem? (i := 714) rfl, rfl⟩
set_option maxRecDepth 50000 in
theorem tw_715 : Cond.native arraycopyName ∈ GW := List.mem_filter.mpr ⟨List.mem_of_getElem? (i := 715) rfl, rfl⟩
set_option maxRecDepth 50000 in
theorem tw_716 : Cond.methodLink R_CLS 49 y_CLS_isSetItem ∈ GW := List.mem_filter.mpr ⟨List.mem_of_getElem? (i := 716) rfl, rfl⟩
set_option maxRecDepth 50000 in
theorem tw_718 : Cond.instanceMethod y_CLS_isSetItem ∈ GW := List.mem_filter.mpr ⟨List.mem_of_getElem? (i := 718) rfl, rfl⟩
set_option maxRecDepth 50000 in
theorem tw_719 : Cond.code y_CLS_isSetItem b_CLS_isSetItem 3 (some .boolean) ∈ GW := List.mem_filter.mpr ⟨List.mem_of_getElem? (i := 719) rfl, rfl⟩
set_option maxRecDepth 50000 in
theorem tw_720 : Cond.methodLink R_CLS 64 y_ESC_isSetLetter ∈ GW := List.mem_filter.mpr ⟨List.mem_of_getElem? (i := 720) rfl, rfl⟩
set_option maxRecDepth 50000 in
theorem tw_721 : Cond.static y_ESC_isSetLetter ∈ GW := List.mem_filter.mpr ⟨List.mem_of_getElem? (i := 721) rfl, rfl⟩
set_option maxRecDepth 50000 in
theorem tw_722 : Cond.code y_ESC_isSetLetter b_ESC_isSetLetter 1 (some .boolean) ∈ GW := List.mem_filter.mpr ⟨List.mem_of_getElem? (i := 722) rfl, rfl⟩
set_option maxRecDepth 50000 in
theorem tw_723 : Cond.methodLink R_ESC 36 y_ESC_setOf ∈ GW := List.mem_filter.mpr ⟨List.mem_of_getElem? (i := 723) rfl, rfl⟩
set_option maxRecDepth 50000 in
theorem tw_724 : Cond.static y_ESC_setOf ∈ GW := List.mem_filter.mpr ⟨List.mem_of_getElem? (i := 724) rfl, rfl⟩
set_option maxRecDepth 50000 in
theorem tw_725 : Cond.code y_ESC_setOf b_ESC_setOf 1 (some (.array .int)) ∈ GW := List.mem_filter.mpr ⟨List.mem_of_getElem? (i := 725) rfl, rfl⟩
set_option maxRecDepth 50000 in
theorem tn_726 : Cond.fieldLinkNest R_ESC 40 "PatternNodes" "DIGITS" "[I" "PatternNodes" ∈ NW := List.mem_filter.mpr ⟨List.mem_of_getElem? (i := 726) rfl, rfl⟩
set_option maxRecDepth 50000 in
theorem tn_728 : Cond.fieldLinkNest R_ESC 43 "PatternNodes" "SPACES" "[I" "PatternNodes" ∈ NW := List.mem_filter.mpr ⟨List.mem_of_getElem? (i := 728) rfl, rfl⟩
set_option maxRecDepth 50000 in
theorem tn_730 : Cond.fieldLinkNest R_ESC 46 "PatternNodes" "WORDS" "[I" "PatternNodes" ∈ NW := List.mem_filter.mpr ⟨List.mem_of_getElem? (i := 730) rfl, rfl⟩
set_option maxRecDepth 50000 in
theorem tw_732 : Cond.methodLink R_CLS 53 y_CLS_readSetItem ∈ GW := List.mem_filter.mpr ⟨List.mem_of_getElem? (i := 732) rfl, rfl⟩
set_option maxRecDepth 50000 in
theorem tw_734 : Cond.instanceMethod y_CLS_readSetItem ∈ GW := List.mem_filter.mpr ⟨List.mem_of_getElem? (i := 734) rfl, rfl⟩
set_option maxRecDepth 50000 in
theorem tw_735 : Cond.code y_CLS_readSetItem b_CLS_readSetItem 5 (some .int) ∈ GW := List.mem_filter.mpr ⟨List.mem_of_getElem? (i := 735) rfl, rfl⟩
set_option maxRecDepth 50000 in
theorem tw_736 : Cond.methodLink R_CLS 69 y_CLS_readSetEscape ∈ GW := List.mem_filter.mpr ⟨List.mem_of_getElem? (i := 736) rfl, rfl⟩
set_option maxRecDepth 50000 in
theorem tw_738 : Cond.instanceMethod y_CLS_readSetEscape ∈ GW := List.mem_filter.mpr ⟨List.mem_of_getElem? (i := 738) rfl, rfl⟩
set_option maxRecDepth 50000 in
theorem tw_739 : Cond.code y_CLS_readSetEscape b_CLS_readSetEscape 3 (some .int) ∈ GW := List.mem_filter.mpr ⟨List.mem_of_getElem? (i := 739) rfl, rfl⟩
set_option maxRecDepth 50000 in
theorem tw_740 : Cond.methodLink R_CLS 80 y_ESC_readEscape ∈ GW := List.mem_filter.mpr ⟨List.mem_of_getElem? (i := 740) rfl, rfl⟩
set_option maxRecDepth 50000 in
theorem tw_741 : Cond.instanceMethod y_ESC_readEscape ∈ GW := List.mem_filter.mpr ⟨List.mem_of_getElem? (i := 741) rfl, rfl⟩
set_option maxRecDepth 50000 in
theorem tw_742 : Cond.selects R_ESC y_ESC_readEscape y_ESC_readEscape ∈ GW := List.mem_filter.mpr ⟨List.mem_of_getElem? (i := 742) rfl, rfl⟩
set_option maxRecDepth 50000 in
theorem tw_743 : Cond.code y_ESC_readEscape b_ESC_readEscape 3 (some .int) ∈ GW := List.mem_filter.mpr ⟨List.mem_of_getElem? (i := 743) rfl, rfl⟩
set_option maxRecDepth 50000 in
theorem tw_744 : Cond.methodLink R_ESC 61 y_PAT_at ∈ GW := List.mem_filter.mpr ⟨List.mem_of_getElem? (i := 744) rfl, rfl⟩
set_option maxRecDepth 50000 in
theorem tw_745 : Cond.methodLink R_ESC 67 y_ESC_found ∈ GW := List.mem_filter.mpr ⟨List.mem_of_getElem? (i := 745) rfl, rfl⟩
set_option maxRecDepth 50000 in
theorem tw_747 : Cond.instanceMethod y_ESC_found ∈ GW := List.mem_filter.mpr ⟨List.mem_of_getElem? (i := 747) rfl, rfl⟩
set_option maxRecDepth 50000 in
theorem tw_748 : Cond.code y_ESC_found b_ESC_found 3 (some .int) ∈ GW := List.mem_filter.mpr ⟨List.mem_of_getElem? (i := 748) rfl, rfl⟩
set_option maxRecDepth 50000 in
theorem tw_749 : Cond.methodLink R_ESC 71 y_ESC_readNumbered ∈ GW := List.mem_filter.mpr ⟨List.mem_of_getElem? (i := 749) rfl, rfl⟩
set_option maxRecDepth 50000 in
theorem tw_751 : Cond.instanceMethod y_ESC_readNumbered ∈ GW := List.mem_filter.mpr ⟨List.mem_of_getElem? (i := 751) rfl, rfl⟩
set_option maxRecDepth 50000 in
theorem tw_752 : Cond.code y_ESC_readNumbered b_ESC_readNumbered 8 (some .int) ∈ GW := List.mem_filter.mpr ⟨List.mem_of_getElem? (i := 752) rfl, rfl⟩
set_option maxRecDepth 50000 in
theorem tn_753 : Cond.methodLinkNest R_ESC 86 y_PN_hexadecimal "PatternNodes" ∈ NW := List.mem_filter.mpr ⟨List.mem_of_getElem? (i := 753) rfl, rfl⟩
set_option maxRecDepth 50000 in
theorem tw_754 : Cond.static y_PN_hexadecimal ∈ GW := List.mem_filter.mpr ⟨List.mem_of_getElem? (i := 754) rfl, rfl⟩
set_option maxRecDepth 50000 in
theorem tw_755 : Cond.code y_PN_hexadecimal b_PN_hexadecimal 1 (some .int) ∈ GW := List.mem_filter.mpr ⟨List.mem_of_getElem? (i := 755) rfl, rfl⟩
set_option maxRecDepth 50000 in
theorem tn_756 : Cond.methodLinkNest R_ESC 89 y_PN_isCharacter "PatternNodes" ∈ NW := List.mem_filter.mpr ⟨List.mem_of_getElem? (i := 756) rfl, rfl⟩
set_option maxRecDepth 50000 in
theorem tw_757 : Cond.static y_PN_isCharacter ∈ GW := List.mem_filter.mpr ⟨List.mem_of_getElem? (i := 757) rfl, rfl⟩
set_option maxRecDepth 50000 in
theorem tw_758 : Cond.code y_PN_isCharacter b_PN_isCharacter 1 (some .boolean) ∈ GW := List.mem_filter.mpr ⟨List.mem_of_getElem? (i := 758) rfl, rfl⟩
set_option maxRecDepth 50000 in
theorem tw_759 : Cond.constant R_PN 105 1114111 ∈ GW := List.mem_filter.mpr ⟨List.mem_of_getElem? (i := 759) rfl, rfl⟩
set_option maxRecDepth 50000 in
theorem tw_760 : Cond.constant R_PN 106 55296 ∈ GW := List.mem_filter.mpr ⟨List.mem_of_getElem? (i := 760) rfl, rfl⟩
set_option maxRecDepth 50000 in
theorem tw_761 : Cond.constant R_PN 107 57343 ∈ GW := List.mem_filter.mpr ⟨List.mem_of_getElem? (i := 761) rfl, rfl⟩
set_option maxRecDepth 50000 in
theorem tw_762 : Cond.methodLink R_ESC 74 y_ESC_foundSet ∈ GW := List.mem_filter.mpr ⟨List.mem_of_getElem? (i := 762) rfl, rfl⟩
set_option maxRecDepth 50000 in
theorem tw_764 : Cond.instanceMethod y_ESC_foundSet ∈ GW := List.mem_filter.mpr ⟨List.mem_of_getElem? (i := 764) rfl, rfl⟩
set_option maxRecDepth 50000 in
theorem tw_765 : Cond.code y_ESC_foundSet b_ESC_foundSet 3 (some .int) ∈ GW := List.mem_filter.mpr ⟨List.mem_of_getElem? (i := 765) rfl, rfl⟩
set_option maxRecDepth 50000 in
theorem tw_766 : Cond.methodLink R_ESC 78 y_ESC_readProperty ∈ GW := List.mem_filter.mpr ⟨List.mem_of_getElem? (i := 766) rfl, rfl⟩
set_option maxRecDepth 50000 in
theorem tw_768 : Cond.instanceMethod y_ESC_readProperty ∈ GW := List.mem_filter.mpr ⟨List.mem_of_getElem? (i := 768) rfl, rfl⟩
set_option maxRecDepth 50000 in
theorem tw_769 : Cond.code y_ESC_readProperty b_ESC_readProperty 4 (some .int) ∈ GW := List.mem_filter.mpr ⟨List.mem_of_getElem? (i := 769) rfl, rfl⟩
set_option maxRecDepth 50000 in
theorem tw_770 : Cond.methodLink R_ESC 92 y_ESC_propertyOf ∈ GW := List.mem_filter.mpr ⟨List.mem_of_getElem? (i := 770) rfl, rfl⟩
set_option maxRecDepth 50000 in
theorem tw_771 : Cond.static y_ESC_propertyOf ∈ GW := List.mem_filter.mpr ⟨List.mem_of_getElem? (i := 771) rfl, rfl⟩
set_option maxRecDepth 50000 in
theorem tw_772 : Cond.code y_ESC_propertyOf b_ESC_propertyOf 1 (some (.array .int)) ∈ GW := List.mem_filter.mpr ⟨List.mem_of_getElem? (i := 772) rfl, rfl⟩
set_option maxRecDepth 50000 in
theorem tn_773 : Cond.fieldLinkNest R_ESC 49 "PatternNodes" "PROPERTY_L" "[I" "PatternNodes" ∈ NW := List.mem_filter.mpr ⟨List.mem_of_getElem? (i := 773) rfl, rfl⟩
set_option maxRecDepth 50000 in
theorem tn_775 : Cond.fieldLinkNest R_ESC 52 "PatternNodes" "PROPERTY_N" "[I" "PatternNodes" ∈ NW := List.mem_filter.mpr ⟨List.mem_of_getElem? (i := 775) rfl, rfl⟩
set_option maxRecDepth 50000 in
theorem tn_777 : Cond.fieldLinkNest R_ESC 55 "PatternNodes" "PROPERTY_G" "[I" "PatternNodes" ∈ NW := List.mem_filter.mpr ⟨List.mem_of_getElem? (i := 777) rfl, rfl⟩
set_option maxRecDepth 50000 in
theorem tn_779 : Cond.fieldLinkNest R_ESC 58 "PatternNodes" "PROPERTY_Y" "[I" "PatternNodes" ∈ NW := List.mem_filter.mpr ⟨List.mem_of_getElem? (i := 779) rfl, rfl⟩
set_option maxRecDepth 50000 in
theorem tn_781 : Cond.methodLinkNest R_ESC 82 y_PN_isWord "PatternNodes" ∈ NW := List.mem_filter.mpr ⟨List.mem_of_getElem? (i := 781) rfl, rfl⟩
set_option maxRecDepth 50000 in
theorem tw_782 : Cond.methodLink R_CLS 60 y_CLS_refused ∈ GW := List.mem_filter.mpr ⟨List.mem_of_getElem? (i := 782) rfl, rfl⟩
set_option maxRecDepth 50000 in
theorem tw_784 : Cond.instanceMethod y_CLS_refused ∈ GW := List.mem_filter.mpr ⟨List.mem_of_getElem? (i := 784) rfl, rfl⟩
set_option maxRecDepth 50000 in
theorem tw_785 : Cond.code y_CLS_refused b_CLS_refused 3 (some .int) ∈ GW := List.mem_filter.mpr ⟨List.mem_of_getElem? (i := 785) rfl, rfl⟩
set_option maxRecDepth 50000 in
theorem tw_786 : Cond.methodLink R_CLS 152 y_MIS_tell ∈ GW := List.mem_filter.mpr ⟨List.mem_of_getElem? (i := 786) rfl, rfl⟩
set_option maxRecDepth 50000 in
theorem tw_787 : Cond.methodLink R_CLS 76 y_SET_addSet ∈ GW := List.mem_filter.mpr ⟨List.mem_of_getElem? (i := 787) rfl, rfl⟩
set_option maxRecDepth 50000 in
theorem tw_788 : Cond.instanceMethod y_SET_addSet ∈ GW := List.mem_filter.mpr ⟨List.mem_of_getElem? (i := 788) rfl, rfl⟩
set_option maxRecDepth 50000 in
theorem tw_789 : Cond.selects R_SET y_SET_addSet y_SET_addSet ∈ GW := List.mem_filter.mpr ⟨List.mem_of_getElem? (i := 789) rfl, rfl⟩
set_option maxRecDepth 50000 in
theorem tw_790 : Cond.code y_SET_addSet b_SET_addSet 5 none ∈ GW := List.mem_filter.mpr ⟨List.mem_of_getElem? (i := 790) rfl, rfl⟩
set_option maxRecDepth 50000 in
theorem tw_791 : Cond.methodLink R_CLS 72 y_CLS_setNamedAt ∈ GW := List.mem_filter.mpr ⟨List.mem_of_getElem? (i := 791) rfl, rfl⟩
set_option maxRecDepth 50000 in
theorem tw_793 : Cond.instanceMethod y_CLS_setNamedAt ∈ GW := List.mem_filter.mpr ⟨List.mem_of_getElem? (i := 793) rfl, rfl⟩
set_option maxRecDepth 50000 in
theorem tw_794 : Cond.code y_CLS_setNamedAt b_CLS_setNamedAt 2 (some (.array .int)) ∈ GW := List.mem_filter.mpr ⟨List.mem_of_getElem? (i := 794) rfl, rfl⟩
set_option maxRecDepth 50000 in
theorem tw_796 : Cond.methodLink R_CLS 95 y_PAT_hasText ∈ GW := List.mem_filter.mpr ⟨List.mem_of_getElem? (i := 796) rfl, rfl⟩
set_option maxRecDepth 50000 in
theorem tw_797 : Cond.instanceMethod y_PAT_hasText ∈ GW := List.mem_filter.mpr ⟨List.mem_of_getElem? (i := 797) rfl, rfl⟩
set_option maxRecDepth 50000 in
theorem tw_798 : Cond.selects R_PAT y_PAT_hasText y_PAT_hasText ∈ GW := List.mem_filter.mpr ⟨List.mem_of_getElem? (i := 798) rfl, rfl⟩
set_option maxRecDepth 50000 in
theorem tw_799 : Cond.code y_PAT_hasText b_PAT_hasText 4 (some .boolean) ∈ GW := List.mem_filter.mpr ⟨List.mem_of_getElem? (i := 799) rfl, rfl⟩
set_option maxRecDepth 50000 in
theorem tw_800 : Cond.methodLink R_PAT 30 y_STR_length ∈ GW := List.mem_filter.mpr ⟨List.mem_of_getElem? (i := 800) rfl, rfl⟩
set_option maxRecDepth 50000 in
theorem tw_801 : Cond.instanceMethod y_STR_length ∈ GW := List.mem_filter.mpr ⟨List.mem_of_getElem? (i := 801) rfl, rfl⟩
set_option maxRecDepth 50000 in
theorem tw_802 : Cond.selects R_STR y_STR_length y_STR_length ∈ GW := List.mem_filter.mpr ⟨List.mem_of_getElem? (i := 802) rfl, rfl⟩
set_option maxRecDepth 50000 in
theorem tw_803 : Cond.code y_STR_length b_STR_length 1 (some .int) ∈ GW := List.mem_filter.mpr ⟨List.mem_of_getElem? (i := 803) rfl, rfl⟩
set_option maxRecDepth 50000 in
theorem tw_804 : Cond.methodLink R_STR 335 y_STR_coder ∈ GW := List.mem_filter.mpr ⟨List.mem_of_getElem? (i := 804) rfl, rfl⟩
set_option maxRecDepth 50000 in
theorem tw_805 : Cond.instanceMethod y_STR_coder ∈ GW := List.mem_filter.mpr ⟨List.mem_of_getElem? (i := 805) rfl, rfl⟩
set_option maxRecDepth 50000 in
theorem tw_806 : Cond.selects R_STR y_STR_coder y_STR_coder ∈ GW := List.mem_filter.mpr ⟨List.mem_of_getElem? (i := 806) rfl, rfl⟩
set_option maxRecDepth 50000 in
theorem tw_807 : Cond.code y_STR_coder b_STR_coder 1 (some .byte) ∈ GW := List.mem_filter.mpr ⟨List.mem_of_getElem? (i := 807) rfl, rfl⟩
set_option maxRecDepth 50000 in
theorem tw_808 : Cond.fieldLink R_STR 38 "java/lang/String" "COMPACT_STRINGS" "Z" ∈ GW := List.mem_filter.mpr ⟨List.mem_of_getElem? (i := 808) rfl, rfl⟩
set_option maxRecDepth 50000 in
theorem tw_810 : Cond.methodLink R_PAT 19 y_PAT_at ∈ GW := List.mem_filter.mpr ⟨List.mem_of_getElem? (i := 810) rfl, rfl⟩
set_option maxRecDepth 50000 in
theorem tw_811 : Cond.methodLink R_PAT 35 y_STR_charAt ∈ GW := List.mem_filter.mpr ⟨List.mem_of_getElem? (i := 811) rfl, rfl⟩
set_option maxRecDepth 50000 in
theorem tw_812 : Cond.instanceMethod y_STR_charAt ∈ GW := List.mem_filter.mpr ⟨List.mem_of_getElem? (i := 812) rfl, rfl⟩
set_option maxRecDepth 50000 in
theorem tw_813 : Cond.selects R_STR y_STR_charAt y_STR_charAt ∈ GW := List.mem_filter.mpr ⟨List.mem_of_getElem? (i := 813) rfl, rfl⟩
set_option maxRecDepth 50000 in
theorem tw_814 : Cond.code y_STR_charAt b_STR_charAt 2 (some .char) ∈ GW := List.mem_filter.mpr ⟨List.mem_of_getElem? (i := 814) rfl, rfl⟩
set_option maxRecDepth 50000 in
theorem tw_815 : Cond.methodLink R_STR 492 y_STR_isLatin1 ∈ GW := List.mem_filter.mpr ⟨List.mem_of_getElem? (i := 815) rfl, rfl⟩
set_option maxRecDepth 50000 in
theorem tw_816 : Cond.instanceMethod y_STR_isLatin1 ∈ GW := List.mem_filter.mpr ⟨List.mem_of_getElem? (i := 816) rfl, rfl⟩
set_option maxRecDepth 50000 in
theorem tw_817 : Cond.selects R_STR y_STR_isLatin1 y_STR_isLatin1 ∈ GW := List.mem_filter.mpr ⟨List.mem_of_getElem? (i := 817) rfl, rfl⟩
set_option maxRecDepth 50000 in
theorem tw_818 : Cond.code y_STR_isLatin1 b_STR_isLatin1 1 (some .boolean) ∈ GW := List.mem_filter.mpr ⟨List.mem_of_getElem? (i := 818) rfl, rfl⟩
set_option maxRecDepth 50000 in
theorem tw_819 : Cond.methodLink R_STR 495 y_SL1_charAt ∈ GW := List.mem_filter.mpr ⟨List.mem_of_getElem? (i := 819) rfl, rfl⟩
set_option maxRecDepth 50000 in
theorem tw_820 : Cond.static y_SL1_charAt ∈ GW := List.mem_filter.mpr ⟨List.mem_of_getElem? (i := 820) rfl, rfl⟩
set_option maxRecDepth 50000 in
theorem tw_821 : Cond.code y_SL1_charAt b_SL1_charAt 2 (some .char) ∈ GW := List.mem_filter.mpr ⟨List.mem_of_getElem? (i := 821) rfl, rfl⟩
set_option maxRecDepth 50000 in
theorem tw_822 : Cond.methodLink R_SL1 9 y_STR_checkIndex ∈ GW := List.mem_filter.mpr ⟨List.mem_of_getElem? (i := 822) rfl, rfl⟩
set_option maxRecDepth 50000 in
theorem tw_823 : Cond.static y_STR_checkIndex ∈ GW := List.mem_filter.mpr ⟨List.mem_of_getElem? (i := 823) rfl, rfl⟩
set_option maxRecDepth 50000 in
theorem tw_824 : Cond.code y_STR_checkIndex b_STR_checkIndex 2 none ∈ GW := List.mem_filter.mpr ⟨List.mem_of_getElem? (i := 824) rfl, rfl⟩
set_option maxRecDepth 50000 in
theorem tw_825 : Cond.fieldLink R_STR 1053 "jdk/internal/util/Preconditions" "SIOOBE_FORMATTER" "Ljava/util/function/BiFunction;" ∈ GW := List.mem_filter.mpr ⟨List.mem_of_getElem? (i := 825) rfl, rfl⟩
set_option maxRecDepth 50000 in
theorem tw_827 : Cond.methodLink R_STR 1059 y_PRC_checkIndex ∈ GW := List.mem_filter.mpr ⟨List.mem_of_getElem? (i := 827) rfl, rfl⟩
set_option maxRecDepth 50000 in
theorem tw_828 : Cond.static y_PRC_checkIndex ∈ GW := List.mem_filter.mpr ⟨List.mem_of_getElem? (i := 828) rfl, rfl⟩
set_option maxRecDepth 50000 in
theorem tw_829 : Cond.code y_PRC_checkIndex b_PRC_checkIndex 3 (some .int) ∈ GW := List.mem_filter.mpr ⟨List.mem_of_getElem? (i := 829) rfl, rfl⟩
set_option maxRecDepth 50000 in
theorem tn_849 : Cond.fieldLinkNest R_CLS 99 "PatternNodes" "DIGITS" "[I" "PatternNodes" ∈ NW := List.mem_filter.mpr ⟨List.mem_of_getElem? (i := 849) rfl, rfl⟩
set_option maxRecDepth 50000 in
theorem tn_851 : Cond.fieldLinkNest R_CLS 104 "PatternNodes" "NAMED_ALPHA" "[I" "PatternNodes" ∈ NW := List.mem_filter.mpr ⟨List.mem_of_getElem? (i := 851) rfl, rfl⟩
set_option maxRecDepth 50000 in
theorem tn_854 : Cond.fieldLinkNest R_CLS 109 "PatternNodes" "NAMED_UPPER" "[I" "PatternNodes" ∈ NW := List.mem_filter.mpr ⟨List.mem_of_getElem? (i := 854) rfl, rfl⟩
set_option maxRecDepth 50000 in
theorem tn_857 : Cond.fieldLinkNest R_CLS 114 "PatternNodes" "NAMED_LOWER" "[I" "PatternNodes" ∈ NW := List.mem_filter.mpr ⟨List.mem_of_getElem? (i := 857) rfl, rfl⟩
set_option maxRecDepth 50000 in
theorem tn_860 : Cond.fieldLinkNest R_CLS 119 "PatternNodes" "NAMED_PUNCT" "[I" "PatternNodes" ∈ NW := List.mem_filter.mpr ⟨List.mem_of_getElem? (i := 860) rfl, rfl⟩
set_option maxRecDepth 50000 in
theorem tn_863 : Cond.fieldLinkNest R_CLS 124 "PatternNodes" "NAMED_SPACE" "[I" "PatternNodes" ∈ NW := List.mem_filter.mpr ⟨List.mem_of_getElem? (i := 863) rfl, rfl⟩
set_option maxRecDepth 50000 in
theorem tn_865 : Cond.fieldLinkNest R_CLS 127 "PatternNodes" "NO_SET" "[I" "PatternNodes" ∈ NW := List.mem_filter.mpr ⟨List.mem_of_getElem? (i := 865) rfl, rfl⟩
set_option maxRecDepth 50000 in
theorem tw_866 : Cond.methodLink R_CLS 56 y_CLS_readRange ∈ GW := List.mem_filter.mpr ⟨List.mem_of_getElem? (i := 866) rfl, rfl⟩
set_option maxRecDepth 50000 in
theorem tw_868 : Cond.instanceMethod y_CLS_readRange ∈ GW := List.mem_filter.mpr ⟨List.mem_of_getElem? (i := 868) rfl, rfl⟩
set_option maxRecDepth 50000 in
theorem tw_869 : Cond.code y_CLS_readRange b_CLS_readRange 6 (some .int) ∈ GW := List.mem_filter.mpr ⟨List.mem_of_getElem? (i := 869) rfl, rfl⟩
set_option maxRecDepth 50000 in
theorem tw_870 : Cond.methodLink R_CLS 130 y_CLS_readSingle ∈ GW := List.mem_filter.mpr ⟨List.mem_of_getElem? (i := 870) rfl, rfl⟩
set_option maxRecDepth 50000 in
theorem tw_872 : Cond.instanceMethod y_CLS_readSingle ∈ GW := List.mem_filter.mpr ⟨List.mem_of_getElem? (i := 872) rfl, rfl⟩
set_option maxRecDepth 50000 in
theorem tw_873 : Cond.code y_CLS_readSingle b_CLS_readSingle 3 (some .int) ∈ GW := List.mem_filter.mpr ⟨List.mem_of_getElem? (i := 873) rfl, rfl⟩
set_option maxRecDepth 50000 in
theorem tw_874 : Cond.methodLink R_CLS 140 y_PAT_characterAt ∈ GW := List.mem_filter.mpr ⟨List.mem_of_getElem? (i := 874) rfl, rfl⟩
set_option maxRecDepth 50000 in
theorem tw_875 : Cond.instanceMethod y_PAT_characterAt ∈ GW := List.mem_filter.mpr ⟨List.mem_of_getElem? (i := 875) rfl, rfl⟩
set_option maxRecDepth 50000 in
theorem tw_876 : Cond.selects R_PAT y_PAT_characterAt y_PAT_characterAt ∈ GW := List.mem_filter.mpr ⟨List.mem_of_getElem? (i := 876) rfl, rfl⟩
set_option maxRecDepth 50000 in
theorem tw_877 : Cond.code y_PAT_characterAt b_PAT_characterAt 7 (some .int) ∈ GW := List.mem_filter.mpr ⟨List.mem_of_getElem? (i := 877) rfl, rfl⟩
set_option maxRecDepth 50000 in
theorem tn_878 : Cond.methodLinkNest R_PAT 23 y_PN_isCharacter "PatternNodes" ∈ NW := List.mem_filter.mpr ⟨List.mem_of_getElem? (i := 878) rfl, rfl⟩
set_option maxRecDepth 50000 in
theorem tn_879 : Cond.methodLinkNest R_PAT 27 y_PN_widthOf "PatternNodes" ∈ NW := List.mem_filter.mpr ⟨List.mem_of_getElem? (i := 879) rfl, rfl⟩
set_option maxRecDepth 50000 in
theorem tw_880 : Cond.static y_PN_widthOf ∈ GW := List.mem_filter.mpr ⟨List.mem_of_getElem? (i := 880) rfl, rfl⟩
set_option maxRecDepth 50000 in
theorem tw_881 : Cond.code y_PN_widthOf b_PN_widthOf 1 (some .int) ∈ GW := List.mem_filter.mpr ⟨List.mem_of_getElem? (i := 881) rfl, rfl⟩
set_option maxRecDepth 50000 in
theorem tw_882 : Cond.constant R_PN 108 65536 ∈ GW := List.mem_filter.mpr ⟨List.mem_of_getElem? (i := 882) rfl, rfl⟩
set_option maxRecDepth 50000 in
theorem tn_883 : Cond.methodLinkNest R_CLS 143 y_PN_widthOf "PatternNodes" ∈ NW := List.mem_filter.mpr ⟨List.mem_of_getElem? (i := 883) rfl, rfl⟩
set_option maxRecDepth 50000 in
theorem tw_884 : Cond.methodLink R_CLS 133 y_SET_addWithAlike ∈ GW := List.mem_filter.mpr ⟨List.mem_of_getElem? (i := 884) rfl, rfl⟩
set_option maxRecDepth 50000 in
theorem tw_885 : Cond.instanceMethod y_SET_addWithAlike ∈ GW := List.mem_filter.mpr ⟨List.mem_of_getElem? (i := 885) rfl, rfl⟩
set_option maxRecDepth 50000 in
theorem tw_886 : Cond.selects R_SET y_SET_addWithAlike y_SET_addWithAlike ∈ GW := List.mem_filter.mpr ⟨List.mem_of_getElem? (i := 886) rfl, rfl⟩
set_option maxRecDepth 50000 in
theorem tw_887 : Cond.code y_SET_addWithAlike b_SET_addWithAlike 5 none ∈ GW := List.mem_filter.mpr ⟨List.mem_of_getElem? (i := 887) rfl, rfl⟩
set_option maxRecDepth 50000 in
theorem tn_888 : Cond.fieldLinkNest R_SET 32 "PatternNodes" "PAIRED" "[I" "PatternNodes" ∈ NW := List.mem_filter.mpr ⟨List.mem_of_getElem? (i := 888) rfl, rfl⟩
set_option maxRecDepth 50000 in
theorem tw_890 : Cond.methodLink R_SET 35 Lib.Math.max.name ∈ GW := List.mem_filter.mpr ⟨List.mem_of_getElem? (i := 890) rfl, rfl⟩
set_option maxRecDepth 50000 in
theorem tw_891 : Cond.static Lib.Math.max.name ∈ GW := List.mem_filter.mpr ⟨List.mem_of_getElem? (i := 891) rfl, rfl⟩
set_option maxRecDepth 50000 in
theorem tw_892 : Cond.code Lib.Math.max.name Lib.Math.max.code 2 (some .int) ∈ GW := List.mem_filter.mpr ⟨List.mem_of_getElem? (i := 892) rfl, rfl⟩
set_option maxRecDepth 50000 in
theorem tw_893 : Cond.methodLink R_SET 41 Lib.Math.min.name ∈ GW := List.mem_filter.mpr ⟨List.mem_of_getElem? (i := 893) rfl, rfl⟩
set_option maxRecDepth 50000 in
theorem tn_894 : Cond.fieldLinkNest R_SET 44 "PatternNodes" "KIN" "[I" "PatternNodes" ∈ NW := List.mem_filter.mpr ⟨List.mem_of_getElem? (i := 894) rfl, rfl⟩
set_option maxRecDepth 50000 in
theorem tw_896 : Cond.methodLink R_SET 47 y_SET_addKin ∈ GW := List.mem_filter.mpr ⟨List.mem_of_getElem? (i := 896) rfl, rfl⟩
set_option maxRecDepth 50000 in
theorem tw_898 : Cond.instanceMethod y_SET_addKin ∈ GW := List.mem_filter.mpr ⟨List.mem_of_getElem? (i := 898) rfl, rfl⟩
set_option maxRecDepth 50000 in
theorem tw_899 : Cond.code y_SET_addKin b_SET_addKin 6 none ∈ GW := List.mem_filter.mpr ⟨List.mem_of_getElem? (i := 899) rfl, rfl⟩
set_option maxRecDepth 50000 in
theorem tw_900 : Cond.methodLink R_CLS 137 y_SET_add ∈ GW := List.mem_filter.mpr ⟨List.mem_of_getElem? (i := 900) rfl, rfl⟩
set_option maxRecDepth 50000 in
theorem tw_901 : Cond.methodLink R_RDR 141 y_RDR_addClassPart ∈ GW := List.mem_filter.mpr ⟨List.mem_of_getElem? (i := 901) rfl, rfl⟩
set_option maxRecDepth 50000 in
theorem tw_903 : Cond.instanceMethod y_RDR_addClassPart ∈ GW := List.mem_filter.mpr ⟨List.mem_of_getElem? (i := 903) rfl, rfl⟩
set_option maxRecDepth 50000 in
theorem tw_904 : Cond.code y_RDR_addClassPart b_RDR_addClassPart 2 none ∈ GW := List.mem_filter.mpr ⟨List.mem_of_getElem? (i := 904) rfl, rfl⟩
set_option maxRecDepth 50000 in
theorem tw_905 : Cond.methodLink R_RDR 231 y_TRE_addClass ∈ GW := List.mem_filter.mpr ⟨List.mem_of_getElem? (i := 905) rfl, rfl⟩
set_option maxRecDepth 50000 in
theorem tw_906 : Cond.instanceMethod y_TRE_addClass ∈ GW := List.mem_filter.mpr ⟨List.mem_of_getElem? (i := 906) rfl, rfl⟩
set_option maxRecDepth 50000 in
theorem tw_907 : Cond.selects R_TRE y_TRE_addClass y_TRE_addClass ∈ GW := List.mem_filter.mpr ⟨List.mem_of_getElem? (i := 907) rfl, rfl⟩
set_option maxRecDepth 50000 in
theorem tw_908 : Cond.code y_TRE_addClass b_TRE_addClass 3 none ∈ GW := List.mem_filter.mpr ⟨List.mem_of_getElem? (i := 908) rfl, rfl⟩
set_option maxRecDepth 50000 in
theorem tw_909 : Cond.methodLink R_TRE 68 y_TRE_addLeaf ∈ GW := List.mem_filter.mpr ⟨List.mem_of_getElem? (i := 909) rfl, rfl⟩
set_option maxRecDepth 50000 in
theorem tw_910 : Cond.methodLink R_TRE 73 arraycopyName ∈ GW := List.mem_filter.mpr ⟨List.mem_of_getElem? (i := 910) rfl, rfl⟩
set_option maxRecDepth 50000 in
theorem tw_911 : Cond.methodLink R_RDR 145 y_RDR_readEscapePart ∈ GW := List.mem_filter.mpr ⟨List.mem_of_getElem? (i := 911) rfl, rfl⟩
set_option maxRecDepth 50000 in
theorem tw_913 : Cond.instanceMethod y_RDR_readEscapePart ∈ GW := List.mem_filter.mpr ⟨List.mem_of_getElem? (i := 913) rfl, rfl⟩
set_option maxRecDepth 50000 in
theorem tw_914 : Cond.code y_RDR_readEscapePart b_RDR_readEscapePart 2 none ∈ GW := List.mem_filter.mpr ⟨List.mem_of_getElem? (i := 914) rfl, rfl⟩
set_option maxRecDepth 50000 in
theorem tw_915 : Cond.methodLink R_RDR 235 y_ESC_readEscape ∈ GW := List.mem_filter.mpr ⟨List.mem_of_getElem? (i := 915) rfl, rfl⟩
set_option maxRecDepth 50000 in
theorem tw_916 : Cond.methodLink R_RDR 244 y_RDR_addCharacter ∈ GW := List.mem_filter.mpr ⟨List.mem_of_getElem? (i := 916) rfl, rfl⟩
set_option maxRecDepth 50000 in
theorem tw_918 : Cond.instanceMethod y_RDR_addCharacter ∈ GW := List.mem_filter.mpr ⟨List.mem_of_getElem? (i := 918) rfl, rfl⟩
set_option maxRecDepth 50000 in
theorem tw_919 : Cond.code y_RDR_addCharacter b_RDR_addCharacter 2 none ∈ GW := List.mem_filter.mpr ⟨List.mem_of_getElem? (i := 919) rfl, rfl⟩
set_option maxRecDepth 50000 in
theorem tw_920 : Cond.methodLink R_RDR 263 y_SET_clear ∈ GW := List.mem_filter.mpr ⟨List.mem_of_getElem? (i := 920) rfl, rfl⟩
set_option maxRecDepth 50000 in
theorem tw_921 : Cond.methodLink R_RDR 293 y_SET_addWithAlike ∈ GW := List.mem_filter.mpr ⟨List.mem_of_getElem? (i := 921) rfl, rfl⟩
set_option maxRecDepth 50000 in
theorem tw_922 : Cond.methodLink R_RDR 296 y_SET_add ∈ GW := List.mem_filter.mpr ⟨List.mem_of_getElem? (i := 922) rfl, rfl⟩
set_option maxRecDepth 50000 in
theorem tw_923 : Cond.methodLink R_RDR 299 y_SET_isOneCharacter ∈ GW := List.mem_filter.mpr ⟨List.mem_of_getElem? (i := 923) rfl, rfl⟩
set_option maxRecDepth 50000 in
theorem tw_924 : Cond.instanceMethod y_SET_isOneCharacter ∈ GW := List.mem_filter.mpr ⟨List.mem_of_getElem? (i := 924) rfl, rfl⟩
set_option maxRecDepth 50000 in
theorem tw_925 : Cond.selects R_SET y_SET_isOneCharacter y_SET_isOneCharacter ∈ GW := List.mem_filter.mpr ⟨List.mem_of_getElem? (i := 925) rfl, rfl⟩
set_option maxRecDepth 50000 in
theorem tw_926 : Cond.code y_SET_isOneCharacter b_SET_isOneCharacter 1 (some .boolean) ∈ GW := List.mem_filter.mpr ⟨List.mem_of_getElem? (i := 926) rfl, rfl⟩
set_option maxRecDepth 50000 in
theorem tw_927 : Cond.methodLink R_RDR 252 y_RDR_addFixedSet ∈ GW := List.mem_filter.mpr ⟨List.mem_of_getElem? (i := 927) rfl, rfl⟩
set_option maxRecDepth 50000 in
theorem tw_929 : Cond.instanceMethod y_RDR_addFixedSet ∈ GW := List.mem_filter.mpr ⟨List.mem_of_getElem? (i := 929) rfl, rfl⟩
set_option maxRecDepth 50000 in
theorem tw_930 : Cond.code y_RDR_addFixedSet b_RDR_addFixedSet 3 none ∈ GW := List.mem_filter.mpr ⟨List.mem_of_getElem? (i := 930) rfl, rfl⟩
set_option maxRecDepth 50000 in
theorem tw_931 : Cond.methodLink R_RDR 264 y_SET_addSet ∈ GW := List.mem_filter.mpr ⟨List.mem_of_getElem? (i := 931) rfl, rfl⟩
set_option maxRecDepth 50000 in
theorem tw_932 : Cond.methodLink R_RDR 267 y_SET_finish ∈ GW := List.mem_filter.mpr ⟨List.mem_of_getElem? (i := 932) rfl, rfl⟩
set_option maxRecDepth 50000 in
theorem tw_933 : Cond.methodLink R_RDR 148 y_RDR_readAny ∈ GW := List.mem_filter.mpr ⟨List.mem_of_getElem? (i := 933) rfl, rfl⟩
set_option maxRecDepth 50000 in
theorem tw_935 : Cond.instanceMethod y_RDR_readAny ∈ GW := List.mem_filter.mpr ⟨List.mem_of_getElem? (i := 935) rfl, rfl⟩
set_option maxRecDepth 50000 in
theorem tw_936 : Cond.code y_RDR_readAny b_RDR_readAny 1 none ∈ GW := List.mem_filter.mpr ⟨List.mem_of_getElem? (i := 936) rfl, rfl⟩
set_option maxRecDepth 50000 in
theorem tn_937 : Cond.fieldLinkNest R_RDR 257 "PatternNodes" "NO_SET" "[I" "PatternNodes" ∈ NW := List.mem_filter.mpr ⟨List.mem_of_getElem? (i := 937) rfl, rfl⟩
set_option maxRecDepth 50000 in
theorem tn_938 : Cond.fieldLinkNest R_RDR 260 "PatternNodes" "LINE_FEED" "[I" "PatternNodes" ∈ NW := List.mem_filter.mpr ⟨List.mem_of_getElem? (i := 938) rfl, rfl⟩
set_option maxRecDepth 50000 in
theorem tw_940 : Cond.methodLink R_RDR 151 y_RDR_addAssertion ∈ GW := List.mem_filter.mpr ⟨List.mem_of_getElem? (i := 940) rfl, rfl⟩
set_option maxRecDepth 50000 in
theorem tw_942 : Cond.instanceMethod y_RDR_addAssertion ∈ GW := List.mem_filter.mpr ⟨List.mem_of_getElem? (i := 942) rfl, rfl⟩
set_option maxRecDepth 50000 in
theorem tw_943 : Cond.code y_RDR_addAssertion b_RDR_addAssertion 2 none ∈ GW := List.mem_filter.mpr ⟨List.mem_of_getElem? (i := 943) rfl, rfl⟩
set_option maxRecDepth 50000 in
theorem tw_944 : Cond.methodLink R_RDR 154 y_REP_readRepeat ∈ GW := List.mem_filter.mpr ⟨List.mem_of_getElem? (i := 944) rfl, rfl⟩
set_option maxRecDepth 50000 in
theorem tw_945 : Cond.instanceMethod y_REP_readRepeat ∈ GW := List.mem_filter.mpr ⟨List.mem_of_getElem? (i := 945) rfl, rfl⟩
set_option maxRecDepth 50000 in
theorem tw_946 : Cond.selects R_REP y_REP_readRepeat y_REP_readRepeat ∈ GW := List.mem_filter.mpr ⟨List.mem_of_getElem? (i := 946) rfl, rfl⟩
set_option maxRecDepth 50000 in
theorem tw_947 : Cond.code y_REP_readRepeat b_REP_readRepeat 3 (some .boolean) ∈ GW := List.mem_filter.mpr ⟨List.mem_of_getElem? (i := 947) rfl, rfl⟩
set_option maxRecDepth 50000 in
theorem tw_948 : Cond.methodLink R_REP 32 y_PAT_at ∈ GW := List.mem_filter.mpr ⟨List.mem_of_getElem? (i := 948) rfl, rfl⟩
set_option maxRecDepth 50000 in
theorem tw_949 : Cond.methodLink R_REP 38 y_REP_readBounds ∈ GW := List.mem_filter.mpr ⟨List.mem_of_getElem? (i := 949) rfl, rfl⟩
set_option maxRecDepth 50000 in
theorem tw_951 : Cond.instanceMethod y_REP_readBounds ∈ GW := List.mem_filter.mpr ⟨List.mem_of_getElem? (i := 951) rfl, rfl⟩
set_option maxRecDepth 50000 in
theorem tw_952 : Cond.code y_REP_readBounds b_REP_readBounds 1 (some .boolean) ∈ GW := List.mem_filter.mpr ⟨List.mem_of_getElem? (i := 952) rfl, rfl⟩
set_option maxRecDepth 50000 in
theorem tw_953 : Cond.methodLink R_REP 42 y_REP_readNumber ∈ GW := List.mem_filter.mpr ⟨List.mem_of_getElem? (i := 953) rfl, rfl⟩
set_option maxRecDepth 50000 in
theorem tw_955 : Cond.instanceMethod y_REP_readNumber ∈ GW := List.mem_filter.mpr ⟨List.mem_of_getElem? (i := 955) rfl, rfl⟩
set_option maxRecDepth 50000 in
theorem tw_956 : Cond.code y_REP_readNumber b_REP_readNumber 2 (some .boolean) ∈ GW := List.mem_filter.mpr ⟨List.mem_of_getElem? (i := 956) rfl, rfl⟩
set_option maxRecDepth 50000 in
theorem tn_957 : Cond.methodLinkNest R_REP 45 y_PN_isDigit "PatternNodes" ∈ NW := List.mem_filter.mpr ⟨List.mem_of_getElem? (i := 957) rfl, rfl⟩
set_option maxRecDepth 50000 in
theorem tw_958 : Cond.methodLink R_RDR 157 y_RDR_addRepeat ∈ GW := List.mem_filter.mpr ⟨List.mem_of_getElem? (i := 958) rfl, rfl⟩
set_option maxRecDepth 50000 in
theorem tw_960 : Cond.instanceMethod y_RDR_addRepeat ∈ GW := List.mem_filter.mpr ⟨List.mem_of_getElem? (i := 960) rfl, rfl⟩
set_option maxRecDepth 50000 in
theorem tw_961 : Cond.code y_RDR_addRepeat b_RDR_addRepeat 3 none ∈ GW := List.mem_filter.mpr ⟨List.mem_of_getElem? (i := 961) rfl, rfl⟩
set_option maxRecDepth 50000 in
theorem tw_962 : Cond.methodLink R_RDR 271 y_REP_hasBadTimes ∈ GW := List.mem_filter.mpr ⟨List.mem_of_getElem? (i := 962) rfl, rfl⟩
set_option maxRecDepth 50000 in
theorem tw_963 : Cond.instanceMethod y_REP_hasBadTimes ∈ GW := List.mem_filter.mpr ⟨List.mem_of_getElem? (i := 963) rfl, rfl⟩
set_option maxRecDepth 50000 in
theorem tw_964 : Cond.selects R_REP y_REP_hasBadTimes y_REP_hasBadTimes ∈ GW := List.mem_filter.mpr ⟨List.mem_of_getElem? (i := 964) rfl, rfl⟩
set_option maxRecDepth 50000 in
theorem tw_965 : Cond.code y_REP_hasBadTimes b_REP_hasBadTimes 1 (some .boolean) ∈ GW := List.mem_filter.mpr ⟨List.mem_of_getElem? (i := 965) rfl, rfl⟩
set_option maxRecDepth 50000 in
theorem tw_966 : Cond.methodLink R_RDR 277 y_REP_sizeOver ∈ GW := List.mem_filter.mpr ⟨List.mem_of_getElem? (i := 966) rfl, rfl⟩
set_option maxRecDepth 50000 in
theorem tw_967 : Cond.instanceMethod y_REP_sizeOver ∈ GW := List.mem_filter.mpr ⟨List.mem_of_getElem? (i := 967) rfl, rfl⟩
set_option maxRecDepth 50000 in
theorem tw_968 : Cond.selects R_REP y_REP_sizeOver y_REP_sizeOver ∈ GW := List.mem_filter.mpr ⟨List.mem_of_getElem? (i := 968) rfl, rfl⟩
set_option maxRecDepth 50000 in
theorem tw_969 : Cond.code y_REP_sizeOver b_REP_sizeOver 2 (some .int) ∈ GW := List.mem_filter.mpr ⟨List.mem_of_getElem? (i := 969) rfl, rfl⟩
set_option maxRecDepth 50000 in
theorem tw_970 : Cond.methodLink R_RDR 160 y_RDR_readCharacter ∈ GW := List.mem_filter.mpr ⟨List.mem_of_getElem? (i := 970) rfl, rfl⟩
set_option maxRecDepth 50000 in
theorem tw_972 : Cond.instanceMethod y_RDR_readCharacter ∈ GW := List.mem_filter.mpr ⟨List.mem_of_getElem? (i := 972) rfl, rfl⟩
set_option maxRecDepth 50000 in
theorem tw_973 : Cond.code y_RDR_readCharacter b_RDR_readCharacter 2 none ∈ GW := List.mem_filter.mpr ⟨List.mem_of_getElem? (i := 973) rfl, rfl⟩
set_option maxRecDepth 50000 in
theorem tw_974 : Cond.methodLink R_RDR 287 y_PAT_characterAt ∈ GW := List.mem_filter.mpr ⟨List.mem_of_getElem? (i := 974) rfl, rfl⟩
set_option maxRecDepth 50000 in
theorem tn_975 : Cond.methodLinkNest R_RDR 290 y_PN_widthOf "PatternNodes" ∈ NW := List.mem_filter.mpr ⟨List.mem_of_getElem? (i := 975) rfl, rfl⟩
set_option maxRecDepth 50000 in
theorem tw_976 : Cond.methodLink R_PN 68 y_RDR_end ∈ GW := List.mem_filter.mpr ⟨List.mem_of_getElem? (i := 976) rfl, rfl⟩
set_option maxRecDepth 50000 in
theorem tw_977 : Cond.instanceMethod y_RDR_end ∈ GW := List.mem_filter.mpr ⟨List.mem_of_getElem? (i := 977) rfl, rfl⟩
set_option maxRecDepth 50000 in
theorem tw_978 : Cond.selects R_RDR y_RDR_end y_RDR_end ∈ GW := List.mem_filter.mpr ⟨List.mem_of_getElem? (i := 978) rfl, rfl⟩
set_option maxRecDepth 50000 in
theorem tw_979 : Cond.code y_RDR_end b_RDR_end 1 none ∈ GW := List.mem_filter.mpr ⟨List.mem_of_getElem? (i := 979) rfl, rfl⟩
set_option maxRecDepth 50000 in
theorem tw_980 : Cond.methodLink R_PN 71 y_PAT_clear ∈ GW := List.mem_filter.mpr ⟨List.mem_of_getElem? (i := 980) rfl, rfl⟩
set_option maxRecDepth 50000 in
theorem tw_981 : Cond.instanceMethod y_PAT_clear ∈ GW := List.mem_filter.mpr ⟨List.mem_of_getElem? (i := 981) rfl, rfl⟩
set_option maxRecDepth 50000 in
theorem tw_982 : Cond.selects R_PAT y_PAT_clear y_PAT_clear ∈ GW := List.mem_filter.mpr ⟨List.mem_of_getElem? (i := 982) rfl, rfl⟩
set_option maxRecDepth 50000 in
theorem tw_983 : Cond.code y_PAT_clear b_PAT_clear 1 none ∈ GW := List.mem_filter.mpr ⟨List.mem_of_getElem? (i := 983) rfl, rfl⟩
set_option maxRecDepth 50000 in
theorem tw_984 : Cond.methodLink R_PN 78 y_TRE_clear ∈ GW := List.mem_filter.mpr ⟨List.mem_of_getElem? (i := 984) rfl, rfl⟩
set_option maxRecDepth 50000 in
theorem tw_985 : Cond.methodLink R_PN 79 y_GRP_clear ∈ GW := List.mem_filter.mpr ⟨List.mem_of_getElem? (i := 985) rfl, rfl⟩
set_option maxRecDepth 50000 in
theorem tw_992 : Cond.methodLink R_MOD 1 Lib.objectInit ∈ GW := List.mem_filter.mpr ⟨List.mem_of_getElem? (i := 992) rfl, rfl⟩
set_option maxRecDepth 50000 in
theorem tw_993 : Cond.fieldLink R_MOD 92 "PatternNodesModel" "thrown" "I" ∈ GW := List.mem_filter.mpr ⟨List.mem_of_getElem? (i := 993) rfl, rfl⟩
set_option maxRecDepth 50000 in
theorem tw_994 : Cond.fieldLink R_MOD 7 "PatternNodesModel" "hand" "[I" ∈ GW := List.mem_filter.mpr ⟨List.mem_of_getElem? (i := 994) rfl, rfl⟩
set_option maxRecDepth 50000 in
theorem tw_995 : Cond.fieldLink R_MOD 95 "PatternNodesModel" "inHand" "I" ∈ GW := List.mem_filter.mpr ⟨List.mem_of_getElem? (i := 995) rfl, rfl⟩
set_option maxRecDepth 50000 in
theorem tw_996 : Cond.fieldLink R_MOD 13 "PatternNodesModel" "text" "[I" ∈ GW := List.mem_filter.mpr ⟨List.mem_of_getElem? (i := 996) rfl, rfl⟩
set_option maxRecDepth 50000 in
theorem tw_997 : Cond.fieldLink R_MOD 176 "PatternNodesModel" "n" "I" ∈ GW := List.mem_filter.mpr ⟨List.mem_of_getElem? (i := 997) rfl, rfl⟩
set_option maxRecDepth 50000 in
theorem tw_998 : Cond.fieldLink R_MOD 216 "PatternNodesModel" "at" "I" ∈ GW := List.mem_filter.mpr ⟨List.mem_of_getElem? (i := 998) rfl, rfl⟩
set_option maxRecDepth 50000 in
theorem tw_999 : Cond.fieldLink R_MOD 173 "PatternNodesModel" "fault" "I" ∈ GW := List.mem_filter.mpr ⟨List.mem_of_getElem? (i := 999) rfl, rfl⟩
set_option maxRecDepth 50000 in
theorem tw_1000 : Cond.fieldLink R_MOD 16 "PatternNodesModel" "place" "I" ∈ GW := List.mem_filter.mpr ⟨List.mem_of_getElem? (i := 1000) rfl, rfl⟩
set_option maxRecDepth 50000 in
theorem tw_1001 : Cond.fieldLink R_MOD 135 "PatternNodesModel" "nodes" "I" ∈ GW := List.mem_filter.mpr ⟨List.mem_of_getElem? (i := 1001) rfl, rfl⟩
set_option maxRecDepth 50000 in
theorem tw_1002 : Cond.fieldLink R_MOD 20 "PatternNodesModel" "kind" "[I" ∈ GW := List.mem_filter.mpr ⟨List.mem_of_getElem? (i := 1002) rfl, rfl⟩
set_option maxRecDepth 50000 in
theorem tw_1003 : Cond.fieldLink R_MOD 23 "PatternNodesModel" "value" "[I" ∈ GW := List.mem_filter.mpr ⟨List.mem_of_getElem? (i := 1003) rfl, rfl⟩
set_option maxRecDepth 50000 in
theorem tw_1004 : Cond.fieldLink R_MOD 26 "PatternNodesModel" "most" "[I" ∈ GW := List.mem_filter.mpr ⟨List.mem_of_getElem? (i := 1004) rfl, rfl⟩
set_option maxRecDepth 50000 in
theorem tw_1005 : Cond.fieldLink R_MOD 29 "PatternNodesModel" "span" "[I" ∈ GW := List.mem_filter.mpr ⟨List.mem_of_getElem? (i := 1005) rfl, rfl⟩
set_option maxRecDepth 50000 in
theorem tw_1006 : Cond.fieldLink R_MOD 32 "PatternNodesModel" "size" "[I" ∈ GW := List.mem_filter.mpr ⟨List.mem_of_getElem? (i := 1006) rfl, rfl⟩
set_option maxRecDepth 50000 in
theorem tw_1007 : Cond.fieldLink R_MOD 35 "PatternNodesModel" "whose" "[I" ∈ GW := List.mem_filter.mpr ⟨List.mem_of_getElem? (i := 1007) rfl, rfl⟩
set_option maxRecDepth 50000 in
theorem tw_1008 : Cond.fieldLink R_MOD 38 "PatternNodesModel" "rangeFrom" "[I" ∈ GW := List.mem_filter.mpr ⟨List.mem_of_getElem? (i := 1008) rfl, rfl⟩
set_option maxRecDepth 50000 in
theorem tw_1009 : Cond.fieldLink R_MOD 41 "PatternNodesModel" "rangeMany" "[I" ∈ GW := List.mem_filter.mpr ⟨List.mem_of_getElem? (i := 1009) rfl, rfl⟩
set_option maxRecDepth 50000 in
theorem tw_1010 : Cond.fieldLink R_MOD 44 "PatternNodesModel" "begins" "[I" ∈ GW := List.mem_filter.mpr ⟨List.mem_of_getElem? (i := 1010) rfl, rfl⟩
set_option maxRecDepth 50000 in
theorem tw_1011 : Cond.fieldLink R_MOD 47 "PatternNodesModel" "ends" "[I" ∈ GW := List.mem_filter.mpr ⟨List.mem_of_getElem? (i := 1011) rfl, rfl⟩
set_option maxRecDepth 50000 in
theorem tw_1012 : Cond.fieldLink R_MOD 121 "PatternNodesModel" "ranges" "I" ∈ GW := List.mem_filter.mpr ⟨List.mem_of_getElem? (i := 1012) rfl, rfl⟩
set_option maxRecDepth 50000 in
theorem tw_1013 : Cond.fieldLink R_MOD 274 "PatternNodesModel" "numbered" "I" ∈ GW := List.mem_filter.mpr ⟨List.mem_of_getElem? (i := 1013) rfl, rfl⟩
set_option maxRecDepth 50000 in
theorem tw_1014 : Cond.fieldLink R_MOD 50 "PatternNodesModel" "names" "[I" ∈ GW := List.mem_filter.mpr ⟨List.mem_of_getElem? (i := 1014) rfl, rfl⟩
set_option maxRecDepth 50000 in
theorem tw_1015 : Cond.fieldLink R_MOD 53 "PatternNodesModel" "nameSize" "[I" ∈ GW := List.mem_filter.mpr ⟨List.mem_of_getElem? (i := 1015) rfl, rfl⟩
set_option maxRecDepth 50000 in
theorem tw_1016 : Cond.fieldLink R_MOD 146 "PatternNodesModel" "depth" "I" ∈ GW := List.mem_filter.mpr ⟨List.mem_of_getElem? (i := 1016) rfl, rfl⟩
set_option maxRecDepth 50000 in
theorem tw_1017 : Cond.fieldLink R_MOD 56 "PatternNodesModel" "opened" "[I" ∈ GW := List.mem_filter.mpr ⟨List.mem_of_getElem? (i := 1017) rfl, rfl⟩
set_option maxRecDepth 50000 in
theorem tw_1018 : Cond.fieldLink R_MOD 59 "PatternNodesModel" "number" "[I" ∈ GW := List.mem_filter.mpr ⟨List.mem_of_getElem? (i := 1018) rfl, rfl⟩
set_option maxRecDepth 50000 in
theorem tw_1019 : Cond.fieldLink R_MOD 62 "PatternNodesModel" "flagsBefore" "[I" ∈ GW := List.mem_filter.mpr ⟨List.mem_of_getElem? (i := 1019) rfl, rfl⟩
set_option maxRecDepth 50000 in
theorem tw_1020 : Cond.fieldLink R_MOD 65 "PatternNodesModel" "rows" "[I" ∈ GW := List.mem_filter.mpr ⟨List.mem_of_getElem? (i := 1020) rfl, rfl⟩
set_option maxRecDepth 50000 in
theorem tw_1021 : Cond.fieldLink R_MOD 68 "PatternNodesModel" "parts" "[I" ∈ GW := List.mem_filter.mpr ⟨List.mem_of_getElem? (i := 1021) rfl, rfl⟩
set_option maxRecDepth 50000 in
theorem tw_1022 : Cond.fieldLink R_MOD 115 "PatternNodesModel" "flags" "I" ∈ GW := List.mem_filter.mpr ⟨List.mem_of_getElem? (i := 1022) rfl, rfl⟩
set_option maxRecDepth 50000 in
theorem tw_1023 : Cond.fieldLink R_MOD 149 "PatternNodesModel" "repeatable" "Z" ∈ GW := List.mem_filter.mpr ⟨List.mem_of_getElem? (i := 1023) rfl, rfl⟩
set_option maxRecDepth 50000 in
theorem tw_1024 : Cond.fieldLink R_MOD 71 "PatternNodesModel" "low" "[I" ∈ GW := List.mem_filter.mpr ⟨List.mem_of_getElem? (i := 1024) rfl, rfl⟩
set_option maxRecDepth 50000 in
theorem tw_1025 : Cond.fieldLink R_MOD 74 "PatternNodesModel" "high" "[I" ∈ GW := List.mem_filter.mpr ⟨List.mem_of_getElem? (i := 1025) rfl, rfl⟩
set_option maxRecDepth 50000 in
theorem tw_1026 : Cond.fieldLink R_MOD 77 "PatternNodesModel" "many" "[I" ∈ GW := List.mem_filter.mpr ⟨List.mem_of_getElem? (i := 1026) rfl, rfl⟩
set_option maxRecDepth 50000 in
theorem tw_1027 : Cond.fieldLink R_MOD 80 "PatternNodesModel" "like" "[I" ∈ GW := List.mem_filter.mpr ⟨List.mem_of_getElem? (i := 1027) rfl, rfl⟩
set_option maxRecDepth 50000 in
theorem tw_1028 : Cond.fieldLink R_MOD 83 "PatternNodesModel" "sets" "[I" ∈ GW := List.mem_filter.mpr ⟨List.mem_of_getElem? (i := 1028) rfl, rfl⟩
set_option maxRecDepth 50000 in
theorem tw_1029 : Cond.fieldLink R_MOD 86 "PatternNodesModel" "large" "[I" ∈ GW := List.mem_filter.mpr ⟨List.mem_of_getElem? (i := 1029) rfl, rfl⟩
set_option maxRecDepth 50000 in
theorem tw_1030 : Cond.fieldLink R_MOD 89 "PatternNodesModel" "named" "[I" ∈ GW := List.mem_filter.mpr ⟨List.mem_of_getElem? (i := 1030) rfl, rfl⟩
set_option maxRecDepth 50000 in
theorem tw_1031 : Cond.fieldLink R_MOD 187 "PatternNodesModel" "behind" "I" ∈ GW := List.mem_filter.mpr ⟨List.mem_of_getElem? (i := 1031) rfl, rfl⟩
set_option maxRecDepth 50000 in
theorem tw_1032 : Cond.fieldLink R_MOD 206 "PatternNodesModel" "notSet" "Z" ∈ GW := List.mem_filter.mpr ⟨List.mem_of_getElem? (i := 1032) rfl, rfl⟩
set_option maxRecDepth 50000 in
theorem tw_1033 : Cond.fieldLink R_MOD 258 "PatternNodesModel" "least" "I" ∈ GW := List.mem_filter.mpr ⟨List.mem_of_getElem? (i := 1033) rfl, rfl⟩
set_option maxRecDepth 50000 in
theorem tw_1034 : Cond.fieldLink R_MOD 261 "PatternNodesModel" "greatest" "I" ∈ GW := List.mem_filter.mpr ⟨List.mem_of_getElem? (i := 1034) rfl, rfl⟩
set_option maxRecDepth 50000 in
theorem tw_1128 : Cond.methodLink R_MOD 307 y_MOD_step ∈ GW := List.mem_filter.mpr ⟨List.mem_of_getElem? (i := 1128) rfl, rfl⟩
set_option maxRecDepth 50000 in
theorem tw_1130 : Cond.instanceMethod y_MOD_step ∈ GW := List.mem_filter.mpr ⟨List.mem_of_getElem? (i := 1130) rfl, rfl⟩
set_option maxRecDepth 50000 in
theorem tw_1131 : Cond.code y_MOD_step b_MOD_step 2 none ∈ GW := List.mem_filter.mpr ⟨List.mem_of_getElem? (i := 1131) rfl, rfl⟩
set_option maxRecDepth 50000 in
theorem tw_1132 : Cond.methodLink R_MOD 183 y_MOD_byteAt ∈ GW := List.mem_filter.mpr ⟨List.mem_of_getElem? (i := 1132) rfl, rfl⟩
set_option maxRecDepth 50000 in
theorem tw_1134 : Cond.instanceMethod y_MOD_byteAt ∈ GW := List.mem_filter.mpr ⟨List.mem_of_getElem? (i := 1134) rfl, rfl⟩
set_option maxRecDepth 50000 in
theorem tw_1135 : Cond.code y_MOD_byteAt b_MOD_byteAt 2 (some .int) ∈ GW := List.mem_filter.mpr ⟨List.mem_of_getElem? (i := 1135) rfl, rfl⟩
set_option maxRecDepth 50000 in
theorem tw_1136 : Cond.methodLink R_MOD 286 y_MOD_open ∈ GW := List.mem_filter.mpr ⟨List.mem_of_getElem? (i := 1136) rfl, rfl⟩
set_option maxRecDepth 50000 in
theorem tw_1138 : Cond.instanceMethod y_MOD_open ∈ GW := List.mem_filter.mpr ⟨List.mem_of_getElem? (i := 1138) rfl, rfl⟩
set_option maxRecDepth 50000 in
theorem tw_1139 : Cond.code y_MOD_open b_MOD_open 2 none ∈ GW := List.mem_filter.mpr ⟨List.mem_of_getElem? (i := 1139) rfl, rfl⟩
set_option maxRecDepth 50000 in
theorem tw_1140 : Cond.methodLink R_MOD 264 y_MOD_openNamed ∈ GW := List.mem_filter.mpr ⟨List.mem_of_getElem? (i := 1140) rfl, rfl⟩
set_option maxRecDepth 50000 in
theorem tw_1142 : Cond.instanceMethod y_MOD_openNamed ∈ GW := List.mem_filter.mpr ⟨List.mem_of_getElem? (i := 1142) rfl, rfl⟩
set_option maxRecDepth 50000 in
theorem tw_1143 : Cond.code y_MOD_openNamed b_MOD_openNamed 6 none ∈ GW := List.mem_filter.mpr ⟨List.mem_of_getElem? (i := 1143) rfl, rfl⟩
set_option maxRecDepth 50000 in
theorem tw_1144 : Cond.methodLink R_MOD 200 y_MOD_isLetter ∈ GW := List.mem_filter.mpr ⟨List.mem_of_getElem? (i := 1144) rfl, rfl⟩
set_option maxRecDepth 50000 in
theorem tw_1145 : Cond.static y_MOD_isLetter ∈ GW := List.mem_filter.mpr ⟨List.mem_of_getElem? (i := 1145) rfl, rfl⟩
set_option maxRecDepth 50000 in
theorem tw_1146 : Cond.code y_MOD_isLetter b_MOD_isLetter 1 (some .boolean) ∈ GW := List.mem_filter.mpr ⟨List.mem_of_getElem? (i := 1146) rfl, rfl⟩
set_option maxRecDepth 50000 in
theorem tw_1147 : Cond.methodLink R_MOD 179 y_MOD_isDigit ∈ GW := List.mem_filter.mpr ⟨List.mem_of_getElem? (i := 1147) rfl, rfl⟩
set_option maxRecDepth 50000 in
theorem tw_1148 : Cond.static y_MOD_isDigit ∈ GW := List.mem_filter.mpr ⟨List.mem_of_getElem? (i := 1148) rfl, rfl⟩
set_option maxRecDepth 50000 in
theorem tw_1149 : Cond.code y_MOD_isDigit b_MOD_isDigit 1 (some .boolean) ∈ GW := List.mem_filter.mpr ⟨List.mem_of_getElem? (i := 1149) rfl, rfl⟩
set_option maxRecDepth 50000 in
theorem tw_1150 : Cond.methodLink R_MOD 228 y_MOD_fail ∈ GW := List.mem_filter.mpr ⟨List.mem_of_getElem? (i := 1150) rfl, rfl⟩
set_option maxRecDepth 50000 in
theorem tw_1152 : Cond.instanceMethod y_MOD_fail ∈ GW := List.mem_filter.mpr ⟨List.mem_of_getElem? (i := 1152) rfl, rfl⟩
set_option maxRecDepth 50000 in
theorem tw_1153 : Cond.code y_MOD_fail b_MOD_fail 3 none ∈ GW := List.mem_filter.mpr ⟨List.mem_of_getElem? (i := 1153) rfl, rfl⟩
set_option maxRecDepth 50000 in
theorem tw_1154 : Cond.methodLink R_MOD 277 y_MOD_isNamed ∈ GW := List.mem_filter.mpr ⟨List.mem_of_getElem? (i := 1154) rfl, rfl⟩
set_option maxRecDepth 50000 in
theorem tw_1156 : Cond.instanceMethod y_MOD_isNamed ∈ GW := List.mem_filter.mpr ⟨List.mem_of_getElem? (i := 1156) rfl, rfl⟩
set_option maxRecDepth 50000 in
theorem tw_1157 : Cond.code y_MOD_isNamed b_MOD_isNamed 6 (some .boolean) ∈ GW := List.mem_filter.mpr ⟨List.mem_of_getElem? (i := 1157) rfl, rfl⟩
set_option maxRecDepth 50000 in
theorem tw_1158 : Cond.methodLink R_MOD 270 y_MOD_enter ∈ GW := List.mem_filter.mpr ⟨List.mem_of_getElem? (i := 1158) rfl, rfl⟩
set_option maxRecDepth 50000 in
theorem tw_1160 : Cond.instanceMethod y_MOD_enter ∈ GW := List.mem_filter.mpr ⟨List.mem_of_getElem? (i := 1160) rfl, rfl⟩
set_option maxRecDepth 50000 in
theorem tw_1161 : Cond.code y_MOD_enter b_MOD_enter 3 none ∈ GW := List.mem_filter.mpr ⟨List.mem_of_getElem? (i := 1161) rfl, rfl⟩
set_option maxRecDepth 50000 in
theorem tw_1162 : Cond.methodLink R_MOD 267 y_MOD_openFlagged ∈ GW := List.mem_filter.mpr ⟨List.mem_of_getElem? (i := 1162) rfl, rfl⟩
set_option maxRecDepth 50000 in
theorem tw_1164 : Cond.instanceMethod y_MOD_openFlagged ∈ GW := List.mem_filter.mpr ⟨List.mem_of_getElem? (i := 1164) rfl, rfl⟩
set_option maxRecDepth 50000 in
theorem tw_1165 : Cond.code y_MOD_openFlagged b_MOD_openFlagged 6 none ∈ GW := List.mem_filter.mpr ⟨List.mem_of_getElem? (i := 1165) rfl, rfl⟩
set_option maxRecDepth 50000 in
theorem tw_1166 : Cond.methodLink R_MOD 280 y_MOD_flagOf ∈ GW := List.mem_filter.mpr ⟨List.mem_of_getElem? (i := 1166) rfl, rfl⟩
set_option maxRecDepth 50000 in
theorem tw_1167 : Cond.static y_MOD_flagOf ∈ GW := List.mem_filter.mpr ⟨List.mem_of_getElem? (i := 1167) rfl, rfl⟩
set_option maxRecDepth 50000 in
theorem tw_1168 : Cond.code y_MOD_flagOf b_MOD_flagOf 1 (some .int) ∈ GW := List.mem_filter.mpr ⟨List.mem_of_getElem? (i := 1168) rfl, rfl⟩
set_option maxRecDepth 50000 in
theorem tw_1169 : Cond.methodLink R_MOD 157 y_MOD_make ∈ GW := List.mem_filter.mpr ⟨List.mem_of_getElem? (i := 1169) rfl, rfl⟩
set_option maxRecDepth 50000 in
theorem tw_1171 : Cond.instanceMethod y_MOD_make ∈ GW := List.mem_filter.mpr ⟨List.mem_of_getElem? (i := 1171) rfl, rfl⟩
set_option maxRecDepth 50000 in
theorem tw_1172 : Cond.code y_MOD_make b_MOD_make 9 none ∈ GW := List.mem_filter.mpr ⟨List.mem_of_getElem? (i := 1172) rfl, rfl⟩
set_option maxRecDepth 50000 in
theorem tw_1173 : Cond.methodLink R_MOD 138 y_MOD_sizeOf ∈ GW := List.mem_filter.mpr ⟨List.mem_of_getElem? (i := 1173) rfl, rfl⟩
set_option maxRecDepth 50000 in
theorem tw_1174 : Cond.static y_MOD_sizeOf ∈ GW := List.mem_filter.mpr ⟨List.mem_of_getElem? (i := 1174) rfl, rfl⟩
set_option maxRecDepth 50000 in
theorem tw_1175 : Cond.code y_MOD_sizeOf b_MOD_sizeOf 5 (some .long) ∈ GW := List.mem_filter.mpr ⟨List.mem_of_getElem? (i := 1175) rfl, rfl⟩
set_option maxRecDepth 50000 in
theorem tw_1176 : Cond.methodLink R_MOD 142 y_MOD_atMost ∈ GW := List.mem_filter.mpr ⟨List.mem_of_getElem? (i := 1176) rfl, rfl⟩
set_option maxRecDepth 50000 in
theorem tw_1177 : Cond.static y_MOD_atMost ∈ GW := List.mem_filter.mpr ⟨List.mem_of_getElem? (i := 1177) rfl, rfl⟩
set_option maxRecDepth 50000 in
theorem tw_1178 : Cond.code y_MOD_atMost b_MOD_atMost 2 (some .int) ∈ GW := List.mem_filter.mpr ⟨List.mem_of_getElem? (i := 1178) rfl, rfl⟩
set_option maxRecDepth 50000 in
theorem tw_1179 : Cond.constantLong R_MOD 132 1000000 ∈ GW := List.mem_filter.mpr ⟨List.mem_of_getElem? (i := 1179) rfl, rfl⟩
set_option maxRecDepth 50000 in
theorem tw_1180 : Cond.constant R_MOD 134 1000000 ∈ GW := List.mem_filter.mpr ⟨List.mem_of_getElem? (i := 1180) rfl, rfl⟩
set_option maxRecDepth 50000 in
theorem tw_1181 : Cond.methodLink R_MOD 161 y_MOD_part ∈ GW := List.mem_filter.mpr ⟨List.mem_of_getElem? (i := 1181) rfl, rfl⟩
set_option maxRecDepth 50000 in
theorem tw_1183 : Cond.instanceMethod y_MOD_part ∈ GW := List.mem_filter.mpr ⟨List.mem_of_getElem? (i := 1183) rfl, rfl⟩
set_option maxRecDepth 50000 in
theorem tw_1184 : Cond.code y_MOD_part b_MOD_part 1 none ∈ GW := List.mem_filter.mpr ⟨List.mem_of_getElem? (i := 1184) rfl, rfl⟩
set_option maxRecDepth 50000 in
theorem tw_1185 : Cond.methodLink R_MOD 289 y_MOD_close ∈ GW := List.mem_filter.mpr ⟨List.mem_of_getElem? (i := 1185) rfl, rfl⟩
set_option maxRecDepth 50000 in
theorem tw_1187 : Cond.instanceMethod y_MOD_close ∈ GW := List.mem_filter.mpr ⟨List.mem_of_getElem? (i := 1187) rfl, rfl⟩
set_option maxRecDepth 50000 in
theorem tw_1188 : Cond.code y_MOD_close b_MOD_close 1 none ∈ GW := List.mem_filter.mpr ⟨List.mem_of_getElem? (i := 1188) rfl, rfl⟩
set_option maxRecDepth 50000 in
theorem tw_1189 : Cond.methodLink R_MOD 283 y_MOD_endAlternatives ∈ GW := List.mem_filter.mpr ⟨List.mem_of_getElem? (i := 1189) rfl, rfl⟩
set_option maxRecDepth 50000 in
theorem tw_1191 : Cond.instanceMethod y_MOD_endAlternatives ∈ GW := List.mem_filter.mpr ⟨List.mem_of_getElem? (i := 1191) rfl, rfl⟩
set_option maxRecDepth 50000 in
theorem tw_1192 : Cond.code y_MOD_endAlternatives b_MOD_endAlternatives 1 none ∈ GW := List.mem_filter.mpr ⟨List.mem_of_getElem? (i := 1192) rfl, rfl⟩
set_option maxRecDepth 50000 in
theorem tw_1193 : Cond.methodLink R_MOD 170 y_MOD_endRow ∈ GW := List.mem_filter.mpr ⟨List.mem_of_getElem? (i := 1193) rfl, rfl⟩
set_option maxRecDepth 50000 in
theorem tw_1195 : Cond.instanceMethod y_MOD_endRow ∈ GW := List.mem_filter.mpr ⟨List.mem_of_getElem? (i := 1195) rfl, rfl⟩
set_option maxRecDepth 50000 in
theorem tw_1196 : Cond.code y_MOD_endRow b_MOD_endRow 1 none ∈ GW := List.mem_filter.mpr ⟨List.mem_of_getElem? (i := 1196) rfl, rfl⟩
set_option maxRecDepth 50000 in
theorem tw_1197 : Cond.methodLink R_MOD 292 y_MOD_readClass ∈ GW := List.mem_filter.mpr ⟨List.mem_of_getElem? (i := 1197) rfl, rfl⟩
set_option maxRecDepth 50000 in
theorem tw_1199 : Cond.instanceMethod y_MOD_readClass ∈ GW := List.mem_filter.mpr ⟨List.mem_of_getElem? (i := 1199) rfl, rfl⟩
set_option maxRecDepth 50000 in
theorem tw_1200 : Cond.code y_MOD_readClass b_MOD_readClass 4 none ∈ GW := List.mem_filter.mpr ⟨List.mem_of_getElem? (i := 1200) rfl, rfl⟩
set_option maxRecDepth 50000 in
theorem tw_1201 : Cond.methodLink R_MOD 103 y_MOD_empty ∈ GW := List.mem_filter.mpr ⟨List.mem_of_getElem? (i := 1201) rfl, rfl⟩
set_option maxRecDepth 50000 in
theorem tw_1203 : Cond.instanceMethod y_MOD_empty ∈ GW := List.mem_filter.mpr ⟨List.mem_of_getElem? (i := 1203) rfl, rfl⟩
set_option maxRecDepth 50000 in
theorem tw_1204 : Cond.code y_MOD_empty b_MOD_empty 2 none ∈ GW := List.mem_filter.mpr ⟨List.mem_of_getElem? (i := 1204) rfl, rfl⟩
set_option maxRecDepth 50000 in
theorem tw_1205 : Cond.methodLink R_MOD 241 y_MOD_item ∈ GW := List.mem_filter.mpr ⟨List.mem_of_getElem? (i := 1205) rfl, rfl⟩
set_option maxRecDepth 50000 in
theorem tw_1207 : Cond.instanceMethod y_MOD_item ∈ GW := List.mem_filter.mpr ⟨List.mem_of_getElem? (i := 1207) rfl, rfl⟩
set_option maxRecDepth 50000 in
theorem tw_1208 : Cond.code y_MOD_item b_MOD_item 5 none ∈ GW := List.mem_filter.mpr ⟨List.mem_of_getElem? (i := 1208) rfl, rfl⟩
set_option maxRecDepth 50000 in
theorem tw_1209 : Cond.methodLink R_MOD 247 y_MOD_isName ∈ GW := List.mem_filter.mpr ⟨List.mem_of_getElem? (i := 1209) rfl, rfl⟩
set_option maxRecDepth 50000 in
theorem tw_1211 : Cond.instanceMethod y_MOD_isName ∈ GW := List.mem_filter.mpr ⟨List.mem_of_getElem? (i := 1211) rfl, rfl⟩
set_option maxRecDepth 50000 in
theorem tw_1212 : Cond.code y_MOD_isName b_MOD_isName 3 (some .boolean) ∈ GW := List.mem_filter.mpr ⟨List.mem_of_getElem? (i := 1212) rfl, rfl⟩
set_option maxRecDepth 50000 in
theorem tw_1213 : Cond.methodLink R_MOD 237 y_MOD_isWord ∈ GW := List.mem_filter.mpr ⟨List.mem_of_getElem? (i := 1213) rfl, rfl⟩
set_option maxRecDepth 50000 in
theorem tw_1215 : Cond.instanceMethod y_MOD_isWord ∈ GW := List.mem_filter.mpr ⟨List.mem_of_getElem? (i := 1215) rfl, rfl⟩
set_option maxRecDepth 50000 in
theorem tw_1216 : Cond.code y_MOD_isWord b_MOD_isWord 7 (some .boolean) ∈ GW := List.mem_filter.mpr ⟨List.mem_of_getElem? (i := 1216) rfl, rfl⟩
set_option maxRecDepth 50000 in
theorem tw_1217 : Cond.methodLink R_MOD 209 y_MOD_fill ∈ GW := List.mem_filter.mpr ⟨List.mem_of_getElem? (i := 1217) rfl, rfl⟩
set_option maxRecDepth 50000 in
theorem tw_1219 : Cond.instanceMethod y_MOD_fill ∈ GW := List.mem_filter.mpr ⟨List.mem_of_getElem? (i := 1219) rfl, rfl⟩
set_option maxRecDepth 50000 in
theorem tw_1220 : Cond.code y_MOD_fill b_MOD_fill 5 none ∈ GW := List.mem_filter.mpr ⟨List.mem_of_getElem? (i := 1220) rfl, rfl⟩
set_option maxRecDepth 50000 in
theorem tw_1221 : Cond.methodLink R_MOD 98 y_MOD_add ∈ GW := List.mem_filter.mpr ⟨List.mem_of_getElem? (i := 1221) rfl, rfl⟩
set_option maxRecDepth 50000 in
theorem tw_1223 : Cond.instanceMethod y_MOD_add ∈ GW := List.mem_filter.mpr ⟨List.mem_of_getElem? (i := 1223) rfl, rfl⟩
set_option maxRecDepth 50000 in
theorem tw_1224 : Cond.code y_MOD_add b_MOD_add 11 none ∈ GW := List.mem_filter.mpr ⟨List.mem_of_getElem? (i := 1224) rfl, rfl⟩
set_option maxRecDepth 50000 in
theorem tw_1225 : Cond.methodLink R_MOD 107 y_MOD_give ∈ GW := List.mem_filter.mpr ⟨List.mem_of_getElem? (i := 1225) rfl, rfl⟩
set_option maxRecDepth 50000 in
theorem tw_1227 : Cond.instanceMethod y_MOD_give ∈ GW := List.mem_filter.mpr ⟨List.mem_of_getElem? (i := 1227) rfl, rfl⟩
set_option maxRecDepth 50000 in
theorem tw_1228 : Cond.code y_MOD_give b_MOD_give 6 none ∈ GW := List.mem_filter.mpr ⟨List.mem_of_getElem? (i := 1228) rfl, rfl⟩
set_option maxRecDepth 50000 in
theorem tw_1229 : Cond.constant R_MOD 102 1114111 ∈ GW := List.mem_filter.mpr ⟨List.mem_of_getElem? (i := 1229) rfl, rfl⟩
set_option maxRecDepth 50000 in
theorem tw_1230 : Cond.methodLink R_MOD 225 y_MOD_setAt ∈ GW := List.mem_filter.mpr ⟨List.mem_of_getElem? (i := 1230) rfl, rfl⟩
set_option maxRecDepth 50000 in
theorem tw_1232 : Cond.instanceMethod y_MOD_setAt ∈ GW := List.mem_filter.mpr ⟨List.mem_of_getElem? (i := 1232) rfl, rfl⟩
set_option maxRecDepth 50000 in
theorem tw_1233 : Cond.code y_MOD_setAt b_MOD_setAt 4 (some .int) ∈ GW := List.mem_filter.mpr ⟨List.mem_of_getElem? (i := 1233) rfl, rfl⟩
set_option maxRecDepth 50000 in
theorem tw_1234 : Cond.methodLink R_MOD 213 y_MOD_largeAt ∈ GW := List.mem_filter.mpr ⟨List.mem_of_getElem? (i := 1234) rfl, rfl⟩
set_option maxRecDepth 50000 in
theorem tw_1236 : Cond.instanceMethod y_MOD_largeAt ∈ GW := List.mem_filter.mpr ⟨List.mem_of_getElem? (i := 1236) rfl, rfl⟩
set_option maxRecDepth 50000 in
theorem tw_1237 : Cond.code y_MOD_largeAt b_MOD_largeAt 3 (some .int) ∈ GW := List.mem_filter.mpr ⟨List.mem_of_getElem? (i := 1237) rfl, rfl⟩
set_option maxRecDepth 50000 in
theorem tw_1238 : Cond.methodLink R_MOD 250 y_MOD_end ∈ GW := List.mem_filter.mpr ⟨List.mem_of_getElem? (i := 1238) rfl, rfl⟩
set_option maxRecDepth 50000 in
theorem tw_1240 : Cond.instanceMethod y_MOD_end ∈ GW := List.mem_filter.mpr ⟨List.mem_of_getElem? (i := 1240) rfl, rfl⟩
set_option maxRecDepth 50000 in
theorem tw_1241 : Cond.code y_MOD_end b_MOD_end 3 (some .int) ∈ GW := List.mem_filter.mpr ⟨List.mem_of_getElem? (i := 1241) rfl, rfl⟩
set_option maxRecDepth 50000 in
theorem tw_1242 : Cond.methodLink R_MOD 231 y_MOD_escaped ∈ GW := List.mem_filter.mpr ⟨List.mem_of_getElem? (i := 1242) rfl, rfl⟩
set_option maxRecDepth 50000 in
theorem tw_1244 : Cond.instanceMethod y_MOD_escaped ∈ GW := List.mem_filter.mpr ⟨List.mem_of_getElem? (i := 1244) rfl, rfl⟩
set_option maxRecDepth 50000 in
theorem tw_1245 : Cond.code y_MOD_escaped b_MOD_escaped 3 (some .int) ∈ GW := List.mem_filter.mpr ⟨List.mem_of_getElem? (i := 1245) rfl, rfl⟩
set_option maxRecDepth 50000 in
theorem tw_1246 : Cond.methodLink R_MOD 197 y_MOD_hexadecimalAt ∈ GW := List.mem_filter.mpr ⟨List.mem_of_getElem? (i := 1246) rfl, rfl⟩
set_option maxRecDepth 50000 in
theorem tw_1248 : Cond.instanceMethod y_MOD_hexadecimalAt ∈ GW := List.mem_filter.mpr ⟨List.mem_of_getElem? (i := 1248) rfl, rfl⟩
set_option maxRecDepth 50000 in
theorem tw_1249 : Cond.code y_MOD_hexadecimalAt b_MOD_hexadecimalAt 8 (some .int) ∈ GW := List.mem_filter.mpr ⟨List.mem_of_getElem? (i := 1249) rfl, rfl⟩
set_option maxRecDepth 50000 in
theorem tw_1250 : Cond.methodLink R_MOD 203 y_MOD_hexadecimal ∈ GW := List.mem_filter.mpr ⟨List.mem_of_getElem? (i := 1250) rfl, rfl⟩
set_option maxRecDepth 50000 in
theorem tw_1251 : Cond.static y_MOD_hexadecimal ∈ GW := List.mem_filter.mpr ⟨List.mem_of_getElem? (i := 1251) rfl, rfl⟩
set_option maxRecDepth 50000 in
theorem tw_1252 : Cond.code y_MOD_hexadecimal b_MOD_hexadecimal 1 (some .int) ∈ GW := List.mem_filter.mpr ⟨List.mem_of_getElem? (i := 1252) rfl, rfl⟩
set_option maxRecDepth 50000 in
theorem tw_1253 : Cond.methodLink R_MOD 194 y_MOD_isCharacter ∈ GW := List.mem_filter.mpr ⟨List.mem_of_getElem? (i := 1253) rfl, rfl⟩
set_option maxRecDepth 50000 in
theorem tw_1254 : Cond.static y_MOD_isCharacter ∈ GW := List.mem_filter.mpr ⟨List.mem_of_getElem? (i := 1254) rfl, rfl⟩
set_option maxRecDepth 50000 in
theorem tw_1255 : Cond.code y_MOD_isCharacter b_MOD_isCharacter 1 (some .boolean) ∈ GW := List.mem_filter.mpr ⟨List.mem_of_getElem? (i := 1255) rfl, rfl⟩
set_option maxRecDepth 50000 in
theorem tw_1256 : Cond.constant R_MOD 124 55296 ∈ GW := List.mem_filter.mpr ⟨List.mem_of_getElem? (i := 1256) rfl, rfl⟩
set_option maxRecDepth 50000 in
theorem tw_1257 : Cond.constant R_MOD 130 57343 ∈ GW := List.mem_filter.mpr ⟨List.mem_of_getElem? (i := 1257) rfl, rfl⟩
set_option maxRecDepth 50000 in
theorem tw_1258 : Cond.methodLink R_MOD 255 y_MOD_characterAt ∈ GW := List.mem_filter.mpr ⟨List.mem_of_getElem? (i := 1258) rfl, rfl⟩
set_option maxRecDepth 50000 in
theorem tw_1260 : Cond.instanceMethod y_MOD_characterAt ∈ GW := List.mem_filter.mpr ⟨List.mem_of_getElem? (i := 1260) rfl, rfl⟩
set_option maxRecDepth 50000 in
theorem tw_1261 : Cond.code y_MOD_characterAt b_MOD_characterAt 6 (some .int) ∈ GW := List.mem_filter.mpr ⟨List.mem_of_getElem? (i := 1261) rfl, rfl⟩
set_option maxRecDepth 50000 in
theorem tw_1262 : Cond.methodLink R_MOD 190 y_MOD_isMore ∈ GW := List.mem_filter.mpr ⟨List.mem_of_getElem? (i := 1262) rfl, rfl⟩
set_option maxRecDepth 50000 in
theorem tw_1264 : Cond.instanceMethod y_MOD_isMore ∈ GW := List.mem_filter.mpr ⟨List.mem_of_getElem? (i := 1264) rfl, rfl⟩
set_option maxRecDepth 50000 in
theorem tw_1265 : Cond.code y_MOD_isMore b_MOD_isMore 2 (some .boolean) ∈ GW := List.mem_filter.mpr ⟨List.mem_of_getElem? (i := 1265) rfl, rfl⟩
set_option maxRecDepth 50000 in
theorem tw_1266 : Cond.constant R_MOD 193 65536 ∈ GW := List.mem_filter.mpr ⟨List.mem_of_getElem? (i := 1266) rfl, rfl⟩
set_option maxRecDepth 50000 in
theorem tw_1267 : Cond.methodLink R_MOD 164 y_MOD_take ∈ GW := List.mem_filter.mpr ⟨List.mem_of_getElem? (i := 1267) rfl, rfl⟩
set_option maxRecDepth 50000 in
theorem tw_1269 : Cond.instanceMethod y_MOD_take ∈ GW := List.mem_filter.mpr ⟨List.mem_of_getElem? (i := 1269) rfl, rfl⟩
set_option maxRecDepth 50000 in
theorem tw_1270 : Cond.code y_MOD_take b_MOD_take 5 none ∈ GW := List.mem_filter.mpr ⟨List.mem_of_getElem? (i := 1270) rfl, rfl⟩
set_option maxRecDepth 50000 in
theorem tw_1271 : Cond.methodLink R_MOD 118 y_MOD_shift ∈ GW := List.mem_filter.mpr ⟨List.mem_of_getElem? (i := 1271) rfl, rfl⟩
set_option maxRecDepth 50000 in
theorem tw_1273 : Cond.instanceMethod y_MOD_shift ∈ GW := List.mem_filter.mpr ⟨List.mem_of_getElem? (i := 1273) rfl, rfl⟩
set_option maxRecDepth 50000 in
theorem tw_1274 : Cond.code y_MOD_shift b_MOD_shift 7 (some .boolean) ∈ GW := List.mem_filter.mpr ⟨List.mem_of_getElem? (i := 1274) rfl, rfl⟩
set_option maxRecDepth 50000 in
theorem tw_1275 : Cond.methodLink R_MOD 111 y_MOD_has ∈ GW := List.mem_filter.mpr ⟨List.mem_of_getElem? (i := 1275) rfl, rfl⟩
set_option maxRecDepth 50000 in
theorem tw_1277 : Cond.instanceMethod y_MOD_has ∈ GW := List.mem_filter.mpr ⟨List.mem_of_getElem? (i := 1277) rfl, rfl⟩
set_option maxRecDepth 50000 in
theorem tw_1278 : Cond.code y_MOD_has b_MOD_has 6 (some .boolean) ∈ GW := List.mem_filter.mpr ⟨List.mem_of_getElem? (i := 1278) rfl, rfl⟩
set_option maxRecDepth 50000 in
theorem tw_1279 : Cond.methodLink R_MOD 253 y_MOD_rangeFrom ∈ GW := List.mem_filter.mpr ⟨List.mem_of_getElem? (i := 1279) rfl, rfl⟩
set_option maxRecDepth 50000 in
theorem tw_1281 : Cond.instanceMethod y_MOD_rangeFrom ∈ GW := List.mem_filter.mpr ⟨List.mem_of_getElem? (i := 1281) rfl, rfl⟩
set_option maxRecDepth 50000 in
theorem tw_1282 : Cond.code y_MOD_rangeFrom b_MOD_rangeFrom 6 none ∈ GW := List.mem_filter.mpr ⟨List.mem_of_getElem? (i := 1282) rfl, rfl⟩
set_option maxRecDepth 50000 in
theorem tw_1283 : Cond.methodLink R_MOD 244 y_MOD_negate ∈ GW := List.mem_filter.mpr ⟨List.mem_of_getElem? (i := 1283) rfl, rfl⟩
set_option maxRecDepth 50000 in
theorem tw_1285 : Cond.instanceMethod y_MOD_negate ∈ GW := List.mem_filter.mpr ⟨List.mem_of_getElem? (i := 1285) rfl, rfl⟩
set_option maxRecDepth 50000 in
theorem tw_1286 : Cond.code y_MOD_negate b_MOD_negate 2 none ∈ GW := List.mem_filter.mpr ⟨List.mem_of_getElem? (i := 1286) rfl, rfl⟩
set_option maxRecDepth 50000 in
theorem tw_1287 : Cond.methodLink R_MOD 167 y_MOD_classNode ∈ GW := List.mem_filter.mpr ⟨List.mem_of_getElem? (i := 1287) rfl, rfl⟩
set_option maxRecDepth 50000 in
theorem tw_1289 : Cond.instanceMethod y_MOD_classNode ∈ GW := List.mem_filter.mpr ⟨List.mem_of_getElem? (i := 1289) rfl, rfl⟩
set_option maxRecDepth 50000 in
theorem tw_1290 : Cond.code y_MOD_classNode b_MOD_classNode 3 none ∈ GW := List.mem_filter.mpr ⟨List.mem_of_getElem? (i := 1290) rfl, rfl⟩
set_option maxRecDepth 50000 in
theorem tw_1291 : Cond.methodLink R_MOD 153 y_MOD_keep ∈ GW := List.mem_filter.mpr ⟨List.mem_of_getElem? (i := 1291) rfl, rfl⟩
set_option maxRecDepth 50000 in
theorem tw_1293 : Cond.instanceMethod y_MOD_keep ∈ GW := List.mem_filter.mpr ⟨List.mem_of_getElem? (i := 1293) rfl, rfl⟩
set_option maxRecDepth 50000 in
theorem tw_1294 : Cond.code y_MOD_keep b_MOD_keep 3 (some .int) ∈ GW := List.mem_filter.mpr ⟨List.mem_of_getElem? (i := 1294) rfl, rfl⟩
set_option maxRecDepth 50000 in
theorem tw_1295 : Cond.constant R_MOD 125 55295 ∈ GW := List.mem_filter.mpr ⟨List.mem_of_getElem? (i := 1295) rfl, rfl⟩
set_option maxRecDepth 50000 in
theorem tw_1296 : Cond.methodLink R_MOD 126 y_MOD_keepRange ∈ GW := List.mem_filter.mpr ⟨List.mem_of_getElem? (i := 1296) rfl, rfl⟩
set_option maxRecDepth 50000 in
theorem tw_1298 : Cond.instanceMethod y_MOD_keepRange ∈ GW := List.mem_filter.mpr ⟨List.mem_of_getElem? (i := 1298) rfl, rfl⟩
set_option maxRecDepth 50000 in
theorem tw_1299 : Cond.code y_MOD_keepRange b_MOD_keepRange 3 none ∈ GW := List.mem_filter.mpr ⟨List.mem_of_getElem? (i := 1299) rfl, rfl⟩
set_option maxRecDepth 50000 in
theorem tw_1300 : Cond.constant R_MOD 131 57344 ∈ GW := List.mem_filter.mpr ⟨List.mem_of_getElem? (i := 1300) rfl, rfl⟩
set_option maxRecDepth 50000 in
theorem tw_1301 : Cond.methodLink R_MOD 295 y_MOD_escape ∈ GW := List.mem_filter.mpr ⟨List.mem_of_getElem? (i := 1301) rfl, rfl⟩
set_option maxRecDepth 50000 in
theorem tw_1303 : Cond.instanceMethod y_MOD_escape ∈ GW := List.mem_filter.mpr ⟨List.mem_of_getElem? (i := 1303) rfl, rfl⟩
set_option maxRecDepth 50000 in
theorem tw_1304 : Cond.code y_MOD_escape b_MOD_escape 3 none ∈ GW := List.mem_filter.mpr ⟨List.mem_of_getElem? (i := 1304) rfl, rfl⟩
set_option maxRecDepth 50000 in
theorem tw_1305 : Cond.methodLink R_MOD 219 y_MOD_assertion ∈ GW := List.mem_filter.mpr ⟨List.mem_of_getElem? (i := 1305) rfl, rfl⟩
set_option maxRecDepth 50000 in
theorem tw_1307 : Cond.instanceMethod y_MOD_assertion ∈ GW := List.mem_filter.mpr ⟨List.mem_of_getElem? (i := 1307) rfl, rfl⟩
set_option maxRecDepth 50000 in
theorem tw_1308 : Cond.code y_MOD_assertion b_MOD_assertion 2 none ∈ GW := List.mem_filter.mpr ⟨List.mem_of_getElem? (i := 1308) rfl, rfl⟩
set_option maxRecDepth 50000 in
theorem tw_1309 : Cond.methodLink R_MOD 222 y_MOD_escapeOfCharacters ∈ GW := List.mem_filter.mpr ⟨List.mem_of_getElem? (i := 1309) rfl, rfl⟩
set_option maxRecDepth 50000 in
theorem tw_1311 : Cond.instanceMethod y_MOD_escapeOfCharacters ∈ GW := List.mem_filter.mpr ⟨List.mem_of_getElem? (i := 1311) rfl, rfl⟩
set_option maxRecDepth 50000 in
theorem tw_1312 : Cond.code y_MOD_escapeOfCharacters b_MOD_escapeOfCharacters 4 none ∈ GW := List.mem_filter.mpr ⟨List.mem_of_getElem? (i := 1312) rfl, rfl⟩
set_option maxRecDepth 50000 in
theorem tw_1313 : Cond.methodLink R_MOD 234 y_MOD_character ∈ GW := List.mem_filter.mpr ⟨List.mem_of_getElem? (i := 1313) rfl, rfl⟩
set_option maxRecDepth 50000 in
theorem tw_1315 : Cond.instanceMethod y_MOD_character ∈ GW := List.mem_filter.mpr ⟨List.mem_of_getElem? (i := 1315) rfl, rfl⟩
set_option maxRecDepth 50000 in
theorem tw_1316 : Cond.code y_MOD_character b_MOD_character 2 none ∈ GW := List.mem_filter.mpr ⟨List.mem_of_getElem? (i := 1316) rfl, rfl⟩
set_option maxRecDepth 50000 in
theorem tw_1317 : Cond.methodLink R_MOD 298 y_MOD_isRepeat ∈ GW := List.mem_filter.mpr ⟨List.mem_of_getElem? (i := 1317) rfl, rfl⟩
set_option maxRecDepth 50000 in
theorem tw_1319 : Cond.instanceMethod y_MOD_isRepeat ∈ GW := List.mem_filter.mpr ⟨List.mem_of_getElem? (i := 1319) rfl, rfl⟩
set_option maxRecDepth 50000 in
theorem tw_1320 : Cond.code y_MOD_isRepeat b_MOD_isRepeat 5 (some .boolean) ∈ GW := List.mem_filter.mpr ⟨List.mem_of_getElem? (i := 1320) rfl, rfl⟩
set_option maxRecDepth 50000 in
theorem tw_1321 : Cond.methodLink R_MOD 301 y_MOD_repeat ∈ GW := List.mem_filter.mpr ⟨List.mem_of_getElem? (i := 1321) rfl, rfl⟩
set_option maxRecDepth 50000 in
theorem tw_1323 : Cond.instanceMethod y_MOD_repeat ∈ GW := List.mem_filter.mpr ⟨List.mem_of_getElem? (i := 1323) rfl, rfl⟩
set_option maxRecDepth 50000 in
theorem tw_1324 : Cond.code y_MOD_repeat b_MOD_repeat 3 none ∈ GW := List.mem_filter.mpr ⟨List.mem_of_getElem? (i := 1324) rfl, rfl⟩
set_option maxRecDepth 50000 in
theorem tw_1325 : Cond.methodLink R_MOD 304 y_MOD_plain ∈ GW := List.mem_filter.mpr ⟨List.mem_of_getElem? (i := 1325) rfl, rfl⟩
set_option maxRecDepth 50000 in
theorem tw_1327 : Cond.instanceMethod y_MOD_plain ∈ GW := List.mem_filter.mpr ⟨List.mem_of_getElem? (i := 1327) rfl, rfl⟩
set_option maxRecDepth 50000 in
theorem tw_1328 : Cond.code y_MOD_plain b_MOD_plain 4 none ∈ GW := List.mem_filter.mpr ⟨List.mem_of_getElem? (i := 1328) rfl, rfl⟩
set_option maxRecDepth 50000 in
theorem tw_1352 : Cond.fieldLink R_STR 9 "java/lang/String" "value" "[B" ∈ GW := List.mem_filter.mpr ⟨List.mem_of_getElem? (i := 1352) rfl, rfl⟩
set_option maxRecDepth 50000 in
theorem tw_1353 : Cond.fieldLink R_STR 15 "java/lang/String" "coder" "B" ∈ GW := List.mem_filter.mpr ⟨List.mem_of_getElem? (i := 1353) rfl, rfl⟩
