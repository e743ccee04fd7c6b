theorem tw_0 : Cond.fieldLink R_PAT 9 "PatternNodes$Pattern" "bytes" "[I" ∈ GW := List.mem_filter.mpr ⟨List.mem_of_getElem? (i := 116) (by decide +kernel), by decide +kernel⟩
theorem tw_1 : Cond.fieldLink R_PAT 15 "PatternNodes$Pattern" "length" "I" ∈ GW := List.mem_filter.mpr ⟨List.mem_of_getElem? (i := 117) (by decide +kernel), by decide +kernel⟩
theorem tw_2 : Cond.fieldLink R_PN 10 "PatternNodes" "pattern" "LPatternNodes$Pattern;" ∈ GW := List.mem_filter.mpr ⟨List.mem_of_getElem? (i := 425) (by decide +kernel), by decide +kernel⟩
theorem tw_3 : Cond.methodLink R_PN 46 y_PAT_append ∈ GW := List.mem_filter.mpr ⟨List.mem_of_getElem? (i := 445) (by decide +kernel), by decide +kernel⟩
theorem tw_4 : Cond.code y_PAT_append b_PAT_append 5 (some .boolean) ∈ GW := List.mem_filter.mpr ⟨List.mem_of_getElem? (i := 448) (by decide +kernel), by decide +kernel⟩
theorem tw_5 : Cond.initialized R_PAT ∈ GW := List.mem_filter.mpr ⟨List.mem_of_getElem? (i := 80) (by decide +kernel), by decide +kernel⟩
theorem tw_6 : Cond.instanceMethod y_PAT_append ∈ GW := List.mem_filter.mpr ⟨List.mem_of_getElem? (i := 446) (by decide +kernel), by decide +kernel⟩
theorem tw_7 : Cond.selects R_PAT y_PAT_append y_PAT_append ∈ GW := List.mem_filter.mpr ⟨List.mem_of_getElem? (i := 447) (by decide +kernel), by decide +kernel⟩
theorem tw_8 : Cond.fieldLink R_MIS 9 "PatternNodes$Mistake" "number" "I" ∈ GW := List.mem_filter.mpr ⟨List.mem_of_getElem? (i := 133) (by decide +kernel), by decide +kernel⟩
theorem tw_9 : Cond.fieldLink R_MIS 15 "PatternNodes$Mistake" "place" "I" ∈ GW := List.mem_filter.mpr ⟨List.mem_of_getElem? (i := 136) (by decide +kernel), by decide +kernel⟩
theorem tw_10 : Cond.fieldLink R_TRE 42 "PatternNodes$Tree" "nodes" "I" ∈ GW := List.mem_filter.mpr ⟨List.mem_of_getElem? (i := 159) (by decide +kernel), by decide +kernel⟩
theorem tw_11 : Cond.fieldLink R_TRE 46 "PatternNodes$Tree" "ranges" "I" ∈ GW := List.mem_filter.mpr ⟨List.mem_of_getElem? (i := 161) (by decide +kernel), by decide +kernel⟩
theorem tw_12 : Cond.fieldLink R_TRE 49 "PatternNodes$Tree" "waits" "I" ∈ GW := List.mem_filter.mpr ⟨List.mem_of_getElem? (i := 162) (by decide +kernel), by decide +kernel⟩
theorem tw_13 : Cond.fieldLink R_GRP 18 "PatternNodes$NumberedGroups" "howMany" "I" ∈ GW := List.mem_filter.mpr ⟨List.mem_of_getElem? (i := 198) (by decide +kernel), by decide +kernel⟩
theorem tw_14 : Cond.fieldLink R_OPN 27 "PatternNodes$OpenGroups" "depth" "I" ∈ GW := List.mem_filter.mpr ⟨List.mem_of_getElem? (i := 229) (by decide +kernel), by decide +kernel⟩
theorem tw_15 : Cond.fieldLink R_OPN 21 "PatternNodes$OpenGroups" "rows" "[I" ∈ GW := List.mem_filter.mpr ⟨List.mem_of_getElem? (i := 225) (by decide +kernel), by decide +kernel⟩
theorem tw_16 : Cond.fieldLink R_OPN 24 "PatternNodes$OpenGroups" "parts" "[I" ∈ GW := List.mem_filter.mpr ⟨List.mem_of_getElem? (i := 227) (by decide +kernel), by decide +kernel⟩
theorem tw_17 : Cond.fieldLink R_RDR 40 "PatternNodes$TreeReader" "mistake" "LPatternNodes$Mistake;" ∈ GW := List.mem_filter.mpr ⟨List.mem_of_getElem? (i := 386) (by decide +kernel), by decide +kernel⟩
theorem tw_18 : Cond.methodLink R_RDR 84 y_MIS_clear ∈ GW := List.mem_filter.mpr ⟨List.mem_of_getElem? (i := 559) (by decide +kernel), by decide +kernel⟩
theorem tw_19 : Cond.code y_MIS_clear b_MIS_clear 1 none ∈ GW := List.mem_filter.mpr ⟨List.mem_of_getElem? (i := 562) (by decide +kernel), by decide +kernel⟩
theorem tw_20 : Cond.initialized R_MIS ∈ GW := List.mem_filter.mpr ⟨List.mem_of_getElem? (i := 81) (by decide +kernel), by decide +kernel⟩
theorem tw_21 : Cond.instanceMethod y_MIS_clear ∈ GW := List.mem_filter.mpr ⟨List.mem_of_getElem? (i := 560) (by decide +kernel), by decide +kernel⟩
theorem tw_22 : Cond.selects R_MIS y_MIS_clear y_MIS_clear ∈ GW := List.mem_filter.mpr ⟨List.mem_of_getElem? (i := 561) (by decide +kernel), by decide +kernel⟩
theorem tw_23 : Cond.fieldLink R_RDR 44 "PatternNodes$TreeReader" "tree" "LPatternNodes$Tree;" ∈ GW := List.mem_filter.mpr ⟨List.mem_of_getElem? (i := 387) (by decide +kernel), by decide +kernel⟩
theorem tw_24 : Cond.methodLink R_RDR 89 y_TRE_clear ∈ GW := List.mem_filter.mpr ⟨List.mem_of_getElem? (i := 563) (by decide +kernel), by decide +kernel⟩
theorem tw_25 : Cond.code y_TRE_clear b_TRE_clear 1 none ∈ GW := List.mem_filter.mpr ⟨List.mem_of_getElem? (i := 566) (by decide +kernel), by decide +kernel⟩
theorem tw_26 : Cond.initialized R_TRE ∈ GW := List.mem_filter.mpr ⟨List.mem_of_getElem? (i := 82) (by decide +kernel), by decide +kernel⟩
theorem tw_27 : Cond.instanceMethod y_TRE_clear ∈ GW := List.mem_filter.mpr ⟨List.mem_of_getElem? (i := 564) (by decide +kernel), by decide +kernel⟩
theorem tw_28 : Cond.selects R_TRE y_TRE_clear y_TRE_clear ∈ GW := List.mem_filter.mpr ⟨List.mem_of_getElem? (i := 565) (by decide +kernel), by decide +kernel⟩
theorem tw_29 : Cond.fieldLink R_RDR 48 "PatternNodes$TreeReader" "groups" "LPatternNodes$NumberedGroups;" ∈ GW := List.mem_filter.mpr ⟨List.mem_of_getElem? (i := 388) (by decide +kernel), by decide +kernel⟩
theorem tw_30 : Cond.methodLink R_RDR 92 y_GRP_clear ∈ GW := List.mem_filter.mpr ⟨List.mem_of_getElem? (i := 567) (by decide +kernel), by decide +kernel⟩
theorem tw_31 : Cond.code y_GRP_clear b_GRP_clear 1 none ∈ GW := List.mem_filter.mpr ⟨List.mem_of_getElem? (i := 570) (by decide +kernel), by decide +kernel⟩
theorem tw_32 : Cond.initialized R_GRP ∈ GW := List.mem_filter.mpr ⟨List.mem_of_getElem? (i := 83) (by decide +kernel), by decide +kernel⟩
theorem tw_33 : Cond.instanceMethod y_GRP_clear ∈ GW := List.mem_filter.mpr ⟨List.mem_of_getElem? (i := 568) (by decide +kernel), by decide +kernel⟩
theorem tw_34 : Cond.selects R_GRP y_GRP_clear y_GRP_clear ∈ GW := List.mem_filter.mpr ⟨List.mem_of_getElem? (i := 569) (by decide +kernel), by decide +kernel⟩
theorem tw_35 : Cond.fieldLink R_RDR 12 "PatternNodes$TreeReader" "open" "LPatternNodes$OpenGroups;" ∈ GW := List.mem_filter.mpr ⟨List.mem_of_getElem? (i := 389) (by decide +kernel), by decide +kernel⟩
theorem tw_36 : Cond.methodLink R_RDR 95 y_OPN_begin ∈ GW := List.mem_filter.mpr ⟨List.mem_of_getElem? (i := 571) (by decide +kernel), by decide +kernel⟩
theorem tw_37 : Cond.code y_OPN_begin b_OPN_begin 1 none ∈ GW := List.mem_filter.mpr ⟨List.mem_of_getElem? (i := 574) (by decide +kernel), by decide +kernel⟩
theorem tw_38 : Cond.initialized R_OPN ∈ GW := List.mem_filter.mpr ⟨List.mem_of_getElem? (i := 85) (by decide +kernel), by decide +kernel⟩
theorem tw_39 : Cond.instanceMethod y_OPN_begin ∈ GW := List.mem_filter.mpr ⟨List.mem_of_getElem? (i := 572) (by decide +kernel), by decide +kernel⟩
theorem tw_40 : Cond.selects R_OPN y_OPN_begin y_OPN_begin ∈ GW := List.mem_filter.mpr ⟨List.mem_of_getElem? (i := 573) (by decide +kernel), by decide +kernel⟩
theorem tw_41 : Cond.fieldLink R_RDR 25 "PatternNodes$TreeReader" "place" "I" ∈ GW := List.mem_filter.mpr ⟨List.mem_of_getElem? (i := 395) (by decide +kernel), by decide +kernel⟩
theorem tw_42 : Cond.fieldLink R_RDR 29 "PatternNodes$TreeReader" "flags" "I" ∈ GW := List.mem_filter.mpr ⟨List.mem_of_getElem? (i := 396) (by decide +kernel), by decide +kernel⟩
theorem tw_43 : Cond.fieldLink R_RDR 32 "PatternNodes$TreeReader" "repeatable" "Z" ∈ GW := List.mem_filter.mpr ⟨List.mem_of_getElem? (i := 397) (by decide +kernel), by decide +kernel⟩
theorem tn_44 : Cond.fieldLinkNest R_RDR 98 "PatternNodes$Mistake" "number" "I" "PatternNodes" ∈ NW := List.mem_filter.mpr ⟨List.mem_of_getElem? (i := 134) (by decide +kernel), by decide +kernel⟩
theorem tw_45 : Cond.fieldLink R_RDR 36 "PatternNodes$TreeReader" "pattern" "LPatternNodes$Pattern;" ∈ GW := List.mem_filter.mpr ⟨List.mem_of_getElem? (i := 385) (by decide +kernel), by decide +kernel⟩
theorem tn_46 : Cond.fieldLinkNest R_RDR 101 "PatternNodes$Pattern" "length" "I" "PatternNodes" ∈ NW := List.mem_filter.mpr ⟨List.mem_of_getElem? (i := 119) (by decide +kernel), by decide +kernel⟩
theorem tw_47 : Cond.fieldLink R_TRE 24 "PatternNodes$Tree" "sizes" "[I" ∈ GW := List.mem_filter.mpr ⟨List.mem_of_getElem? (i := 153) (by decide +kernel), by decide +kernel⟩
theorem tw_48 : Cond.fieldLink R_TRE 39 "PatternNodes$Tree" "waiting" "[I" ∈ GW := List.mem_filter.mpr ⟨List.mem_of_getElem? (i := 158) (by decide +kernel), by decide +kernel⟩
theorem tw_49 : Cond.constant R_TRE 56 1000000 ∈ GW := List.mem_filter.mpr ⟨List.mem_of_getElem? (i := 599) (by decide +kernel), by decide +kernel⟩
theorem tw_50 : Cond.methodLink R_TRE 57 Lib.Math.min.name ∈ GW := List.mem_filter.mpr ⟨List.mem_of_getElem? (i := 600) (by decide +kernel), by decide +kernel⟩
theorem tw_51 : Cond.static Lib.Math.min.name ∈ GW := List.mem_filter.mpr ⟨List.mem_of_getElem? (i := 601) (by decide +kernel), by decide +kernel⟩
theorem tw_52 : Cond.initialized "java/lang/Math" ∈ GW := List.mem_filter.mpr ⟨List.mem_of_getElem? (i := 96) (by decide +kernel), by decide +kernel⟩
theorem tw_53 : Cond.code Lib.Math.min.name Lib.Math.min.code 2 (some .int) ∈ GW := List.mem_filter.mpr ⟨List.mem_of_getElem? (i := 602) (by decide +kernel), by decide +kernel⟩
theorem tw_54 : Cond.fieldLink R_TRE 11 "PatternNodes$Tree" "kinds" "[I" ∈ GW := List.mem_filter.mpr ⟨List.mem_of_getElem? (i := 149) (by decide +kernel), by decide +kernel⟩
theorem tw_55 : Cond.fieldLink R_TRE 15 "PatternNodes$Tree" "values" "[I" ∈ GW := List.mem_filter.mpr ⟨List.mem_of_getElem? (i := 150) (by decide +kernel), by decide +kernel⟩
theorem tw_56 : Cond.fieldLink R_TRE 18 "PatternNodes$Tree" "mosts" "[I" ∈ GW := List.mem_filter.mpr ⟨List.mem_of_getElem? (i := 151) (by decide +kernel), by decide +kernel⟩
theorem tw_57 : Cond.fieldLink R_TRE 21 "PatternNodes$Tree" "owners" "[I" ∈ GW := List.mem_filter.mpr ⟨List.mem_of_getElem? (i := 152) (by decide +kernel), by decide +kernel⟩
theorem tw_58 : Cond.fieldLink R_TRE 27 "PatternNodes$Tree" "firstRanges" "[I" ∈ GW := List.mem_filter.mpr ⟨List.mem_of_getElem? (i := 154) (by decide +kernel), by decide +kernel⟩
theorem tw_59 : Cond.fieldLink R_TRE 30 "PatternNodes$Tree" "rangeCounts" "[I" ∈ GW := List.mem_filter.mpr ⟨List.mem_of_getElem? (i := 155) (by decide +kernel), by decide +kernel⟩
theorem tn_60 : Cond.fieldLinkNest R_RDR 163 "PatternNodes$OpenGroups" "parts" "[I" "PatternNodes" ∈ NW := List.mem_filter.mpr ⟨List.mem_of_getElem? (i := 228) (by decide +kernel), by decide +kernel⟩
theorem tn_61 : Cond.fieldLinkNest R_RDR 106 "PatternNodes$OpenGroups" "depth" "I" "PatternNodes" ∈ NW := List.mem_filter.mpr ⟨List.mem_of_getElem? (i := 230) (by decide +kernel), by decide +kernel⟩
theorem tw_62 : Cond.methodLink R_RDR 166 y_TRE_waitingSize ∈ GW := List.mem_filter.mpr ⟨List.mem_of_getElem? (i := 591) (by decide +kernel), by decide +kernel⟩
theorem tw_63 : Cond.code y_TRE_waitingSize b_TRE_waitingSize 4 (some .int) ∈ GW := List.mem_filter.mpr ⟨List.mem_of_getElem? (i := 594) (by decide +kernel), by decide +kernel⟩
theorem tw_64 : Cond.instanceMethod y_TRE_waitingSize ∈ GW := List.mem_filter.mpr ⟨List.mem_of_getElem? (i := 592) (by decide +kernel), by decide +kernel⟩
theorem tw_65 : Cond.selects R_TRE y_TRE_waitingSize y_TRE_waitingSize ∈ GW := List.mem_filter.mpr ⟨List.mem_of_getElem? (i := 593) (by decide +kernel), by decide +kernel⟩
theorem tw_66 : Cond.methodLink R_RDR 169 y_TRE_addOver ∈ GW := List.mem_filter.mpr ⟨List.mem_of_getElem? (i := 595) (by decide +kernel), by decide +kernel⟩
theorem tw_67 : Cond.code y_TRE_addOver b_TRE_addOver 7 none ∈ GW := List.mem_filter.mpr ⟨List.mem_of_getElem? (i := 598) (by decide +kernel), by decide +kernel⟩
theorem tw_68 : Cond.instanceMethod y_TRE_addOver ∈ GW := List.mem_filter.mpr ⟨List.mem_of_getElem? (i := 596) (by decide +kernel), by decide +kernel⟩
theorem tw_69 : Cond.selects R_TRE y_TRE_addOver y_TRE_addOver ∈ GW := List.mem_filter.mpr ⟨List.mem_of_getElem? (i := 597) (by decide +kernel), by decide +kernel⟩
theorem tn_70 : Cond.fieldLinkNest R_RDR 173 "PatternNodes$OpenGroups" "rows" "[I" "PatternNodes" ∈ NW := List.mem_filter.mpr ⟨List.mem_of_getElem? (i := 226) (by decide +kernel), by decide +kernel⟩
theorem tw_71 : Cond.methodLink R_PN 109 y_PN_isDigit ∈ GW := List.mem_filter.mpr ⟨List.mem_of_getElem? (i := 619) (by decide +kernel), by decide +kernel⟩
theorem tw_72 : Cond.code y_PN_isDigit b_PN_isDigit 1 (some .boolean) ∈ GW := List.mem_filter.mpr ⟨List.mem_of_getElem? (i := 621) (by decide +kernel), by decide +kernel⟩
theorem tw_73 : Cond.initialized R_PN ∈ GW := List.mem_filter.mpr ⟨List.mem_of_getElem? (i := 79) (by decide +kernel), by decide +kernel⟩
theorem tw_74 : Cond.static y_PN_isDigit ∈ GW := List.mem_filter.mpr ⟨List.mem_of_getElem? (i := 620) (by decide +kernel), by decide +kernel⟩
theorem tw_75 : Cond.fieldLink R_OPG 18 "PatternNodes$OpeningReader" "nameAt" "I" ∈ GW := List.mem_filter.mpr ⟨List.mem_of_getElem? (i := 333) (by decide +kernel), by decide +kernel⟩
theorem tw_76 : Cond.fieldLink R_OPG 22 "PatternNodes$OpeningReader" "nameLength" "I" ∈ GW := List.mem_filter.mpr ⟨List.mem_of_getElem? (i := 335) (by decide +kernel), by decide +kernel⟩
theorem tw_77 : Cond.fieldLink R_OPG 28 "PatternNodes$OpeningReader" "after" "I" ∈ GW := List.mem_filter.mpr ⟨List.mem_of_getElem? (i := 339) (by decide +kernel), by decide +kernel⟩
theorem tw_78 : Cond.fieldLink R_OPG 31 "PatternNodes$OpeningReader" "pattern" "LPatternNodes$Pattern;" ∈ GW := List.mem_filter.mpr ⟨List.mem_of_getElem? (i := 328) (by decide +kernel), by decide +kernel⟩
theorem tw_79 : Cond.methodLink R_OPG 35 y_PAT_at ∈ GW := List.mem_filter.mpr ⟨List.mem_of_getElem? (i := 611) (by decide +kernel), by decide +kernel⟩
theorem tw_80 : Cond.code y_PAT_at b_PAT_at 2 (some .int) ∈ GW := List.mem_filter.mpr ⟨List.mem_of_getElem? (i := 586) (by decide +kernel), by decide +kernel⟩
theorem tw_81 : Cond.instanceMethod y_PAT_at ∈ GW := List.mem_filter.mpr ⟨List.mem_of_getElem? (i := 584) (by decide +kernel), by decide +kernel⟩
theorem tw_82 : Cond.selects R_PAT y_PAT_at y_PAT_at ∈ GW := List.mem_filter.mpr ⟨List.mem_of_getElem? (i := 585) (by decide +kernel), by decide +kernel⟩
theorem tw_83 : Cond.code y_PN_isWord b_PN_isWord 1 (some .boolean) ∈ GW := List.mem_filter.mpr ⟨List.mem_of_getElem? (i := 618) (by decide +kernel), by decide +kernel⟩
theorem tn_84 : Cond.methodLinkNest R_OPG 48 y_PN_isWord "PatternNodes" ∈ NW := List.mem_filter.mpr ⟨List.mem_of_getElem? (i := 616) (by decide +kernel), by decide +kernel⟩
theorem tw_85 : Cond.static y_PN_isWord ∈ GW := List.mem_filter.mpr ⟨List.mem_of_getElem? (i := 617) (by decide +kernel), by decide +kernel⟩
theorem tw_86 : Cond.methodLink R_OPG 55 y_OPG_flagOf ∈ GW := List.mem_filter.mpr ⟨List.mem_of_getElem? (i := 630) (by decide +kernel), by decide +kernel⟩
theorem tw_87 : Cond.code y_OPG_flagOf b_OPG_flagOf 1 (some .int) ∈ GW := List.mem_filter.mpr ⟨List.mem_of_getElem? (i := 632) (by decide +kernel), by decide +kernel⟩
theorem tw_88 : Cond.initialized R_OPG ∈ GW := List.mem_filter.mpr ⟨List.mem_of_getElem? (i := 89) (by decide +kernel), by decide +kernel⟩
theorem tw_89 : Cond.static y_OPG_flagOf ∈ GW := List.mem_filter.mpr ⟨List.mem_of_getElem? (i := 631) (by decide +kernel), by decide +kernel⟩
theorem tw_90 : Cond.fieldLink R_OPG 15 "PatternNodes$OpeningReader" "flagsAlone" "Z" ∈ GW := List.mem_filter.mpr ⟨List.mem_of_getElem? (i := 331) (by decide +kernel), by decide +kernel⟩
theorem tw_91 : Cond.fieldLink R_OPG 9 "PatternNodes$OpeningReader" "numbered" "Z" ∈ GW := List.mem_filter.mpr ⟨List.mem_of_getElem? (i := 329) (by decide +kernel), by decide +kernel⟩
theorem tw_92 : Cond.fieldLink R_OPG 25 "PatternNodes$OpeningReader" "flags" "I" ∈ GW := List.mem_filter.mpr ⟨List.mem_of_getElem? (i := 337) (by decide +kernel), by decide +kernel⟩
theorem tw_93 : Cond.methodLink R_OPG 51 y_OPG_takeFlags ∈ GW := List.mem_filter.mpr ⟨List.mem_of_getElem? (i := 626) (by decide +kernel), by decide +kernel⟩
theorem tw_94 : Cond.code y_OPG_takeFlags b_OPG_takeFlags 4 (some .int) ∈ GW := List.mem_filter.mpr ⟨List.mem_of_getElem? (i := 629) (by decide +kernel), by decide +kernel⟩
theorem tw_95 : Cond.instanceMethod y_OPG_takeFlags ∈ GW := List.mem_filter.mpr ⟨List.mem_of_getElem? (i := 628) (by decide +kernel), by decide +kernel⟩
theorem tw_96 : Cond.selects R_OPG y_OPG_takeFlags y_OPG_takeFlags ∈ GW := List.mem_filter.mpr ⟨List.mem_of_getElem? (i := 5) (by decide +kernel), by decide +kernel⟩
theorem tw_97 : Cond.methodLink R_OPG 45 y_OPG_readFlags ∈ GW := List.mem_filter.mpr ⟨List.mem_of_getElem? (i := 622) (by decide +kernel), by decide +kernel⟩
theorem tw_98 : Cond.code y_OPG_readFlags b_OPG_readFlags 3 (some .boolean) ∈ GW := List.mem_filter.mpr ⟨List.mem_of_getElem? (i := 625) (by decide +kernel), by decide +kernel⟩
theorem tw_99 : Cond.instanceMethod y_OPG_readFlags ∈ GW := List.mem_filter.mpr ⟨List.mem_of_getElem? (i := 624) (by decide +kernel), by decide +kernel⟩
theorem tw_100 : Cond.selects R_OPG y_OPG_readFlags y_OPG_readFlags ∈ GW := List.mem_filter.mpr ⟨List.mem_of_getElem? (i := 4) (by decide +kernel), by decide +kernel⟩
theorem tw_101 : Cond.methodLink R_OPG 41 y_OPG_readName ∈ GW := List.mem_filter.mpr ⟨List.mem_of_getElem? (i := 612) (by decide +kernel), by decide +kernel⟩
theorem tw_102 : Cond.code y_OPG_readName b_OPG_readName 2 (some .boolean) ∈ GW := List.mem_filter.mpr ⟨List.mem_of_getElem? (i := 615) (by decide +kernel), by decide +kernel⟩
theorem tw_103 : Cond.instanceMethod y_OPG_readName ∈ GW := List.mem_filter.mpr ⟨List.mem_of_getElem? (i := 614) (by decide +kernel), by decide +kernel⟩
theorem tw_104 : Cond.selects R_OPG y_OPG_readName y_OPG_readName ∈ GW := List.mem_filter.mpr ⟨List.mem_of_getElem? (i := 3) (by decide +kernel), by decide +kernel⟩
theorem tw_105 : Cond.methodLink R_TRE 52 y_TRE_addOver ∈ GW := List.mem_filter.mpr ⟨List.mem_of_getElem? (i := 641) (by decide +kernel), by decide +kernel⟩
theorem tw_106 : Cond.fieldLink R_GRP 9 "PatternNodes$NumberedGroups" "lengths" "[I" ∈ GW := List.mem_filter.mpr ⟨List.mem_of_getElem? (i := 196) (by decide +kernel), by decide +kernel⟩
theorem tw_107 : Cond.fieldLink R_GRP 15 "PatternNodes$NumberedGroups" "letters" "[I" ∈ GW := List.mem_filter.mpr ⟨List.mem_of_getElem? (i := 197) (by decide +kernel), by decide +kernel⟩
theorem tw_108 : Cond.methodLink R_GRP 32 y_PAT_at ∈ GW := List.mem_filter.mpr ⟨List.mem_of_getElem? (i := 654) (by decide +kernel), by decide +kernel⟩
theorem tw_109 : Cond.methodLink R_GRP 38 y_GRP_isNamed ∈ GW := List.mem_filter.mpr ⟨List.mem_of_getElem? (i := 650) (by decide +kernel), by decide +kernel⟩
theorem tw_110 : Cond.code y_GRP_isNamed b_GRP_isNamed 5 (some .boolean) ∈ GW := List.mem_filter.mpr ⟨List.mem_of_getElem? (i := 653) (by decide +kernel), by decide +kernel⟩
theorem tw_111 : Cond.instanceMethod y_GRP_isNamed ∈ GW := List.mem_filter.mpr ⟨List.mem_of_getElem? (i := 652) (by decide +kernel), by decide +kernel⟩
theorem tw_112 : Cond.selects R_GRP y_GRP_isNamed y_GRP_isNamed ∈ GW := List.mem_filter.mpr ⟨List.mem_of_getElem? (i := 7) (by decide +kernel), by decide +kernel⟩
theorem tw_113 : Cond.methodLink R_GRP 26 Lib.Math.min.name ∈ GW := List.mem_filter.mpr ⟨List.mem_of_getElem? (i := 668) (by decide +kernel), by decide +kernel⟩
theorem tw_114 : Cond.methodLink R_GRP 22 y_GRP_isFull ∈ GW := List.mem_filter.mpr ⟨List.mem_of_getElem? (i := 667) (by decide +kernel), by decide +kernel⟩
theorem tw_115 : Cond.code y_GRP_isFull b_GRP_isFull 1 (some .boolean) ∈ GW := List.mem_filter.mpr ⟨List.mem_of_getElem? (i := 658) (by decide +kernel), by decide +kernel⟩
theorem tw_116 : Cond.instanceMethod y_GRP_isFull ∈ GW := List.mem_filter.mpr ⟨List.mem_of_getElem? (i := 656) (by decide +kernel), by decide +kernel⟩
theorem tw_117 : Cond.selects R_GRP y_GRP_isFull y_GRP_isFull ∈ GW := List.mem_filter.mpr ⟨List.mem_of_getElem? (i := 657) (by decide +kernel), by decide +kernel⟩
theorem tw_118 : Cond.fieldLink R_OPN 9 "PatternNodes$OpenGroups" "places" "[I" ∈ GW := List.mem_filter.mpr ⟨List.mem_of_getElem? (i := 219) (by decide +kernel), by decide +kernel⟩
theorem tw_119 : Cond.fieldLink R_OPN 15 "PatternNodes$OpenGroups" "numbers" "[I" ∈ GW := List.mem_filter.mpr ⟨List.mem_of_getElem? (i := 221) (by decide +kernel), by decide +kernel⟩
theorem tw_120 : Cond.fieldLink R_OPN 18 "PatternNodes$OpenGroups" "flagsAround" "[I" ∈ GW := List.mem_filter.mpr ⟨List.mem_of_getElem? (i := 223) (by decide +kernel), by decide +kernel⟩
theorem tw_121 : Cond.methodLink R_RDR 219 y_OPN_enter ∈ GW := List.mem_filter.mpr ⟨List.mem_of_getElem? (i := 669) (by decide +kernel), by decide +kernel⟩
theorem tw_122 : Cond.code y_OPN_enter b_OPN_enter 4 none ∈ GW := List.mem_filter.mpr ⟨List.mem_of_getElem? (i := 672) (by decide +kernel), by decide +kernel⟩
theorem tw_123 : Cond.instanceMethod y_OPN_enter ∈ GW := List.mem_filter.mpr ⟨List.mem_of_getElem? (i := 670) (by decide +kernel), by decide +kernel⟩
theorem tw_124 : Cond.selects R_OPN y_OPN_enter y_OPN_enter ∈ GW := List.mem_filter.mpr ⟨List.mem_of_getElem? (i := 671) (by decide +kernel), by decide +kernel⟩
theorem tw_125 : Cond.fieldLink R_RDR 73 "PatternNodes$TreeReader" "openings" "LPatternNodes$OpeningReader;" ∈ GW := List.mem_filter.mpr ⟨List.mem_of_getElem? (i := 393) (by decide +kernel), by decide +kernel⟩
theorem tn_126 : Cond.fieldLinkNest R_RDR 183 "PatternNodes$OpeningReader" "flags" "I" "PatternNodes" ∈ NW := List.mem_filter.mpr ⟨List.mem_of_getElem? (i := 338) (by decide +kernel), by decide +kernel⟩
theorem tn_127 : Cond.fieldLinkNest R_RDR 188 "PatternNodes$OpeningReader" "after" "I" "PatternNodes" ∈ NW := List.mem_filter.mpr ⟨List.mem_of_getElem? (i := 340) (by decide +kernel), by decide +kernel⟩
theorem tn_128 : Cond.fieldLinkNest R_RDR 205 "PatternNodes$OpeningReader" "numbered" "Z" "PatternNodes" ∈ NW := List.mem_filter.mpr ⟨List.mem_of_getElem? (i := 330) (by decide +kernel), by decide +kernel⟩
theorem tn_129 : Cond.fieldLinkNest R_RDR 198 "PatternNodes$OpeningReader" "nameAt" "I" "PatternNodes" ∈ NW := List.mem_filter.mpr ⟨List.mem_of_getElem? (i := 334) (by decide +kernel), by decide +kernel⟩
theorem tn_130 : Cond.fieldLinkNest R_RDR 195 "PatternNodes$OpeningReader" "nameLength" "I" "PatternNodes" ∈ NW := List.mem_filter.mpr ⟨List.mem_of_getElem? (i := 336) (by decide +kernel), by decide +kernel⟩
theorem tw_131 : Cond.methodLink R_RDR 215 y_GRP_addGroup ∈ GW := List.mem_filter.mpr ⟨List.mem_of_getElem? (i := 663) (by decide +kernel), by decide +kernel⟩
theorem tw_132 : Cond.code y_GRP_addGroup b_GRP_addGroup 5 (some .int) ∈ GW := List.mem_filter.mpr ⟨List.mem_of_getElem? (i := 666) (by decide +kernel), by decide +kernel⟩
theorem tw_133 : Cond.instanceMethod y_GRP_addGroup ∈ GW := List.mem_filter.mpr ⟨List.mem_of_getElem? (i := 664) (by decide +kernel), by decide +kernel⟩
theorem tw_134 : Cond.selects R_GRP y_GRP_addGroup y_GRP_addGroup ∈ GW := List.mem_filter.mpr ⟨List.mem_of_getElem? (i := 665) (by decide +kernel), by decide +kernel⟩
theorem tw_135 : Cond.methodLink R_RDR 212 y_RDR_enterGroup ∈ GW := List.mem_filter.mpr ⟨List.mem_of_getElem? (i := 659) (by decide +kernel), by decide +kernel⟩
theorem tw_136 : Cond.code y_RDR_enterGroup b_RDR_enterGroup 2 none ∈ GW := List.mem_filter.mpr ⟨List.mem_of_getElem? (i := 662) (by decide +kernel), by decide +kernel⟩
theorem tw_137 : Cond.initialized R_RDR ∈ GW := List.mem_filter.mpr ⟨List.mem_of_getElem? (i := 84) (by decide +kernel), by decide +kernel⟩
theorem tw_138 : Cond.instanceMethod y_RDR_enterGroup ∈ GW := List.mem_filter.mpr ⟨List.mem_of_getElem? (i := 661) (by decide +kernel), by decide +kernel⟩
theorem tw_139 : Cond.selects R_RDR y_RDR_enterGroup y_RDR_enterGroup ∈ GW := List.mem_filter.mpr ⟨List.mem_of_getElem? (i := 8) (by decide +kernel), by decide +kernel⟩
theorem tw_140 : Cond.methodLink R_RDR 208 y_GRP_isFull ∈ GW := List.mem_filter.mpr ⟨List.mem_of_getElem? (i := 655) (by decide +kernel), by decide +kernel⟩
theorem tw_141 : Cond.methodLink R_RDR 113 y_MIS_tell ∈ GW := List.mem_filter.mpr ⟨List.mem_of_getElem? (i := 633) (by decide +kernel), by decide +kernel⟩
theorem tw_142 : Cond.code y_MIS_tell b_MIS_tell 3 none ∈ GW := List.mem_filter.mpr ⟨List.mem_of_getElem? (i := 636) (by decide +kernel), by decide +kernel⟩
theorem tw_143 : Cond.instanceMethod y_MIS_tell ∈ GW := List.mem_filter.mpr ⟨List.mem_of_getElem? (i := 634) (by decide +kernel), by decide +kernel⟩
theorem tw_144 : Cond.selects R_MIS y_MIS_tell y_MIS_tell ∈ GW := List.mem_filter.mpr ⟨List.mem_of_getElem? (i := 635) (by decide +kernel), by decide +kernel⟩
theorem tw_145 : Cond.methodLink R_RDR 176 y_OPG_readOpening ∈ GW := List.mem_filter.mpr ⟨List.mem_of_getElem? (i := 607) (by decide +kernel), by decide +kernel⟩
theorem tw_146 : Cond.code y_OPG_readOpening b_OPG_readOpening 3 (some .boolean) ∈ GW := List.mem_filter.mpr ⟨List.mem_of_getElem? (i := 610) (by decide +kernel), by decide +kernel⟩
theorem tw_147 : Cond.instanceMethod y_OPG_readOpening ∈ GW := List.mem_filter.mpr ⟨List.mem_of_getElem? (i := 608) (by decide +kernel), by decide +kernel⟩
theorem tw_148 : Cond.selects R_OPG y_OPG_readOpening y_OPG_readOpening ∈ GW := List.mem_filter.mpr ⟨List.mem_of_getElem? (i := 609) (by decide +kernel), by decide +kernel⟩
theorem tn_149 : Cond.fieldLinkNest R_RDR 180 "PatternNodes$OpeningReader" "flagsAlone" "Z" "PatternNodes" ∈ NW := List.mem_filter.mpr ⟨List.mem_of_getElem? (i := 332) (by decide +kernel), by decide +kernel⟩
theorem tw_150 : Cond.methodLink R_RDR 201 y_GRP_hasName ∈ GW := List.mem_filter.mpr ⟨List.mem_of_getElem? (i := 646) (by decide +kernel), by decide +kernel⟩
theorem tw_151 : Cond.code y_GRP_hasName b_GRP_hasName 5 (some .boolean) ∈ GW := List.mem_filter.mpr ⟨List.mem_of_getElem? (i := 649) (by decide +kernel), by decide +kernel⟩
theorem tw_152 : Cond.instanceMethod y_GRP_hasName ∈ GW := List.mem_filter.mpr ⟨List.mem_of_getElem? (i := 647) (by decide +kernel), by decide +kernel⟩
theorem tw_153 : Cond.selects R_GRP y_GRP_hasName y_GRP_hasName ∈ GW := List.mem_filter.mpr ⟨List.mem_of_getElem? (i := 648) (by decide +kernel), by decide +kernel⟩
theorem tw_154 : Cond.methodLink R_RDR 184 y_TRE_addLeaf ∈ GW := List.mem_filter.mpr ⟨List.mem_of_getElem? (i := 637) (by decide +kernel), by decide +kernel⟩
theorem tw_155 : Cond.code y_TRE_addLeaf b_TRE_addLeaf 4 none ∈ GW := List.mem_filter.mpr ⟨List.mem_of_getElem? (i := 640) (by decide +kernel), by decide +kernel⟩
theorem tw_156 : Cond.instanceMethod y_TRE_addLeaf ∈ GW := List.mem_filter.mpr ⟨List.mem_of_getElem? (i := 638) (by decide +kernel), by decide +kernel⟩
theorem tw_157 : Cond.selects R_TRE y_TRE_addLeaf y_TRE_addLeaf ∈ GW := List.mem_filter.mpr ⟨List.mem_of_getElem? (i := 639) (by decide +kernel), by decide +kernel⟩
theorem tw_158 : Cond.methodLink R_RDR 191 y_RDR_partDone ∈ GW := List.mem_filter.mpr ⟨List.mem_of_getElem? (i := 642) (by decide +kernel), by decide +kernel⟩
theorem tw_159 : Cond.code y_RDR_partDone b_RDR_partDone 3 none ∈ GW := List.mem_filter.mpr ⟨List.mem_of_getElem? (i := 645) (by decide +kernel), by decide +kernel⟩
theorem tw_160 : Cond.instanceMethod y_RDR_partDone ∈ GW := List.mem_filter.mpr ⟨List.mem_of_getElem? (i := 644) (by decide +kernel), by decide +kernel⟩
theorem tw_161 : Cond.selects R_RDR y_RDR_partDone y_RDR_partDone ∈ GW := List.mem_filter.mpr ⟨List.mem_of_getElem? (i := 6) (by decide +kernel), by decide +kernel⟩
theorem tw_162 : Cond.methodLink R_RDR 124 y_RDR_endRow ∈ GW := List.mem_filter.mpr ⟨List.mem_of_getElem? (i := 587) (by decide +kernel), by decide +kernel⟩
theorem tw_163 : Cond.code y_RDR_endRow b_RDR_endRow 2 none ∈ GW := List.mem_filter.mpr ⟨List.mem_of_getElem? (i := 590) (by decide +kernel), by decide +kernel⟩
theorem tw_164 : Cond.instanceMethod y_RDR_endRow ∈ GW := List.mem_filter.mpr ⟨List.mem_of_getElem? (i := 589) (by decide +kernel), by decide +kernel⟩
theorem tw_165 : Cond.selects R_RDR y_RDR_endRow y_RDR_endRow ∈ GW := List.mem_filter.mpr ⟨List.mem_of_getElem? (i := 1) (by decide +kernel), by decide +kernel⟩
theorem tn_166 : Cond.fieldLinkNest R_RDR 225 "PatternNodes$OpenGroups" "flagsAround" "[I" "PatternNodes" ∈ NW := List.mem_filter.mpr ⟨List.mem_of_getElem? (i := 224) (by decide +kernel), by decide +kernel⟩
theorem tw_167 : Cond.methodLink R_RDR 228 y_OPN_leave ∈ GW := List.mem_filter.mpr ⟨List.mem_of_getElem? (i := 681) (by decide +kernel), by decide +kernel⟩
theorem tw_168 : Cond.code y_OPN_leave b_OPN_leave 1 none ∈ GW := List.mem_filter.mpr ⟨List.mem_of_getElem? (i := 684) (by decide +kernel), by decide +kernel⟩
theorem tw_169 : Cond.instanceMethod y_OPN_leave ∈ GW := List.mem_filter.mpr ⟨List.mem_of_getElem? (i := 682) (by decide +kernel), by decide +kernel⟩
theorem tw_170 : Cond.selects R_OPN y_OPN_leave y_OPN_leave ∈ GW := List.mem_filter.mpr ⟨List.mem_of_getElem? (i := 683) (by decide +kernel), by decide +kernel⟩
theorem tw_171 : Cond.methodLink R_RDR 117 y_RDR_endAlternatives ∈ GW := List.mem_filter.mpr ⟨List.mem_of_getElem? (i := 677) (by decide +kernel), by decide +kernel⟩
theorem tw_172 : Cond.code y_RDR_endAlternatives b_RDR_endAlternatives 2 none ∈ GW := List.mem_filter.mpr ⟨List.mem_of_getElem? (i := 680) (by decide +kernel), by decide +kernel⟩
theorem tw_173 : Cond.instanceMethod y_RDR_endAlternatives ∈ GW := List.mem_filter.mpr ⟨List.mem_of_getElem? (i := 679) (by decide +kernel), by decide +kernel⟩
theorem tw_174 : Cond.selects R_RDR y_RDR_endAlternatives y_RDR_endAlternatives ∈ GW := List.mem_filter.mpr ⟨List.mem_of_getElem? (i := 10) (by decide +kernel), by decide +kernel⟩
theorem tn_175 : Cond.fieldLinkNest R_RDR 222 "PatternNodes$OpenGroups" "numbers" "[I" "PatternNodes" ∈ NW := List.mem_filter.mpr ⟨List.mem_of_getElem? (i := 222) (by decide +kernel), by decide +kernel⟩
theorem tw_176 : Cond.fieldLink R_SET 18 "PatternNodes$CharacterSet" "pieces" "I" ∈ GW := List.mem_filter.mpr ⟨List.mem_of_getElem? (i := 254) (by decide +kernel), by decide +kernel⟩
theorem tw_177 : Cond.constant R_SET 51 1114111 ∈ GW := List.mem_filter.mpr ⟨List.mem_of_getElem? (i := 706) (by decide +kernel), by decide +kernel⟩
theorem tw_178 : Cond.fieldLink R_SET 11 "PatternNodes$CharacterSet" "begins" "[I" ∈ GW := List.mem_filter.mpr ⟨List.mem_of_getElem? (i := 250) (by decide +kernel), by decide +kernel⟩
theorem tw_179 : Cond.fieldLink R_SET 15 "PatternNodes$CharacterSet" "ends" "[I" ∈ GW := List.mem_filter.mpr ⟨List.mem_of_getElem? (i := 252) (by decide +kernel), by decide +kernel⟩
theorem tw_180 : Cond.methodLink R_SET 22 arraycopyName ∈ GW := List.mem_filter.mpr ⟨List.mem_of_getElem? (i := 713) (by decide +kernel), by decide +kernel⟩
theorem tw_181 : Cond.native arraycopyName ∈ GW := List.mem_filter.mpr ⟨List.mem_of_getElem? (i := 715) (by decide +kernel), by decide +kernel⟩
theorem tw_182 : Cond.static arraycopyName ∈ GW := List.mem_filter.mpr ⟨List.mem_of_getElem? (i := 714) (by decide +kernel), by decide +kernel⟩
theorem tw_183 : Cond.initialized "java/lang/System" ∈ GW := List.mem_filter.mpr ⟨List.mem_of_getElem? (i := 97) (by decide +kernel), by decide +kernel⟩
theorem tw_184 : Cond.constant R_SET 55 55296 ∈ GW := List.mem_filter.mpr ⟨List.mem_of_getElem? (i := 707) (by decide +kernel), by decide +kernel⟩
theorem tw_185 : Cond.constant R_SET 56 57343 ∈ GW := List.mem_filter.mpr ⟨List.mem_of_getElem? (i := 708) (by decide +kernel), by decide +kernel⟩
theorem tw_186 : Cond.methodLink R_SET 28 y_SET_add ∈ GW := List.mem_filter.mpr ⟨List.mem_of_getElem? (i := 709) (by decide +kernel), by decide +kernel⟩
theorem tw_187 : Cond.code y_SET_add b_SET_add 8 none ∈ GW := List.mem_filter.mpr ⟨List.mem_of_getElem? (i := 712) (by decide +kernel), by decide +kernel⟩
theorem tw_188 : Cond.initialized R_SET ∈ GW := List.mem_filter.mpr ⟨List.mem_of_getElem? (i := 86) (by decide +kernel), by decide +kernel⟩
theorem tw_189 : Cond.instanceMethod y_SET_add ∈ GW := List.mem_filter.mpr ⟨List.mem_of_getElem? (i := 710) (by decide +kernel), by decide +kernel⟩
theorem tw_190 : Cond.selects R_SET y_SET_add y_SET_add ∈ GW := List.mem_filter.mpr ⟨List.mem_of_getElem? (i := 711) (by decide +kernel), by decide +kernel⟩
theorem tw_191 : Cond.methodLink R_SET 52 y_SET_turnRound ∈ GW := List.mem_filter.mpr ⟨List.mem_of_getElem? (i := 702) (by decide +kernel), by decide +kernel⟩
theorem tw_192 : Cond.code y_SET_turnRound b_SET_turnRound 6 none ∈ GW := List.mem_filter.mpr ⟨List.mem_of_getElem? (i := 705) (by decide +kernel), by decide +kernel⟩
theorem tw_193 : Cond.instanceMethod y_SET_turnRound ∈ GW := List.mem_filter.mpr ⟨List.mem_of_getElem? (i := 704) (by decide +kernel), by decide +kernel⟩
theorem tw_194 : Cond.selects R_SET y_SET_turnRound y_SET_turnRound ∈ GW := List.mem_filter.mpr ⟨List.mem_of_getElem? (i := 12) (by decide +kernel), by decide +kernel⟩
theorem tn_195 : Cond.fieldLinkNest R_ESC 40 "PatternNodes" "DIGITS" "[I" "PatternNodes" ∈ NW := List.mem_filter.mpr ⟨List.mem_of_getElem? (i := 726) (by decide +kernel), by decide +kernel⟩
theorem tn_196 : Cond.fieldLinkNest R_ESC 43 "PatternNodes" "SPACES" "[I" "PatternNodes" ∈ NW := List.mem_filter.mpr ⟨List.mem_of_getElem? (i := 728) (by decide +kernel), by decide +kernel⟩
theorem tn_197 : Cond.fieldLinkNest R_ESC 46 "PatternNodes" "WORDS" "[I" "PatternNodes" ∈ NW := List.mem_filter.mpr ⟨List.mem_of_getElem? (i := 730) (by decide +kernel), by decide +kernel⟩
theorem tn_198 : Cond.fieldLinkNest R_ESC 18 "PatternNodes" "NO_SET" "[I" "PatternNodes" ∈ NW := List.mem_filter.mpr ⟨List.mem_of_getElem? (i := 269) (by decide +kernel), by decide +kernel⟩
theorem tw_199 : Cond.methodLink R_ESC 36 y_ESC_setOf ∈ GW := List.mem_filter.mpr ⟨List.mem_of_getElem? (i := 723) (by decide +kernel), by decide +kernel⟩
theorem tw_200 : Cond.code y_ESC_setOf b_ESC_setOf 1 (some (.array .int)) ∈ GW := List.mem_filter.mpr ⟨List.mem_of_getElem? (i := 725) (by decide +kernel), by decide +kernel⟩
theorem tw_201 : Cond.initialized R_ESC ∈ GW := List.mem_filter.mpr ⟨List.mem_of_getElem? (i := 87) (by decide +kernel), by decide +kernel⟩
theorem tw_202 : Cond.static y_ESC_setOf ∈ GW := List.mem_filter.mpr ⟨List.mem_of_getElem? (i := 724) (by decide +kernel), by decide +kernel⟩
theorem tw_203 : Cond.fieldLink R_CLS 15 "PatternNodes$ClassReader" "pattern" "LPatternNodes$Pattern;" ∈ GW := List.mem_filter.mpr ⟨List.mem_of_getElem? (i := 306) (by decide +kernel), by decide +kernel⟩
theorem tw_204 : Cond.methodLink R_CLS 31 y_PAT_at ∈ GW := List.mem_filter.mpr ⟨List.mem_of_getElem? (i := 693) (by decide +kernel), by decide +kernel⟩
theorem tw_205 : Cond.methodLink R_CLS 64 y_ESC_isSetLetter ∈ GW := List.mem_filter.mpr ⟨List.mem_of_getElem? (i := 720) (by decide +kernel), by decide +kernel⟩
theorem tw_206 : Cond.code y_ESC_isSetLetter b_ESC_isSetLetter 1 (some .boolean) ∈ GW := List.mem_filter.mpr ⟨List.mem_of_getElem? (i := 722) (by decide +kernel), by decide +kernel⟩
theorem tw_207 : Cond.static y_ESC_isSetLetter ∈ GW := List.mem_filter.mpr ⟨List.mem_of_getElem? (i := 721) (by decide +kernel), by decide +kernel⟩
theorem tw_208 : Cond.fieldLink R_ESC 9 "PatternNodes$EscapeReader" "kind" "I" ∈ GW := List.mem_filter.mpr ⟨List.mem_of_getElem? (i := 272) (by decide +kernel), by decide +kernel⟩
theorem tw_209 : Cond.fieldLink R_ESC 15 "PatternNodes$EscapeReader" "value" "I" ∈ GW := List.mem_filter.mpr ⟨List.mem_of_getElem? (i := 275) (by decide +kernel), by decide +kernel⟩
theorem tw_210 : Cond.constant R_PN 105 1114111 ∈ GW := List.mem_filter.mpr ⟨List.mem_of_getElem? (i := 759) (by decide +kernel), by decide +kernel⟩
theorem tw_211 : Cond.constant R_PN 106 55296 ∈ GW := List.mem_filter.mpr ⟨List.mem_of_getElem? (i := 760) (by decide +kernel), by decide +kernel⟩
theorem tw_212 : Cond.constant R_PN 107 57343 ∈ GW := List.mem_filter.mpr ⟨List.mem_of_getElem? (i := 761) (by decide +kernel), by decide +kernel⟩
theorem tw_213 : Cond.fieldLink R_ESC 29 "PatternNodes$EscapeReader" "after" "I" ∈ GW := List.mem_filter.mpr ⟨List.mem_of_getElem? (i := 284) (by decide +kernel), by decide +kernel⟩
theorem tw_214 : Cond.methodLink R_ESC 67 y_ESC_found ∈ GW := List.mem_filter.mpr ⟨List.mem_of_getElem? (i := 745) (by decide +kernel), by decide +kernel⟩
theorem tw_215 : Cond.code y_ESC_found b_ESC_found 3 (some .int) ∈ GW := List.mem_filter.mpr ⟨List.mem_of_getElem? (i := 748) (by decide +kernel), by decide +kernel⟩
theorem tw_216 : Cond.instanceMethod y_ESC_found ∈ GW := List.mem_filter.mpr ⟨List.mem_of_getElem? (i := 747) (by decide +kernel), by decide +kernel⟩
theorem tw_217 : Cond.selects R_ESC y_ESC_found y_ESC_found ∈ GW := List.mem_filter.mpr ⟨List.mem_of_getElem? (i := 16) (by decide +kernel), by decide +kernel⟩
theorem tw_218 : Cond.code y_PN_isCharacter b_PN_isCharacter 1 (some .boolean) ∈ GW := List.mem_filter.mpr ⟨List.mem_of_getElem? (i := 758) (by decide +kernel), by decide +kernel⟩
theorem tn_219 : Cond.methodLinkNest R_ESC 89 y_PN_isCharacter "PatternNodes" ∈ NW := List.mem_filter.mpr ⟨List.mem_of_getElem? (i := 756) (by decide +kernel), by decide +kernel⟩
theorem tw_220 : Cond.static y_PN_isCharacter ∈ GW := List.mem_filter.mpr ⟨List.mem_of_getElem? (i := 757) (by decide +kernel), by decide +kernel⟩
theorem tw_221 : Cond.fieldLink R_ESC 32 "PatternNodes$EscapeReader" "pattern" "LPatternNodes$Pattern;" ∈ GW := List.mem_filter.mpr ⟨List.mem_of_getElem? (i := 271) (by decide +kernel), by decide +kernel⟩
theorem tw_222 : Cond.methodLink R_ESC 61 y_PAT_at ∈ GW := List.mem_filter.mpr ⟨List.mem_of_getElem? (i := 744) (by decide +kernel), by decide +kernel⟩
theorem tw_223 : Cond.code y_PN_hexadecimal b_PN_hexadecimal 1 (some .int) ∈ GW := List.mem_filter.mpr ⟨List.mem_of_getElem? (i := 755) (by decide +kernel), by decide +kernel⟩
theorem tn_224 : Cond.methodLinkNest R_ESC 86 y_PN_hexadecimal "PatternNodes" ∈ NW := List.mem_filter.mpr ⟨List.mem_of_getElem? (i := 753) (by decide +kernel), by decide +kernel⟩
theorem tw_225 : Cond.static y_PN_hexadecimal ∈ GW := List.mem_filter.mpr ⟨List.mem_of_getElem? (i := 754) (by decide +kernel), by decide +kernel⟩
theorem tw_226 : Cond.fieldLink R_ESC 22 "PatternNodes$EscapeReader" "set" "[I" ∈ GW := List.mem_filter.mpr ⟨List.mem_of_getElem? (i := 278) (by decide +kernel), by decide +kernel⟩
theorem tw_227 : Cond.fieldLink R_ESC 25 "PatternNodes$EscapeReader" "others" "Z" ∈ GW := List.mem_filter.mpr ⟨List.mem_of_getElem? (i := 281) (by decide +kernel), by decide +kernel⟩
theorem tn_228 : Cond.fieldLinkNest R_ESC 55 "PatternNodes" "PROPERTY_G" "[I" "PatternNodes" ∈ NW := List.mem_filter.mpr ⟨List.mem_of_getElem? (i := 777) (by decide +kernel), by decide +kernel⟩
theorem tn_229 : Cond.fieldLinkNest R_ESC 49 "PatternNodes" "PROPERTY_L" "[I" "PatternNodes" ∈ NW := List.mem_filter.mpr ⟨List.mem_of_getElem? (i := 773) (by decide +kernel), by decide +kernel⟩
theorem tn_230 : Cond.fieldLinkNest R_ESC 52 "PatternNodes" "PROPERTY_N" "[I" "PatternNodes" ∈ NW := List.mem_filter.mpr ⟨List.mem_of_getElem? (i := 775) (by decide +kernel), by decide +kernel⟩
theorem tn_231 : Cond.fieldLinkNest R_ESC 58 "PatternNodes" "PROPERTY_Y" "[I" "PatternNodes" ∈ NW := List.mem_filter.mpr ⟨List.mem_of_getElem? (i := 779) (by decide +kernel), by decide +kernel⟩
theorem tw_232 : Cond.methodLink R_ESC 92 y_ESC_propertyOf ∈ GW := List.mem_filter.mpr ⟨List.mem_of_getElem? (i := 770) (by decide +kernel), by decide +kernel⟩
theorem tw_233 : Cond.code y_ESC_propertyOf b_ESC_propertyOf 1 (some (.array .int)) ∈ GW := List.mem_filter.mpr ⟨List.mem_of_getElem? (i := 772) (by decide +kernel), by decide +kernel⟩
theorem tw_234 : Cond.static y_ESC_propertyOf ∈ GW := List.mem_filter.mpr ⟨List.mem_of_getElem? (i := 771) (by decide +kernel), by decide +kernel⟩
theorem tw_235 : Cond.methodLink R_ESC 74 y_ESC_foundSet ∈ GW := List.mem_filter.mpr ⟨List.mem_of_getElem? (i := 762) (by decide +kernel), by decide +kernel⟩
theorem tw_236 : Cond.code y_ESC_foundSet b_ESC_foundSet 3 (some .int) ∈ GW := List.mem_filter.mpr ⟨List.mem_of_getElem? (i := 765) (by decide +kernel), by decide +kernel⟩
theorem tw_237 : Cond.instanceMethod y_ESC_foundSet ∈ GW := List.mem_filter.mpr ⟨List.mem_of_getElem? (i := 764) (by decide +kernel), by decide +kernel⟩
theorem tw_238 : Cond.selects R_ESC y_ESC_foundSet y_ESC_foundSet ∈ GW := List.mem_filter.mpr ⟨List.mem_of_getElem? (i := 18) (by decide +kernel), by decide +kernel⟩
theorem tn_239 : Cond.methodLinkNest R_ESC 82 y_PN_isWord "PatternNodes" ∈ NW := List.mem_filter.mpr ⟨List.mem_of_getElem? (i := 781) (by decide +kernel), by decide +kernel⟩
theorem tw_240 : Cond.methodLink R_ESC 78 y_ESC_readProperty ∈ GW := List.mem_filter.mpr ⟨List.mem_of_getElem? (i := 766) (by decide +kernel), by decide +kernel⟩
theorem tw_241 : Cond.code y_ESC_readProperty b_ESC_readProperty 4 (some .int) ∈ GW := List.mem_filter.mpr ⟨List.mem_of_getElem? (i := 769) (by decide +kernel), by decide +kernel⟩
theorem tw_242 : Cond.instanceMethod y_ESC_readProperty ∈ GW := List.mem_filter.mpr ⟨List.mem_of_getElem? (i := 768) (by decide +kernel), by decide +kernel⟩
theorem tw_243 : Cond.selects R_ESC y_ESC_readProperty y_ESC_readProperty ∈ GW := List.mem_filter.mpr ⟨List.mem_of_getElem? (i := 19) (by decide +kernel), by decide +kernel⟩
theorem tw_244 : Cond.methodLink R_ESC 71 y_ESC_readNumbered ∈ GW := List.mem_filter.mpr ⟨List.mem_of_getElem? (i := 749) (by decide +kernel), by decide +kernel⟩
theorem tw_245 : Cond.code y_ESC_readNumbered b_ESC_readNumbered 8 (some .int) ∈ GW := List.mem_filter.mpr ⟨List.mem_of_getElem? (i := 752) (by decide +kernel), by decide +kernel⟩
theorem tw_246 : Cond.instanceMethod y_ESC_readNumbered ∈ GW := List.mem_filter.mpr ⟨List.mem_of_getElem? (i := 751) (by decide +kernel), by decide +kernel⟩
theorem tw_247 : Cond.selects R_ESC y_ESC_readNumbered y_ESC_readNumbered ∈ GW := List.mem_filter.mpr ⟨List.mem_of_getElem? (i := 17) (by decide +kernel), by decide +kernel⟩
theorem tw_248 : Cond.fieldLink R_CLS 19 "PatternNodes$ClassReader" "mistake" "LPatternNodes$Mistake;" ∈ GW := List.mem_filter.mpr ⟨List.mem_of_getElem? (i := 307) (by decide +kernel), by decide +kernel⟩
theorem tw_249 : Cond.methodLink R_CLS 152 y_MIS_tell ∈ GW := List.mem_filter.mpr ⟨List.mem_of_getElem? (i := 786) (by decide +kernel), by decide +kernel⟩
theorem tw_250 : Cond.fieldLink R_CLS 23 "PatternNodes$ClassReader" "escapes" "LPatternNodes$EscapeReader;" ∈ GW := List.mem_filter.mpr ⟨List.mem_of_getElem? (i := 308) (by decide +kernel), by decide +kernel⟩
theorem tw_251 : Cond.methodLink R_CLS 80 y_ESC_readEscape ∈ GW := List.mem_filter.mpr ⟨List.mem_of_getElem? (i := 740) (by decide +kernel), by decide +kernel⟩
theorem tw_252 : Cond.code y_ESC_readEscape b_ESC_readEscape 3 (some .int) ∈ GW := List.mem_filter.mpr ⟨List.mem_of_getElem? (i := 743) (by decide +kernel), by decide +kernel⟩
theorem tw_253 : Cond.instanceMethod y_ESC_readEscape ∈ GW := List.mem_filter.mpr ⟨List.mem_of_getElem? (i := 741) (by decide +kernel), by decide +kernel⟩
theorem tw_254 : Cond.selects R_ESC y_ESC_readEscape y_ESC_readEscape ∈ GW := List.mem_filter.mpr ⟨List.mem_of_getElem? (i := 742) (by decide +kernel), by decide +kernel⟩
theorem tw_255 : Cond.fieldLink R_CLS 27 "PatternNodes$ClassReader" "set" "LPatternNodes$CharacterSet;" ∈ GW := List.mem_filter.mpr ⟨List.mem_of_getElem? (i := 309) (by decide +kernel), by decide +kernel⟩
theorem tn_256 : Cond.fieldLinkNest R_CLS 83 "PatternNodes$EscapeReader" "set" "[I" "PatternNodes" ∈ NW := List.mem_filter.mpr ⟨List.mem_of_getElem? (i := 279) (by decide +kernel), by decide +kernel⟩
theorem tn_257 : Cond.fieldLinkNest R_CLS 86 "PatternNodes$EscapeReader" "others" "Z" "PatternNodes" ∈ NW := List.mem_filter.mpr ⟨List.mem_of_getElem? (i := 282) (by decide +kernel), by decide +kernel⟩
theorem tw_258 : Cond.methodLink R_CLS 76 y_SET_addSet ∈ GW := List.mem_filter.mpr ⟨List.mem_of_getElem? (i := 787) (by decide +kernel), by decide +kernel⟩
theorem tw_259 : Cond.code y_SET_addSet b_SET_addSet 5 none ∈ GW := List.mem_filter.mpr ⟨List.mem_of_getElem? (i := 790) (by decide +kernel), by decide +kernel⟩
theorem tw_260 : Cond.instanceMethod y_SET_addSet ∈ GW := List.mem_filter.mpr ⟨List.mem_of_getElem? (i := 788) (by decide +kernel), by decide +kernel⟩
theorem tw_261 : Cond.selects R_SET y_SET_addSet y_SET_addSet ∈ GW := List.mem_filter.mpr ⟨List.mem_of_getElem? (i := 789) (by decide +kernel), by decide +kernel⟩
theorem tn_262 : Cond.fieldLinkNest R_CLS 90 "PatternNodes$EscapeReader" "after" "I" "PatternNodes" ∈ NW := List.mem_filter.mpr ⟨List.mem_of_getElem? (i := 285) (by decide +kernel), by decide +kernel⟩
theorem tw_263 : Cond.methodLink R_CLS 60 y_CLS_refused ∈ GW := List.mem_filter.mpr ⟨List.mem_of_getElem? (i := 782) (by decide +kernel), by decide +kernel⟩
theorem tw_264 : Cond.code y_CLS_refused b_CLS_refused 3 (some .int) ∈ GW := List.mem_filter.mpr ⟨List.mem_of_getElem? (i := 785) (by decide +kernel), by decide +kernel⟩
theorem tw_265 : Cond.initialized R_CLS ∈ GW := List.mem_filter.mpr ⟨List.mem_of_getElem? (i := 88) (by decide +kernel), by decide +kernel⟩
theorem tw_266 : Cond.instanceMethod y_CLS_refused ∈ GW := List.mem_filter.mpr ⟨List.mem_of_getElem? (i := 784) (by decide +kernel), by decide +kernel⟩
theorem tw_267 : Cond.selects R_CLS y_CLS_refused y_CLS_refused ∈ GW := List.mem_filter.mpr ⟨List.mem_of_getElem? (i := 20) (by decide +kernel), by decide +kernel⟩
theorem tw_268 : Cond.constant R_PN 108 65536 ∈ GW := List.mem_filter.mpr ⟨List.mem_of_getElem? (i := 882) (by decide +kernel), by decide +kernel⟩
theorem tn_269 : Cond.methodLinkNest R_PAT 23 y_PN_isCharacter "PatternNodes" ∈ NW := List.mem_filter.mpr ⟨List.mem_of_getElem? (i := 878) (by decide +kernel), by decide +kernel⟩
theorem tw_270 : Cond.code y_PN_widthOf b_PN_widthOf 1 (some .int) ∈ GW := List.mem_filter.mpr ⟨List.mem_of_getElem? (i := 881) (by decide +kernel), by decide +kernel⟩
theorem tn_271 : Cond.methodLinkNest R_PAT 27 y_PN_widthOf "PatternNodes" ∈ NW := List.mem_filter.mpr ⟨List.mem_of_getElem? (i := 879) (by decide +kernel), by decide +kernel⟩
theorem tw_272 : Cond.static y_PN_widthOf ∈ GW := List.mem_filter.mpr ⟨List.mem_of_getElem? (i := 880) (by decide +kernel), by decide +kernel⟩
theorem tw_273 : Cond.methodLink R_PAT 19 y_PAT_at ∈ GW := List.mem_filter.mpr ⟨List.mem_of_getElem? (i := 810) (by decide +kernel), by decide +kernel⟩
theorem tn_274 : Cond.fieldLinkNest R_CLS 149 "PatternNodes$EscapeReader" "value" "I" "PatternNodes" ∈ NW := List.mem_filter.mpr ⟨List.mem_of_getElem? (i := 276) (by decide +kernel), by decide +kernel⟩
theorem tw_275 : Cond.fieldLink R_CLS 9 "PatternNodes$ClassReader" "single" "I" ∈ GW := List.mem_filter.mpr ⟨List.mem_of_getElem? (i := 310) (by decide +kernel), by decide +kernel⟩
theorem tn_276 : Cond.fieldLinkNest R_CLS 146 "PatternNodes$EscapeReader" "kind" "I" "PatternNodes" ∈ NW := List.mem_filter.mpr ⟨List.mem_of_getElem? (i := 273) (by decide +kernel), by decide +kernel⟩
theorem tw_277 : Cond.methodLink R_CLS 140 y_PAT_characterAt ∈ GW := List.mem_filter.mpr ⟨List.mem_of_getElem? (i := 874) (by decide +kernel), by decide +kernel⟩
theorem tw_278 : Cond.code y_PAT_characterAt b_PAT_characterAt 7 (some .int) ∈ GW := List.mem_filter.mpr ⟨List.mem_of_getElem? (i := 877) (by decide +kernel), by decide +kernel⟩
theorem tw_279 : Cond.instanceMethod y_PAT_characterAt ∈ GW := List.mem_filter.mpr ⟨List.mem_of_getElem? (i := 875) (by decide +kernel), by decide +kernel⟩
theorem tw_280 : Cond.selects R_PAT y_PAT_characterAt y_PAT_characterAt ∈ GW := List.mem_filter.mpr ⟨List.mem_of_getElem? (i := 876) (by decide +kernel), by decide +kernel⟩
theorem tn_281 : Cond.methodLinkNest R_CLS 143 y_PN_widthOf "PatternNodes" ∈ NW := List.mem_filter.mpr ⟨List.mem_of_getElem? (i := 883) (by decide +kernel), by decide +kernel⟩
theorem tn_282 : Cond.fieldLinkNest R_SET 44 "PatternNodes" "KIN" "[I" "PatternNodes" ∈ NW := List.mem_filter.mpr ⟨List.mem_of_getElem? (i := 894) (by decide +kernel), by decide +kernel⟩
theorem tw_283 : Cond.methodLink R_SET 35 Lib.Math.max.name ∈ GW := List.mem_filter.mpr ⟨List.mem_of_getElem? (i := 890) (by decide +kernel), by decide +kernel⟩
theorem tw_284 : Cond.static Lib.Math.max.name ∈ GW := List.mem_filter.mpr ⟨List.mem_of_getElem? (i := 891) (by decide +kernel), by decide +kernel⟩
theorem tw_285 : Cond.code Lib.Math.max.name Lib.Math.max.code 2 (some .int) ∈ GW := List.mem_filter.mpr ⟨List.mem_of_getElem? (i := 892) (by decide +kernel), by decide +kernel⟩
theorem tw_286 : Cond.methodLink R_SET 41 Lib.Math.min.name ∈ GW := List.mem_filter.mpr ⟨List.mem_of_getElem? (i := 893) (by decide +kernel), by decide +kernel⟩
theorem tw_287 : Cond.methodLink R_SET 47 y_SET_addKin ∈ GW := List.mem_filter.mpr ⟨List.mem_of_getElem? (i := 896) (by decide +kernel), by decide +kernel⟩
theorem tw_288 : Cond.code y_SET_addKin b_SET_addKin 6 none ∈ GW := List.mem_filter.mpr ⟨List.mem_of_getElem? (i := 899) (by decide +kernel), by decide +kernel⟩
theorem tw_289 : Cond.instanceMethod y_SET_addKin ∈ GW := List.mem_filter.mpr ⟨List.mem_of_getElem? (i := 898) (by decide +kernel), by decide +kernel⟩
theorem tw_290 : Cond.selects R_SET y_SET_addKin y_SET_addKin ∈ GW := List.mem_filter.mpr ⟨List.mem_of_getElem? (i := 24) (by decide +kernel), by decide +kernel⟩
theorem tn_291 : Cond.fieldLinkNest R_SET 32 "PatternNodes" "PAIRED" "[I" "PatternNodes" ∈ NW := List.mem_filter.mpr ⟨List.mem_of_getElem? (i := 888) (by decide +kernel), by decide +kernel⟩
theorem tw_292 : Cond.methodLink R_CLS 137 y_SET_add ∈ GW := List.mem_filter.mpr ⟨List.mem_of_getElem? (i := 900) (by decide +kernel), by decide +kernel⟩
theorem tw_293 : Cond.methodLink R_CLS 133 y_SET_addWithAlike ∈ GW := List.mem_filter.mpr ⟨List.mem_of_getElem? (i := 884) (by decide +kernel), by decide +kernel⟩
theorem tw_294 : Cond.code y_SET_addWithAlike b_SET_addWithAlike 5 none ∈ GW := List.mem_filter.mpr ⟨List.mem_of_getElem? (i := 887) (by decide +kernel), by decide +kernel⟩
theorem tw_295 : Cond.instanceMethod y_SET_addWithAlike ∈ GW := List.mem_filter.mpr ⟨List.mem_of_getElem? (i := 885) (by decide +kernel), by decide +kernel⟩
theorem tw_296 : Cond.selects R_SET y_SET_addWithAlike y_SET_addWithAlike ∈ GW := List.mem_filter.mpr ⟨List.mem_of_getElem? (i := 886) (by decide +kernel), by decide +kernel⟩
theorem tw_297 : Cond.methodLink R_CLS 130 y_CLS_readSingle ∈ GW := List.mem_filter.mpr ⟨List.mem_of_getElem? (i := 870) (by decide +kernel), by decide +kernel⟩
theorem tw_298 : Cond.code y_CLS_readSingle b_CLS_readSingle 3 (some .int) ∈ GW := List.mem_filter.mpr ⟨List.mem_of_getElem? (i := 873) (by decide +kernel), by decide +kernel⟩
theorem tw_299 : Cond.instanceMethod y_CLS_readSingle ∈ GW := List.mem_filter.mpr ⟨List.mem_of_getElem? (i := 872) (by decide +kernel), by decide +kernel⟩
theorem tw_300 : Cond.selects R_CLS y_CLS_readSingle y_CLS_readSingle ∈ GW := List.mem_filter.mpr ⟨List.mem_of_getElem? (i := 23) (by decide +kernel), by decide +kernel⟩
theorem tw_301 : Cond.methodLink R_CLS 49 y_CLS_isSetItem ∈ GW := List.mem_filter.mpr ⟨List.mem_of_getElem? (i := 716) (by decide +kernel), by decide +kernel⟩
theorem tw_302 : Cond.code y_CLS_isSetItem b_CLS_isSetItem 3 (some .boolean) ∈ GW := List.mem_filter.mpr ⟨List.mem_of_getElem? (i := 719) (by decide +kernel), by decide +kernel⟩
theorem tw_303 : Cond.instanceMethod y_CLS_isSetItem ∈ GW := List.mem_filter.mpr ⟨List.mem_of_getElem? (i := 718) (by decide +kernel), by decide +kernel⟩
theorem tw_304 : Cond.selects R_CLS y_CLS_isSetItem y_CLS_isSetItem ∈ GW := List.mem_filter.mpr ⟨List.mem_of_getElem? (i := 13) (by decide +kernel), by decide +kernel⟩
theorem tn_305 : Cond.fieldLinkNest R_TRE 63 "PatternNodes$CharacterSet" "pieces" "I" "PatternNodes" ∈ NW := List.mem_filter.mpr ⟨List.mem_of_getElem? (i := 255) (by decide +kernel), by decide +kernel⟩
theorem tw_306 : Cond.methodLink R_TRE 68 y_TRE_addLeaf ∈ GW := List.mem_filter.mpr ⟨List.mem_of_getElem? (i := 909) (by decide +kernel), by decide +kernel⟩
theorem tn_307 : Cond.fieldLinkNest R_TRE 72 "PatternNodes$CharacterSet" "begins" "[I" "PatternNodes" ∈ NW := List.mem_filter.mpr ⟨List.mem_of_getElem? (i := 251) (by decide +kernel), by decide +kernel⟩
theorem tw_308 : Cond.fieldLink R_TRE 33 "PatternNodes$Tree" "begins" "[I" ∈ GW := List.mem_filter.mpr ⟨List.mem_of_getElem? (i := 156) (by decide +kernel), by decide +kernel⟩
theorem tw_309 : Cond.methodLink R_TRE 73 arraycopyName ∈ GW := List.mem_filter.mpr ⟨List.mem_of_getElem? (i := 910) (by decide +kernel), by decide +kernel⟩
theorem tn_310 : Cond.fieldLinkNest R_TRE 79 "PatternNodes$CharacterSet" "ends" "[I" "PatternNodes" ∈ NW := List.mem_filter.mpr ⟨List.mem_of_getElem? (i := 253) (by decide +kernel), by decide +kernel⟩
theorem tw_311 : Cond.fieldLink R_TRE 36 "PatternNodes$Tree" "ends" "[I" ∈ GW := List.mem_filter.mpr ⟨List.mem_of_getElem? (i := 157) (by decide +kernel), by decide +kernel⟩
theorem tw_312 : Cond.fieldLink R_RDR 21 "PatternNodes$TreeReader" "set" "LPatternNodes$CharacterSet;" ∈ GW := List.mem_filter.mpr ⟨List.mem_of_getElem? (i := 390) (by decide +kernel), by decide +kernel⟩
theorem tw_313 : Cond.methodLink R_RDR 231 y_TRE_addClass ∈ GW := List.mem_filter.mpr ⟨List.mem_of_getElem? (i := 905) (by decide +kernel), by decide +kernel⟩
theorem tw_314 : Cond.code y_TRE_addClass b_TRE_addClass 3 none ∈ GW := List.mem_filter.mpr ⟨List.mem_of_getElem? (i := 908) (by decide +kernel), by decide +kernel⟩
theorem tw_315 : Cond.instanceMethod y_TRE_addClass ∈ GW := List.mem_filter.mpr ⟨List.mem_of_getElem? (i := 906) (by decide +kernel), by decide +kernel⟩
theorem tw_316 : Cond.selects R_TRE y_TRE_addClass y_TRE_addClass ∈ GW := List.mem_filter.mpr ⟨List.mem_of_getElem? (i := 907) (by decide +kernel), by decide +kernel⟩
theorem tw_317 : Cond.methodLink R_RDR 299 y_SET_isOneCharacter ∈ GW := List.mem_filter.mpr ⟨List.mem_of_getElem? (i := 923) (by decide +kernel), by decide +kernel⟩
theorem tw_318 : Cond.code y_SET_isOneCharacter b_SET_isOneCharacter 1 (some .boolean) ∈ GW := List.mem_filter.mpr ⟨List.mem_of_getElem? (i := 926) (by decide +kernel), by decide +kernel⟩
theorem tw_319 : Cond.instanceMethod y_SET_isOneCharacter ∈ GW := List.mem_filter.mpr ⟨List.mem_of_getElem? (i := 924) (by decide +kernel), by decide +kernel⟩
theorem tw_320 : Cond.selects R_SET y_SET_isOneCharacter y_SET_isOneCharacter ∈ GW := List.mem_filter.mpr ⟨List.mem_of_getElem? (i := 925) (by decide +kernel), by decide +kernel⟩
theorem tw_321 : Cond.methodLink R_RDR 263 y_SET_clear ∈ GW := List.mem_filter.mpr ⟨List.mem_of_getElem? (i := 920) (by decide +kernel), by decide +kernel⟩
theorem tw_322 : Cond.code y_SET_clear b_SET_clear 1 none ∈ GW := List.mem_filter.mpr ⟨List.mem_of_getElem? (i := 697) (by decide +kernel), by decide +kernel⟩
theorem tw_323 : Cond.instanceMethod y_SET_clear ∈ GW := List.mem_filter.mpr ⟨List.mem_of_getElem? (i := 695) (by decide +kernel), by decide +kernel⟩
theorem tw_324 : Cond.selects R_SET y_SET_clear y_SET_clear ∈ GW := List.mem_filter.mpr ⟨List.mem_of_getElem? (i := 696) (by decide +kernel), by decide +kernel⟩
theorem tw_325 : Cond.methodLink R_RDR 133 y_RDR_isOn ∈ GW := List.mem_filter.mpr ⟨List.mem_of_getElem? (i := 685) (by decide +kernel), by decide +kernel⟩
theorem tw_326 : Cond.code y_RDR_isOn b_RDR_isOn 2 (some .boolean) ∈ GW := List.mem_filter.mpr ⟨List.mem_of_getElem? (i := 688) (by decide +kernel), by decide +kernel⟩
theorem tw_327 : Cond.instanceMethod y_RDR_isOn ∈ GW := List.mem_filter.mpr ⟨List.mem_of_getElem? (i := 687) (by decide +kernel), by decide +kernel⟩
theorem tw_328 : Cond.selects R_RDR y_RDR_isOn y_RDR_isOn ∈ GW := List.mem_filter.mpr ⟨List.mem_of_getElem? (i := 11) (by decide +kernel), by decide +kernel⟩
theorem tw_329 : Cond.methodLink R_RDR 296 y_SET_add ∈ GW := List.mem_filter.mpr ⟨List.mem_of_getElem? (i := 922) (by decide +kernel), by decide +kernel⟩
theorem tw_330 : Cond.methodLink R_RDR 293 y_SET_addWithAlike ∈ GW := List.mem_filter.mpr ⟨List.mem_of_getElem? (i := 921) (by decide +kernel), by decide +kernel⟩
theorem tw_331 : Cond.methodLink R_RDR 264 y_SET_addSet ∈ GW := List.mem_filter.mpr ⟨List.mem_of_getElem? (i := 931) (by decide +kernel), by decide +kernel⟩
theorem tw_332 : Cond.methodLink R_RDR 267 y_SET_finish ∈ GW := List.mem_filter.mpr ⟨List.mem_of_getElem? (i := 932) (by decide +kernel), by decide +kernel⟩
theorem tw_333 : Cond.code y_SET_finish b_SET_finish 2 none ∈ GW := List.mem_filter.mpr ⟨List.mem_of_getElem? (i := 701) (by decide +kernel), by decide +kernel⟩
theorem tw_334 : Cond.instanceMethod y_SET_finish ∈ GW := List.mem_filter.mpr ⟨List.mem_of_getElem? (i := 699) (by decide +kernel), by decide +kernel⟩
theorem tw_335 : Cond.selects R_SET y_SET_finish y_SET_finish ∈ GW := List.mem_filter.mpr ⟨List.mem_of_getElem? (i := 700) (by decide +kernel), by decide +kernel⟩
theorem tw_336 : Cond.fieldLink R_RDR 57 "PatternNodes$TreeReader" "escapes" "LPatternNodes$EscapeReader;" ∈ GW := List.mem_filter.mpr ⟨List.mem_of_getElem? (i := 391) (by decide +kernel), by decide +kernel⟩
theorem tn_337 : Cond.fieldLinkNest R_RDR 256 "PatternNodes$EscapeReader" "after" "I" "PatternNodes" ∈ NW := List.mem_filter.mpr ⟨List.mem_of_getElem? (i := 286) (by decide +kernel), by decide +kernel⟩
theorem tw_338 : Cond.methodLink R_RDR 235 y_ESC_readEscape ∈ GW := List.mem_filter.mpr ⟨List.mem_of_getElem? (i := 915) (by decide +kernel), by decide +kernel⟩
theorem tn_339 : Cond.fieldLinkNest R_RDR 238 "PatternNodes$EscapeReader" "kind" "I" "PatternNodes" ∈ NW := List.mem_filter.mpr ⟨List.mem_of_getElem? (i := 274) (by decide +kernel), by decide +kernel⟩
theorem tn_340 : Cond.fieldLinkNest R_RDR 241 "PatternNodes$EscapeReader" "value" "I" "PatternNodes" ∈ NW := List.mem_filter.mpr ⟨List.mem_of_getElem? (i := 277) (by decide +kernel), by decide +kernel⟩
theorem tw_341 : Cond.methodLink R_RDR 244 y_RDR_addCharacter ∈ GW := List.mem_filter.mpr ⟨List.mem_of_getElem? (i := 916) (by decide +kernel), by decide +kernel⟩
theorem tw_342 : Cond.code y_RDR_addCharacter b_RDR_addCharacter 2 none ∈ GW := List.mem_filter.mpr ⟨List.mem_of_getElem? (i := 919) (by decide +kernel), by decide +kernel⟩
theorem tw_343 : Cond.instanceMethod y_RDR_addCharacter ∈ GW := List.mem_filter.mpr ⟨List.mem_of_getElem? (i := 918) (by decide +kernel), by decide +kernel⟩
theorem tw_344 : Cond.selects R_RDR y_RDR_addCharacter y_RDR_addCharacter ∈ GW := List.mem_filter.mpr ⟨List.mem_of_getElem? (i := 27) (by decide +kernel), by decide +kernel⟩
theorem tn_345 : Cond.fieldLinkNest R_RDR 247 "PatternNodes$EscapeReader" "set" "[I" "PatternNodes" ∈ NW := List.mem_filter.mpr ⟨List.mem_of_getElem? (i := 280) (by decide +kernel), by decide +kernel⟩
theorem tn_346 : Cond.fieldLinkNest R_RDR 249 "PatternNodes$EscapeReader" "others" "Z" "PatternNodes" ∈ NW := List.mem_filter.mpr ⟨List.mem_of_getElem? (i := 283) (by decide +kernel), by decide +kernel⟩
theorem tw_347 : Cond.methodLink R_RDR 252 y_RDR_addFixedSet ∈ GW := List.mem_filter.mpr ⟨List.mem_of_getElem? (i := 927) (by decide +kernel), by decide +kernel⟩
theorem tw_348 : Cond.code y_RDR_addFixedSet b_RDR_addFixedSet 3 none ∈ GW := List.mem_filter.mpr ⟨List.mem_of_getElem? (i := 930) (by decide +kernel), by decide +kernel⟩
theorem tw_349 : Cond.instanceMethod y_RDR_addFixedSet ∈ GW := List.mem_filter.mpr ⟨List.mem_of_getElem? (i := 929) (by decide +kernel), by decide +kernel⟩
theorem tw_350 : Cond.selects R_RDR y_RDR_addFixedSet y_RDR_addFixedSet ∈ GW := List.mem_filter.mpr ⟨List.mem_of_getElem? (i := 28) (by decide +kernel), by decide +kernel⟩
theorem tn_351 : Cond.fieldLinkNest R_RDR 260 "PatternNodes" "LINE_FEED" "[I" "PatternNodes" ∈ NW := List.mem_filter.mpr ⟨List.mem_of_getElem? (i := 938) (by decide +kernel), by decide +kernel⟩
theorem tn_352 : Cond.fieldLinkNest R_RDR 257 "PatternNodes" "NO_SET" "[I" "PatternNodes" ∈ NW := List.mem_filter.mpr ⟨List.mem_of_getElem? (i := 937) (by decide +kernel), by decide +kernel⟩
theorem tw_353 : Cond.fieldLink R_REP 28 "PatternNodes$RepeatReader" "pattern" "LPatternNodes$Pattern;" ∈ GW := List.mem_filter.mpr ⟨List.mem_of_getElem? (i := 362) (by decide +kernel), by decide +kernel⟩
theorem tw_354 : Cond.fieldLink R_REP 22 "PatternNodes$RepeatReader" "after" "I" ∈ GW := List.mem_filter.mpr ⟨List.mem_of_getElem? (i := 369) (by decide +kernel), by decide +kernel⟩
theorem tw_355 : Cond.methodLink R_REP 32 y_PAT_at ∈ GW := List.mem_filter.mpr ⟨List.mem_of_getElem? (i := 948) (by decide +kernel), by decide +kernel⟩
theorem tn_356 : Cond.methodLinkNest R_REP 45 y_PN_isDigit "PatternNodes" ∈ NW := List.mem_filter.mpr ⟨List.mem_of_getElem? (i := 957) (by decide +kernel), by decide +kernel⟩
theorem tw_357 : Cond.fieldLink R_REP 25 "PatternNodes$RepeatReader" "number" "I" ∈ GW := List.mem_filter.mpr ⟨List.mem_of_getElem? (i := 371) (by decide +kernel), by decide +kernel⟩
theorem tw_358 : Cond.methodLink R_REP 42 y_REP_readNumber ∈ GW := List.mem_filter.mpr ⟨List.mem_of_getElem? (i := 953) (by decide +kernel), by decide +kernel⟩
theorem tw_359 : Cond.code y_REP_readNumber b_REP_readNumber 2 (some .boolean) ∈ GW := List.mem_filter.mpr ⟨List.mem_of_getElem? (i := 956) (by decide +kernel), by decide +kernel⟩
theorem tw_360 : Cond.initialized R_REP ∈ GW := List.mem_filter.mpr ⟨List.mem_of_getElem? (i := 90) (by decide +kernel), by decide +kernel⟩
theorem tw_361 : Cond.instanceMethod y_REP_readNumber ∈ GW := List.mem_filter.mpr ⟨List.mem_of_getElem? (i := 955) (by decide +kernel), by decide +kernel⟩
theorem tw_362 : Cond.selects R_REP y_REP_readNumber y_REP_readNumber ∈ GW := List.mem_filter.mpr ⟨List.mem_of_getElem? (i := 32) (by decide +kernel), by decide +kernel⟩
theorem tw_363 : Cond.fieldLink R_REP 9 "PatternNodes$RepeatReader" "least" "I" ∈ GW := List.mem_filter.mpr ⟨List.mem_of_getElem? (i := 363) (by decide +kernel), by decide +kernel⟩
theorem tw_364 : Cond.fieldLink R_REP 15 "PatternNodes$RepeatReader" "most" "I" ∈ GW := List.mem_filter.mpr ⟨List.mem_of_getElem? (i := 365) (by decide +kernel), by decide +kernel⟩
theorem tw_365 : Cond.fieldLink R_REP 18 "PatternNodes$RepeatReader" "marked" "Z" ∈ GW := List.mem_filter.mpr ⟨List.mem_of_getElem? (i := 367) (by decide +kernel), by decide +kernel⟩
theorem tw_366 : Cond.methodLink R_REP 38 y_REP_readBounds ∈ GW := List.mem_filter.mpr ⟨List.mem_of_getElem? (i := 949) (by decide +kernel), by decide +kernel⟩
theorem tw_367 : Cond.code y_REP_readBounds b_REP_readBounds 1 (some .boolean) ∈ GW := List.mem_filter.mpr ⟨List.mem_of_getElem? (i := 952) (by decide +kernel), by decide +kernel⟩
theorem tw_368 : Cond.instanceMethod y_REP_readBounds ∈ GW := List.mem_filter.mpr ⟨List.mem_of_getElem? (i := 951) (by decide +kernel), by decide +kernel⟩
theorem tw_369 : Cond.selects R_REP y_REP_readBounds y_REP_readBounds ∈ GW := List.mem_filter.mpr ⟨List.mem_of_getElem? (i := 31) (by decide +kernel), by decide +kernel⟩
theorem tw_370 : Cond.fieldLink R_RDR 80 "PatternNodes$TreeReader" "repeats" "LPatternNodes$RepeatReader;" ∈ GW := List.mem_filter.mpr ⟨List.mem_of_getElem? (i := 394) (by decide +kernel), by decide +kernel⟩
theorem tw_371 : Cond.methodLink R_RDR 277 y_REP_sizeOver ∈ GW := List.mem_filter.mpr ⟨List.mem_of_getElem? (i := 966) (by decide +kernel), by decide +kernel⟩
theorem tw_372 : Cond.code y_REP_sizeOver b_REP_sizeOver 2 (some .int) ∈ GW := List.mem_filter.mpr ⟨List.mem_of_getElem? (i := 969) (by decide +kernel), by decide +kernel⟩
theorem tw_373 : Cond.instanceMethod y_REP_sizeOver ∈ GW := List.mem_filter.mpr ⟨List.mem_of_getElem? (i := 967) (by decide +kernel), by decide +kernel⟩
theorem tw_374 : Cond.selects R_REP y_REP_sizeOver y_REP_sizeOver ∈ GW := List.mem_filter.mpr ⟨List.mem_of_getElem? (i := 968) (by decide +kernel), by decide +kernel⟩
theorem tn_375 : Cond.fieldLinkNest R_RDR 280 "PatternNodes$RepeatReader" "least" "I" "PatternNodes" ∈ NW := List.mem_filter.mpr ⟨List.mem_of_getElem? (i := 364) (by decide +kernel), by decide +kernel⟩
theorem tn_376 : Cond.fieldLinkNest R_RDR 283 "PatternNodes$RepeatReader" "most" "I" "PatternNodes" ∈ NW := List.mem_filter.mpr ⟨List.mem_of_getElem? (i := 366) (by decide +kernel), by decide +kernel⟩
theorem tn_377 : Cond.fieldLinkNest R_RDR 286 "PatternNodes$RepeatReader" "after" "I" "PatternNodes" ∈ NW := List.mem_filter.mpr ⟨List.mem_of_getElem? (i := 370) (by decide +kernel), by decide +kernel⟩
theorem tw_378 : Cond.methodLink R_RDR 271 y_REP_hasBadTimes ∈ GW := List.mem_filter.mpr ⟨List.mem_of_getElem? (i := 962) (by decide +kernel), by decide +kernel⟩
theorem tw_379 : Cond.code y_REP_hasBadTimes b_REP_hasBadTimes 1 (some .boolean) ∈ GW := List.mem_filter.mpr ⟨List.mem_of_getElem? (i := 965) (by decide +kernel), by decide +kernel⟩
theorem tw_380 : Cond.instanceMethod y_REP_hasBadTimes ∈ GW := List.mem_filter.mpr ⟨List.mem_of_getElem? (i := 963) (by decide +kernel), by decide +kernel⟩
theorem tw_381 : Cond.selects R_REP y_REP_hasBadTimes y_REP_hasBadTimes ∈ GW := List.mem_filter.mpr ⟨List.mem_of_getElem? (i := 964) (by decide +kernel), by decide +kernel⟩
theorem tn_382 : Cond.fieldLinkNest R_RDR 274 "PatternNodes$RepeatReader" "marked" "Z" "PatternNodes" ∈ NW := List.mem_filter.mpr ⟨List.mem_of_getElem? (i := 368) (by decide +kernel), by decide +kernel⟩
theorem tw_383 : Cond.methodLink R_RDR 287 y_PAT_characterAt ∈ GW := List.mem_filter.mpr ⟨List.mem_of_getElem? (i := 974) (by decide +kernel), by decide +kernel⟩
theorem tn_384 : Cond.methodLinkNest R_RDR 290 y_PN_widthOf "PatternNodes" ∈ NW := List.mem_filter.mpr ⟨List.mem_of_getElem? (i := 975) (by decide +kernel), by decide +kernel⟩
theorem tn_385 : Cond.fieldLinkNest R_RDR 109 "PatternNodes$OpenGroups" "places" "[I" "PatternNodes" ∈ NW := List.mem_filter.mpr ⟨List.mem_of_getElem? (i := 220) (by decide +kernel), by decide +kernel⟩
theorem tw_386 : Cond.fieldLink R_PN 19 "PatternNodes" "mistake" "LPatternNodes$Mistake;" ∈ GW := List.mem_filter.mpr ⟨List.mem_of_getElem? (i := 426) (by decide +kernel), by decide +kernel⟩
theorem tn_387 : Cond.fieldLinkNest R_PN 85 "PatternNodes$Mistake" "place" "I" "PatternNodes" ∈ NW := List.mem_filter.mpr ⟨List.mem_of_getElem? (i := 137) (by decide +kernel), by decide +kernel⟩
theorem tn_388 : Cond.fieldLinkNest R_PN 74 "PatternNodes$Mistake" "number" "I" "PatternNodes" ∈ NW := List.mem_filter.mpr ⟨List.mem_of_getElem? (i := 135) (by decide +kernel), by decide +kernel⟩
theorem tw_389 : Cond.fieldLink R_PN 26 "PatternNodes" "tree" "LPatternNodes$Tree;" ∈ GW := List.mem_filter.mpr ⟨List.mem_of_getElem? (i := 427) (by decide +kernel), by decide +kernel⟩
theorem tn_390 : Cond.fieldLinkNest R_PN 88 "PatternNodes$Tree" "nodes" "I" "PatternNodes" ∈ NW := List.mem_filter.mpr ⟨List.mem_of_getElem? (i := 160) (by decide +kernel), by decide +kernel⟩
theorem tw_391 : Cond.fieldLink R_PN 33 "PatternNodes" "groups" "LPatternNodes$NumberedGroups;" ∈ GW := List.mem_filter.mpr ⟨List.mem_of_getElem? (i := 428) (by decide +kernel), by decide +kernel⟩
theorem tn_392 : Cond.fieldLinkNest R_PN 82 "PatternNodes$NumberedGroups" "howMany" "I" "PatternNodes" ∈ NW := List.mem_filter.mpr ⟨List.mem_of_getElem? (i := 199) (by decide +kernel), by decide +kernel⟩
theorem tn_393 : Cond.fieldLinkNest R_PN 91 "PatternNodes$Pattern" "length" "I" "PatternNodes" ∈ NW := List.mem_filter.mpr ⟨List.mem_of_getElem? (i := 120) (by decide +kernel), by decide +kernel⟩
theorem tw_394 : Cond.methodLink R_PN 94 y_TRE_told ∈ GW := List.mem_filter.mpr ⟨List.mem_of_getElem? (i := 461) (by decide +kernel), by decide +kernel⟩
theorem tw_395 : Cond.code y_TRE_told b_TRE_told 3 (some .int) ∈ GW := List.mem_filter.mpr ⟨List.mem_of_getElem? (i := 464) (by decide +kernel), by decide +kernel⟩
theorem tw_396 : Cond.instanceMethod y_TRE_told ∈ GW := List.mem_filter.mpr ⟨List.mem_of_getElem? (i := 462) (by decide +kernel), by decide +kernel⟩
theorem tw_397 : Cond.selects R_TRE y_TRE_told y_TRE_told ∈ GW := List.mem_filter.mpr ⟨List.mem_of_getElem? (i := 463) (by decide +kernel), by decide +kernel⟩
theorem tw_398 : Cond.methodLink R_PN 98 y_TRE_rangeEdge ∈ GW := List.mem_filter.mpr ⟨List.mem_of_getElem? (i := 469) (by decide +kernel), by decide +kernel⟩
theorem tw_399 : Cond.code y_TRE_rangeEdge b_TRE_rangeEdge 4 (some .int) ∈ GW := List.mem_filter.mpr ⟨List.mem_of_getElem? (i := 472) (by decide +kernel), by decide +kernel⟩
theorem tw_400 : Cond.instanceMethod y_TRE_rangeEdge ∈ GW := List.mem_filter.mpr ⟨List.mem_of_getElem? (i := 470) (by decide +kernel), by decide +kernel⟩
theorem tw_401 : Cond.selects R_TRE y_TRE_rangeEdge y_TRE_rangeEdge ∈ GW := List.mem_filter.mpr ⟨List.mem_of_getElem? (i := 471) (by decide +kernel), by decide +kernel⟩
theorem tw_402 : Cond.methodLink R_PN 102 y_GRP_nameByte ∈ GW := List.mem_filter.mpr ⟨List.mem_of_getElem? (i := 477) (by decide +kernel), by decide +kernel⟩
theorem tw_403 : Cond.code y_GRP_nameByte b_GRP_nameByte 3 (some .int) ∈ GW := List.mem_filter.mpr ⟨List.mem_of_getElem? (i := 480) (by decide +kernel), by decide +kernel⟩
theorem tw_404 : Cond.instanceMethod y_GRP_nameByte ∈ GW := List.mem_filter.mpr ⟨List.mem_of_getElem? (i := 478) (by decide +kernel), by decide +kernel⟩
theorem tw_405 : Cond.selects R_GRP y_GRP_nameByte y_GRP_nameByte ∈ GW := List.mem_filter.mpr ⟨List.mem_of_getElem? (i := 479) (by decide +kernel), by decide +kernel⟩
theorem tw_406 : Cond.methodLink R_PAT 3 Lib.objectInit ∈ GW := List.mem_filter.mpr ⟨List.mem_of_getElem? (i := 115) (by decide +kernel), by decide +kernel⟩
theorem tw_407 : Cond.instanceMethod Lib.objectInit ∈ GW := List.mem_filter.mpr ⟨List.mem_of_getElem? (i := 108) (by decide +kernel), by decide +kernel⟩
theorem tw_408 : Cond.code Lib.objectInit ⟨#[0xb1]⟩ 1 none ∈ GW := List.mem_filter.mpr ⟨List.mem_of_getElem? (i := 109) (by decide +kernel), by decide +kernel⟩
theorem tw_409 : Cond.arrayClass .int ∈ GW := List.mem_filter.mpr ⟨List.mem_of_getElem? (i := 126) (by decide +kernel), by decide +kernel⟩
theorem tw_410 : Cond.methodLink R_MIS 3 Lib.objectInit ∈ GW := List.mem_filter.mpr ⟨List.mem_of_getElem? (i := 132) (by decide +kernel), by decide +kernel⟩
theorem tw_411 : Cond.methodLink R_TRE 3 Lib.objectInit ∈ GW := List.mem_filter.mpr ⟨List.mem_of_getElem? (i := 148) (by decide +kernel), by decide +kernel⟩
theorem tw_412 : Cond.methodLink R_GRP 3 Lib.objectInit ∈ GW := List.mem_filter.mpr ⟨List.mem_of_getElem? (i := 195) (by decide +kernel), by decide +kernel⟩
theorem tw_413 : Cond.methodLink R_OPN 3 Lib.objectInit ∈ GW := List.mem_filter.mpr ⟨List.mem_of_getElem? (i := 218) (by decide +kernel), by decide +kernel⟩
theorem tw_414 : Cond.methodLink R_SET 3 Lib.objectInit ∈ GW := List.mem_filter.mpr ⟨List.mem_of_getElem? (i := 249) (by decide +kernel), by decide +kernel⟩
theorem tw_415 : Cond.methodLink R_ESC 3 Lib.objectInit ∈ GW := List.mem_filter.mpr ⟨List.mem_of_getElem? (i := 268) (by decide +kernel), by decide +kernel⟩
theorem tw_416 : Cond.methodLink R_CLS 3 Lib.objectInit ∈ GW := List.mem_filter.mpr ⟨List.mem_of_getElem? (i := 305) (by decide +kernel), by decide +kernel⟩
theorem tw_417 : Cond.methodLink R_OPG 3 Lib.objectInit ∈ GW := List.mem_filter.mpr ⟨List.mem_of_getElem? (i := 327) (by decide +kernel), by decide +kernel⟩
theorem tw_418 : Cond.methodLink R_REP 3 Lib.objectInit ∈ GW := List.mem_filter.mpr ⟨List.mem_of_getElem? (i := 361) (by decide +kernel), by decide +kernel⟩
theorem tw_419 : Cond.methodLink R_RDR 3 Lib.objectInit ∈ GW := List.mem_filter.mpr ⟨List.mem_of_getElem? (i := 212) (by decide +kernel), by decide +kernel⟩
theorem tw_420 : Cond.classLink R_RDR 9 R_OPN ∈ GW := List.mem_filter.mpr ⟨List.mem_of_getElem? (i := 213) (by decide +kernel), by decide +kernel⟩
theorem tw_421 : Cond.instantiable R_OPN 6 ∈ GW := List.mem_filter.mpr ⟨List.mem_of_getElem? (i := 214) (by decide +kernel), by decide +kernel⟩
theorem tw_422 : Cond.code y_OPN_init b_OPN_init 1 none ∈ GW := List.mem_filter.mpr ⟨List.mem_of_getElem? (i := 217) (by decide +kernel), by decide +kernel⟩
theorem tw_423 : Cond.instanceMethod y_OPN_init ∈ GW := List.mem_filter.mpr ⟨List.mem_of_getElem? (i := 216) (by decide +kernel), by decide +kernel⟩
theorem tn_424 : Cond.methodLinkNest R_RDR 11 y_OPN_init "PatternNodes" ∈ NW := List.mem_filter.mpr ⟨List.mem_of_getElem? (i := 215) (by decide +kernel), by decide +kernel⟩
theorem tw_425 : Cond.classLink R_RDR 18 R_SET ∈ GW := List.mem_filter.mpr ⟨List.mem_of_getElem? (i := 244) (by decide +kernel), by decide +kernel⟩
theorem tw_426 : Cond.instantiable R_SET 3 ∈ GW := List.mem_filter.mpr ⟨List.mem_of_getElem? (i := 245) (by decide +kernel), by decide +kernel⟩
theorem tw_427 : Cond.code y_SET_init b_SET_init 1 none ∈ GW := List.mem_filter.mpr ⟨List.mem_of_getElem? (i := 248) (by decide +kernel), by decide +kernel⟩
theorem tw_428 : Cond.instanceMethod y_SET_init ∈ GW := List.mem_filter.mpr ⟨List.mem_of_getElem? (i := 247) (by decide +kernel), by decide +kernel⟩
theorem tn_429 : Cond.methodLinkNest R_RDR 20 y_SET_init "PatternNodes" ∈ NW := List.mem_filter.mpr ⟨List.mem_of_getElem? (i := 246) (by decide +kernel), by decide +kernel⟩
theorem tw_430 : Cond.classLink R_RDR 52 R_ESC ∈ GW := List.mem_filter.mpr ⟨List.mem_of_getElem? (i := 263) (by decide +kernel), by decide +kernel⟩
theorem tw_431 : Cond.instantiable R_ESC 6 ∈ GW := List.mem_filter.mpr ⟨List.mem_of_getElem? (i := 264) (by decide +kernel), by decide +kernel⟩
theorem tw_432 : Cond.code y_ESC_init b_ESC_init 2 none ∈ GW := List.mem_filter.mpr ⟨List.mem_of_getElem? (i := 267) (by decide +kernel), by decide +kernel⟩
theorem tw_433 : Cond.instanceMethod y_ESC_init ∈ GW := List.mem_filter.mpr ⟨List.mem_of_getElem? (i := 266) (by decide +kernel), by decide +kernel⟩
theorem tw_434 : Cond.methodLink R_RDR 54 y_ESC_init ∈ GW := List.mem_filter.mpr ⟨List.mem_of_getElem? (i := 265) (by decide +kernel), by decide +kernel⟩
theorem tw_435 : Cond.classLink R_RDR 61 R_CLS ∈ GW := List.mem_filter.mpr ⟨List.mem_of_getElem? (i := 300) (by decide +kernel), by decide +kernel⟩
theorem tw_436 : Cond.instantiable R_CLS 5 ∈ GW := List.mem_filter.mpr ⟨List.mem_of_getElem? (i := 301) (by decide +kernel), by decide +kernel⟩
theorem tw_437 : Cond.code y_CLS_init b_CLS_init 5 none ∈ GW := List.mem_filter.mpr ⟨List.mem_of_getElem? (i := 304) (by decide +kernel), by decide +kernel⟩
theorem tw_438 : Cond.instanceMethod y_CLS_init ∈ GW := List.mem_filter.mpr ⟨List.mem_of_getElem? (i := 303) (by decide +kernel), by decide +kernel⟩
theorem tw_439 : Cond.methodLink R_RDR 63 y_CLS_init ∈ GW := List.mem_filter.mpr ⟨List.mem_of_getElem? (i := 302) (by decide +kernel), by decide +kernel⟩
theorem tw_440 : Cond.fieldLink R_RDR 66 "PatternNodes$TreeReader" "classes" "LPatternNodes$ClassReader;" ∈ GW := List.mem_filter.mpr ⟨List.mem_of_getElem? (i := 392) (by decide +kernel), by decide +kernel⟩
theorem tw_441 : Cond.classLink R_RDR 70 R_OPG ∈ GW := List.mem_filter.mpr ⟨List.mem_of_getElem? (i := 322) (by decide +kernel), by decide +kernel⟩
theorem tw_442 : Cond.instantiable R_OPG 7 ∈ GW := List.mem_filter.mpr ⟨List.mem_of_getElem? (i := 323) (by decide +kernel), by decide +kernel⟩
theorem tw_443 : Cond.code y_OPG_init b_OPG_init 2 none ∈ GW := List.mem_filter.mpr ⟨List.mem_of_getElem? (i := 326) (by decide +kernel), by decide +kernel⟩
theorem tw_444 : Cond.instanceMethod y_OPG_init ∈ GW := List.mem_filter.mpr ⟨List.mem_of_getElem? (i := 325) (by decide +kernel), by decide +kernel⟩
theorem tw_445 : Cond.methodLink R_RDR 72 y_OPG_init ∈ GW := List.mem_filter.mpr ⟨List.mem_of_getElem? (i := 324) (by decide +kernel), by decide +kernel⟩
theorem tw_446 : Cond.classLink R_RDR 77 R_REP ∈ GW := List.mem_filter.mpr ⟨List.mem_of_getElem? (i := 356) (by decide +kernel), by decide +kernel⟩
theorem tw_447 : Cond.instantiable R_REP 6 ∈ GW := List.mem_filter.mpr ⟨List.mem_of_getElem? (i := 357) (by decide +kernel), by decide +kernel⟩
theorem tw_448 : Cond.code y_REP_init b_REP_init 2 none ∈ GW := List.mem_filter.mpr ⟨List.mem_of_getElem? (i := 360) (by decide +kernel), by decide +kernel⟩
theorem tw_449 : Cond.instanceMethod y_REP_init ∈ GW := List.mem_filter.mpr ⟨List.mem_of_getElem? (i := 359) (by decide +kernel), by decide +kernel⟩
theorem tw_450 : Cond.methodLink R_RDR 79 y_REP_init ∈ GW := List.mem_filter.mpr ⟨List.mem_of_getElem? (i := 358) (by decide +kernel), by decide +kernel⟩
theorem tw_451 : Cond.methodLink R_PN 1 Lib.objectInit ∈ GW := List.mem_filter.mpr ⟨List.mem_of_getElem? (i := 107) (by decide +kernel), by decide +kernel⟩
theorem tw_452 : Cond.classLink R_PN 7 R_PAT ∈ GW := List.mem_filter.mpr ⟨List.mem_of_getElem? (i := 110) (by decide +kernel), by decide +kernel⟩
theorem tw_453 : Cond.instantiable R_PAT 2 ∈ GW := List.mem_filter.mpr ⟨List.mem_of_getElem? (i := 111) (by decide +kernel), by decide +kernel⟩
theorem tw_454 : Cond.code y_PAT_init b_PAT_init 1 none ∈ GW := List.mem_filter.mpr ⟨List.mem_of_getElem? (i := 114) (by decide +kernel), by decide +kernel⟩
theorem tw_455 : Cond.instanceMethod y_PAT_init ∈ GW := List.mem_filter.mpr ⟨List.mem_of_getElem? (i := 113) (by decide +kernel), by decide +kernel⟩
theorem tn_456 : Cond.methodLinkNest R_PN 9 y_PAT_init "PatternNodes" ∈ NW := List.mem_filter.mpr ⟨List.mem_of_getElem? (i := 112) (by decide +kernel), by decide +kernel⟩
theorem tw_457 : Cond.classLink R_PN 16 R_MIS ∈ GW := List.mem_filter.mpr ⟨List.mem_of_getElem? (i := 127) (by decide +kernel), by decide +kernel⟩
theorem tw_458 : Cond.instantiable R_MIS 2 ∈ GW := List.mem_filter.mpr ⟨List.mem_of_getElem? (i := 128) (by decide +kernel), by decide +kernel⟩
theorem tw_459 : Cond.code y_MIS_init b_MIS_init 1 none ∈ GW := List.mem_filter.mpr ⟨List.mem_of_getElem? (i := 131) (by decide +kernel), by decide +kernel⟩
theorem tw_460 : Cond.instanceMethod y_MIS_init ∈ GW := List.mem_filter.mpr ⟨List.mem_of_getElem? (i := 130) (by decide +kernel), by decide +kernel⟩
theorem tn_461 : Cond.methodLinkNest R_PN 18 y_MIS_init "PatternNodes" ∈ NW := List.mem_filter.mpr ⟨List.mem_of_getElem? (i := 129) (by decide +kernel), by decide +kernel⟩
theorem tw_462 : Cond.classLink R_PN 23 R_TRE ∈ GW := List.mem_filter.mpr ⟨List.mem_of_getElem? (i := 143) (by decide +kernel), by decide +kernel⟩
theorem tw_463 : Cond.instantiable R_TRE 13 ∈ GW := List.mem_filter.mpr ⟨List.mem_of_getElem? (i := 144) (by decide +kernel), by decide +kernel⟩
theorem tw_464 : Cond.code y_TRE_init b_TRE_init 1 none ∈ GW := List.mem_filter.mpr ⟨List.mem_of_getElem? (i := 147) (by decide +kernel), by decide +kernel⟩
theorem tw_465 : Cond.instanceMethod y_TRE_init ∈ GW := List.mem_filter.mpr ⟨List.mem_of_getElem? (i := 146) (by decide +kernel), by decide +kernel⟩
theorem tn_466 : Cond.methodLinkNest R_PN 25 y_TRE_init "PatternNodes" ∈ NW := List.mem_filter.mpr ⟨List.mem_of_getElem? (i := 145) (by decide +kernel), by decide +kernel⟩
theorem tw_467 : Cond.classLink R_PN 30 R_GRP ∈ GW := List.mem_filter.mpr ⟨List.mem_of_getElem? (i := 190) (by decide +kernel), by decide +kernel⟩
theorem tw_468 : Cond.instantiable R_GRP 3 ∈ GW := List.mem_filter.mpr ⟨List.mem_of_getElem? (i := 191) (by decide +kernel), by decide +kernel⟩
theorem tw_469 : Cond.code y_GRP_init b_GRP_init 1 none ∈ GW := List.mem_filter.mpr ⟨List.mem_of_getElem? (i := 194) (by decide +kernel), by decide +kernel⟩
theorem tw_470 : Cond.instanceMethod y_GRP_init ∈ GW := List.mem_filter.mpr ⟨List.mem_of_getElem? (i := 193) (by decide +kernel), by decide +kernel⟩
theorem tn_471 : Cond.methodLinkNest R_PN 32 y_GRP_init "PatternNodes" ∈ NW := List.mem_filter.mpr ⟨List.mem_of_getElem? (i := 192) (by decide +kernel), by decide +kernel⟩
theorem tw_472 : Cond.classLink R_PN 37 R_RDR ∈ GW := List.mem_filter.mpr ⟨List.mem_of_getElem? (i := 207) (by decide +kernel), by decide +kernel⟩
theorem tw_473 : Cond.instantiable R_RDR 13 ∈ GW := List.mem_filter.mpr ⟨List.mem_of_getElem? (i := 208) (by decide +kernel), by decide +kernel⟩
theorem tw_474 : Cond.code y_RDR_init b_RDR_init 5 none ∈ GW := List.mem_filter.mpr ⟨List.mem_of_getElem? (i := 211) (by decide +kernel), by decide +kernel⟩
theorem tw_475 : Cond.instanceMethod y_RDR_init ∈ GW := List.mem_filter.mpr ⟨List.mem_of_getElem? (i := 210) (by decide +kernel), by decide +kernel⟩
theorem tw_476 : Cond.methodLink R_PN 39 y_RDR_init ∈ GW := List.mem_filter.mpr ⟨List.mem_of_getElem? (i := 209) (by decide +kernel), by decide +kernel⟩
theorem tw_477 : Cond.fieldLink R_PN 42 "PatternNodes" "reader" "LPatternNodes$TreeReader;" ∈ GW := List.mem_filter.mpr ⟨List.mem_of_getElem? (i := 429) (by decide +kernel), by decide +kernel⟩
