/-! every word of the tables, by its place -/
set_option maxRecDepth 100000 in
theorem m_good : ∀ w ∈ lw_tbl, goodWord w = true := by
  have h : lw_tbl.all goodWord = true := by decide +kernel
  exact fun w hw => List.all_eq_true.mp h w hw
theorem m_0 : Cond.selects RX9 yX9_fail yX9_fail ∈ lw_tbl := List.mem_of_getElem? (i := 0) (by decide +kernel)
theorem m_1 : Cond.selects RX1 yX1_measure yX1_measure ∈ lw_tbl := List.mem_of_getElem? (i := 1) (by decide +kernel)
theorem m_2 : Cond.selects RX1 yX1_link yX1_link ∈ lw_tbl := List.mem_of_getElem? (i := 2) (by decide +kernel)
theorem m_3 : Cond.selects RX1 yX1_shortenBy yX1_shortenBy ∈ lw_tbl := List.mem_of_getElem? (i := 3) (by decide +kernel)
theorem m_4 : Cond.selects RX3 yX3_readsLevel yX3_readsLevel ∈ lw_tbl := List.mem_of_getElem? (i := 4) (by decide +kernel)
theorem m_5 : Cond.selects RX3 yX3_readsUnit yX3_readsUnit ∈ lw_tbl := List.mem_of_getElem? (i := 5) (by decide +kernel)
theorem m_6 : Cond.selects RX3 yX3_readNumber yX3_readNumber ∈ lw_tbl := List.mem_of_getElem? (i := 6) (by decide +kernel)
theorem m_7 : Cond.selects RX3 yX3_readsDenied yX3_readsDenied ∈ lw_tbl := List.mem_of_getElem? (i := 7) (by decide +kernel)
theorem m_8 : Cond.selects RX3 yX3_readsClosed yX3_readsClosed ∈ lw_tbl := List.mem_of_getElem? (i := 8) (by decide +kernel)
theorem m_9 : Cond.selects RX8 yX8_passYear yX8_passYear ∈ lw_tbl := List.mem_of_getElem? (i := 9) (by decide +kernel)
theorem m_10 : Cond.selects RX8 yX8_draw yX8_draw ∈ lw_tbl := List.mem_of_getElem? (i := 10) (by decide +kernel)
theorem m_11 : Cond.selects RX1 yX1_byMarriage yX1_byMarriage ∈ lw_tbl := List.mem_of_getElem? (i := 11) (by decide +kernel)
theorem m_12 : Cond.selects RX8 yX8_wouldLet yX8_wouldLet ∈ lw_tbl := List.mem_of_getElem? (i := 12) (by decide +kernel)
theorem m_13 : Cond.selects RX7 yX7_spoken yX7_spoken ∈ lw_tbl := List.mem_of_getElem? (i := 13) (by decide +kernel)
theorem m_14 : Cond.selects RX7 yX7_worked yX7_worked ∈ lw_tbl := List.mem_of_getElem? (i := 14) (by decide +kernel)
theorem m_15 : Cond.selects RX7 yX7_own yX7_own ∈ lw_tbl := List.mem_of_getElem? (i := 15) (by decide +kernel)
theorem m_16 : Cond.selects RX7 yX7_partsBy yX7_partsBy ∈ lw_tbl := List.mem_of_getElem? (i := 16) (by decide +kernel)
theorem m_17 : Cond.selects RX7 yX7_heiressParts yX7_heiressParts ∈ lw_tbl := List.mem_of_getElem? (i := 17) (by decide +kernel)
theorem m_18 : Cond.selects RX10 yX10_error yX10_error ∈ lw_tbl := List.mem_of_getElem? (i := 18) (by decide +kernel)
theorem m_19 : Cond.selects RX10 yX10_puts yX10_puts ∈ lw_tbl := List.mem_of_getElem? (i := 19) (by decide +kernel)
theorem m_20 : Cond.selects RX10 yX10_isPerson yX10_isPerson ∈ lw_tbl := List.mem_of_getElem? (i := 20) (by decide +kernel)
theorem m_21 : Cond.selects RX10 yX10_of yX10_of ∈ lw_tbl := List.mem_of_getElem? (i := 21) (by decide +kernel)
theorem m_22 : Cond.selects RX10 yX10_sight yX10_sight ∈ lw_tbl := List.mem_of_getElem? (i := 22) (by decide +kernel)
theorem m_23 : Cond.selects RX10 yX10_eyes yX10_eyes ∈ lw_tbl := List.mem_of_getElem? (i := 23) (by decide +kernel)
theorem m_24 : Cond.selects RX10 yX10_relatives yX10_relatives ∈ lw_tbl := List.mem_of_getElem? (i := 24) (by decide +kernel)
theorem m_25 : Cond.selects RX10 yX10_besides yX10_besides ∈ lw_tbl := List.mem_of_getElem? (i := 25) (by decide +kernel)
theorem m_26 : Cond.selects RX10 yX10_isKin yX10_isKin ∈ lw_tbl := List.mem_of_getElem? (i := 26) (by decide +kernel)
theorem m_27 : Cond.selects RX10 yX10_gives yX10_gives ∈ lw_tbl := List.mem_of_getElem? (i := 27) (by decide +kernel)
theorem m_28 : Cond.selects RX10 yX10_works yX10_works ∈ lw_tbl := List.mem_of_getElem? (i := 28) (by decide +kernel)
theorem m_29 : Cond.selects RX10 yX10_becomes yX10_becomes ∈ lw_tbl := List.mem_of_getElem? (i := 29) (by decide +kernel)
theorem m_30 : Cond.selects RX10 yX10_weds yX10_weds ∈ lw_tbl := List.mem_of_getElem? (i := 30) (by decide +kernel)
theorem m_31 : Cond.selects RX10 yX10_stepsBy yX10_stepsBy ∈ lw_tbl := List.mem_of_getElem? (i := 31) (by decide +kernel)
theorem m_32 : Cond.selects RX10 yX10_veils yX10_veils ∈ lw_tbl := List.mem_of_getElem? (i := 32) (by decide +kernel)
theorem m_33 : Cond.selects RX10 yX10_letsBy yX10_letsBy ∈ lw_tbl := List.mem_of_getElem? (i := 33) (by decide +kernel)
theorem m_34 : Cond.selects RX10 yX10_any yX10_any ∈ lw_tbl := List.mem_of_getElem? (i := 34) (by decide +kernel)
theorem m_35 : Cond.selects RX10 yX10_all yX10_all ∈ lw_tbl := List.mem_of_getElem? (i := 35) (by decide +kernel)
theorem m_36 : Cond.selects RX10 yX10_compares yX10_compares ∈ lw_tbl := List.mem_of_getElem? (i := 36) (by decide +kernel)
theorem m_37 : Cond.selects RX10 yX10_sum yX10_sum ∈ lw_tbl := List.mem_of_getElem? (i := 37) (by decide +kernel)
theorem m_38 : Cond.selects RX10 yX10_times yX10_times ∈ lw_tbl := List.mem_of_getElem? (i := 38) (by decide +kernel)
theorem m_39 : Cond.selects RX10 yX10_one yX10_one ∈ lw_tbl := List.mem_of_getElem? (i := 39) (by decide +kernel)
theorem m_40 : Cond.selects RX10 yX10_look yX10_look ∈ lw_tbl := List.mem_of_getElem? (i := 40) (by decide +kernel)
theorem m_41 : Cond.selects RX10 yX10_nameOf yX10_nameOf ∈ lw_tbl := List.mem_of_getElem? (i := 41) (by decide +kernel)
theorem m_42 : Cond.selects RX10 yX10_lays yX10_lays ∈ lw_tbl := List.mem_of_getElem? (i := 42) (by decide +kernel)
theorem m_43 : Cond.selects RX10 yX10_opens yX10_opens ∈ lw_tbl := List.mem_of_getElem? (i := 43) (by decide +kernel)
theorem m_44 : Cond.selects RX10 yX10_number yX10_number ∈ lw_tbl := List.mem_of_getElem? (i := 44) (by decide +kernel)
theorem m_45 : Cond.selects RX10 yX10_goesFor yX10_goesFor ∈ lw_tbl := List.mem_of_getElem? (i := 45) (by decide +kernel)
theorem m_46 : Cond.selects RX10 yX10_goes yX10_goes ∈ lw_tbl := List.mem_of_getElem? (i := 46) (by decide +kernel)
theorem m_47 : Cond.selects RX10 yX10_allSeen yX10_allSeen ∈ lw_tbl := List.mem_of_getElem? (i := 47) (by decide +kernel)
theorem m_48 : Cond.selects RX10 yX10_drawn yX10_drawn ∈ lw_tbl := List.mem_of_getElem? (i := 48) (by decide +kernel)
theorem m_49 : Cond.selects RX10 yX10_draw yX10_draw ∈ lw_tbl := List.mem_of_getElem? (i := 49) (by decide +kernel)
theorem m_50 : Cond.selects RX10 yX10_thinks yX10_thinks ∈ lw_tbl := List.mem_of_getElem? (i := 50) (by decide +kernel)
theorem m_51 : Cond.selects RX10 yX10_putsBack yX10_putsBack ∈ lw_tbl := List.mem_of_getElem? (i := 51) (by decide +kernel)
theorem m_52 : Cond.selects RX10 yX10_seersOf yX10_seersOf ∈ lw_tbl := List.mem_of_getElem? (i := 52) (by decide +kernel)
theorem m_53 : Cond.selects RX10 yX10_everybody yX10_everybody ∈ lw_tbl := List.mem_of_getElem? (i := 53) (by decide +kernel)
theorem m_54 : Cond.selects RX10 yX10_seenBy yX10_seenBy ∈ lw_tbl := List.mem_of_getElem? (i := 54) (by decide +kernel)
theorem m_55 : Cond.selects RX10 yX10_isSo yX10_isSo ∈ lw_tbl := List.mem_of_getElem? (i := 55) (by decide +kernel)
theorem m_56 : Cond.selects RX10 yX10_lowers yX10_lowers ∈ lw_tbl := List.mem_of_getElem? (i := 56) (by decide +kernel)
theorem m_57 : Cond.selects RX10 yX10_heiressLowers yX10_heiressLowers ∈ lw_tbl := List.mem_of_getElem? (i := 57) (by decide +kernel)
theorem m_58 : Cond.selects RX10 yX10_begins yX10_begins ∈ lw_tbl := List.mem_of_getElem? (i := 58) (by decide +kernel)
theorem m_59 : Cond.selects RX10 yX10_plainLowers yX10_plainLowers ∈ lw_tbl := List.mem_of_getElem? (i := 59) (by decide +kernel)
theorem m_60 : Cond.selects RX10 yX10_lifts yX10_lifts ∈ lw_tbl := List.mem_of_getElem? (i := 60) (by decide +kernel)
theorem m_61 : Cond.selects RX10 yX10_judgeLifts yX10_judgeLifts ∈ lw_tbl := List.mem_of_getElem? (i := 61) (by decide +kernel)
theorem m_62 : Cond.selects RX10 yX10_plainLifts yX10_plainLifts ∈ lw_tbl := List.mem_of_getElem? (i := 62) (by decide +kernel)
theorem m_63 : Cond.selects RX10 yX10_looksBy yX10_looksBy ∈ lw_tbl := List.mem_of_getElem? (i := 63) (by decide +kernel)
theorem m_64 : Cond.selects RX10 yX10_plainLooks yX10_plainLooks ∈ lw_tbl := List.mem_of_getElem? (i := 64) (by decide +kernel)
theorem m_65 : Cond.selects RX10 yX10_partsBy yX10_partsBy ∈ lw_tbl := List.mem_of_getElem? (i := 65) (by decide +kernel)
theorem m_66 : Cond.selects RX10 yX10_plainParts yX10_plainParts ∈ lw_tbl := List.mem_of_getElem? (i := 66) (by decide +kernel)
theorem m_67 : Cond.selects RX10 yX10_notThere yX10_notThere ∈ lw_tbl := List.mem_of_getElem? (i := 67) (by decide +kernel)
theorem m_68 : Cond.selects RX10 yX10_notMoved yX10_notMoved ∈ lw_tbl := List.mem_of_getElem? (i := 68) (by decide +kernel)
set_option maxRecDepth 100000 in
theorem m_69 : Cond.initialized RL ∈ lw_tbl := List.mem_of_getElem? (i := 69) (by decide +kernel)
set_option maxRecDepth 100000 in
theorem m_70 : Cond.initialized RX9 ∈ lw_tbl := List.mem_of_getElem? (i := 70) (by decide +kernel)
set_option maxRecDepth 100000 in
theorem m_71 : Cond.initialized RX8 ∈ lw_tbl := List.mem_of_getElem? (i := 71) (by decide +kernel)
set_option maxRecDepth 100000 in
theorem m_72 : Cond.initialized RX1 ∈ lw_tbl := List.mem_of_getElem? (i := 72) (by decide +kernel)
set_option maxRecDepth 100000 in
theorem m_73 : Cond.initialized RX0 ∈ lw_tbl := List.mem_of_getElem? (i := 73) (by decide +kernel)
set_option maxRecDepth 100000 in
theorem m_74 : Cond.initialized RX6 ∈ lw_tbl := List.mem_of_getElem? (i := 74) (by decide +kernel)
set_option maxRecDepth 100000 in
theorem m_75 : Cond.initialized RX4 ∈ lw_tbl := List.mem_of_getElem? (i := 75) (by decide +kernel)
set_option maxRecDepth 100000 in
theorem m_76 : Cond.initialized RJ9 ∈ lw_tbl := List.mem_of_getElem? (i := 76) (by decide +kernel)
set_option maxRecDepth 100000 in
theorem m_77 : Cond.initialized RX3 ∈ lw_tbl := List.mem_of_getElem? (i := 77) (by decide +kernel)
set_option maxRecDepth 100000 in
theorem m_78 : Cond.initialized RX7 ∈ lw_tbl := List.mem_of_getElem? (i := 78) (by decide +kernel)
set_option maxRecDepth 100000 in
theorem m_79 : Cond.initialized RX5 ∈ lw_tbl := List.mem_of_getElem? (i := 79) (by decide +kernel)
set_option maxRecDepth 100000 in
theorem m_80 : Cond.initialized RX10 ∈ lw_tbl := List.mem_of_getElem? (i := 80) (by decide +kernel)
set_option maxRecDepth 100000 in
theorem m_81 : Cond.initialized RX2 ∈ lw_tbl := List.mem_of_getElem? (i := 81) (by decide +kernel)
set_option maxRecDepth 100000 in
theorem m_82 : Cond.initialized RJ0 ∈ lw_tbl := List.mem_of_getElem? (i := 82) (by decide +kernel)
set_option maxRecDepth 100000 in
theorem m_83 : Cond.initialized RJ1 ∈ lw_tbl := List.mem_of_getElem? (i := 83) (by decide +kernel)
set_option maxRecDepth 100000 in
theorem m_84 : Cond.initialized RJ2 ∈ lw_tbl := List.mem_of_getElem? (i := 84) (by decide +kernel)
set_option maxRecDepth 100000 in
theorem m_85 : Cond.initialized RJ3 ∈ lw_tbl := List.mem_of_getElem? (i := 85) (by decide +kernel)
set_option maxRecDepth 100000 in
theorem m_86 : Cond.initialized RJ11 ∈ lw_tbl := List.mem_of_getElem? (i := 86) (by decide +kernel)
set_option maxRecDepth 100000 in
theorem m_87 : Cond.initialized RJ10 ∈ lw_tbl := List.mem_of_getElem? (i := 87) (by decide +kernel)
set_option maxRecDepth 100000 in
theorem m_88 : Cond.initialized RJ6 ∈ lw_tbl := List.mem_of_getElem? (i := 88) (by decide +kernel)
set_option maxRecDepth 100000 in
theorem m_89 : Cond.classLink RL 7 "VeilSteps" ∈ lw_tbl := List.mem_of_getElem? (i := 89) (by decide +kernel)
set_option maxRecDepth 100000 in
theorem m_90 : Cond.instantiable RX9 8 ∈ lw_tbl := List.mem_of_getElem? (i := 90) (by decide +kernel)
set_option maxRecDepth 100000 in
theorem m_91 : Cond.methodLink RL 9 yX9_init ∈ lw_tbl := List.mem_of_getElem? (i := 91) (by decide +kernel)
set_option maxRecDepth 100000 in
theorem m_92 : Cond.instanceMethod yX9_init ∈ lw_tbl := List.mem_of_getElem? (i := 92) (by decide +kernel)
set_option maxRecDepth 100000 in
theorem m_93 : Cond.code yX9_init cX9_init 2 none ∈ lw_tbl := List.mem_of_getElem? (i := 93) (by rfl)
set_option maxRecDepth 100000 in
theorem m_94 : Cond.methodLink RX9 1 objectInit ∈ lw_tbl := List.mem_of_getElem? (i := 94) (by decide +kernel)
set_option maxRecDepth 100000 in
theorem m_95 : Cond.instanceMethod objectInit ∈ lw_tbl := List.mem_of_getElem? (i := 95) (by decide +kernel)
set_option maxRecDepth 100000 in
theorem m_96 : Cond.code objectInit object_method_1_code 1 none ∈ lw_tbl := List.mem_of_getElem? (i := 96) (by rfl)
set_option maxRecDepth 100000 in
theorem m_97 : Cond.classLink RX9 7 "VeilSteps$World" ∈ lw_tbl := List.mem_of_getElem? (i := 97) (by decide +kernel)
set_option maxRecDepth 100000 in
theorem m_98 : Cond.instantiable RX8 8 ∈ lw_tbl := List.mem_of_getElem? (i := 98) (by decide +kernel)
set_option maxRecDepth 100000 in
theorem m_99 : Cond.methodLink RX9 9 yX8_init ∈ lw_tbl := List.mem_of_getElem? (i := 99) (by decide +kernel)
set_option maxRecDepth 100000 in
theorem m_100 : Cond.instanceMethod yX8_init ∈ lw_tbl := List.mem_of_getElem? (i := 100) (by decide +kernel)
set_option maxRecDepth 100000 in
theorem m_101 : Cond.code yX8_init cX8_init 2 none ∈ lw_tbl := List.mem_of_getElem? (i := 101) (by rfl)
set_option maxRecDepth 100000 in
theorem m_102 : Cond.methodLink RX8 3 objectInit ∈ lw_tbl := List.mem_of_getElem? (i := 102) (by decide +kernel)
set_option maxRecDepth 100000 in
theorem m_103 : Cond.classLink RX8 9 "VeilSteps$Kin" ∈ lw_tbl := List.mem_of_getElem? (i := 103) (by decide +kernel)
set_option maxRecDepth 100000 in
theorem m_104 : Cond.instantiable RX1 6 ∈ lw_tbl := List.mem_of_getElem? (i := 104) (by decide +kernel)
set_option maxRecDepth 100000 in
theorem m_105 : Cond.methodLink RX8 11 yX1_init ∈ lw_tbl := List.mem_of_getElem? (i := 105) (by decide +kernel)
set_option maxRecDepth 100000 in
theorem m_106 : Cond.instanceMethod yX1_init ∈ lw_tbl := List.mem_of_getElem? (i := 106) (by decide +kernel)
set_option maxRecDepth 100000 in
theorem m_107 : Cond.code yX1_init cX1_init 1 none ∈ lw_tbl := List.mem_of_getElem? (i := 107) (by rfl)
set_option maxRecDepth 100000 in
theorem m_108 : Cond.methodLink RX1 3 objectInit ∈ lw_tbl := List.mem_of_getElem? (i := 108) (by decide +kernel)
set_option maxRecDepth 100000 in
theorem m_109 : Cond.fieldLink RX1 9 "VeilSteps$Kin" "count" "I" ∈ lw_tbl := List.mem_of_getElem? (i := 109) (by decide +kernel)
set_option maxRecDepth 100000 in
theorem m_110 : Cond.fieldLinkNest RX9 69 "VeilSteps$Kin" "count" "I" "VeilSteps" ∈ lw_tbl := List.mem_of_getElem? (i := 110) (by decide +kernel)
set_option maxRecDepth 100000 in
theorem m_111 : Cond.fieldLinkNest RX8 136 "VeilSteps$Kin" "count" "I" "VeilSteps" ∈ lw_tbl := List.mem_of_getElem? (i := 111) (by decide +kernel)
set_option maxRecDepth 100000 in
theorem m_112 : Cond.fieldLink RX1 15 "VeilSteps$Kin" "kind" "[I" ∈ lw_tbl := List.mem_of_getElem? (i := 112) (by decide +kernel)
set_option maxRecDepth 100000 in
theorem m_113 : Cond.fieldLinkNest RX8 75 "VeilSteps$Kin" "kind" "[I" "VeilSteps" ∈ lw_tbl := List.mem_of_getElem? (i := 113) (by decide +kernel)
set_option maxRecDepth 100000 in
theorem m_114 : Cond.fieldLinkNest RX9 85 "VeilSteps$Kin" "kind" "[I" "VeilSteps" ∈ lw_tbl := List.mem_of_getElem? (i := 114) (by decide +kernel)
set_option maxRecDepth 100000 in
theorem m_115 : Cond.fieldLink RX1 19 "VeilSteps$Kin" "m" "[I" ∈ lw_tbl := List.mem_of_getElem? (i := 115) (by decide +kernel)
set_option maxRecDepth 100000 in
theorem m_116 : Cond.fieldLinkNest RX8 78 "VeilSteps$Kin" "m" "[I" "VeilSteps" ∈ lw_tbl := List.mem_of_getElem? (i := 116) (by decide +kernel)
set_option maxRecDepth 100000 in
theorem m_117 : Cond.fieldLinkNest RX9 88 "VeilSteps$Kin" "m" "[I" "VeilSteps" ∈ lw_tbl := List.mem_of_getElem? (i := 117) (by decide +kernel)
set_option maxRecDepth 100000 in
theorem m_118 : Cond.fieldLink RX1 22 "VeilSteps$Kin" "parent" "[I" ∈ lw_tbl := List.mem_of_getElem? (i := 118) (by decide +kernel)
set_option maxRecDepth 100000 in
theorem m_119 : Cond.fieldLinkNest RX9 91 "VeilSteps$Kin" "parent" "[I" "VeilSteps" ∈ lw_tbl := List.mem_of_getElem? (i := 119) (by decide +kernel)
set_option maxRecDepth 100000 in
theorem m_120 : Cond.fieldLinkNest RX8 139 "VeilSteps$Kin" "parent" "[I" "VeilSteps" ∈ lw_tbl := List.mem_of_getElem? (i := 120) (by decide +kernel)
set_option maxRecDepth 100000 in
theorem m_121 : Cond.fieldLink RX1 25 "VeilSteps$Kin" "spouse" "[I" ∈ lw_tbl := List.mem_of_getElem? (i := 121) (by decide +kernel)
set_option maxRecDepth 100000 in
theorem m_122 : Cond.fieldLinkNest RX9 94 "VeilSteps$Kin" "spouse" "[I" "VeilSteps" ∈ lw_tbl := List.mem_of_getElem? (i := 122) (by decide +kernel)
set_option maxRecDepth 100000 in
theorem m_123 : Cond.fieldLink RX1 28 "VeilSteps$Kin" "measured" "[I" ∈ lw_tbl := List.mem_of_getElem? (i := 123) (by decide +kernel)
set_option maxRecDepth 100000 in
theorem m_124 : Cond.lays RX1 "VeilSteps$Kin" "count" "I" ∈ lw_tbl := List.mem_of_getElem? (i := 124) (by decide +kernel)
set_option maxRecDepth 100000 in
theorem m_126 : Cond.laysFinal RX1 "VeilSteps$Kin" "kind" "[I" ∈ lw_tbl := List.mem_of_getElem? (i := 126) (by decide +kernel)
set_option maxRecDepth 100000 in
theorem m_128 : Cond.laysFinal RX1 "VeilSteps$Kin" "m" "[I" ∈ lw_tbl := List.mem_of_getElem? (i := 128) (by decide +kernel)
set_option maxRecDepth 100000 in
theorem m_130 : Cond.laysFinal RX1 "VeilSteps$Kin" "parent" "[I" ∈ lw_tbl := List.mem_of_getElem? (i := 130) (by decide +kernel)
set_option maxRecDepth 100000 in
theorem m_132 : Cond.laysFinal RX1 "VeilSteps$Kin" "spouse" "[I" ∈ lw_tbl := List.mem_of_getElem? (i := 132) (by decide +kernel)
set_option maxRecDepth 100000 in
theorem m_134 : Cond.laysFinal RX1 "VeilSteps$Kin" "measured" "[I" ∈ lw_tbl := List.mem_of_getElem? (i := 134) (by decide +kernel)
set_option maxRecDepth 100000 in
theorem m_137 : Cond.arrayClass FieldType.int ∈ lw_tbl := List.mem_of_getElem? (i := 137) (by decide +kernel)
set_option maxRecDepth 100000 in
theorem m_138 : Cond.classLink RX8 18 "VeilSteps$Course" ∈ lw_tbl := List.mem_of_getElem? (i := 138) (by decide +kernel)
set_option maxRecDepth 100000 in
theorem m_139 : Cond.instantiable RX0 4 ∈ lw_tbl := List.mem_of_getElem? (i := 139) (by decide +kernel)
set_option maxRecDepth 100000 in
theorem m_140 : Cond.methodLink RX8 20 yX0_init ∈ lw_tbl := List.mem_of_getElem? (i := 140) (by decide +kernel)
set_option maxRecDepth 100000 in
theorem m_141 : Cond.instanceMethod yX0_init ∈ lw_tbl := List.mem_of_getElem? (i := 141) (by decide +kernel)
set_option maxRecDepth 100000 in
theorem m_142 : Cond.code yX0_init cX0_init 1 none ∈ lw_tbl := List.mem_of_getElem? (i := 142) (by rfl)
set_option maxRecDepth 100000 in
theorem m_143 : Cond.methodLink RX0 3 objectInit ∈ lw_tbl := List.mem_of_getElem? (i := 143) (by decide +kernel)
set_option maxRecDepth 100000 in
theorem m_144 : Cond.fieldLink RX0 9 "VeilSteps$Course" "year" "I" ∈ lw_tbl := List.mem_of_getElem? (i := 144) (by decide +kernel)
set_option maxRecDepth 100000 in
theorem m_145 : Cond.fieldLinkNest RX8 86 "VeilSteps$Course" "year" "I" "VeilSteps" ∈ lw_tbl := List.mem_of_getElem? (i := 145) (by decide +kernel)
set_option maxRecDepth 100000 in
theorem m_146 : Cond.fieldLinkNest RX9 197 "VeilSteps$Course" "year" "I" "VeilSteps" ∈ lw_tbl := List.mem_of_getElem? (i := 146) (by decide +kernel)
set_option maxRecDepth 100000 in
theorem m_147 : Cond.fieldLink RX0 15 "VeilSteps$Course" "cloth" "I" ∈ lw_tbl := List.mem_of_getElem? (i := 147) (by decide +kernel)
set_option maxRecDepth 100000 in
theorem m_148 : Cond.fieldLinkNest RX8 100 "VeilSteps$Course" "cloth" "I" "VeilSteps" ∈ lw_tbl := List.mem_of_getElem? (i := 148) (by decide +kernel)
set_option maxRecDepth 100000 in
theorem m_149 : Cond.fieldLinkNest RX9 149 "VeilSteps$Course" "cloth" "I" "VeilSteps" ∈ lw_tbl := List.mem_of_getElem? (i := 149) (by decide +kernel)
set_option maxRecDepth 100000 in
theorem m_150 : Cond.fieldLink RX0 18 "VeilSteps$Course" "order" "I" ∈ lw_tbl := List.mem_of_getElem? (i := 150) (by decide +kernel)
set_option maxRecDepth 100000 in
theorem m_151 : Cond.fieldLinkNest RX8 125 "VeilSteps$Course" "order" "I" "VeilSteps" ∈ lw_tbl := List.mem_of_getElem? (i := 151) (by decide +kernel)
set_option maxRecDepth 100000 in
theorem m_152 : Cond.fieldLinkNest RX9 152 "VeilSteps$Course" "order" "I" "VeilSteps" ∈ lw_tbl := List.mem_of_getElem? (i := 152) (by decide +kernel)
set_option maxRecDepth 100000 in
theorem m_153 : Cond.fieldLink RX0 21 "VeilSteps$Course" "seen" "[I" ∈ lw_tbl := List.mem_of_getElem? (i := 153) (by decide +kernel)
set_option maxRecDepth 100000 in
theorem m_154 : Cond.fieldLinkNest RX9 100 "VeilSteps$Course" "seen" "[I" "VeilSteps" ∈ lw_tbl := List.mem_of_getElem? (i := 154) (by decide +kernel)
set_option maxRecDepth 100000 in
theorem m_155 : Cond.fieldLinkNest RX8 122 "VeilSteps$Course" "seen" "[I" "VeilSteps" ∈ lw_tbl := List.mem_of_getElem? (i := 155) (by decide +kernel)
set_option maxRecDepth 100000 in
theorem m_156 : Cond.lays RX0 "VeilSteps$Course" "year" "I" ∈ lw_tbl := List.mem_of_getElem? (i := 156) (by decide +kernel)
set_option maxRecDepth 100000 in
theorem m_158 : Cond.lays RX0 "VeilSteps$Course" "cloth" "I" ∈ lw_tbl := List.mem_of_getElem? (i := 158) (by decide +kernel)
set_option maxRecDepth 100000 in
theorem m_160 : Cond.lays RX0 "VeilSteps$Course" "order" "I" ∈ lw_tbl := List.mem_of_getElem? (i := 160) (by decide +kernel)
set_option maxRecDepth 100000 in
theorem m_162 : Cond.laysFinal RX0 "VeilSteps$Course" "seen" "[I" ∈ lw_tbl := List.mem_of_getElem? (i := 162) (by decide +kernel)
set_option maxRecDepth 100000 in
theorem m_165 : Cond.classLink RX8 32 "VeilSteps$Text" ∈ lw_tbl := List.mem_of_getElem? (i := 165) (by decide +kernel)
set_option maxRecDepth 100000 in
theorem m_166 : Cond.arrayOver (FieldType.object "VeilSteps$Text") ∈ lw_tbl := List.mem_of_getElem? (i := 166) (by decide +kernel)
set_option maxRecDepth 100000 in
theorem m_167 : Cond.instantiable RX6 2 ∈ lw_tbl := List.mem_of_getElem? (i := 167) (by decide +kernel)
set_option maxRecDepth 100000 in
theorem m_168 : Cond.methodLink RX8 38 yX6_init ∈ lw_tbl := List.mem_of_getElem? (i := 168) (by decide +kernel)
set_option maxRecDepth 100000 in
theorem m_169 : Cond.instanceMethod yX6_init ∈ lw_tbl := List.mem_of_getElem? (i := 169) (by decide +kernel)
set_option maxRecDepth 100000 in
theorem m_170 : Cond.code yX6_init cX6_init 1 none ∈ lw_tbl := List.mem_of_getElem? (i := 170) (by rfl)
set_option maxRecDepth 100000 in
theorem m_171 : Cond.methodLink RX6 3 objectInit ∈ lw_tbl := List.mem_of_getElem? (i := 171) (by decide +kernel)
set_option maxRecDepth 100000 in
theorem m_172 : Cond.classLink RX6 9 "VeilSteps$Row" ∈ lw_tbl := List.mem_of_getElem? (i := 172) (by decide +kernel)
set_option maxRecDepth 100000 in
theorem m_173 : Cond.instantiable RX4 2 ∈ lw_tbl := List.mem_of_getElem? (i := 173) (by decide +kernel)
set_option maxRecDepth 100000 in
theorem m_174 : Cond.methodLink RX6 11 yX4_init ∈ lw_tbl := List.mem_of_getElem? (i := 174) (by decide +kernel)
set_option maxRecDepth 100000 in
theorem m_175 : Cond.instanceMethod yX4_init ∈ lw_tbl := List.mem_of_getElem? (i := 175) (by decide +kernel)
set_option maxRecDepth 100000 in
theorem m_176 : Cond.code yX4_init cX4_init 2 none ∈ lw_tbl := List.mem_of_getElem? (i := 176) (by rfl)
set_option maxRecDepth 100000 in
theorem m_177 : Cond.methodLink RX4 1 objectInit ∈ lw_tbl := List.mem_of_getElem? (i := 177) (by decide +kernel)
set_option maxRecDepth 100000 in
theorem m_178 : Cond.methodLink RX4 7 Lib.Math.max.name ∈ lw_tbl := List.mem_of_getElem? (i := 178) (by decide +kernel)
set_option maxRecDepth 100000 in
theorem m_179 : Cond.static Lib.Math.max.name ∈ lw_tbl := List.mem_of_getElem? (i := 179) (by decide +kernel)
set_option maxRecDepth 100000 in
theorem m_180 : Cond.code Lib.Math.max.name cJ9_max_7cf53 2 (some FieldType.int) ∈ lw_tbl := List.mem_of_getElem? (i := 180) (by rfl)
set_option maxRecDepth 100000 in
theorem m_181 : Cond.fieldLink RX4 13 "VeilSteps$Row" "numbers" "[I" ∈ lw_tbl := List.mem_of_getElem? (i := 181) (by decide +kernel)
set_option maxRecDepth 100000 in
theorem m_182 : Cond.fieldLink RX4 19 "VeilSteps$Row" "length" "I" ∈ lw_tbl := List.mem_of_getElem? (i := 182) (by decide +kernel)
set_option maxRecDepth 100000 in
theorem m_183 : Cond.laysFinal RX4 "VeilSteps$Row" "numbers" "[I" ∈ lw_tbl := List.mem_of_getElem? (i := 183) (by decide +kernel)
set_option maxRecDepth 100000 in
theorem m_185 : Cond.lays RX4 "VeilSteps$Row" "length" "I" ∈ lw_tbl := List.mem_of_getElem? (i := 185) (by decide +kernel)
set_option maxRecDepth 100000 in
theorem m_188 : Cond.fieldLink RX6 14 "VeilSteps$Text" "code" "LVeilSteps$Row;" ∈ lw_tbl := List.mem_of_getElem? (i := 188) (by decide +kernel)
set_option maxRecDepth 100000 in
theorem m_189 : Cond.fieldLinkNest RX8 169 "VeilSteps$Text" "code" "LVeilSteps$Row;" "VeilSteps" ∈ lw_tbl := List.mem_of_getElem? (i := 189) (by decide +kernel)
set_option maxRecDepth 100000 in
theorem m_190 : Cond.fieldLinkNest RX9 180 "VeilSteps$Text" "code" "LVeilSteps$Row;" "VeilSteps" ∈ lw_tbl := List.mem_of_getElem? (i := 190) (by decide +kernel)
set_option maxRecDepth 100000 in
theorem m_191 : Cond.fieldLink RX6 20 "VeilSteps$Text" "pile" "[I" ∈ lw_tbl := List.mem_of_getElem? (i := 191) (by decide +kernel)
set_option maxRecDepth 100000 in
theorem m_192 : Cond.laysFinal RX6 "VeilSteps$Text" "code" "LVeilSteps$Row;" ∈ lw_tbl := List.mem_of_getElem? (i := 192) (by decide +kernel)
set_option maxRecDepth 100000 in
theorem m_194 : Cond.laysFinal RX6 "VeilSteps$Text" "pile" "[I" ∈ lw_tbl := List.mem_of_getElem? (i := 194) (by decide +kernel)
set_option maxRecDepth 100000 in
theorem m_197 : Cond.classLink RX8 39 "VeilSteps$Row" ∈ lw_tbl := List.mem_of_getElem? (i := 197) (by decide +kernel)
set_option maxRecDepth 100000 in
theorem m_198 : Cond.methodLink RX8 41 yX4_init ∈ lw_tbl := List.mem_of_getElem? (i := 198) (by decide +kernel)
set_option maxRecDepth 100000 in
theorem m_199 : Cond.fieldLink RX8 12 "VeilSteps$World" "kin" "LVeilSteps$Kin;" ∈ lw_tbl := List.mem_of_getElem? (i := 199) (by decide +kernel)
set_option maxRecDepth 100000 in
theorem m_200 : Cond.fieldLinkNest RX9 65 "VeilSteps$World" "kin" "LVeilSteps$Kin;" "VeilSteps" ∈ lw_tbl := List.mem_of_getElem? (i := 200) (by decide +kernel)
set_option maxRecDepth 100000 in
theorem m_201 : Cond.fieldLink RX8 21 "VeilSteps$World" "course" "LVeilSteps$Course;" ∈ lw_tbl := List.mem_of_getElem? (i := 201) (by decide +kernel)
set_option maxRecDepth 100000 in
theorem m_202 : Cond.fieldLinkNest RX9 97 "VeilSteps$World" "course" "LVeilSteps$Course;" "VeilSteps" ∈ lw_tbl := List.mem_of_getElem? (i := 202) (by decide +kernel)
set_option maxRecDepth 100000 in
theorem m_203 : Cond.fieldLink RX8 25 "VeilSteps$World" "looker" "[I" ∈ lw_tbl := List.mem_of_getElem? (i := 203) (by decide +kernel)
set_option maxRecDepth 100000 in
theorem m_204 : Cond.fieldLinkNest RX9 143 "VeilSteps$World" "looker" "[I" "VeilSteps" ∈ lw_tbl := List.mem_of_getElem? (i := 204) (by decide +kernel)
set_option maxRecDepth 100000 in
theorem m_205 : Cond.fieldLink RX8 29 "VeilSteps$World" "met" "[I" ∈ lw_tbl := List.mem_of_getElem? (i := 205) (by decide +kernel)
set_option maxRecDepth 100000 in
theorem m_206 : Cond.fieldLinkNest RX9 146 "VeilSteps$World" "met" "[I" "VeilSteps" ∈ lw_tbl := List.mem_of_getElem? (i := 206) (by decide +kernel)
set_option maxRecDepth 100000 in
theorem m_207 : Cond.fieldLink RX8 34 "VeilSteps$World" "texts" "[LVeilSteps$Text;" ∈ lw_tbl := List.mem_of_getElem? (i := 207) (by decide +kernel)
set_option maxRecDepth 100000 in
theorem m_208 : Cond.fieldLinkNest RX9 176 "VeilSteps$World" "texts" "[LVeilSteps$Text;" "VeilSteps" ∈ lw_tbl := List.mem_of_getElem? (i := 208) (by decide +kernel)
set_option maxRecDepth 100000 in
theorem m_209 : Cond.fieldLinkNest RX9 28 "VeilSteps$World" "tape" "LVeilSteps$Row;" "VeilSteps" ∈ lw_tbl := List.mem_of_getElem? (i := 209) (by decide +kernel)
set_option maxRecDepth 100000 in
theorem m_210 : Cond.fieldLink RX8 44 "VeilSteps$World" "tape" "LVeilSteps$Row;" ∈ lw_tbl := List.mem_of_getElem? (i := 210) (by decide +kernel)
set_option maxRecDepth 100000 in
theorem m_211 : Cond.fieldLink RX8 48 "VeilSteps$World" "waiting" "LVeilSteps$Row;" ∈ lw_tbl := List.mem_of_getElem? (i := 211) (by decide +kernel)
set_option maxRecDepth 100000 in
theorem m_212 : Cond.fieldLinkNest RX9 305 "VeilSteps$World" "waiting" "LVeilSteps$Row;" "VeilSteps" ∈ lw_tbl := List.mem_of_getElem? (i := 212) (by decide +kernel)
set_option maxRecDepth 100000 in
theorem m_213 : Cond.fieldLink RX8 51 "VeilSteps$World" "z" "I" ∈ lw_tbl := List.mem_of_getElem? (i := 213) (by decide +kernel)
set_option maxRecDepth 100000 in
theorem m_214 : Cond.fieldLinkNest RX9 210 "VeilSteps$World" "z" "I" "VeilSteps" ∈ lw_tbl := List.mem_of_getElem? (i := 214) (by decide +kernel)
set_option maxRecDepth 100000 in
theorem m_215 : Cond.laysFinal RX8 "VeilSteps$World" "kin" "LVeilSteps$Kin;" ∈ lw_tbl := List.mem_of_getElem? (i := 215) (by decide +kernel)
set_option maxRecDepth 100000 in
theorem m_217 : Cond.laysFinal RX8 "VeilSteps$World" "course" "LVeilSteps$Course;" ∈ lw_tbl := List.mem_of_getElem? (i := 217) (by decide +kernel)
set_option maxRecDepth 100000 in
theorem m_219 : Cond.laysFinal RX8 "VeilSteps$World" "looker" "[I" ∈ lw_tbl := List.mem_of_getElem? (i := 219) (by decide +kernel)
set_option maxRecDepth 100000 in
theorem m_221 : Cond.laysFinal RX8 "VeilSteps$World" "met" "[I" ∈ lw_tbl := List.mem_of_getElem? (i := 221) (by decide +kernel)
set_option maxRecDepth 100000 in
theorem m_223 : Cond.laysFinal RX8 "VeilSteps$World" "texts" "[LVeilSteps$Text;" ∈ lw_tbl := List.mem_of_getElem? (i := 223) (by decide +kernel)
set_option maxRecDepth 100000 in
theorem m_225 : Cond.laysFinal RX8 "VeilSteps$World" "tape" "LVeilSteps$Row;" ∈ lw_tbl := List.mem_of_getElem? (i := 225) (by decide +kernel)
set_option maxRecDepth 100000 in
theorem m_227 : Cond.laysFinal RX8 "VeilSteps$World" "waiting" "LVeilSteps$Row;" ∈ lw_tbl := List.mem_of_getElem? (i := 227) (by decide +kernel)
set_option maxRecDepth 100000 in
theorem m_229 : Cond.lays RX8 "VeilSteps$World" "z" "I" ∈ lw_tbl := List.mem_of_getElem? (i := 229) (by decide +kernel)
set_option maxRecDepth 100000 in
theorem m_232 : Cond.classLink RX9 19 "VeilSteps$Course" ∈ lw_tbl := List.mem_of_getElem? (i := 232) (by decide +kernel)
set_option maxRecDepth 100000 in
theorem m_233 : Cond.methodLink RX9 21 yX0_init ∈ lw_tbl := List.mem_of_getElem? (i := 233) (by decide +kernel)
set_option maxRecDepth 100000 in
theorem m_234 : Cond.classLink RX9 26 "VeilSteps$Reader" ∈ lw_tbl := List.mem_of_getElem? (i := 234) (by decide +kernel)
set_option maxRecDepth 100000 in
theorem m_235 : Cond.instantiable RX3 4 ∈ lw_tbl := List.mem_of_getElem? (i := 235) (by decide +kernel)
set_option maxRecDepth 100000 in
theorem m_236 : Cond.methodLink RX9 32 yX3_init ∈ lw_tbl := List.mem_of_getElem? (i := 236) (by decide +kernel)
set_option maxRecDepth 100000 in
theorem m_237 : Cond.instanceMethod yX3_init ∈ lw_tbl := List.mem_of_getElem? (i := 237) (by decide +kernel)
set_option maxRecDepth 100000 in
theorem m_238 : Cond.code yX3_init cX3_init 2 none ∈ lw_tbl := List.mem_of_getElem? (i := 238) (by rfl)
set_option maxRecDepth 100000 in
theorem m_239 : Cond.methodLink RX3 3 objectInit ∈ lw_tbl := List.mem_of_getElem? (i := 239) (by decide +kernel)
set_option maxRecDepth 100000 in
theorem m_240 : Cond.classLink RX3 15 "VeilSteps$Row" ∈ lw_tbl := List.mem_of_getElem? (i := 240) (by decide +kernel)
set_option maxRecDepth 100000 in
theorem m_241 : Cond.methodLink RX3 17 yX4_init ∈ lw_tbl := List.mem_of_getElem? (i := 241) (by decide +kernel)
set_option maxRecDepth 100000 in
theorem m_242 : Cond.stringRef RX3 23 "vsy" ∈ lw_tbl := List.mem_of_getElem? (i := 242) (by decide +kernel)
set_option maxRecDepth 100000 in
theorem m_243 : Cond.fieldLink RX3 9 "VeilSteps$Reader" "tape" "LVeilSteps$Row;" ∈ lw_tbl := List.mem_of_getElem? (i := 243) (by decide +kernel)
set_option maxRecDepth 100000 in
theorem m_244 : Cond.fieldLink RX3 20 "VeilSteps$Reader" "code" "LVeilSteps$Row;" ∈ lw_tbl := List.mem_of_getElem? (i := 244) (by decide +kernel)
set_option maxRecDepth 100000 in
theorem m_245 : Cond.fieldLinkNest RX9 185 "VeilSteps$Reader" "code" "LVeilSteps$Row;" "VeilSteps" ∈ lw_tbl := List.mem_of_getElem? (i := 245) (by decide +kernel)
set_option maxRecDepth 100000 in
theorem m_246 : Cond.fieldLink RX3 25 "VeilSteps$Reader" "names" "Ljava/lang/String;" ∈ lw_tbl := List.mem_of_getElem? (i := 246) (by decide +kernel)
set_option maxRecDepth 100000 in
theorem m_247 : Cond.fieldLink RX3 29 "VeilSteps$Reader" "at" "I" ∈ lw_tbl := List.mem_of_getElem? (i := 247) (by decide +kernel)
set_option maxRecDepth 100000 in
theorem m_248 : Cond.laysFinal RX3 "VeilSteps$Reader" "tape" "LVeilSteps$Row;" ∈ lw_tbl := List.mem_of_getElem? (i := 248) (by decide +kernel)
set_option maxRecDepth 100000 in
theorem m_250 : Cond.laysFinal RX3 "VeilSteps$Reader" "code" "LVeilSteps$Row;" ∈ lw_tbl := List.mem_of_getElem? (i := 250) (by decide +kernel)
set_option maxRecDepth 100000 in
theorem m_252 : Cond.lays RX3 "VeilSteps$Reader" "names" "Ljava/lang/String;" ∈ lw_tbl := List.mem_of_getElem? (i := 252) (by decide +kernel)
set_option maxRecDepth 100000 in
theorem m_254 : Cond.lays RX3 "VeilSteps$Reader" "at" "I" ∈ lw_tbl := List.mem_of_getElem? (i := 254) (by decide +kernel)
set_option maxRecDepth 100000 in
theorem m_257 : Cond.arrayClass FieldType.byte ∈ lw_tbl := List.mem_of_getElem? (i := 257) (by decide +kernel)
set_option maxRecDepth 100000 in
theorem m_258 : Cond.classLink RX9 39 "VeilSteps$Voices" ∈ lw_tbl := List.mem_of_getElem? (i := 258) (by decide +kernel)
set_option maxRecDepth 100000 in
theorem m_259 : Cond.instantiable RX7 5 ∈ lw_tbl := List.mem_of_getElem? (i := 259) (by decide +kernel)
set_option maxRecDepth 100000 in
theorem m_260 : Cond.methodLink RX9 41 yX7_init ∈ lw_tbl := List.mem_of_getElem? (i := 260) (by decide +kernel)
set_option maxRecDepth 100000 in
theorem m_261 : Cond.instanceMethod yX7_init ∈ lw_tbl := List.mem_of_getElem? (i := 261) (by decide +kernel)
set_option maxRecDepth 100000 in
theorem m_262 : Cond.code yX7_init cX7_init 1 none ∈ lw_tbl := List.mem_of_getElem? (i := 262) (by rfl)
set_option maxRecDepth 100000 in
theorem m_263 : Cond.methodLink RX7 1 objectInit ∈ lw_tbl := List.mem_of_getElem? (i := 263) (by decide +kernel)
set_option maxRecDepth 100000 in
theorem m_264 : Cond.classLink RX7 7 "VeilSteps$Row" ∈ lw_tbl := List.mem_of_getElem? (i := 264) (by decide +kernel)
set_option maxRecDepth 100000 in
theorem m_265 : Cond.methodLink RX7 11 yX4_init ∈ lw_tbl := List.mem_of_getElem? (i := 265) (by decide +kernel)
set_option maxRecDepth 100000 in
theorem m_266 : Cond.fieldLink RX7 14 "VeilSteps$Voices" "trace" "LVeilSteps$Row;" ∈ lw_tbl := List.mem_of_getElem? (i := 266) (by decide +kernel)
set_option maxRecDepth 100000 in
theorem m_267 : Cond.fieldLinkNest RX9 274 "VeilSteps$Voices" "trace" "LVeilSteps$Row;" "VeilSteps" ∈ lw_tbl := List.mem_of_getElem? (i := 267) (by decide +kernel)
set_option maxRecDepth 100000 in
theorem m_268 : Cond.fieldLink RX7 18 "VeilSteps$Voices" "kind" "I" ∈ lw_tbl := List.mem_of_getElem? (i := 268) (by decide +kernel)
set_option maxRecDepth 100000 in
theorem m_269 : Cond.fieldLink RX7 22 "VeilSteps$Voices" "k" "I" ∈ lw_tbl := List.mem_of_getElem? (i := 269) (by decide +kernel)
set_option maxRecDepth 100000 in
theorem m_270 : Cond.fieldLink RX7 25 "VeilSteps$Voices" "m" "I" ∈ lw_tbl := List.mem_of_getElem? (i := 270) (by decide +kernel)
set_option maxRecDepth 100000 in
theorem m_271 : Cond.fieldLink RX7 28 "VeilSteps$Voices" "parted" "Z" ∈ lw_tbl := List.mem_of_getElem? (i := 271) (by decide +kernel)
set_option maxRecDepth 100000 in
theorem m_272 : Cond.fieldLinkNest RX9 270 "VeilSteps$Voices" "parted" "Z" "VeilSteps" ∈ lw_tbl := List.mem_of_getElem? (i := 272) (by decide +kernel)
set_option maxRecDepth 100000 in
theorem m_273 : Cond.laysFinal RX7 "VeilSteps$Voices" "trace" "LVeilSteps$Row;" ∈ lw_tbl := List.mem_of_getElem? (i := 273) (by decide +kernel)
set_option maxRecDepth 100000 in
theorem m_275 : Cond.lays RX7 "VeilSteps$Voices" "kind" "I" ∈ lw_tbl := List.mem_of_getElem? (i := 275) (by decide +kernel)
set_option maxRecDepth 100000 in
theorem m_277 : Cond.lays RX7 "VeilSteps$Voices" "k" "I" ∈ lw_tbl := List.mem_of_getElem? (i := 277) (by decide +kernel)
set_option maxRecDepth 100000 in
theorem m_279 : Cond.lays RX7 "VeilSteps$Voices" "m" "I" ∈ lw_tbl := List.mem_of_getElem? (i := 279) (by decide +kernel)
set_option maxRecDepth 100000 in
theorem m_281 : Cond.lays RX7 "VeilSteps$Voices" "parted" "Z" ∈ lw_tbl := List.mem_of_getElem? (i := 281) (by decide +kernel)
set_option maxRecDepth 100000 in
theorem m_284 : Cond.classLink RX9 46 "VeilSteps$Sheet" ∈ lw_tbl := List.mem_of_getElem? (i := 284) (by decide +kernel)
set_option maxRecDepth 100000 in
theorem m_285 : Cond.arrayOver (FieldType.object "VeilSteps$Sheet") ∈ lw_tbl := List.mem_of_getElem? (i := 285) (by decide +kernel)
set_option maxRecDepth 100000 in
theorem m_286 : Cond.instantiable RX5 2 ∈ lw_tbl := List.mem_of_getElem? (i := 286) (by decide +kernel)
set_option maxRecDepth 100000 in
theorem m_287 : Cond.methodLink RX9 52 yX5_init ∈ lw_tbl := List.mem_of_getElem? (i := 287) (by decide +kernel)
set_option maxRecDepth 100000 in
theorem m_288 : Cond.instanceMethod yX5_init ∈ lw_tbl := List.mem_of_getElem? (i := 288) (by decide +kernel)
set_option maxRecDepth 100000 in
theorem m_289 : Cond.code yX5_init cX5_init 1 none ∈ lw_tbl := List.mem_of_getElem? (i := 289) (by rfl)
set_option maxRecDepth 100000 in
theorem m_290 : Cond.methodLink RX5 3 objectInit ∈ lw_tbl := List.mem_of_getElem? (i := 290) (by decide +kernel)
set_option maxRecDepth 100000 in
theorem m_291 : Cond.classLink RX5 9 "VeilSteps$Row" ∈ lw_tbl := List.mem_of_getElem? (i := 291) (by decide +kernel)
set_option maxRecDepth 100000 in
theorem m_292 : Cond.methodLink RX5 11 yX4_init ∈ lw_tbl := List.mem_of_getElem? (i := 292) (by decide +kernel)
set_option maxRecDepth 100000 in
theorem m_293 : Cond.fieldLink RX5 14 "VeilSteps$Sheet" "row" "LVeilSteps$Row;" ∈ lw_tbl := List.mem_of_getElem? (i := 293) (by decide +kernel)
set_option maxRecDepth 100000 in
theorem m_294 : Cond.fieldLinkNest RX9 253 "VeilSteps$Sheet" "row" "LVeilSteps$Row;" "VeilSteps" ∈ lw_tbl := List.mem_of_getElem? (i := 294) (by decide +kernel)
set_option maxRecDepth 100000 in
theorem m_295 : Cond.fieldLink RX5 20 "VeilSteps$Sheet" "bits" "I" ∈ lw_tbl := List.mem_of_getElem? (i := 295) (by decide +kernel)
set_option maxRecDepth 100000 in
theorem m_296 : Cond.fieldLinkNest RX9 292 "VeilSteps$Sheet" "bits" "I" "VeilSteps" ∈ lw_tbl := List.mem_of_getElem? (i := 296) (by decide +kernel)
set_option maxRecDepth 100000 in
theorem m_297 : Cond.laysFinal RX5 "VeilSteps$Sheet" "row" "LVeilSteps$Row;" ∈ lw_tbl := List.mem_of_getElem? (i := 297) (by decide +kernel)
set_option maxRecDepth 100000 in
theorem m_299 : Cond.lays RX5 "VeilSteps$Sheet" "bits" "I" ∈ lw_tbl := List.mem_of_getElem? (i := 299) (by decide +kernel)
set_option maxRecDepth 100000 in
theorem m_302 : Cond.fieldLink RX9 10 "VeilSteps" "now" "LVeilSteps$World;" ∈ lw_tbl := List.mem_of_getElem? (i := 302) (by decide +kernel)
set_option maxRecDepth 100000 in
theorem m_303 : Cond.fieldLink RX9 16 "VeilSteps" "kept" "LVeilSteps$World;" ∈ lw_tbl := List.mem_of_getElem? (i := 303) (by decide +kernel)
set_option maxRecDepth 100000 in
theorem m_304 : Cond.fieldLink RX9 22 "VeilSteps" "thought" "LVeilSteps$Course;" ∈ lw_tbl := List.mem_of_getElem? (i := 304) (by decide +kernel)
set_option maxRecDepth 100000 in
theorem m_305 : Cond.fieldLink RX9 35 "VeilSteps" "reader" "LVeilSteps$Reader;" ∈ lw_tbl := List.mem_of_getElem? (i := 305) (by decide +kernel)
set_option maxRecDepth 100000 in
theorem m_306 : Cond.fieldLink RX9 42 "VeilSteps" "voices" "LVeilSteps$Voices;" ∈ lw_tbl := List.mem_of_getElem? (i := 306) (by decide +kernel)
set_option maxRecDepth 100000 in
theorem m_307 : Cond.fieldLink RX9 48 "VeilSteps" "sheets" "[LVeilSteps$Sheet;" ∈ lw_tbl := List.mem_of_getElem? (i := 307) (by decide +kernel)
set_option maxRecDepth 100000 in
theorem m_308 : Cond.fieldLink RX9 53 "VeilSteps" "errors" "[I" ∈ lw_tbl := List.mem_of_getElem? (i := 308) (by decide +kernel)
set_option maxRecDepth 100000 in
theorem m_309 : Cond.fieldLink RX9 57 "VeilSteps" "images" "I" ∈ lw_tbl := List.mem_of_getElem? (i := 309) (by decide +kernel)
set_option maxRecDepth 100000 in
theorem m_310 : Cond.laysFinal RX9 "VeilSteps" "now" "LVeilSteps$World;" ∈ lw_tbl := List.mem_of_getElem? (i := 310) (by decide +kernel)
set_option maxRecDepth 100000 in
theorem m_312 : Cond.laysFinal RX9 "VeilSteps" "kept" "LVeilSteps$World;" ∈ lw_tbl := List.mem_of_getElem? (i := 312) (by decide +kernel)
set_option maxRecDepth 100000 in
theorem m_314 : Cond.laysFinal RX9 "VeilSteps" "thought" "LVeilSteps$Course;" ∈ lw_tbl := List.mem_of_getElem? (i := 314) (by decide +kernel)
set_option maxRecDepth 100000 in
theorem m_316 : Cond.laysFinal RX9 "VeilSteps" "reader" "LVeilSteps$Reader;" ∈ lw_tbl := List.mem_of_getElem? (i := 316) (by decide +kernel)
set_option maxRecDepth 100000 in
theorem m_318 : Cond.laysFinal RX9 "VeilSteps" "voices" "LVeilSteps$Voices;" ∈ lw_tbl := List.mem_of_getElem? (i := 318) (by decide +kernel)
set_option maxRecDepth 100000 in
theorem m_320 : Cond.laysFinal RX9 "VeilSteps" "sheets" "[LVeilSteps$Sheet;" ∈ lw_tbl := List.mem_of_getElem? (i := 320) (by decide +kernel)
set_option maxRecDepth 100000 in
theorem m_322 : Cond.laysFinal RX9 "VeilSteps" "errors" "[I" ∈ lw_tbl := List.mem_of_getElem? (i := 322) (by decide +kernel)
set_option maxRecDepth 100000 in
theorem m_324 : Cond.lays RX9 "VeilSteps" "images" "I" ∈ lw_tbl := List.mem_of_getElem? (i := 324) (by decide +kernel)
set_option maxRecDepth 100000 in
theorem m_327 : Cond.methodLink RL 13 yX9_person ∈ lw_tbl := List.mem_of_getElem? (i := 327) (by decide +kernel)
set_option maxRecDepth 100000 in
theorem m_328 : Cond.instanceMethod yX9_person ∈ lw_tbl := List.mem_of_getElem? (i := 328) (by decide +kernel)
set_option maxRecDepth 100000 in
theorem m_329 : Cond.selects RX9 yX9_person yX9_person ∈ lw_tbl := List.mem_of_getElem? (i := 329) (by decide +kernel)
set_option maxRecDepth 100000 in
theorem m_330 : Cond.code yX9_person cX9_person 3 (some FieldType.int) ∈ lw_tbl := List.mem_of_getElem? (i := 330) (by rfl)
set_option maxRecDepth 100000 in
theorem m_331 : Cond.methodLink RX9 61 yX9_isKm ∈ lw_tbl := List.mem_of_getElem? (i := 331) (by decide +kernel)
set_option maxRecDepth 100000 in
theorem m_332 : Cond.static yX9_isKm ∈ lw_tbl := List.mem_of_getElem? (i := 332) (by decide +kernel)
set_option maxRecDepth 100000 in
theorem m_333 : Cond.code yX9_isKm cX9_isKm 1 (some FieldType.boolean) ∈ lw_tbl := List.mem_of_getElem? (i := 333) (by rfl)
set_option maxRecDepth 100000 in
theorem m_334 : Cond.methodLink RX9 74 yX9_fail ∈ lw_tbl := List.mem_of_getElem? (i := 334) (by decide +kernel)
set_option maxRecDepth 100000 in
theorem m_336 : Cond.instanceMethod yX9_fail ∈ lw_tbl := List.mem_of_getElem? (i := 336) (by decide +kernel)
set_option maxRecDepth 100000 in
theorem m_337 : Cond.code yX9_fail cX9_fail 2 (some FieldType.int) ∈ lw_tbl := List.mem_of_getElem? (i := 337) (by rfl)
set_option maxRecDepth 100000 in
theorem m_338 : Cond.constant RX9 308 (-1000000000) ∈ lw_tbl := List.mem_of_getElem? (i := 338) (by decide +kernel)
set_option maxRecDepth 100000 in
theorem m_339 : Cond.methodLink RX9 78 yX1_add ∈ lw_tbl := List.mem_of_getElem? (i := 339) (by decide +kernel)
set_option maxRecDepth 100000 in
theorem m_340 : Cond.instanceMethod yX1_add ∈ lw_tbl := List.mem_of_getElem? (i := 340) (by decide +kernel)
set_option maxRecDepth 100000 in
theorem m_341 : Cond.selects RX1 yX1_add yX1_add ∈ lw_tbl := List.mem_of_getElem? (i := 341) (by decide +kernel)
set_option maxRecDepth 100000 in
theorem m_342 : Cond.code yX1_add cX1_add 5 (some FieldType.int) ∈ lw_tbl := List.mem_of_getElem? (i := 342) (by rfl)
set_option maxRecDepth 100000 in
theorem m_343 : Cond.methodLink RX1 31 yX1_measure ∈ lw_tbl := List.mem_of_getElem? (i := 343) (by decide +kernel)
set_option maxRecDepth 100000 in
theorem m_345 : Cond.instanceMethod yX1_measure ∈ lw_tbl := List.mem_of_getElem? (i := 345) (by decide +kernel)
set_option maxRecDepth 100000 in
theorem m_346 : Cond.code yX1_measure cX1_measure 3 none ∈ lw_tbl := List.mem_of_getElem? (i := 346) (by rfl)
set_option maxRecDepth 100000 in
theorem m_347 : Cond.methodLink RX1 38 yX1_link ∈ lw_tbl := List.mem_of_getElem? (i := 347) (by decide +kernel)
set_option maxRecDepth 100000 in
theorem m_349 : Cond.instanceMethod yX1_link ∈ lw_tbl := List.mem_of_getElem? (i := 349) (by decide +kernel)
set_option maxRecDepth 100000 in
theorem m_350 : Cond.code yX1_link cX1_link 3 none ∈ lw_tbl := List.mem_of_getElem? (i := 350) (by rfl)
set_option maxRecDepth 100000 in
theorem m_351 : Cond.methodLink RX1 45 yX1_has ∈ lw_tbl := List.mem_of_getElem? (i := 351) (by decide +kernel)
set_option maxRecDepth 100000 in
theorem m_352 : Cond.instanceMethod yX1_has ∈ lw_tbl := List.mem_of_getElem? (i := 352) (by decide +kernel)
set_option maxRecDepth 100000 in
theorem m_353 : Cond.selects RX1 yX1_has yX1_has ∈ lw_tbl := List.mem_of_getElem? (i := 353) (by decide +kernel)
set_option maxRecDepth 100000 in
theorem m_354 : Cond.code yX1_has cX1_has 2 (some FieldType.boolean) ∈ lw_tbl := List.mem_of_getElem? (i := 354) (by rfl)
set_option maxRecDepth 100000 in
theorem m_355 : Cond.methodLink RX1 42 yX1_shortenBy ∈ lw_tbl := List.mem_of_getElem? (i := 355) (by decide +kernel)
set_option maxRecDepth 100000 in
theorem m_357 : Cond.instanceMethod yX1_shortenBy ∈ lw_tbl := List.mem_of_getElem? (i := 357) (by decide +kernel)
set_option maxRecDepth 100000 in
theorem m_358 : Cond.code yX1_shortenBy cX1_shortenBy 6 none ∈ lw_tbl := List.mem_of_getElem? (i := 358) (by rfl)
set_option maxRecDepth 100000 in
theorem m_359 : Cond.methodLink RX1 34 yX1_between ∈ lw_tbl := List.mem_of_getElem? (i := 359) (by decide +kernel)
set_option maxRecDepth 100000 in
theorem m_360 : Cond.instanceMethod yX1_between ∈ lw_tbl := List.mem_of_getElem? (i := 360) (by decide +kernel)
set_option maxRecDepth 100000 in
theorem m_361 : Cond.selects RX1 yX1_between yX1_between ∈ lw_tbl := List.mem_of_getElem? (i := 361) (by decide +kernel)
set_option maxRecDepth 100000 in
theorem m_362 : Cond.code yX1_between cX1_between 3 (some FieldType.int) ∈ lw_tbl := List.mem_of_getElem? (i := 362) (by rfl)
set_option maxRecDepth 100000 in
theorem m_363 : Cond.methodLink RX1 49 Lib.Math.min.name ∈ lw_tbl := List.mem_of_getElem? (i := 363) (by decide +kernel)
set_option maxRecDepth 100000 in
theorem m_364 : Cond.static Lib.Math.min.name ∈ lw_tbl := List.mem_of_getElem? (i := 364) (by decide +kernel)
set_option maxRecDepth 100000 in
theorem m_365 : Cond.code Lib.Math.min.name cJ9_min_7cf53 2 (some FieldType.int) ∈ lw_tbl := List.mem_of_getElem? (i := 365) (by rfl)
set_option maxRecDepth 100000 in
theorem m_366 : Cond.methodLink RL 18 yX9_personIs ∈ lw_tbl := List.mem_of_getElem? (i := 366) (by decide +kernel)
set_option maxRecDepth 100000 in
theorem m_367 : Cond.instanceMethod yX9_personIs ∈ lw_tbl := List.mem_of_getElem? (i := 367) (by decide +kernel)
set_option maxRecDepth 100000 in
theorem m_368 : Cond.selects RX9 yX9_personIs yX9_personIs ∈ lw_tbl := List.mem_of_getElem? (i := 368) (by decide +kernel)
set_option maxRecDepth 100000 in
theorem m_369 : Cond.code yX9_personIs cX9_personIs 3 (some FieldType.int) ∈ lw_tbl := List.mem_of_getElem? (i := 369) (by rfl)
set_option maxRecDepth 100000 in
theorem m_370 : Cond.methodLink RX9 82 yX1_has ∈ lw_tbl := List.mem_of_getElem? (i := 370) (by decide +kernel)
set_option maxRecDepth 100000 in
theorem m_371 : Cond.methodLink RX9 103 yX8_sightOf ∈ lw_tbl := List.mem_of_getElem? (i := 371) (by decide +kernel)
set_option maxRecDepth 100000 in
theorem m_372 : Cond.instanceMethod yX8_sightOf ∈ lw_tbl := List.mem_of_getElem? (i := 372) (by decide +kernel)
set_option maxRecDepth 100000 in
theorem m_373 : Cond.selects RX8 yX8_sightOf yX8_sightOf ∈ lw_tbl := List.mem_of_getElem? (i := 373) (by decide +kernel)
set_option maxRecDepth 100000 in
theorem m_374 : Cond.code yX8_sightOf cX8_sightOf 4 (some FieldType.int) ∈ lw_tbl := List.mem_of_getElem? (i := 374) (by rfl)
set_option maxRecDepth 100000 in
theorem m_375 : Cond.methodLink RX8 93 yX1_nearTo ∈ lw_tbl := List.mem_of_getElem? (i := 375) (by decide +kernel)
set_option maxRecDepth 100000 in
theorem m_376 : Cond.instanceMethod yX1_nearTo ∈ lw_tbl := List.mem_of_getElem? (i := 376) (by decide +kernel)
set_option maxRecDepth 100000 in
theorem m_377 : Cond.selects RX1 yX1_nearTo yX1_nearTo ∈ lw_tbl := List.mem_of_getElem? (i := 377) (by decide +kernel)
set_option maxRecDepth 100000 in
theorem m_378 : Cond.code yX1_nearTo cX1_nearTo 4 (some FieldType.int) ∈ lw_tbl := List.mem_of_getElem? (i := 378) (by rfl)
set_option maxRecDepth 100000 in
theorem m_379 : Cond.methodLink RX8 97 yX2_lookThrough ∈ lw_tbl := List.mem_of_getElem? (i := 379) (by decide +kernel)
set_option maxRecDepth 100000 in
theorem m_380 : Cond.static yX2_lookThrough ∈ lw_tbl := List.mem_of_getElem? (i := 380) (by decide +kernel)
set_option maxRecDepth 100000 in
theorem m_381 : Cond.code yX2_lookThrough cX2_lookThrough 4 (some FieldType.int) ∈ lw_tbl := List.mem_of_getElem? (i := 381) (by rfl)
set_option maxRecDepth 100000 in
theorem m_382 : Cond.methodLink RX8 89 yX8_gives ∈ lw_tbl := List.mem_of_getElem? (i := 382) (by decide +kernel)
set_option maxRecDepth 100000 in
theorem m_383 : Cond.instanceMethod yX8_gives ∈ lw_tbl := List.mem_of_getElem? (i := 383) (by decide +kernel)
set_option maxRecDepth 100000 in
theorem m_384 : Cond.selects RX8 yX8_gives yX8_gives ∈ lw_tbl := List.mem_of_getElem? (i := 384) (by decide +kernel)
set_option maxRecDepth 100000 in
theorem m_385 : Cond.code yX8_gives cX8_gives 6 (some FieldType.int) ∈ lw_tbl := List.mem_of_getElem? (i := 385) (by rfl)
set_option maxRecDepth 100000 in
theorem m_386 : Cond.methodLink RX8 55 yX6_isGiven ∈ lw_tbl := List.mem_of_getElem? (i := 386) (by decide +kernel)
set_option maxRecDepth 100000 in
theorem m_387 : Cond.instanceMethod yX6_isGiven ∈ lw_tbl := List.mem_of_getElem? (i := 387) (by decide +kernel)
set_option maxRecDepth 100000 in
theorem m_388 : Cond.selects RX6 yX6_isGiven yX6_isGiven ∈ lw_tbl := List.mem_of_getElem? (i := 388) (by decide +kernel)
set_option maxRecDepth 100000 in
theorem m_389 : Cond.code yX6_isGiven cX6_isGiven 1 (some FieldType.boolean) ∈ lw_tbl := List.mem_of_getElem? (i := 389) (by rfl)
set_option maxRecDepth 100000 in
theorem m_390 : Cond.methodLink RX6 24 yX4_size ∈ lw_tbl := List.mem_of_getElem? (i := 390) (by decide +kernel)
set_option maxRecDepth 100000 in
theorem m_391 : Cond.instanceMethod yX4_size ∈ lw_tbl := List.mem_of_getElem? (i := 391) (by decide +kernel)
set_option maxRecDepth 100000 in
theorem m_392 : Cond.selects RX4 yX4_size yX4_size ∈ lw_tbl := List.mem_of_getElem? (i := 392) (by decide +kernel)
set_option maxRecDepth 100000 in
theorem m_393 : Cond.code yX4_size cX4_size 1 (some FieldType.int) ∈ lw_tbl := List.mem_of_getElem? (i := 393) (by rfl)
set_option maxRecDepth 100000 in
theorem m_394 : Cond.methodLink RX8 59 yX6_worked ∈ lw_tbl := List.mem_of_getElem? (i := 394) (by decide +kernel)
set_option maxRecDepth 100000 in
theorem m_395 : Cond.instanceMethod yX6_worked ∈ lw_tbl := List.mem_of_getElem? (i := 395) (by decide +kernel)
set_option maxRecDepth 100000 in
theorem m_396 : Cond.selects RX6 yX6_worked yX6_worked ∈ lw_tbl := List.mem_of_getElem? (i := 396) (by decide +kernel)
set_option maxRecDepth 100000 in
theorem m_397 : Cond.code yX6_worked cX6_worked 7 (some FieldType.int) ∈ lw_tbl := List.mem_of_getElem? (i := 397) (by rfl)
set_option maxRecDepth 100000 in
theorem m_398 : Cond.methodLink RX6 28 yX4_at ∈ lw_tbl := List.mem_of_getElem? (i := 398) (by decide +kernel)
set_option maxRecDepth 100000 in
theorem m_399 : Cond.instanceMethod yX4_at ∈ lw_tbl := List.mem_of_getElem? (i := 399) (by decide +kernel)
set_option maxRecDepth 100000 in
theorem m_400 : Cond.selects RX4 yX4_at yX4_at ∈ lw_tbl := List.mem_of_getElem? (i := 400) (by decide +kernel)
set_option maxRecDepth 100000 in
theorem m_401 : Cond.code yX4_at cX4_at 2 (some FieldType.int) ∈ lw_tbl := List.mem_of_getElem? (i := 401) (by rfl)
set_option maxRecDepth 100000 in
theorem m_402 : Cond.methodLink RX6 32 yX6_joined ∈ lw_tbl := List.mem_of_getElem? (i := 402) (by decide +kernel)
set_option maxRecDepth 100000 in
theorem m_403 : Cond.static yX6_joined ∈ lw_tbl := List.mem_of_getElem? (i := 403) (by decide +kernel)
set_option maxRecDepth 100000 in
theorem m_404 : Cond.code yX6_joined cX6_joined 3 (some FieldType.int) ∈ lw_tbl := List.mem_of_getElem? (i := 404) (by rfl)
set_option maxRecDepth 100000 in
theorem m_405 : Cond.methodLink RX6 36 yX6_named ∈ lw_tbl := List.mem_of_getElem? (i := 405) (by decide +kernel)
set_option maxRecDepth 100000 in
theorem m_406 : Cond.static yX6_named ∈ lw_tbl := List.mem_of_getElem? (i := 406) (by decide +kernel)
set_option maxRecDepth 100000 in
theorem m_407 : Cond.code yX6_named cX6_named 4 (some FieldType.int) ∈ lw_tbl := List.mem_of_getElem? (i := 407) (by rfl)
set_option maxRecDepth 100000 in
theorem m_408 : Cond.methodLink RX8 63 Lib.Math.min.name ∈ lw_tbl := List.mem_of_getElem? (i := 408) (by decide +kernel)
set_option maxRecDepth 100000 in
theorem m_409 : Cond.methodLink RX8 69 Lib.Math.max.name ∈ lw_tbl := List.mem_of_getElem? (i := 409) (by decide +kernel)
set_option maxRecDepth 100000 in
theorem m_410 : Cond.methodLink RL 22 yX9_become ∈ lw_tbl := List.mem_of_getElem? (i := 410) (by decide +kernel)
set_option maxRecDepth 100000 in
theorem m_411 : Cond.instanceMethod yX9_become ∈ lw_tbl := List.mem_of_getElem? (i := 411) (by decide +kernel)
set_option maxRecDepth 100000 in
theorem m_412 : Cond.selects RX9 yX9_become yX9_become ∈ lw_tbl := List.mem_of_getElem? (i := 412) (by decide +kernel)
set_option maxRecDepth 100000 in
theorem m_413 : Cond.code yX9_become cX9_become 4 (some FieldType.int) ∈ lw_tbl := List.mem_of_getElem? (i := 413) (by rfl)
set_option maxRecDepth 100000 in
theorem m_414 : Cond.methodLink RL 26 yX9_as ∈ lw_tbl := List.mem_of_getElem? (i := 414) (by decide +kernel)
set_option maxRecDepth 100000 in
theorem m_415 : Cond.instanceMethod yX9_as ∈ lw_tbl := List.mem_of_getElem? (i := 415) (by decide +kernel)
set_option maxRecDepth 100000 in
theorem m_416 : Cond.selects RX9 yX9_as yX9_as ∈ lw_tbl := List.mem_of_getElem? (i := 416) (by decide +kernel)
set_option maxRecDepth 100000 in
theorem m_417 : Cond.code yX9_as cX9_as 3 (some FieldType.int) ∈ lw_tbl := List.mem_of_getElem? (i := 417) (by rfl)
set_option maxRecDepth 100000 in
theorem m_418 : Cond.methodLink RX9 107 yX2_isKind ∈ lw_tbl := List.mem_of_getElem? (i := 418) (by decide +kernel)
set_option maxRecDepth 100000 in
theorem m_419 : Cond.static yX2_isKind ∈ lw_tbl := List.mem_of_getElem? (i := 419) (by decide +kernel)
set_option maxRecDepth 100000 in
theorem m_420 : Cond.code yX2_isKind cX2_isKind 1 (some FieldType.boolean) ∈ lw_tbl := List.mem_of_getElem? (i := 420) (by rfl)
set_option maxRecDepth 100000 in
theorem m_421 : Cond.fieldLink RX2 9 "VeilSteps$Kinds" "ABOVE" "[I" ∈ lw_tbl := List.mem_of_getElem? (i := 421) (by decide +kernel)
set_option maxRecDepth 100000 in
theorem m_422 : Cond.laysStatic "VeilSteps$Kinds" "ABOVE" "[I" ∈ lw_tbl := List.mem_of_getElem? (i := 422) (by decide +kernel)
set_option maxRecDepth 100000 in
theorem m_423 : Cond.methodLink RX9 112 yX2_isUnder ∈ lw_tbl := List.mem_of_getElem? (i := 423) (by decide +kernel)
set_option maxRecDepth 100000 in
theorem m_424 : Cond.static yX2_isUnder ∈ lw_tbl := List.mem_of_getElem? (i := 424) (by decide +kernel)
set_option maxRecDepth 100000 in
theorem m_425 : Cond.code yX2_isUnder cX2_isUnder 4 (some FieldType.boolean) ∈ lw_tbl := List.mem_of_getElem? (i := 425) (by rfl)
set_option maxRecDepth 100000 in
theorem m_426 : Cond.methodLink RX2 19 yX2_above ∈ lw_tbl := List.mem_of_getElem? (i := 426) (by decide +kernel)
set_option maxRecDepth 100000 in
theorem m_427 : Cond.static yX2_above ∈ lw_tbl := List.mem_of_getElem? (i := 427) (by decide +kernel)
set_option maxRecDepth 100000 in
theorem m_428 : Cond.code yX2_above cX2_above 1 (some FieldType.int) ∈ lw_tbl := List.mem_of_getElem? (i := 428) (by rfl)
set_option maxRecDepth 100000 in
theorem m_429 : Cond.methodLink RX2 15 yX2_isKind ∈ lw_tbl := List.mem_of_getElem? (i := 429) (by decide +kernel)
set_option maxRecDepth 100000 in
theorem m_430 : Cond.methodLink RL 30 yX9_descends ∈ lw_tbl := List.mem_of_getElem? (i := 430) (by decide +kernel)
set_option maxRecDepth 100000 in
theorem m_431 : Cond.instanceMethod yX9_descends ∈ lw_tbl := List.mem_of_getElem? (i := 431) (by decide +kernel)
set_option maxRecDepth 100000 in
theorem m_432 : Cond.selects RX9 yX9_descends yX9_descends ∈ lw_tbl := List.mem_of_getElem? (i := 432) (by decide +kernel)
set_option maxRecDepth 100000 in
theorem m_433 : Cond.code yX9_descends cX9_descends 4 (some FieldType.int) ∈ lw_tbl := List.mem_of_getElem? (i := 433) (by rfl)
set_option maxRecDepth 100000 in
theorem m_434 : Cond.methodLink RX9 116 yX1_giveParent ∈ lw_tbl := List.mem_of_getElem? (i := 434) (by decide +kernel)
set_option maxRecDepth 100000 in
theorem m_435 : Cond.instanceMethod yX1_giveParent ∈ lw_tbl := List.mem_of_getElem? (i := 435) (by decide +kernel)
set_option maxRecDepth 100000 in
theorem m_436 : Cond.selects RX1 yX1_giveParent yX1_giveParent ∈ lw_tbl := List.mem_of_getElem? (i := 436) (by decide +kernel)
set_option maxRecDepth 100000 in
theorem m_437 : Cond.code yX1_giveParent cX1_giveParent 3 none ∈ lw_tbl := List.mem_of_getElem? (i := 437) (by rfl)
set_option maxRecDepth 100000 in
theorem m_438 : Cond.methodLink RL 34 yX9_marries ∈ lw_tbl := List.mem_of_getElem? (i := 438) (by decide +kernel)
set_option maxRecDepth 100000 in
theorem m_439 : Cond.instanceMethod yX9_marries ∈ lw_tbl := List.mem_of_getElem? (i := 439) (by decide +kernel)
set_option maxRecDepth 100000 in
theorem m_440 : Cond.selects RX9 yX9_marries yX9_marries ∈ lw_tbl := List.mem_of_getElem? (i := 440) (by decide +kernel)
set_option maxRecDepth 100000 in
theorem m_441 : Cond.code yX9_marries cX9_marries 3 (some FieldType.int) ∈ lw_tbl := List.mem_of_getElem? (i := 441) (by rfl)
set_option maxRecDepth 100000 in
theorem m_442 : Cond.methodLink RX9 120 yX1_isFree ∈ lw_tbl := List.mem_of_getElem? (i := 442) (by decide +kernel)
set_option maxRecDepth 100000 in
theorem m_443 : Cond.instanceMethod yX1_isFree ∈ lw_tbl := List.mem_of_getElem? (i := 443) (by decide +kernel)
set_option maxRecDepth 100000 in
theorem m_444 : Cond.selects RX1 yX1_isFree yX1_isFree ∈ lw_tbl := List.mem_of_getElem? (i := 444) (by decide +kernel)
set_option maxRecDepth 100000 in
theorem m_445 : Cond.code yX1_isFree cX1_isFree 2 (some FieldType.boolean) ∈ lw_tbl := List.mem_of_getElem? (i := 445) (by rfl)
set_option maxRecDepth 100000 in
theorem m_446 : Cond.methodLink RX9 123 yX1_join ∈ lw_tbl := List.mem_of_getElem? (i := 446) (by decide +kernel)
set_option maxRecDepth 100000 in
theorem m_447 : Cond.instanceMethod yX1_join ∈ lw_tbl := List.mem_of_getElem? (i := 447) (by decide +kernel)
set_option maxRecDepth 100000 in
theorem m_448 : Cond.selects RX1 yX1_join yX1_join ∈ lw_tbl := List.mem_of_getElem? (i := 448) (by decide +kernel)
set_option maxRecDepth 100000 in
theorem m_449 : Cond.code yX1_join cX1_join 3 none ∈ lw_tbl := List.mem_of_getElem? (i := 449) (by rfl)
set_option maxRecDepth 100000 in
theorem m_450 : Cond.methodLink RX9 126 yX1_nearTo ∈ lw_tbl := List.mem_of_getElem? (i := 450) (by decide +kernel)
set_option maxRecDepth 100000 in
theorem m_451 : Cond.methodLink RL 38 yX9_parts ∈ lw_tbl := List.mem_of_getElem? (i := 451) (by decide +kernel)
set_option maxRecDepth 100000 in
theorem m_452 : Cond.instanceMethod yX9_parts ∈ lw_tbl := List.mem_of_getElem? (i := 452) (by decide +kernel)
set_option maxRecDepth 100000 in
theorem m_453 : Cond.selects RX9 yX9_parts yX9_parts ∈ lw_tbl := List.mem_of_getElem? (i := 453) (by decide +kernel)
set_option maxRecDepth 100000 in
theorem m_454 : Cond.code yX9_parts cX9_parts 3 (some FieldType.int) ∈ lw_tbl := List.mem_of_getElem? (i := 454) (by rfl)
set_option maxRecDepth 100000 in
theorem m_455 : Cond.methodLink RX9 129 yX1_part ∈ lw_tbl := List.mem_of_getElem? (i := 455) (by decide +kernel)
set_option maxRecDepth 100000 in
theorem m_456 : Cond.instanceMethod yX1_part ∈ lw_tbl := List.mem_of_getElem? (i := 456) (by decide +kernel)
set_option maxRecDepth 100000 in
theorem m_457 : Cond.selects RX1 yX1_part yX1_part ∈ lw_tbl := List.mem_of_getElem? (i := 457) (by decide +kernel)
set_option maxRecDepth 100000 in
theorem m_458 : Cond.code yX1_part cX1_part 3 none ∈ lw_tbl := List.mem_of_getElem? (i := 458) (by rfl)
set_option maxRecDepth 100000 in
theorem m_459 : Cond.methodLink RL 43 yX9_steps ∈ lw_tbl := List.mem_of_getElem? (i := 459) (by decide +kernel)
set_option maxRecDepth 100000 in
theorem m_460 : Cond.instanceMethod yX9_steps ∈ lw_tbl := List.mem_of_getElem? (i := 460) (by decide +kernel)
set_option maxRecDepth 100000 in
theorem m_461 : Cond.selects RX9 yX9_steps yX9_steps ∈ lw_tbl := List.mem_of_getElem? (i := 461) (by decide +kernel)
set_option maxRecDepth 100000 in
theorem m_462 : Cond.code yX9_steps cX9_steps 3 (some FieldType.int) ∈ lw_tbl := List.mem_of_getElem? (i := 462) (by rfl)
set_option maxRecDepth 100000 in
theorem m_463 : Cond.methodLink RX9 132 yX1_between ∈ lw_tbl := List.mem_of_getElem? (i := 463) (by decide +kernel)
set_option maxRecDepth 100000 in
theorem m_464 : Cond.methodLink RL 47 yX9_lets ∈ lw_tbl := List.mem_of_getElem? (i := 464) (by decide +kernel)
set_option maxRecDepth 100000 in
theorem m_465 : Cond.instanceMethod yX9_lets ∈ lw_tbl := List.mem_of_getElem? (i := 465) (by decide +kernel)
set_option maxRecDepth 100000 in
theorem m_466 : Cond.selects RX9 yX9_lets yX9_lets ∈ lw_tbl := List.mem_of_getElem? (i := 466) (by decide +kernel)
set_option maxRecDepth 100000 in
theorem m_467 : Cond.code yX9_lets cX9_lets 3 (some FieldType.int) ∈ lw_tbl := List.mem_of_getElem? (i := 467) (by rfl)
set_option maxRecDepth 100000 in
theorem m_468 : Cond.methodLink RX9 136 yX8_veilsOf ∈ lw_tbl := List.mem_of_getElem? (i := 468) (by decide +kernel)
set_option maxRecDepth 100000 in
theorem m_469 : Cond.instanceMethod yX8_veilsOf ∈ lw_tbl := List.mem_of_getElem? (i := 469) (by decide +kernel)
set_option maxRecDepth 100000 in
theorem m_470 : Cond.selects RX8 yX8_veilsOf yX8_veilsOf ∈ lw_tbl := List.mem_of_getElem? (i := 470) (by decide +kernel)
set_option maxRecDepth 100000 in
theorem m_471 : Cond.code yX8_veilsOf cX8_veilsOf 6 (some FieldType.int) ∈ lw_tbl := List.mem_of_getElem? (i := 471) (by rfl)
set_option maxRecDepth 100000 in
theorem m_472 : Cond.methodLink RX8 72 yX1_between ∈ lw_tbl := List.mem_of_getElem? (i := 472) (by decide +kernel)
set_option maxRecDepth 100000 in
theorem m_473 : Cond.methodLink RX8 81 yX2_letDown ∈ lw_tbl := List.mem_of_getElem? (i := 473) (by decide +kernel)
set_option maxRecDepth 100000 in
theorem m_474 : Cond.static yX2_letDown ∈ lw_tbl := List.mem_of_getElem? (i := 474) (by decide +kernel)
set_option maxRecDepth 100000 in
theorem m_475 : Cond.code yX2_letDown cX2_letDown 3 (some FieldType.int) ∈ lw_tbl := List.mem_of_getElem? (i := 475) (by rfl)
set_option maxRecDepth 100000 in
theorem m_476 : Cond.methodLink RX2 23 yX2_judged ∈ lw_tbl := List.mem_of_getElem? (i := 476) (by decide +kernel)
set_option maxRecDepth 100000 in
theorem m_477 : Cond.static yX2_judged ∈ lw_tbl := List.mem_of_getElem? (i := 477) (by decide +kernel)
set_option maxRecDepth 100000 in
theorem m_478 : Cond.code yX2_judged cX2_judged 1 (some FieldType.int) ∈ lw_tbl := List.mem_of_getElem? (i := 478) (by rfl)
set_option maxRecDepth 100000 in
theorem m_479 : Cond.methodLink RX2 26 Lib.Math.min.name ∈ lw_tbl := List.mem_of_getElem? (i := 479) (by decide +kernel)
set_option maxRecDepth 100000 in
theorem m_480 : Cond.methodLink RL 51 yX9_meets ∈ lw_tbl := List.mem_of_getElem? (i := 480) (by decide +kernel)
set_option maxRecDepth 100000 in
theorem m_481 : Cond.instanceMethod yX9_meets ∈ lw_tbl := List.mem_of_getElem? (i := 481) (by decide +kernel)
set_option maxRecDepth 100000 in
theorem m_482 : Cond.selects RX9 yX9_meets yX9_meets ∈ lw_tbl := List.mem_of_getElem? (i := 482) (by decide +kernel)
set_option maxRecDepth 100000 in
theorem m_483 : Cond.code yX9_meets cX9_meets 5 (some FieldType.int) ∈ lw_tbl := List.mem_of_getElem? (i := 483) (by rfl)
set_option maxRecDepth 100000 in
theorem m_484 : Cond.methodLink RX9 140 yX9_isNumber ∈ lw_tbl := List.mem_of_getElem? (i := 484) (by decide +kernel)
set_option maxRecDepth 100000 in
theorem m_485 : Cond.static yX9_isNumber ∈ lw_tbl := List.mem_of_getElem? (i := 485) (by decide +kernel)
set_option maxRecDepth 100000 in
theorem m_486 : Cond.code yX9_isNumber cX9_isNumber 1 (some FieldType.boolean) ∈ lw_tbl := List.mem_of_getElem? (i := 486) (by rfl)
set_option maxRecDepth 100000 in
theorem m_487 : Cond.methodLink RL 56 yX9_trade ∈ lw_tbl := List.mem_of_getElem? (i := 487) (by decide +kernel)
set_option maxRecDepth 100000 in
theorem m_488 : Cond.instanceMethod yX9_trade ∈ lw_tbl := List.mem_of_getElem? (i := 488) (by decide +kernel)
set_option maxRecDepth 100000 in
theorem m_489 : Cond.selects RX9 yX9_trade yX9_trade ∈ lw_tbl := List.mem_of_getElem? (i := 489) (by decide +kernel)
set_option maxRecDepth 100000 in
theorem m_490 : Cond.code yX9_trade cX9_trade 4 (some FieldType.int) ∈ lw_tbl := List.mem_of_getElem? (i := 490) (by rfl)
set_option maxRecDepth 100000 in
theorem m_491 : Cond.methodLink RL 62 yX9_feed ∈ lw_tbl := List.mem_of_getElem? (i := 491) (by decide +kernel)
set_option maxRecDepth 100000 in
theorem m_492 : Cond.instanceMethod yX9_feed ∈ lw_tbl := List.mem_of_getElem? (i := 492) (by decide +kernel)
set_option maxRecDepth 100000 in
theorem m_493 : Cond.selects RX9 yX9_feed yX9_feed ∈ lw_tbl := List.mem_of_getElem? (i := 493) (by decide +kernel)
set_option maxRecDepth 100000 in
theorem m_494 : Cond.code yX9_feed cX9_feed 5 (some FieldType.int) ∈ lw_tbl := List.mem_of_getElem? (i := 494) (by rfl)
set_option maxRecDepth 100000 in
theorem m_495 : Cond.methodLink RX9 155 yX4_hasRoom ∈ lw_tbl := List.mem_of_getElem? (i := 495) (by decide +kernel)
set_option maxRecDepth 100000 in
theorem m_496 : Cond.instanceMethod yX4_hasRoom ∈ lw_tbl := List.mem_of_getElem? (i := 496) (by decide +kernel)
set_option maxRecDepth 100000 in
theorem m_497 : Cond.selects RX4 yX4_hasRoom yX4_hasRoom ∈ lw_tbl := List.mem_of_getElem? (i := 497) (by decide +kernel)
set_option maxRecDepth 100000 in
theorem m_498 : Cond.code yX4_hasRoom cX4_hasRoom 2 (some FieldType.boolean) ∈ lw_tbl := List.mem_of_getElem? (i := 498) (by rfl)
set_option maxRecDepth 100000 in
theorem m_499 : Cond.methodLink RX9 160 yX4_add ∈ lw_tbl := List.mem_of_getElem? (i := 499) (by decide +kernel)
set_option maxRecDepth 100000 in
theorem m_500 : Cond.instanceMethod yX4_add ∈ lw_tbl := List.mem_of_getElem? (i := 500) (by decide +kernel)
set_option maxRecDepth 100000 in
theorem m_501 : Cond.selects RX4 yX4_add yX4_add ∈ lw_tbl := List.mem_of_getElem? (i := 501) (by decide +kernel)
set_option maxRecDepth 100000 in
theorem m_502 : Cond.code yX4_add cX4_add 2 none ∈ lw_tbl := List.mem_of_getElem? (i := 502) (by rfl)
set_option maxRecDepth 100000 in
theorem m_503 : Cond.methodLink RX9 163 yX4_size ∈ lw_tbl := List.mem_of_getElem? (i := 503) (by decide +kernel)
set_option maxRecDepth 100000 in
theorem m_504 : Cond.methodLink RL 67 yX9_text ∈ lw_tbl := List.mem_of_getElem? (i := 504) (by decide +kernel)
set_option maxRecDepth 100000 in
theorem m_505 : Cond.instanceMethod yX9_text ∈ lw_tbl := List.mem_of_getElem? (i := 505) (by decide +kernel)
set_option maxRecDepth 100000 in
theorem m_506 : Cond.selects RX9 yX9_text yX9_text ∈ lw_tbl := List.mem_of_getElem? (i := 506) (by decide +kernel)
set_option maxRecDepth 100000 in
theorem m_507 : Cond.code yX9_text cX9_text 3 (some FieldType.int) ∈ lw_tbl := List.mem_of_getElem? (i := 507) (by rfl)
set_option maxRecDepth 100000 in
theorem m_508 : Cond.methodLink RX9 167 yX9_isUse ∈ lw_tbl := List.mem_of_getElem? (i := 508) (by decide +kernel)
set_option maxRecDepth 100000 in
theorem m_509 : Cond.static yX9_isUse ∈ lw_tbl := List.mem_of_getElem? (i := 509) (by decide +kernel)
set_option maxRecDepth 100000 in
theorem m_510 : Cond.code yX9_isUse cX9_isUse 1 (some FieldType.boolean) ∈ lw_tbl := List.mem_of_getElem? (i := 510) (by rfl)
set_option maxRecDepth 100000 in
theorem m_511 : Cond.methodLink RX9 170 yX3_faultFor ∈ lw_tbl := List.mem_of_getElem? (i := 511) (by decide +kernel)
set_option maxRecDepth 100000 in
theorem m_512 : Cond.instanceMethod yX3_faultFor ∈ lw_tbl := List.mem_of_getElem? (i := 512) (by decide +kernel)
set_option maxRecDepth 100000 in
theorem m_513 : Cond.selects RX3 yX3_faultFor yX3_faultFor ∈ lw_tbl := List.mem_of_getElem? (i := 513) (by decide +kernel)
set_option maxRecDepth 100000 in
theorem m_514 : Cond.code yX3_faultFor cX3_faultFor 3 (some FieldType.int) ∈ lw_tbl := List.mem_of_getElem? (i := 514) (by rfl)
set_option maxRecDepth 100000 in
theorem m_515 : Cond.stringRef RX3 33 "eyc" ∈ lw_tbl := List.mem_of_getElem? (i := 515) (by decide +kernel)
set_option maxRecDepth 100000 in
theorem m_516 : Cond.methodLink RX3 35 yX4_clear ∈ lw_tbl := List.mem_of_getElem? (i := 516) (by decide +kernel)
set_option maxRecDepth 100000 in
theorem m_517 : Cond.instanceMethod yX4_clear ∈ lw_tbl := List.mem_of_getElem? (i := 517) (by decide +kernel)
set_option maxRecDepth 100000 in
theorem m_518 : Cond.selects RX4 yX4_clear yX4_clear ∈ lw_tbl := List.mem_of_getElem? (i := 518) (by decide +kernel)
set_option maxRecDepth 100000 in
theorem m_519 : Cond.code yX4_clear cX4_clear 1 none ∈ lw_tbl := List.mem_of_getElem? (i := 519) (by rfl)
set_option maxRecDepth 100000 in
theorem m_520 : Cond.methodLink RX3 38 yX3_readsLevel ∈ lw_tbl := List.mem_of_getElem? (i := 520) (by decide +kernel)
set_option maxRecDepth 100000 in
theorem m_522 : Cond.instanceMethod yX3_readsLevel ∈ lw_tbl := List.mem_of_getElem? (i := 522) (by decide +kernel)
set_option maxRecDepth 100000 in
theorem m_523 : Cond.code yX3_readsLevel cX3_readsLevel 4 (some FieldType.boolean) ∈ lw_tbl := List.mem_of_getElem? (i := 523) (by rfl)
set_option maxRecDepth 100000 in
theorem m_524 : Cond.methodLink RX3 46 yX3_readsUnit ∈ lw_tbl := List.mem_of_getElem? (i := 524) (by decide +kernel)
set_option maxRecDepth 100000 in
theorem m_526 : Cond.instanceMethod yX3_readsUnit ∈ lw_tbl := List.mem_of_getElem? (i := 526) (by decide +kernel)
set_option maxRecDepth 100000 in
theorem m_527 : Cond.code yX3_readsUnit cX3_readsUnit 4 (some FieldType.boolean) ∈ lw_tbl := List.mem_of_getElem? (i := 527) (by rfl)
set_option maxRecDepth 100000 in
theorem m_528 : Cond.methodLink RX3 50 yX4_at ∈ lw_tbl := List.mem_of_getElem? (i := 528) (by decide +kernel)
set_option maxRecDepth 100000 in
theorem m_529 : Cond.methodLink RX3 61 yX3_isDigit ∈ lw_tbl := List.mem_of_getElem? (i := 529) (by decide +kernel)
set_option maxRecDepth 100000 in
theorem m_530 : Cond.static yX3_isDigit ∈ lw_tbl := List.mem_of_getElem? (i := 530) (by decide +kernel)
set_option maxRecDepth 100000 in
theorem m_531 : Cond.code yX3_isDigit cX3_isDigit 1 (some FieldType.boolean) ∈ lw_tbl := List.mem_of_getElem? (i := 531) (by rfl)
set_option maxRecDepth 100000 in
theorem m_532 : Cond.methodLink RX3 64 yX3_readNumber ∈ lw_tbl := List.mem_of_getElem? (i := 532) (by decide +kernel)
set_option maxRecDepth 100000 in
theorem m_534 : Cond.instanceMethod yX3_readNumber ∈ lw_tbl := List.mem_of_getElem? (i := 534) (by decide +kernel)
set_option maxRecDepth 100000 in
theorem m_535 : Cond.code yX3_readNumber cX3_readNumber 3 none ∈ lw_tbl := List.mem_of_getElem? (i := 535) (by rfl)
set_option maxRecDepth 100000 in
theorem m_536 : Cond.methodLink RX3 58 yX4_add ∈ lw_tbl := List.mem_of_getElem? (i := 536) (by decide +kernel)
set_option maxRecDepth 100000 in
theorem m_537 : Cond.methodLink RX3 67 yJ0_indexOf_0f7a4 ∈ lw_tbl := List.mem_of_getElem? (i := 537) (by decide +kernel)
set_option maxRecDepth 100000 in
theorem m_538 : Cond.instanceMethod yJ0_indexOf_0f7a4 ∈ lw_tbl := List.mem_of_getElem? (i := 538) (by decide +kernel)
set_option maxRecDepth 100000 in
theorem m_539 : Cond.selects RJ0 yJ0_indexOf_0f7a4 yJ0_indexOf_0f7a4 ∈ lw_tbl := List.mem_of_getElem? (i := 539) (by decide +kernel)
set_option maxRecDepth 100000 in
theorem m_540 : Cond.code yJ0_indexOf_0f7a4 cJ0_indexOf_0f7a4 2 (some FieldType.int) ∈ lw_tbl := List.mem_of_getElem? (i := 540) (by rfl)
set_option maxRecDepth 100000 in
theorem m_541 : Cond.methodLink RJ0 633 yJ0_indexOf_7cf53 ∈ lw_tbl := List.mem_of_getElem? (i := 541) (by decide +kernel)
set_option maxRecDepth 100000 in
theorem m_542 : Cond.instanceMethod yJ0_indexOf_7cf53 ∈ lw_tbl := List.mem_of_getElem? (i := 542) (by decide +kernel)
set_option maxRecDepth 100000 in
theorem m_543 : Cond.selects RJ0 yJ0_indexOf_7cf53 yJ0_indexOf_7cf53 ∈ lw_tbl := List.mem_of_getElem? (i := 543) (by decide +kernel)
set_option maxRecDepth 100000 in
theorem m_544 : Cond.code yJ0_indexOf_7cf53 cJ0_indexOf_7cf53 3 (some FieldType.int) ∈ lw_tbl := List.mem_of_getElem? (i := 544) (by rfl)
set_option maxRecDepth 100000 in
theorem m_545 : Cond.methodLink RJ0 492 yJ0_isLatin1_aae02 ∈ lw_tbl := List.mem_of_getElem? (i := 545) (by decide +kernel)
set_option maxRecDepth 100000 in
theorem m_546 : Cond.instanceMethod yJ0_isLatin1_aae02 ∈ lw_tbl := List.mem_of_getElem? (i := 546) (by decide +kernel)
set_option maxRecDepth 100000 in
theorem m_547 : Cond.selects RJ0 yJ0_isLatin1_aae02 yJ0_isLatin1_aae02 ∈ lw_tbl := List.mem_of_getElem? (i := 547) (by decide +kernel)
set_option maxRecDepth 100000 in
theorem m_548 : Cond.code yJ0_isLatin1_aae02 cJ0_isLatin1_aae02 1 (some FieldType.boolean) ∈ lw_tbl := List.mem_of_getElem? (i := 548) (by rfl)
set_option maxRecDepth 100000 in
theorem m_549 : Cond.fieldLink RJ0 38 "java/lang/String" "COMPACT_STRINGS" "Z" ∈ lw_tbl := List.mem_of_getElem? (i := 549) (by decide +kernel)
set_option maxRecDepth 100000 in
theorem m_550 : Cond.laysStatic "java/lang/String" "COMPACT_STRINGS" "Z" ∈ lw_tbl := List.mem_of_getElem? (i := 550) (by decide +kernel)
set_option maxRecDepth 100000 in
theorem m_551 : Cond.methodLink RJ0 505 yJ0_length_8abf5 ∈ lw_tbl := List.mem_of_getElem? (i := 551) (by decide +kernel)
set_option maxRecDepth 100000 in
theorem m_552 : Cond.instanceMethod yJ0_length_8abf5 ∈ lw_tbl := List.mem_of_getElem? (i := 552) (by decide +kernel)
set_option maxRecDepth 100000 in
theorem m_553 : Cond.selects RJ0 yJ0_length_8abf5 yJ0_length_8abf5 ∈ lw_tbl := List.mem_of_getElem? (i := 553) (by decide +kernel)
set_option maxRecDepth 100000 in
theorem m_554 : Cond.code yJ0_length_8abf5 cJ0_length_8abf5 1 (some FieldType.int) ∈ lw_tbl := List.mem_of_getElem? (i := 554) (by rfl)
set_option maxRecDepth 100000 in
theorem m_555 : Cond.methodLink RJ0 335 yJ0_coder_7d493 ∈ lw_tbl := List.mem_of_getElem? (i := 555) (by decide +kernel)
set_option maxRecDepth 100000 in
theorem m_556 : Cond.instanceMethod yJ0_coder_7d493 ∈ lw_tbl := List.mem_of_getElem? (i := 556) (by decide +kernel)
set_option maxRecDepth 100000 in
theorem m_557 : Cond.selects RJ0 yJ0_coder_7d493 yJ0_coder_7d493 ∈ lw_tbl := List.mem_of_getElem? (i := 557) (by decide +kernel)
set_option maxRecDepth 100000 in
theorem m_558 : Cond.code yJ0_coder_7d493 cJ0_coder_7d493 1 (some FieldType.byte) ∈ lw_tbl := List.mem_of_getElem? (i := 558) (by rfl)
set_option maxRecDepth 100000 in
theorem m_559 : Cond.methodLink RJ0 637 yJ1_indexOf_4cfef ∈ lw_tbl := List.mem_of_getElem? (i := 559) (by decide +kernel)
set_option maxRecDepth 100000 in
theorem m_560 : Cond.static yJ1_indexOf_4cfef ∈ lw_tbl := List.mem_of_getElem? (i := 560) (by decide +kernel)
set_option maxRecDepth 100000 in
theorem m_561 : Cond.code yJ1_indexOf_4cfef cJ1_indexOf_4cfef 4 (some FieldType.int) ∈ lw_tbl := List.mem_of_getElem? (i := 561) (by rfl)
set_option maxRecDepth 100000 in
theorem m_562 : Cond.methodLink RJ1 88 yJ1_canEncode_9a6ad ∈ lw_tbl := List.mem_of_getElem? (i := 562) (by decide +kernel)
set_option maxRecDepth 100000 in
theorem m_563 : Cond.static yJ1_canEncode_9a6ad ∈ lw_tbl := List.mem_of_getElem? (i := 563) (by decide +kernel)
set_option maxRecDepth 100000 in
theorem m_564 : Cond.code yJ1_canEncode_9a6ad cJ1_canEncode_9a6ad 1 (some FieldType.boolean) ∈ lw_tbl := List.mem_of_getElem? (i := 564) (by rfl)
set_option maxRecDepth 100000 in
theorem m_565 : Cond.methodLink RJ1 92 Lib.Math.max.name ∈ lw_tbl := List.mem_of_getElem? (i := 565) (by decide +kernel)
set_option maxRecDepth 100000 in
theorem m_566 : Cond.methodLink RJ1 38 Lib.Math.min.name ∈ lw_tbl := List.mem_of_getElem? (i := 566) (by decide +kernel)
set_option maxRecDepth 100000 in
theorem m_567 : Cond.methodLink RJ1 95 yJ1_indexOfChar_4cfef ∈ lw_tbl := List.mem_of_getElem? (i := 567) (by decide +kernel)
set_option maxRecDepth 100000 in
theorem m_568 : Cond.static yJ1_indexOfChar_4cfef ∈ lw_tbl := List.mem_of_getElem? (i := 568) (by decide +kernel)
set_option maxRecDepth 100000 in
theorem m_569 : Cond.code yJ1_indexOfChar_4cfef cJ1_indexOfChar_4cfef 6 (some FieldType.int) ∈ lw_tbl := List.mem_of_getElem? (i := 569) (by rfl)
set_option maxRecDepth 100000 in
theorem m_570 : Cond.methodLink RJ0 640 yJ2_indexOf_4cfef ∈ lw_tbl := List.mem_of_getElem? (i := 570) (by decide +kernel)
set_option maxRecDepth 100000 in
theorem m_571 : Cond.static yJ2_indexOf_4cfef ∈ lw_tbl := List.mem_of_getElem? (i := 571) (by decide +kernel)
set_option maxRecDepth 100000 in
theorem m_572 : Cond.code yJ2_indexOf_4cfef cJ2_indexOf_4cfef 4 (some FieldType.int) ∈ lw_tbl := List.mem_of_getElem? (i := 572) (by rfl)
set_option maxRecDepth 100000 in
theorem m_573 : Cond.methodLink RJ2 224 Lib.Math.max.name ∈ lw_tbl := List.mem_of_getElem? (i := 573) (by decide +kernel)
set_option maxRecDepth 100000 in
theorem m_574 : Cond.methodLink RJ2 183 Lib.Math.min.name ∈ lw_tbl := List.mem_of_getElem? (i := 574) (by decide +kernel)
set_option maxRecDepth 100000 in
theorem m_575 : Cond.constant RJ2 227 65536 ∈ lw_tbl := List.mem_of_getElem? (i := 575) (by decide +kernel)
set_option maxRecDepth 100000 in
theorem m_576 : Cond.methodLink RJ2 228 yJ2_indexOfChar_4cfef ∈ lw_tbl := List.mem_of_getElem? (i := 576) (by decide +kernel)
set_option maxRecDepth 100000 in
theorem m_577 : Cond.static yJ2_indexOfChar_4cfef ∈ lw_tbl := List.mem_of_getElem? (i := 577) (by decide +kernel)
set_option maxRecDepth 100000 in
theorem m_578 : Cond.code yJ2_indexOfChar_4cfef cJ2_indexOfChar_4cfef 4 (some FieldType.int) ∈ lw_tbl := List.mem_of_getElem? (i := 578) (by rfl)
set_option maxRecDepth 100000 in
theorem m_579 : Cond.methodLink RJ2 96 yJ2_checkBoundsBeginEnd_d044e ∈ lw_tbl := List.mem_of_getElem? (i := 579) (by decide +kernel)
set_option maxRecDepth 100000 in
theorem m_580 : Cond.static yJ2_checkBoundsBeginEnd_d044e ∈ lw_tbl := List.mem_of_getElem? (i := 580) (by decide +kernel)
set_option maxRecDepth 100000 in
theorem m_581 : Cond.code yJ2_checkBoundsBeginEnd_d044e cJ2_checkBoundsBeginEnd_d044e 3 none ∈ lw_tbl := List.mem_of_getElem? (i := 581) (by rfl)
set_option maxRecDepth 100000 in
theorem m_582 : Cond.methodLink RJ2 48 yJ2_length_9d52b ∈ lw_tbl := List.mem_of_getElem? (i := 582) (by decide +kernel)
set_option maxRecDepth 100000 in
theorem m_583 : Cond.static yJ2_length_9d52b ∈ lw_tbl := List.mem_of_getElem? (i := 583) (by decide +kernel)
set_option maxRecDepth 100000 in
theorem m_584 : Cond.code yJ2_length_9d52b cJ2_length_9d52b 1 (some FieldType.int) ∈ lw_tbl := List.mem_of_getElem? (i := 584) (by rfl)
set_option maxRecDepth 100000 in
theorem m_585 : Cond.methodLink RJ2 241 yJ0_checkBoundsBeginEnd_23922 ∈ lw_tbl := List.mem_of_getElem? (i := 585) (by decide +kernel)
set_option maxRecDepth 100000 in
theorem m_586 : Cond.static yJ0_checkBoundsBeginEnd_23922 ∈ lw_tbl := List.mem_of_getElem? (i := 586) (by decide +kernel)
set_option maxRecDepth 100000 in
theorem m_587 : Cond.code yJ0_checkBoundsBeginEnd_23922 cJ0_checkBoundsBeginEnd_23922 3 none ∈ lw_tbl := List.mem_of_getElem? (i := 587) (by rfl)
set_option maxRecDepth 100000 in
theorem m_588 : Cond.fieldLink RJ0 1053 "jdk/internal/util/Preconditions" "SIOOBE_FORMATTER" "Ljava/util/function/BiFunction;" ∈ lw_tbl := List.mem_of_getElem? (i := 588) (by decide +kernel)
set_option maxRecDepth 100000 in
theorem m_589 : Cond.laysStatic "jdk/internal/util/Preconditions" "SIOOBE_FORMATTER" "Ljava/util/function/BiFunction;" ∈ lw_tbl := List.mem_of_getElem? (i := 589) (by decide +kernel)
set_option maxRecDepth 100000 in
theorem m_590 : Cond.methodLink RJ0 1062 yJ3_checkFromToIndex_8c36e ∈ lw_tbl := List.mem_of_getElem? (i := 590) (by decide +kernel)
set_option maxRecDepth 100000 in
theorem m_591 : Cond.static yJ3_checkFromToIndex_8c36e ∈ lw_tbl := List.mem_of_getElem? (i := 591) (by decide +kernel)
set_option maxRecDepth 100000 in
theorem m_592 : Cond.code yJ3_checkFromToIndex_8c36e cJ3_checkFromToIndex_8c36e 4 (some FieldType.int) ∈ lw_tbl := List.mem_of_getElem? (i := 592) (by rfl)
set_option maxRecDepth 100000 in
theorem m_593 : Cond.methodLink RJ2 244 yJ2_indexOfCharUnsafe_4cfef ∈ lw_tbl := List.mem_of_getElem? (i := 593) (by decide +kernel)
set_option maxRecDepth 100000 in
theorem m_594 : Cond.static yJ2_indexOfCharUnsafe_4cfef ∈ lw_tbl := List.mem_of_getElem? (i := 594) (by decide +kernel)
set_option maxRecDepth 100000 in
theorem m_595 : Cond.code yJ2_indexOfCharUnsafe_4cfef cJ2_indexOfCharUnsafe_4cfef 5 (some FieldType.int) ∈ lw_tbl := List.mem_of_getElem? (i := 595) (by rfl)
set_option maxRecDepth 100000 in
theorem m_596 : Cond.methodLink RJ2 71 yJ2_getChar_3b067 ∈ lw_tbl := List.mem_of_getElem? (i := 596) (by decide +kernel)
set_option maxRecDepth 100000 in
theorem m_597 : Cond.static yJ2_getChar_3b067 ∈ lw_tbl := List.mem_of_getElem? (i := 597) (by decide +kernel)
set_option maxRecDepth 100000 in
theorem m_598 : Cond.code yJ2_getChar_3b067 cJ2_getChar_3b067 2 (some FieldType.char) ∈ lw_tbl := List.mem_of_getElem? (i := 598) (by rfl)
set_option maxRecDepth 100000 in
theorem m_599 : Cond.fieldLink RJ2 44 "java/lang/StringUTF16" "$assertionsDisabled" "Z" ∈ lw_tbl := List.mem_of_getElem? (i := 599) (by decide +kernel)
set_option maxRecDepth 100000 in
theorem m_600 : Cond.laysStatic "java/lang/StringUTF16" "$assertionsDisabled" "Z" ∈ lw_tbl := List.mem_of_getElem? (i := 600) (by decide +kernel)
set_option maxRecDepth 100000 in
theorem m_601 : Cond.fieldLink RJ2 59 "java/lang/StringUTF16" "HI_BYTE_SHIFT" "I" ∈ lw_tbl := List.mem_of_getElem? (i := 601) (by decide +kernel)
set_option maxRecDepth 100000 in
theorem m_602 : Cond.laysStatic "java/lang/StringUTF16" "HI_BYTE_SHIFT" "I" ∈ lw_tbl := List.mem_of_getElem? (i := 602) (by decide +kernel)
set_option maxRecDepth 100000 in
theorem m_603 : Cond.fieldLink RJ2 63 "java/lang/StringUTF16" "LO_BYTE_SHIFT" "I" ∈ lw_tbl := List.mem_of_getElem? (i := 603) (by decide +kernel)
set_option maxRecDepth 100000 in
theorem m_604 : Cond.laysStatic "java/lang/StringUTF16" "LO_BYTE_SHIFT" "I" ∈ lw_tbl := List.mem_of_getElem? (i := 604) (by decide +kernel)
set_option maxRecDepth 100000 in
theorem m_605 : Cond.methodLink RJ2 232 yJ2_indexOfSupplementary_4cfef ∈ lw_tbl := List.mem_of_getElem? (i := 605) (by decide +kernel)
set_option maxRecDepth 100000 in
theorem m_606 : Cond.static yJ2_indexOfSupplementary_4cfef ∈ lw_tbl := List.mem_of_getElem? (i := 606) (by decide +kernel)
set_option maxRecDepth 100000 in
theorem m_607 : Cond.code yJ2_indexOfSupplementary_4cfef cJ2_indexOfSupplementary_4cfef 7 (some FieldType.int) ∈ lw_tbl := List.mem_of_getElem? (i := 607) (by rfl)
set_option maxRecDepth 100000 in
theorem m_608 : Cond.methodLink RJ2 164 yJ11_isValidCodePoint_9a6ad ∈ lw_tbl := List.mem_of_getElem? (i := 608) (by decide +kernel)
set_option maxRecDepth 100000 in
theorem m_609 : Cond.static yJ11_isValidCodePoint_9a6ad ∈ lw_tbl := List.mem_of_getElem? (i := 609) (by decide +kernel)
set_option maxRecDepth 100000 in
theorem m_610 : Cond.code yJ11_isValidCodePoint_9a6ad cJ11_isValidCodePoint_9a6ad 2 (some FieldType.boolean) ∈ lw_tbl := List.mem_of_getElem? (i := 610) (by rfl)
set_option maxRecDepth 100000 in
theorem m_611 : Cond.methodLink RJ2 157 yJ11_highSurrogate_5068e ∈ lw_tbl := List.mem_of_getElem? (i := 611) (by decide +kernel)
set_option maxRecDepth 100000 in
theorem m_612 : Cond.static yJ11_highSurrogate_5068e ∈ lw_tbl := List.mem_of_getElem? (i := 612) (by decide +kernel)
set_option maxRecDepth 100000 in
theorem m_613 : Cond.code yJ11_highSurrogate_5068e cJ11_highSurrogate_5068e 1 (some FieldType.char) ∈ lw_tbl := List.mem_of_getElem? (i := 613) (by rfl)
set_option maxRecDepth 100000 in
theorem m_614 : Cond.constant RJ11 110 55232 ∈ lw_tbl := List.mem_of_getElem? (i := 614) (by decide +kernel)
set_option maxRecDepth 100000 in
theorem m_615 : Cond.methodLink RJ2 161 yJ11_lowSurrogate_5068e ∈ lw_tbl := List.mem_of_getElem? (i := 615) (by decide +kernel)
set_option maxRecDepth 100000 in
theorem m_616 : Cond.static yJ11_lowSurrogate_5068e ∈ lw_tbl := List.mem_of_getElem? (i := 616) (by decide +kernel)
set_option maxRecDepth 100000 in
theorem m_617 : Cond.code yJ11_lowSurrogate_5068e cJ11_lowSurrogate_5068e 1 (some FieldType.char) ∈ lw_tbl := List.mem_of_getElem? (i := 617) (by rfl)
set_option maxRecDepth 100000 in
theorem m_618 : Cond.constant RJ11 76 56320 ∈ lw_tbl := List.mem_of_getElem? (i := 618) (by decide +kernel)
set_option maxRecDepth 100000 in
theorem m_619 : Cond.methodLink RX3 72 yX3_readsDenied ∈ lw_tbl := List.mem_of_getElem? (i := 619) (by decide +kernel)
set_option maxRecDepth 100000 in
theorem m_621 : Cond.instanceMethod yX3_readsDenied ∈ lw_tbl := List.mem_of_getElem? (i := 621) (by decide +kernel)
set_option maxRecDepth 100000 in
theorem m_622 : Cond.code yX3_readsDenied cX3_readsDenied 2 (some FieldType.boolean) ∈ lw_tbl := List.mem_of_getElem? (i := 622) (by rfl)
set_option maxRecDepth 100000 in
theorem m_623 : Cond.methodLink RX3 75 yX3_readsClosed ∈ lw_tbl := List.mem_of_getElem? (i := 623) (by decide +kernel)
set_option maxRecDepth 100000 in
theorem m_625 : Cond.instanceMethod yX3_readsClosed ∈ lw_tbl := List.mem_of_getElem? (i := 625) (by decide +kernel)
set_option maxRecDepth 100000 in
theorem m_626 : Cond.code yX3_readsClosed cX3_readsClosed 2 (some FieldType.boolean) ∈ lw_tbl := List.mem_of_getElem? (i := 626) (by rfl)
set_option maxRecDepth 100000 in
theorem m_627 : Cond.methodLink RX3 42 yX4_size ∈ lw_tbl := List.mem_of_getElem? (i := 627) (by decide +kernel)
set_option maxRecDepth 100000 in
theorem m_628 : Cond.methodLink RX3 53 yX3_levelOf ∈ lw_tbl := List.mem_of_getElem? (i := 628) (by decide +kernel)
set_option maxRecDepth 100000 in
theorem m_629 : Cond.static yX3_levelOf ∈ lw_tbl := List.mem_of_getElem? (i := 629) (by decide +kernel)
set_option maxRecDepth 100000 in
theorem m_630 : Cond.code yX3_levelOf cX3_levelOf 1 (some FieldType.int) ∈ lw_tbl := List.mem_of_getElem? (i := 630) (by rfl)
set_option maxRecDepth 100000 in
theorem m_631 : Cond.methodLink RX9 173 yX4_clear ∈ lw_tbl := List.mem_of_getElem? (i := 631) (by decide +kernel)
set_option maxRecDepth 100000 in
theorem m_632 : Cond.methodLink RX9 186 yX4_copy ∈ lw_tbl := List.mem_of_getElem? (i := 632) (by decide +kernel)
set_option maxRecDepth 100000 in
theorem m_633 : Cond.instanceMethod yX4_copy ∈ lw_tbl := List.mem_of_getElem? (i := 633) (by decide +kernel)
set_option maxRecDepth 100000 in
theorem m_634 : Cond.selects RX4 yX4_copy yX4_copy ∈ lw_tbl := List.mem_of_getElem? (i := 634) (by decide +kernel)
set_option maxRecDepth 100000 in
theorem m_635 : Cond.code yX4_copy cX4_copy 2 none ∈ lw_tbl := List.mem_of_getElem? (i := 635) (by rfl)
set_option maxRecDepth 100000 in
theorem m_636 : Cond.methodLink RX4 27 Lib.Math.min.name ∈ lw_tbl := List.mem_of_getElem? (i := 636) (by decide +kernel)
set_option maxRecDepth 100000 in
theorem m_637 : Cond.methodLink RX4 30 arraycopyName ∈ lw_tbl := List.mem_of_getElem? (i := 637) (by decide +kernel)
set_option maxRecDepth 100000 in
theorem m_638 : Cond.static arraycopyName ∈ lw_tbl := List.mem_of_getElem? (i := 638) (by decide +kernel)
set_option maxRecDepth 100000 in
theorem m_639 : Cond.native arraycopyName ∈ lw_tbl := List.mem_of_getElem? (i := 639) (by decide +kernel)
set_option maxRecDepth 100000 in
theorem m_640 : Cond.methodLink RL 71 yX9_untell ∈ lw_tbl := List.mem_of_getElem? (i := 640) (by decide +kernel)
set_option maxRecDepth 100000 in
theorem m_641 : Cond.instanceMethod yX9_untell ∈ lw_tbl := List.mem_of_getElem? (i := 641) (by decide +kernel)
set_option maxRecDepth 100000 in
theorem m_642 : Cond.selects RX9 yX9_untell yX9_untell ∈ lw_tbl := List.mem_of_getElem? (i := 642) (by decide +kernel)
set_option maxRecDepth 100000 in
theorem m_643 : Cond.code yX9_untell cX9_untell 3 (some FieldType.int) ∈ lw_tbl := List.mem_of_getElem? (i := 643) (by rfl)
set_option maxRecDepth 100000 in
theorem m_644 : Cond.methodLink RX9 189 yX6_isGiven ∈ lw_tbl := List.mem_of_getElem? (i := 644) (by decide +kernel)
set_option maxRecDepth 100000 in
theorem m_645 : Cond.methodLink RL 75 yX9_law ∈ lw_tbl := List.mem_of_getElem? (i := 645) (by decide +kernel)
set_option maxRecDepth 100000 in
theorem m_646 : Cond.instanceMethod yX9_law ∈ lw_tbl := List.mem_of_getElem? (i := 646) (by decide +kernel)
set_option maxRecDepth 100000 in
theorem m_647 : Cond.selects RX9 yX9_law yX9_law ∈ lw_tbl := List.mem_of_getElem? (i := 647) (by decide +kernel)
set_option maxRecDepth 100000 in
theorem m_648 : Cond.code yX9_law cX9_law 5 (some FieldType.int) ∈ lw_tbl := List.mem_of_getElem? (i := 648) (by rfl)
set_option maxRecDepth 100000 in
theorem m_649 : Cond.methodLink RX9 193 yX8_gives ∈ lw_tbl := List.mem_of_getElem? (i := 649) (by decide +kernel)
set_option maxRecDepth 100000 in
theorem m_650 : Cond.methodLink RL 80 yX9_years ∈ lw_tbl := List.mem_of_getElem? (i := 650) (by decide +kernel)
set_option maxRecDepth 100000 in
theorem m_651 : Cond.instanceMethod yX9_years ∈ lw_tbl := List.mem_of_getElem? (i := 651) (by decide +kernel)
set_option maxRecDepth 100000 in
theorem m_652 : Cond.selects RX9 yX9_years yX9_years ∈ lw_tbl := List.mem_of_getElem? (i := 652) (by decide +kernel)
set_option maxRecDepth 100000 in
theorem m_653 : Cond.code yX9_years cX9_years 2 (some FieldType.int) ∈ lw_tbl := List.mem_of_getElem? (i := 653) (by rfl)
set_option maxRecDepth 100000 in
theorem m_654 : Cond.methodLink RX9 200 yX8_passYears ∈ lw_tbl := List.mem_of_getElem? (i := 654) (by decide +kernel)
set_option maxRecDepth 100000 in
theorem m_655 : Cond.instanceMethod yX8_passYears ∈ lw_tbl := List.mem_of_getElem? (i := 655) (by decide +kernel)
set_option maxRecDepth 100000 in
theorem m_656 : Cond.selects RX8 yX8_passYears yX8_passYears ∈ lw_tbl := List.mem_of_getElem? (i := 656) (by decide +kernel)
set_option maxRecDepth 100000 in
theorem m_657 : Cond.code yX8_passYears cX8_passYears 5 none ∈ lw_tbl := List.mem_of_getElem? (i := 657) (by rfl)
set_option maxRecDepth 100000 in
theorem m_658 : Cond.methodLink RX8 103 yX8_placeOf ∈ lw_tbl := List.mem_of_getElem? (i := 658) (by decide +kernel)
set_option maxRecDepth 100000 in
theorem m_659 : Cond.static yX8_placeOf ∈ lw_tbl := List.mem_of_getElem? (i := 659) (by decide +kernel)
set_option maxRecDepth 100000 in
theorem m_660 : Cond.code yX8_placeOf cX8_placeOf 1 (some FieldType.int) ∈ lw_tbl := List.mem_of_getElem? (i := 660) (by rfl)
set_option maxRecDepth 100000 in
theorem m_661 : Cond.methodLink RX8 133 yJ9_floorMod_7cf53 ∈ lw_tbl := List.mem_of_getElem? (i := 661) (by decide +kernel)
set_option maxRecDepth 100000 in
theorem m_662 : Cond.static yJ9_floorMod_7cf53 ∈ lw_tbl := List.mem_of_getElem? (i := 662) (by decide +kernel)
set_option maxRecDepth 100000 in
theorem m_663 : Cond.code yJ9_floorMod_7cf53 cJ9_floorMod_7cf53 3 (some FieldType.int) ∈ lw_tbl := List.mem_of_getElem? (i := 663) (by rfl)
set_option maxRecDepth 100000 in
theorem m_664 : Cond.methodLink RX8 106 yX8_passYear ∈ lw_tbl := List.mem_of_getElem? (i := 664) (by decide +kernel)
set_option maxRecDepth 100000 in
theorem m_666 : Cond.instanceMethod yX8_passYear ∈ lw_tbl := List.mem_of_getElem? (i := 666) (by decide +kernel)
set_option maxRecDepth 100000 in
theorem m_667 : Cond.code yX8_passYear cX8_passYear 5 none ∈ lw_tbl := List.mem_of_getElem? (i := 667) (by rfl)
set_option maxRecDepth 100000 in
theorem m_668 : Cond.methodLink RX8 110 yX1_has ∈ lw_tbl := List.mem_of_getElem? (i := 668) (by decide +kernel)
set_option maxRecDepth 100000 in
theorem m_669 : Cond.methodLink RX8 114 yX8_veilsOf ∈ lw_tbl := List.mem_of_getElem? (i := 669) (by decide +kernel)
set_option maxRecDepth 100000 in
theorem m_670 : Cond.methodLink RX8 118 yX8_sightOf ∈ lw_tbl := List.mem_of_getElem? (i := 670) (by decide +kernel)
set_option maxRecDepth 100000 in
theorem m_671 : Cond.methodLink RX9 204 yX0_seenTogether ∈ lw_tbl := List.mem_of_getElem? (i := 671) (by decide +kernel)
set_option maxRecDepth 100000 in
theorem m_672 : Cond.instanceMethod yX0_seenTogether ∈ lw_tbl := List.mem_of_getElem? (i := 672) (by decide +kernel)
set_option maxRecDepth 100000 in
theorem m_673 : Cond.selects RX0 yX0_seenTogether yX0_seenTogether ∈ lw_tbl := List.mem_of_getElem? (i := 673) (by decide +kernel)
set_option maxRecDepth 100000 in
theorem m_674 : Cond.code yX0_seenTogether cX0_seenTogether 3 (some FieldType.int) ∈ lw_tbl := List.mem_of_getElem? (i := 674) (by rfl)
set_option maxRecDepth 100000 in
theorem m_675 : Cond.methodLink RX0 25 yJ6_bitCount_0f7a4 ∈ lw_tbl := List.mem_of_getElem? (i := 675) (by decide +kernel)
set_option maxRecDepth 100000 in
theorem m_676 : Cond.static yJ6_bitCount_0f7a4 ∈ lw_tbl := List.mem_of_getElem? (i := 676) (by decide +kernel)
set_option maxRecDepth 100000 in
theorem m_677 : Cond.code yJ6_bitCount_0f7a4 cJ6_bitCount_0f7a4 1 (some FieldType.int) ∈ lw_tbl := List.mem_of_getElem? (i := 677) (by rfl)
set_option maxRecDepth 100000 in
theorem m_678 : Cond.constant RJ6 265 1431655765 ∈ lw_tbl := List.mem_of_getElem? (i := 678) (by decide +kernel)
set_option maxRecDepth 100000 in
theorem m_679 : Cond.constant RJ6 266 858993459 ∈ lw_tbl := List.mem_of_getElem? (i := 679) (by decide +kernel)
set_option maxRecDepth 100000 in
theorem m_680 : Cond.constant RJ6 267 252645135 ∈ lw_tbl := List.mem_of_getElem? (i := 680) (by decide +kernel)
set_option maxRecDepth 100000 in
theorem m_681 : Cond.methodLink RL 84 yX9_loose ∈ lw_tbl := List.mem_of_getElem? (i := 681) (by decide +kernel)
set_option maxRecDepth 100000 in
theorem m_682 : Cond.instanceMethod yX9_loose ∈ lw_tbl := List.mem_of_getElem? (i := 682) (by decide +kernel)
set_option maxRecDepth 100000 in
theorem m_683 : Cond.selects RX9 yX9_loose yX9_loose ∈ lw_tbl := List.mem_of_getElem? (i := 683) (by decide +kernel)
set_option maxRecDepth 100000 in
theorem m_684 : Cond.code yX9_loose cX9_loose 3 (some FieldType.int) ∈ lw_tbl := List.mem_of_getElem? (i := 684) (by rfl)
set_option maxRecDepth 100000 in
theorem m_685 : Cond.methodLink RX9 207 yX8_drawMeeting ∈ lw_tbl := List.mem_of_getElem? (i := 685) (by decide +kernel)
set_option maxRecDepth 100000 in
theorem m_686 : Cond.instanceMethod yX8_drawMeeting ∈ lw_tbl := List.mem_of_getElem? (i := 686) (by decide +kernel)
set_option maxRecDepth 100000 in
theorem m_687 : Cond.selects RX8 yX8_drawMeeting yX8_drawMeeting ∈ lw_tbl := List.mem_of_getElem? (i := 687) (by decide +kernel)
set_option maxRecDepth 100000 in
theorem m_688 : Cond.code yX8_drawMeeting cX8_drawMeeting 2 none ∈ lw_tbl := List.mem_of_getElem? (i := 688) (by rfl)
set_option maxRecDepth 100000 in
theorem m_689 : Cond.methodLink RX8 128 yX8_draw ∈ lw_tbl := List.mem_of_getElem? (i := 689) (by decide +kernel)
set_option maxRecDepth 100000 in
theorem m_691 : Cond.instanceMethod yX8_draw ∈ lw_tbl := List.mem_of_getElem? (i := 691) (by decide +kernel)
set_option maxRecDepth 100000 in
theorem m_692 : Cond.code yX8_draw cX8_draw 1 (some FieldType.int) ∈ lw_tbl := List.mem_of_getElem? (i := 692) (by rfl)
set_option maxRecDepth 100000 in
theorem m_693 : Cond.constant RX8 132 1103515245 ∈ lw_tbl := List.mem_of_getElem? (i := 693) (by decide +kernel)
set_option maxRecDepth 100000 in
theorem m_694 : Cond.methodLink RL 88 yX9_year ∈ lw_tbl := List.mem_of_getElem? (i := 694) (by decide +kernel)
set_option maxRecDepth 100000 in
theorem m_695 : Cond.instanceMethod yX9_year ∈ lw_tbl := List.mem_of_getElem? (i := 695) (by decide +kernel)
set_option maxRecDepth 100000 in
theorem m_696 : Cond.selects RX9 yX9_year yX9_year ∈ lw_tbl := List.mem_of_getElem? (i := 696) (by decide +kernel)
set_option maxRecDepth 100000 in
theorem m_697 : Cond.code yX9_year cX9_year 3 (some FieldType.int) ∈ lw_tbl := List.mem_of_getElem? (i := 697) (by rfl)
set_option maxRecDepth 100000 in
theorem m_698 : Cond.methodLink RL 92 yX9_seed ∈ lw_tbl := List.mem_of_getElem? (i := 698) (by decide +kernel)
set_option maxRecDepth 100000 in
theorem m_699 : Cond.instanceMethod yX9_seed ∈ lw_tbl := List.mem_of_getElem? (i := 699) (by decide +kernel)
set_option maxRecDepth 100000 in
theorem m_700 : Cond.selects RX9 yX9_seed yX9_seed ∈ lw_tbl := List.mem_of_getElem? (i := 700) (by decide +kernel)
set_option maxRecDepth 100000 in
theorem m_701 : Cond.code yX9_seed cX9_seed 3 (some FieldType.int) ∈ lw_tbl := List.mem_of_getElem? (i := 701) (by rfl)
set_option maxRecDepth 100000 in
theorem m_702 : Cond.methodLink RL 96 yX9_then ∈ lw_tbl := List.mem_of_getElem? (i := 702) (by decide +kernel)
set_option maxRecDepth 100000 in
theorem m_703 : Cond.instanceMethod yX9_then ∈ lw_tbl := List.mem_of_getElem? (i := 703) (by decide +kernel)
set_option maxRecDepth 100000 in
theorem m_704 : Cond.selects RX9 yX9_then yX9_then ∈ lw_tbl := List.mem_of_getElem? (i := 704) (by decide +kernel)
set_option maxRecDepth 100000 in
theorem m_705 : Cond.code yX9_then cX9_then 3 (some FieldType.int) ∈ lw_tbl := List.mem_of_getElem? (i := 705) (by rfl)
set_option maxRecDepth 100000 in
theorem m_706 : Cond.methodLink RX9 213 yX0_copy ∈ lw_tbl := List.mem_of_getElem? (i := 706) (by decide +kernel)
set_option maxRecDepth 100000 in
theorem m_707 : Cond.instanceMethod yX0_copy ∈ lw_tbl := List.mem_of_getElem? (i := 707) (by decide +kernel)
set_option maxRecDepth 100000 in
theorem m_708 : Cond.selects RX0 yX0_copy yX0_copy ∈ lw_tbl := List.mem_of_getElem? (i := 708) (by decide +kernel)
set_option maxRecDepth 100000 in
theorem m_709 : Cond.code yX0_copy cX0_copy 2 none ∈ lw_tbl := List.mem_of_getElem? (i := 709) (by rfl)
set_option maxRecDepth 100000 in
theorem m_710 : Cond.methodLink RX0 35 arraycopyName ∈ lw_tbl := List.mem_of_getElem? (i := 710) (by decide +kernel)
set_option maxRecDepth 100000 in
theorem m_711 : Cond.methodLink RL 100 yX9_soonest ∈ lw_tbl := List.mem_of_getElem? (i := 711) (by decide +kernel)
set_option maxRecDepth 100000 in
theorem m_712 : Cond.instanceMethod yX9_soonest ∈ lw_tbl := List.mem_of_getElem? (i := 712) (by decide +kernel)
set_option maxRecDepth 100000 in
theorem m_713 : Cond.selects RX9 yX9_soonest yX9_soonest ∈ lw_tbl := List.mem_of_getElem? (i := 713) (by decide +kernel)
set_option maxRecDepth 100000 in
theorem m_714 : Cond.code yX9_soonest cX9_soonest 4 (some FieldType.int) ∈ lw_tbl := List.mem_of_getElem? (i := 714) (by rfl)
set_option maxRecDepth 100000 in
theorem m_715 : Cond.methodLink RX9 216 yX9_isIn ∈ lw_tbl := List.mem_of_getElem? (i := 715) (by decide +kernel)
set_option maxRecDepth 100000 in
theorem m_716 : Cond.static yX9_isIn ∈ lw_tbl := List.mem_of_getElem? (i := 716) (by decide +kernel)
set_option maxRecDepth 100000 in
theorem m_717 : Cond.code yX9_isIn cX9_isIn 2 (some FieldType.boolean) ∈ lw_tbl := List.mem_of_getElem? (i := 717) (by rfl)
set_option maxRecDepth 100000 in
theorem m_718 : Cond.methodLink RL 104 yX9_match ∈ lw_tbl := List.mem_of_getElem? (i := 718) (by decide +kernel)
set_option maxRecDepth 100000 in
theorem m_719 : Cond.instanceMethod yX9_match ∈ lw_tbl := List.mem_of_getElem? (i := 719) (by decide +kernel)
set_option maxRecDepth 100000 in
theorem m_720 : Cond.selects RX9 yX9_match yX9_match ∈ lw_tbl := List.mem_of_getElem? (i := 720) (by decide +kernel)
set_option maxRecDepth 100000 in
theorem m_721 : Cond.code yX9_match cX9_match 5 (some FieldType.int) ∈ lw_tbl := List.mem_of_getElem? (i := 721) (by rfl)
set_option maxRecDepth 100000 in
theorem m_722 : Cond.methodLink RX9 219 yX1_bestMatch ∈ lw_tbl := List.mem_of_getElem? (i := 722) (by decide +kernel)
set_option maxRecDepth 100000 in
theorem m_723 : Cond.instanceMethod yX1_bestMatch ∈ lw_tbl := List.mem_of_getElem? (i := 723) (by decide +kernel)
set_option maxRecDepth 100000 in
theorem m_724 : Cond.selects RX1 yX1_bestMatch yX1_bestMatch ∈ lw_tbl := List.mem_of_getElem? (i := 724) (by decide +kernel)
set_option maxRecDepth 100000 in
theorem m_725 : Cond.code yX1_bestMatch cX1_bestMatch 7 (some FieldType.int) ∈ lw_tbl := List.mem_of_getElem? (i := 725) (by rfl)
set_option maxRecDepth 100000 in
theorem m_726 : Cond.methodLink RX1 54 yX1_isFree ∈ lw_tbl := List.mem_of_getElem? (i := 726) (by decide +kernel)
set_option maxRecDepth 100000 in
theorem m_727 : Cond.methodLink RX1 57 yX1_byMarriage ∈ lw_tbl := List.mem_of_getElem? (i := 727) (by decide +kernel)
set_option maxRecDepth 100000 in
theorem m_729 : Cond.instanceMethod yX1_byMarriage ∈ lw_tbl := List.mem_of_getElem? (i := 729) (by decide +kernel)
set_option maxRecDepth 100000 in
theorem m_730 : Cond.code yX1_byMarriage cX1_byMarriage 7 (some FieldType.int) ∈ lw_tbl := List.mem_of_getElem? (i := 730) (by rfl)
set_option maxRecDepth 100000 in
theorem m_731 : Cond.methodLink RL 108 yX9_orderFor ∈ lw_tbl := List.mem_of_getElem? (i := 731) (by decide +kernel)
set_option maxRecDepth 100000 in
theorem m_732 : Cond.instanceMethod yX9_orderFor ∈ lw_tbl := List.mem_of_getElem? (i := 732) (by decide +kernel)
set_option maxRecDepth 100000 in
theorem m_733 : Cond.selects RX9 yX9_orderFor yX9_orderFor ∈ lw_tbl := List.mem_of_getElem? (i := 733) (by decide +kernel)
set_option maxRecDepth 100000 in
theorem m_734 : Cond.code yX9_orderFor cX9_orderFor 5 (some FieldType.int) ∈ lw_tbl := List.mem_of_getElem? (i := 734) (by rfl)
set_option maxRecDepth 100000 in
theorem m_735 : Cond.methodLink RX9 222 yX0_seersOf ∈ lw_tbl := List.mem_of_getElem? (i := 735) (by decide +kernel)
set_option maxRecDepth 100000 in
theorem m_736 : Cond.instanceMethod yX0_seersOf ∈ lw_tbl := List.mem_of_getElem? (i := 736) (by decide +kernel)
set_option maxRecDepth 100000 in
theorem m_737 : Cond.selects RX0 yX0_seersOf yX0_seersOf ∈ lw_tbl := List.mem_of_getElem? (i := 737) (by decide +kernel)
set_option maxRecDepth 100000 in
theorem m_738 : Cond.code yX0_seersOf cX0_seersOf 4 (some FieldType.int) ∈ lw_tbl := List.mem_of_getElem? (i := 738) (by rfl)
set_option maxRecDepth 100000 in
theorem m_739 : Cond.methodLinkNest RX0 31 yX9_isIn "VeilSteps" ∈ lw_tbl := List.mem_of_getElem? (i := 739) (by decide +kernel)
set_option maxRecDepth 100000 in
theorem m_740 : Cond.methodLink RL 112 yX9_seers ∈ lw_tbl := List.mem_of_getElem? (i := 740) (by decide +kernel)
set_option maxRecDepth 100000 in
theorem m_741 : Cond.instanceMethod yX9_seers ∈ lw_tbl := List.mem_of_getElem? (i := 741) (by decide +kernel)
set_option maxRecDepth 100000 in
theorem m_742 : Cond.selects RX9 yX9_seers yX9_seers ∈ lw_tbl := List.mem_of_getElem? (i := 742) (by decide +kernel)
set_option maxRecDepth 100000 in
theorem m_743 : Cond.code yX9_seers cX9_seers 2 (some FieldType.int) ∈ lw_tbl := List.mem_of_getElem? (i := 743) (by rfl)
set_option maxRecDepth 100000 in
theorem m_744 : Cond.methodLink RL 116 yX9_witnesses ∈ lw_tbl := List.mem_of_getElem? (i := 744) (by decide +kernel)
set_option maxRecDepth 100000 in
theorem m_745 : Cond.instanceMethod yX9_witnesses ∈ lw_tbl := List.mem_of_getElem? (i := 745) (by decide +kernel)
set_option maxRecDepth 100000 in
theorem m_746 : Cond.selects RX9 yX9_witnesses yX9_witnesses ∈ lw_tbl := List.mem_of_getElem? (i := 746) (by decide +kernel)
set_option maxRecDepth 100000 in
theorem m_747 : Cond.code yX9_witnesses cX9_witnesses 5 (some FieldType.int) ∈ lw_tbl := List.mem_of_getElem? (i := 747) (by rfl)
set_option maxRecDepth 100000 in
theorem m_748 : Cond.methodLink RX9 225 yX1_isSet ∈ lw_tbl := List.mem_of_getElem? (i := 748) (by decide +kernel)
set_option maxRecDepth 100000 in
theorem m_749 : Cond.instanceMethod yX1_isSet ∈ lw_tbl := List.mem_of_getElem? (i := 749) (by decide +kernel)
set_option maxRecDepth 100000 in
theorem m_750 : Cond.selects RX1 yX1_isSet yX1_isSet ∈ lw_tbl := List.mem_of_getElem? (i := 750) (by decide +kernel)
set_option maxRecDepth 100000 in
theorem m_751 : Cond.code yX1_isSet cX1_isSet 2 (some FieldType.boolean) ∈ lw_tbl := List.mem_of_getElem? (i := 751) (by rfl)
set_option maxRecDepth 100000 in
theorem m_752 : Cond.methodLink RX9 228 yJ6_bitCount_0f7a4 ∈ lw_tbl := List.mem_of_getElem? (i := 752) (by decide +kernel)
set_option maxRecDepth 100000 in
theorem m_753 : Cond.methodLink RX9 233 yX0_seenBy ∈ lw_tbl := List.mem_of_getElem? (i := 753) (by decide +kernel)
set_option maxRecDepth 100000 in
theorem m_754 : Cond.instanceMethod yX0_seenBy ∈ lw_tbl := List.mem_of_getElem? (i := 754) (by decide +kernel)
set_option maxRecDepth 100000 in
theorem m_755 : Cond.selects RX0 yX0_seenBy yX0_seenBy ∈ lw_tbl := List.mem_of_getElem? (i := 755) (by decide +kernel)
set_option maxRecDepth 100000 in
theorem m_756 : Cond.code yX0_seenBy cX0_seenBy 4 (some FieldType.int) ∈ lw_tbl := List.mem_of_getElem? (i := 756) (by rfl)
set_option maxRecDepth 100000 in
theorem m_757 : Cond.methodLink RL 120 yX9_odds ∈ lw_tbl := List.mem_of_getElem? (i := 757) (by decide +kernel)
set_option maxRecDepth 100000 in
theorem m_758 : Cond.instanceMethod yX9_odds ∈ lw_tbl := List.mem_of_getElem? (i := 758) (by decide +kernel)
set_option maxRecDepth 100000 in
theorem m_759 : Cond.selects RX9 yX9_odds yX9_odds ∈ lw_tbl := List.mem_of_getElem? (i := 759) (by decide +kernel)
set_option maxRecDepth 100000 in
theorem m_760 : Cond.code yX9_odds cX9_odds 6 (some FieldType.int) ∈ lw_tbl := List.mem_of_getElem? (i := 760) (by rfl)
set_option maxRecDepth 100000 in
theorem m_761 : Cond.methodLink RX9 236 yX8_throughTo ∈ lw_tbl := List.mem_of_getElem? (i := 761) (by decide +kernel)
set_option maxRecDepth 100000 in
theorem m_762 : Cond.instanceMethod yX8_throughTo ∈ lw_tbl := List.mem_of_getElem? (i := 762) (by decide +kernel)
set_option maxRecDepth 100000 in
theorem m_763 : Cond.selects RX8 yX8_throughTo yX8_throughTo ∈ lw_tbl := List.mem_of_getElem? (i := 763) (by decide +kernel)
set_option maxRecDepth 100000 in
theorem m_764 : Cond.code yX8_throughTo cX8_throughTo 5 (some FieldType.int) ∈ lw_tbl := List.mem_of_getElem? (i := 764) (by rfl)
set_option maxRecDepth 100000 in
theorem m_765 : Cond.methodLink RX9 239 yX9_greatestDivisor ∈ lw_tbl := List.mem_of_getElem? (i := 765) (by decide +kernel)
set_option maxRecDepth 100000 in
theorem m_766 : Cond.static yX9_greatestDivisor ∈ lw_tbl := List.mem_of_getElem? (i := 766) (by decide +kernel)
set_option maxRecDepth 100000 in
theorem m_767 : Cond.code yX9_greatestDivisor cX9_greatestDivisor 3 (some FieldType.int) ∈ lw_tbl := List.mem_of_getElem? (i := 767) (by rfl)
set_option maxRecDepth 100000 in
theorem m_768 : Cond.methodLink RX9 242 Lib.Math.max.name ∈ lw_tbl := List.mem_of_getElem? (i := 768) (by decide +kernel)
set_option maxRecDepth 100000 in
theorem m_769 : Cond.methodLink RL 124 yX9_fits ∈ lw_tbl := List.mem_of_getElem? (i := 769) (by decide +kernel)
set_option maxRecDepth 100000 in
theorem m_770 : Cond.instanceMethod yX9_fits ∈ lw_tbl := List.mem_of_getElem? (i := 770) (by decide +kernel)
set_option maxRecDepth 100000 in
theorem m_771 : Cond.selects RX9 yX9_fits yX9_fits ∈ lw_tbl := List.mem_of_getElem? (i := 771) (by decide +kernel)
set_option maxRecDepth 100000 in
theorem m_772 : Cond.code yX9_fits cX9_fits 5 (some FieldType.int) ∈ lw_tbl := List.mem_of_getElem? (i := 772) (by rfl)
set_option maxRecDepth 100000 in
theorem m_773 : Cond.methodLink RX9 247 yX9_isSheet ∈ lw_tbl := List.mem_of_getElem? (i := 773) (by decide +kernel)
set_option maxRecDepth 100000 in
theorem m_774 : Cond.static yX9_isSheet ∈ lw_tbl := List.mem_of_getElem? (i := 774) (by decide +kernel)
set_option maxRecDepth 100000 in
theorem m_775 : Cond.code yX9_isSheet cX9_isSheet 1 (some FieldType.boolean) ∈ lw_tbl := List.mem_of_getElem? (i := 775) (by rfl)
set_option maxRecDepth 100000 in
theorem m_776 : Cond.methodLink RX9 250 yX5_isMissing ∈ lw_tbl := List.mem_of_getElem? (i := 776) (by decide +kernel)
set_option maxRecDepth 100000 in
theorem m_777 : Cond.instanceMethod yX5_isMissing ∈ lw_tbl := List.mem_of_getElem? (i := 777) (by decide +kernel)
set_option maxRecDepth 100000 in
theorem m_778 : Cond.selects RX5 yX5_isMissing yX5_isMissing ∈ lw_tbl := List.mem_of_getElem? (i := 778) (by decide +kernel)
set_option maxRecDepth 100000 in
theorem m_779 : Cond.code yX5_isMissing cX5_isMissing 1 (some FieldType.boolean) ∈ lw_tbl := List.mem_of_getElem? (i := 779) (by rfl)
set_option maxRecDepth 100000 in
theorem m_780 : Cond.methodLink RX9 256 yX8_parentsFitting ∈ lw_tbl := List.mem_of_getElem? (i := 780) (by decide +kernel)
set_option maxRecDepth 100000 in
theorem m_781 : Cond.instanceMethod yX8_parentsFitting ∈ lw_tbl := List.mem_of_getElem? (i := 781) (by decide +kernel)
set_option maxRecDepth 100000 in
theorem m_782 : Cond.selects RX8 yX8_parentsFitting yX8_parentsFitting ∈ lw_tbl := List.mem_of_getElem? (i := 782) (by decide +kernel)
set_option maxRecDepth 100000 in
theorem m_783 : Cond.code yX8_parentsFitting cX8_parentsFitting 6 (some FieldType.int) ∈ lw_tbl := List.mem_of_getElem? (i := 783) (by rfl)
set_option maxRecDepth 100000 in
theorem m_784 : Cond.methodLink RX8 142 yX1_giveParent ∈ lw_tbl := List.mem_of_getElem? (i := 784) (by decide +kernel)
set_option maxRecDepth 100000 in
theorem m_785 : Cond.methodLink RX8 146 yX8_wouldLet ∈ lw_tbl := List.mem_of_getElem? (i := 785) (by decide +kernel)
set_option maxRecDepth 100000 in
theorem m_787 : Cond.instanceMethod yX8_wouldLet ∈ lw_tbl := List.mem_of_getElem? (i := 787) (by decide +kernel)
set_option maxRecDepth 100000 in
theorem m_788 : Cond.code yX8_wouldLet cX8_wouldLet 4 (some FieldType.boolean) ∈ lw_tbl := List.mem_of_getElem? (i := 788) (by rfl)
set_option maxRecDepth 100000 in
theorem m_789 : Cond.methodLink RX8 150 yX4_size ∈ lw_tbl := List.mem_of_getElem? (i := 789) (by decide +kernel)
set_option maxRecDepth 100000 in
theorem m_790 : Cond.methodLink RX8 153 yX4_at ∈ lw_tbl := List.mem_of_getElem? (i := 790) (by decide +kernel)
set_option maxRecDepth 100000 in
theorem m_791 : Cond.methodLink RL 128 yX9_voice ∈ lw_tbl := List.mem_of_getElem? (i := 791) (by decide +kernel)
set_option maxRecDepth 100000 in
theorem m_792 : Cond.instanceMethod yX9_voice ∈ lw_tbl := List.mem_of_getElem? (i := 792) (by decide +kernel)
set_option maxRecDepth 100000 in
theorem m_793 : Cond.selects RX9 yX9_voice yX9_voice ∈ lw_tbl := List.mem_of_getElem? (i := 793) (by decide +kernel)
set_option maxRecDepth 100000 in
theorem m_794 : Cond.code yX9_voice cX9_voice 5 (some FieldType.int) ∈ lw_tbl := List.mem_of_getElem? (i := 794) (by rfl)
set_option maxRecDepth 100000 in
theorem m_795 : Cond.methodLink RX9 260 yX7_isVoice ∈ lw_tbl := List.mem_of_getElem? (i := 795) (by decide +kernel)
set_option maxRecDepth 100000 in
theorem m_796 : Cond.static yX7_isVoice ∈ lw_tbl := List.mem_of_getElem? (i := 796) (by decide +kernel)
set_option maxRecDepth 100000 in
theorem m_797 : Cond.code yX7_isVoice cX7_isVoice 1 (some FieldType.boolean) ∈ lw_tbl := List.mem_of_getElem? (i := 797) (by rfl)
set_option maxRecDepth 100000 in
theorem m_798 : Cond.methodLink RX9 263 yX7_begin ∈ lw_tbl := List.mem_of_getElem? (i := 798) (by decide +kernel)
set_option maxRecDepth 100000 in
theorem m_799 : Cond.instanceMethod yX7_begin ∈ lw_tbl := List.mem_of_getElem? (i := 799) (by decide +kernel)
set_option maxRecDepth 100000 in
theorem m_800 : Cond.selects RX7 yX7_begin yX7_begin ∈ lw_tbl := List.mem_of_getElem? (i := 800) (by decide +kernel)
set_option maxRecDepth 100000 in
theorem m_801 : Cond.code yX7_begin cX7_begin 4 none ∈ lw_tbl := List.mem_of_getElem? (i := 801) (by rfl)
set_option maxRecDepth 100000 in
theorem m_802 : Cond.methodLink RX7 32 yX4_clear ∈ lw_tbl := List.mem_of_getElem? (i := 802) (by decide +kernel)
set_option maxRecDepth 100000 in
theorem m_803 : Cond.methodLink RX9 267 yX7_speak ∈ lw_tbl := List.mem_of_getElem? (i := 803) (by decide +kernel)
set_option maxRecDepth 100000 in
theorem m_804 : Cond.instanceMethod yX7_speak ∈ lw_tbl := List.mem_of_getElem? (i := 804) (by decide +kernel)
set_option maxRecDepth 100000 in
theorem m_805 : Cond.selects RX7 yX7_speak yX7_speak ∈ lw_tbl := List.mem_of_getElem? (i := 805) (by decide +kernel)
set_option maxRecDepth 100000 in
theorem m_806 : Cond.code yX7_speak cX7_speak 3 (some FieldType.int) ∈ lw_tbl := List.mem_of_getElem? (i := 806) (by rfl)
set_option maxRecDepth 100000 in
theorem m_807 : Cond.methodLink RX7 35 yX7_spoken ∈ lw_tbl := List.mem_of_getElem? (i := 807) (by decide +kernel)
set_option maxRecDepth 100000 in
theorem m_809 : Cond.instanceMethod yX7_spoken ∈ lw_tbl := List.mem_of_getElem? (i := 809) (by decide +kernel)
set_option maxRecDepth 100000 in
theorem m_810 : Cond.code yX7_spoken cX7_spoken 8 (some FieldType.int) ∈ lw_tbl := List.mem_of_getElem? (i := 810) (by rfl)
set_option maxRecDepth 100000 in
theorem m_811 : Cond.methodLink RX7 39 yX2_isKind ∈ lw_tbl := List.mem_of_getElem? (i := 811) (by decide +kernel)
set_option maxRecDepth 100000 in
theorem m_812 : Cond.fieldLink RX7 45 "VeilSteps$Voices" "BODIES" "[I" ∈ lw_tbl := List.mem_of_getElem? (i := 812) (by decide +kernel)
set_option maxRecDepth 100000 in
theorem m_813 : Cond.laysStatic "VeilSteps$Voices" "BODIES" "[I" ∈ lw_tbl := List.mem_of_getElem? (i := 813) (by decide +kernel)
set_option maxRecDepth 100000 in
theorem m_814 : Cond.methodLink RX7 49 yX4_add ∈ lw_tbl := List.mem_of_getElem? (i := 814) (by decide +kernel)
set_option maxRecDepth 100000 in
theorem m_815 : Cond.methodLink RX7 52 yX7_worked ∈ lw_tbl := List.mem_of_getElem? (i := 815) (by decide +kernel)
set_option maxRecDepth 100000 in
theorem m_817 : Cond.instanceMethod yX7_worked ∈ lw_tbl := List.mem_of_getElem? (i := 817) (by decide +kernel)
set_option maxRecDepth 100000 in
theorem m_818 : Cond.code yX7_worked cX7_worked 6 (some FieldType.int) ∈ lw_tbl := List.mem_of_getElem? (i := 818) (by rfl)
set_option maxRecDepth 100000 in
theorem m_819 : Cond.methodLink RX7 55 yX2_above ∈ lw_tbl := List.mem_of_getElem? (i := 819) (by decide +kernel)
set_option maxRecDepth 100000 in
theorem m_820 : Cond.methodLink RX7 59 yX7_own ∈ lw_tbl := List.mem_of_getElem? (i := 820) (by decide +kernel)
set_option maxRecDepth 100000 in
theorem m_822 : Cond.instanceMethod yX7_own ∈ lw_tbl := List.mem_of_getElem? (i := 822) (by decide +kernel)
set_option maxRecDepth 100000 in
theorem m_823 : Cond.code yX7_own cX7_own 4 (some FieldType.int) ∈ lw_tbl := List.mem_of_getElem? (i := 823) (by rfl)
set_option maxRecDepth 100000 in
theorem m_824 : Cond.methodLink RX7 63 yX7_partsBy ∈ lw_tbl := List.mem_of_getElem? (i := 824) (by decide +kernel)
set_option maxRecDepth 100000 in
theorem m_826 : Cond.instanceMethod yX7_partsBy ∈ lw_tbl := List.mem_of_getElem? (i := 826) (by decide +kernel)
set_option maxRecDepth 100000 in
theorem m_827 : Cond.code yX7_partsBy cX7_partsBy 3 (some FieldType.int) ∈ lw_tbl := List.mem_of_getElem? (i := 827) (by rfl)
set_option maxRecDepth 100000 in
theorem m_828 : Cond.methodLink RX7 67 yX7_heiressParts ∈ lw_tbl := List.mem_of_getElem? (i := 828) (by decide +kernel)
set_option maxRecDepth 100000 in
theorem m_830 : Cond.instanceMethod yX7_heiressParts ∈ lw_tbl := List.mem_of_getElem? (i := 830) (by decide +kernel)
set_option maxRecDepth 100000 in
theorem m_831 : Cond.code yX7_heiressParts cX7_heiressParts 5 (some FieldType.int) ∈ lw_tbl := List.mem_of_getElem? (i := 831) (by rfl)
set_option maxRecDepth 100000 in
theorem m_832 : Cond.methodLink RL 132 yX9_body ∈ lw_tbl := List.mem_of_getElem? (i := 832) (by decide +kernel)
set_option maxRecDepth 100000 in
theorem m_833 : Cond.instanceMethod yX9_body ∈ lw_tbl := List.mem_of_getElem? (i := 833) (by decide +kernel)
set_option maxRecDepth 100000 in
theorem m_834 : Cond.selects RX9 yX9_body yX9_body ∈ lw_tbl := List.mem_of_getElem? (i := 834) (by decide +kernel)
set_option maxRecDepth 100000 in
theorem m_835 : Cond.code yX9_body cX9_body 2 (some FieldType.int) ∈ lw_tbl := List.mem_of_getElem? (i := 835) (by rfl)
set_option maxRecDepth 100000 in
theorem m_836 : Cond.methodLink RX9 277 yX4_stands ∈ lw_tbl := List.mem_of_getElem? (i := 836) (by decide +kernel)
set_option maxRecDepth 100000 in
theorem m_837 : Cond.instanceMethod yX4_stands ∈ lw_tbl := List.mem_of_getElem? (i := 837) (by decide +kernel)
set_option maxRecDepth 100000 in
theorem m_838 : Cond.selects RX4 yX4_stands yX4_stands ∈ lw_tbl := List.mem_of_getElem? (i := 838) (by decide +kernel)
set_option maxRecDepth 100000 in
theorem m_839 : Cond.code yX4_stands cX4_stands 2 (some FieldType.boolean) ∈ lw_tbl := List.mem_of_getElem? (i := 839) (by rfl)
set_option maxRecDepth 100000 in
theorem m_840 : Cond.methodLink RX9 280 yX4_at ∈ lw_tbl := List.mem_of_getElem? (i := 840) (by decide +kernel)
set_option maxRecDepth 100000 in
theorem m_841 : Cond.methodLink RL 136 yX9_sheet ∈ lw_tbl := List.mem_of_getElem? (i := 841) (by decide +kernel)
set_option maxRecDepth 100000 in
theorem m_842 : Cond.instanceMethod yX9_sheet ∈ lw_tbl := List.mem_of_getElem? (i := 842) (by decide +kernel)
set_option maxRecDepth 100000 in
theorem m_843 : Cond.selects RX9 yX9_sheet yX9_sheet ∈ lw_tbl := List.mem_of_getElem? (i := 843) (by decide +kernel)
set_option maxRecDepth 100000 in
theorem m_844 : Cond.code yX9_sheet cX9_sheet 4 (some FieldType.int) ∈ lw_tbl := List.mem_of_getElem? (i := 844) (by rfl)
set_option maxRecDepth 100000 in
theorem m_845 : Cond.methodLink RX9 283 yX5_areBits ∈ lw_tbl := List.mem_of_getElem? (i := 845) (by decide +kernel)
set_option maxRecDepth 100000 in
theorem m_846 : Cond.static yX5_areBits ∈ lw_tbl := List.mem_of_getElem? (i := 846) (by decide +kernel)
set_option maxRecDepth 100000 in
theorem m_847 : Cond.code yX5_areBits cX5_areBits 1 (some FieldType.boolean) ∈ lw_tbl := List.mem_of_getElem? (i := 847) (by rfl)
set_option maxRecDepth 100000 in
theorem m_848 : Cond.methodLink RX9 286 yX5_makeNew ∈ lw_tbl := List.mem_of_getElem? (i := 848) (by decide +kernel)
set_option maxRecDepth 100000 in
theorem m_849 : Cond.instanceMethod yX5_makeNew ∈ lw_tbl := List.mem_of_getElem? (i := 849) (by decide +kernel)
set_option maxRecDepth 100000 in
theorem m_850 : Cond.selects RX5 yX5_makeNew yX5_makeNew ∈ lw_tbl := List.mem_of_getElem? (i := 850) (by decide +kernel)
set_option maxRecDepth 100000 in
theorem m_851 : Cond.code yX5_makeNew cX5_makeNew 4 none ∈ lw_tbl := List.mem_of_getElem? (i := 851) (by rfl)
set_option maxRecDepth 100000 in
theorem m_852 : Cond.methodLink RX5 24 yX4_clear ∈ lw_tbl := List.mem_of_getElem? (i := 852) (by decide +kernel)
set_option maxRecDepth 100000 in
theorem m_853 : Cond.methodLink RX5 27 yX4_add ∈ lw_tbl := List.mem_of_getElem? (i := 853) (by decide +kernel)
set_option maxRecDepth 100000 in
theorem m_854 : Cond.methodLink RL 140 yX9_put ∈ lw_tbl := List.mem_of_getElem? (i := 854) (by decide +kernel)
set_option maxRecDepth 100000 in
theorem m_855 : Cond.instanceMethod yX9_put ∈ lw_tbl := List.mem_of_getElem? (i := 855) (by decide +kernel)
set_option maxRecDepth 100000 in
theorem m_856 : Cond.selects RX9 yX9_put yX9_put ∈ lw_tbl := List.mem_of_getElem? (i := 856) (by decide +kernel)
set_option maxRecDepth 100000 in
theorem m_857 : Cond.code yX9_put cX9_put 4 (some FieldType.int) ∈ lw_tbl := List.mem_of_getElem? (i := 857) (by rfl)
set_option maxRecDepth 100000 in
theorem m_858 : Cond.methodLink RX9 289 yX5_write ∈ lw_tbl := List.mem_of_getElem? (i := 858) (by decide +kernel)
set_option maxRecDepth 100000 in
theorem m_859 : Cond.instanceMethod yX5_write ∈ lw_tbl := List.mem_of_getElem? (i := 859) (by decide +kernel)
set_option maxRecDepth 100000 in
theorem m_860 : Cond.selects RX5 yX5_write yX5_write ∈ lw_tbl := List.mem_of_getElem? (i := 860) (by decide +kernel)
set_option maxRecDepth 100000 in
theorem m_861 : Cond.code yX5_write cX5_write 3 none ∈ lw_tbl := List.mem_of_getElem? (i := 861) (by rfl)
set_option maxRecDepth 100000 in
theorem m_862 : Cond.methodLink RX5 30 yX4_write ∈ lw_tbl := List.mem_of_getElem? (i := 862) (by decide +kernel)
set_option maxRecDepth 100000 in
theorem m_863 : Cond.instanceMethod yX4_write ∈ lw_tbl := List.mem_of_getElem? (i := 863) (by decide +kernel)
set_option maxRecDepth 100000 in
theorem m_864 : Cond.selects RX4 yX4_write yX4_write ∈ lw_tbl := List.mem_of_getElem? (i := 864) (by decide +kernel)
set_option maxRecDepth 100000 in
theorem m_865 : Cond.code yX4_write cX4_write 3 none ∈ lw_tbl := List.mem_of_getElem? (i := 865) (by rfl)
set_option maxRecDepth 100000 in
theorem m_866 : Cond.methodLink RX4 23 yX4_stands ∈ lw_tbl := List.mem_of_getElem? (i := 866) (by decide +kernel)
set_option maxRecDepth 100000 in
theorem m_867 : Cond.methodLink RL 144 yX9_move ∈ lw_tbl := List.mem_of_getElem? (i := 867) (by decide +kernel)
set_option maxRecDepth 100000 in
theorem m_868 : Cond.instanceMethod yX9_move ∈ lw_tbl := List.mem_of_getElem? (i := 868) (by decide +kernel)
set_option maxRecDepth 100000 in
theorem m_869 : Cond.selects RX9 yX9_move yX9_move ∈ lw_tbl := List.mem_of_getElem? (i := 869) (by decide +kernel)
set_option maxRecDepth 100000 in
theorem m_870 : Cond.code yX9_move cX9_move 6 (some FieldType.int) ∈ lw_tbl := List.mem_of_getElem? (i := 870) (by rfl)
set_option maxRecDepth 100000 in
theorem m_871 : Cond.methodLink RX9 295 yX4_stand ∈ lw_tbl := List.mem_of_getElem? (i := 871) (by decide +kernel)
set_option maxRecDepth 100000 in
theorem m_872 : Cond.instanceMethod yX4_stand ∈ lw_tbl := List.mem_of_getElem? (i := 872) (by decide +kernel)
set_option maxRecDepth 100000 in
theorem m_873 : Cond.selects RX4 yX4_stand yX4_stand ∈ lw_tbl := List.mem_of_getElem? (i := 873) (by decide +kernel)
set_option maxRecDepth 100000 in
theorem m_874 : Cond.code yX4_stand cX4_stand 3 (some FieldType.boolean) ∈ lw_tbl := List.mem_of_getElem? (i := 874) (by rfl)
set_option maxRecDepth 100000 in
theorem m_875 : Cond.methodLink RX9 298 yX4_take ∈ lw_tbl := List.mem_of_getElem? (i := 875) (by decide +kernel)
set_option maxRecDepth 100000 in
theorem m_876 : Cond.instanceMethod yX4_take ∈ lw_tbl := List.mem_of_getElem? (i := 876) (by decide +kernel)
set_option maxRecDepth 100000 in
theorem m_877 : Cond.selects RX4 yX4_take yX4_take ∈ lw_tbl := List.mem_of_getElem? (i := 877) (by decide +kernel)
set_option maxRecDepth 100000 in
theorem m_878 : Cond.code yX4_take cX4_take 5 none ∈ lw_tbl := List.mem_of_getElem? (i := 878) (by rfl)
set_option maxRecDepth 100000 in
theorem m_879 : Cond.methodLink RX4 36 yX4_stand ∈ lw_tbl := List.mem_of_getElem? (i := 879) (by decide +kernel)
set_option maxRecDepth 100000 in
theorem m_880 : Cond.methodLink RL 149 yX9_seenAll ∈ lw_tbl := List.mem_of_getElem? (i := 880) (by decide +kernel)
set_option maxRecDepth 100000 in
theorem m_881 : Cond.instanceMethod yX9_seenAll ∈ lw_tbl := List.mem_of_getElem? (i := 881) (by decide +kernel)
set_option maxRecDepth 100000 in
theorem m_882 : Cond.selects RX9 yX9_seenAll yX9_seenAll ∈ lw_tbl := List.mem_of_getElem? (i := 882) (by decide +kernel)
set_option maxRecDepth 100000 in
theorem m_883 : Cond.code yX9_seenAll cX9_seenAll 4 (some FieldType.int) ∈ lw_tbl := List.mem_of_getElem? (i := 883) (by rfl)
set_option maxRecDepth 100000 in
theorem m_884 : Cond.methodLink RL 153 yX9_judge ∈ lw_tbl := List.mem_of_getElem? (i := 884) (by decide +kernel)
set_option maxRecDepth 100000 in
theorem m_885 : Cond.instanceMethod yX9_judge ∈ lw_tbl := List.mem_of_getElem? (i := 885) (by decide +kernel)
set_option maxRecDepth 100000 in
theorem m_886 : Cond.selects RX9 yX9_judge yX9_judge ∈ lw_tbl := List.mem_of_getElem? (i := 886) (by decide +kernel)
set_option maxRecDepth 100000 in
theorem m_887 : Cond.code yX9_judge cX9_judge 4 (some FieldType.int) ∈ lw_tbl := List.mem_of_getElem? (i := 887) (by rfl)
set_option maxRecDepth 100000 in
theorem m_888 : Cond.methodLink RL 157 yX9_image ∈ lw_tbl := List.mem_of_getElem? (i := 888) (by decide +kernel)
set_option maxRecDepth 100000 in
theorem m_889 : Cond.instanceMethod yX9_image ∈ lw_tbl := List.mem_of_getElem? (i := 889) (by decide +kernel)
set_option maxRecDepth 100000 in
theorem m_890 : Cond.selects RX9 yX9_image yX9_image ∈ lw_tbl := List.mem_of_getElem? (i := 890) (by decide +kernel)
set_option maxRecDepth 100000 in
theorem m_891 : Cond.code yX9_image cX9_image 1 (some FieldType.int) ∈ lw_tbl := List.mem_of_getElem? (i := 891) (by rfl)
set_option maxRecDepth 100000 in
theorem m_892 : Cond.methodLink RX9 302 yX8_copy ∈ lw_tbl := List.mem_of_getElem? (i := 892) (by decide +kernel)
set_option maxRecDepth 100000 in
theorem m_893 : Cond.instanceMethod yX8_copy ∈ lw_tbl := List.mem_of_getElem? (i := 893) (by decide +kernel)
set_option maxRecDepth 100000 in
theorem m_894 : Cond.selects RX8 yX8_copy yX8_copy ∈ lw_tbl := List.mem_of_getElem? (i := 894) (by decide +kernel)
set_option maxRecDepth 100000 in
theorem m_895 : Cond.code yX8_copy cX8_copy 3 none ∈ lw_tbl := List.mem_of_getElem? (i := 895) (by rfl)
set_option maxRecDepth 100000 in
theorem m_896 : Cond.methodLink RX8 156 yX1_copy ∈ lw_tbl := List.mem_of_getElem? (i := 896) (by decide +kernel)
set_option maxRecDepth 100000 in
theorem m_897 : Cond.instanceMethod yX1_copy ∈ lw_tbl := List.mem_of_getElem? (i := 897) (by decide +kernel)
set_option maxRecDepth 100000 in
theorem m_898 : Cond.selects RX1 yX1_copy yX1_copy ∈ lw_tbl := List.mem_of_getElem? (i := 898) (by decide +kernel)
set_option maxRecDepth 100000 in
theorem m_899 : Cond.code yX1_copy cX1_copy 2 none ∈ lw_tbl := List.mem_of_getElem? (i := 899) (by rfl)
set_option maxRecDepth 100000 in
theorem m_900 : Cond.methodLink RX1 61 arraycopyName ∈ lw_tbl := List.mem_of_getElem? (i := 900) (by decide +kernel)
set_option maxRecDepth 100000 in
theorem m_901 : Cond.methodLink RX8 160 yX0_copy ∈ lw_tbl := List.mem_of_getElem? (i := 901) (by decide +kernel)
set_option maxRecDepth 100000 in
theorem m_902 : Cond.methodLink RX8 163 arraycopyName ∈ lw_tbl := List.mem_of_getElem? (i := 902) (by decide +kernel)
set_option maxRecDepth 100000 in
theorem m_903 : Cond.methodLink RX8 172 yX4_copy ∈ lw_tbl := List.mem_of_getElem? (i := 903) (by decide +kernel)
set_option maxRecDepth 100000 in
theorem m_904 : Cond.methodLink RL 162 yX9_restore ∈ lw_tbl := List.mem_of_getElem? (i := 904) (by decide +kernel)
set_option maxRecDepth 100000 in
theorem m_905 : Cond.instanceMethod yX9_restore ∈ lw_tbl := List.mem_of_getElem? (i := 905) (by decide +kernel)
set_option maxRecDepth 100000 in
theorem m_906 : Cond.selects RX9 yX9_restore yX9_restore ∈ lw_tbl := List.mem_of_getElem? (i := 906) (by decide +kernel)
set_option maxRecDepth 100000 in
theorem m_907 : Cond.code yX9_restore cX9_restore 1 (some FieldType.int) ∈ lw_tbl := List.mem_of_getElem? (i := 907) (by rfl)
set_option maxRecDepth 100000 in
theorem m_908 : Cond.methodLink RL 166 yX9_tell ∈ lw_tbl := List.mem_of_getElem? (i := 908) (by decide +kernel)
set_option maxRecDepth 100000 in
theorem m_909 : Cond.instanceMethod yX9_tell ∈ lw_tbl := List.mem_of_getElem? (i := 909) (by decide +kernel)
set_option maxRecDepth 100000 in
theorem m_910 : Cond.selects RX9 yX9_tell yX9_tell ∈ lw_tbl := List.mem_of_getElem? (i := 910) (by decide +kernel)
set_option maxRecDepth 100000 in
theorem m_911 : Cond.code yX9_tell cX9_tell 2 (some FieldType.int) ∈ lw_tbl := List.mem_of_getElem? (i := 911) (by rfl)
set_option maxRecDepth 100000 in
theorem m_912 : Cond.methodLink RL 170 yX9_check ∈ lw_tbl := List.mem_of_getElem? (i := 912) (by decide +kernel)
set_option maxRecDepth 100000 in
theorem m_913 : Cond.instanceMethod yX9_check ∈ lw_tbl := List.mem_of_getElem? (i := 913) (by decide +kernel)
set_option maxRecDepth 100000 in
theorem m_914 : Cond.selects RX9 yX9_check yX9_check ∈ lw_tbl := List.mem_of_getElem? (i := 914) (by decide +kernel)
set_option maxRecDepth 100000 in
theorem m_915 : Cond.code yX9_check cX9_check 3 (some FieldType.int) ∈ lw_tbl := List.mem_of_getElem? (i := 915) (by rfl)
set_option maxRecDepth 100000 in
theorem m_916 : Cond.methodLink RL 174 yX9_count ∈ lw_tbl := List.mem_of_getElem? (i := 916) (by decide +kernel)
set_option maxRecDepth 100000 in
theorem m_917 : Cond.instanceMethod yX9_count ∈ lw_tbl := List.mem_of_getElem? (i := 917) (by decide +kernel)
set_option maxRecDepth 100000 in
theorem m_918 : Cond.selects RX9 yX9_count yX9_count ∈ lw_tbl := List.mem_of_getElem? (i := 918) (by decide +kernel)
set_option maxRecDepth 100000 in
theorem m_919 : Cond.code yX9_count cX9_count 2 (some FieldType.int) ∈ lw_tbl := List.mem_of_getElem? (i := 919) (by rfl)
set_option maxRecDepth 100000 in
theorem m_920 : Cond.methodLink RL 178 yX9_told ∈ lw_tbl := List.mem_of_getElem? (i := 920) (by decide +kernel)
set_option maxRecDepth 100000 in
theorem m_921 : Cond.instanceMethod yX9_told ∈ lw_tbl := List.mem_of_getElem? (i := 921) (by decide +kernel)
set_option maxRecDepth 100000 in
theorem m_922 : Cond.selects RX9 yX9_told yX9_told ∈ lw_tbl := List.mem_of_getElem? (i := 922) (by decide +kernel)
set_option maxRecDepth 100000 in
theorem m_923 : Cond.code yX9_told cX9_told 2 (some FieldType.int) ∈ lw_tbl := List.mem_of_getElem? (i := 923) (by rfl)
set_option maxRecDepth 100000 in
theorem m_924 : Cond.classLink RL 10 "VeilStepsModel" ∈ lw_tbl := List.mem_of_getElem? (i := 924) (by decide +kernel)
set_option maxRecDepth 100000 in
theorem m_925 : Cond.instantiable RX10 20 ∈ lw_tbl := List.mem_of_getElem? (i := 925) (by decide +kernel)
set_option maxRecDepth 100000 in
theorem m_926 : Cond.methodLink RL 12 yX10_init ∈ lw_tbl := List.mem_of_getElem? (i := 926) (by decide +kernel)
set_option maxRecDepth 100000 in
theorem m_927 : Cond.instanceMethod yX10_init ∈ lw_tbl := List.mem_of_getElem? (i := 927) (by decide +kernel)
set_option maxRecDepth 100000 in
theorem m_928 : Cond.code yX10_init cX10_init 2 none ∈ lw_tbl := List.mem_of_getElem? (i := 928) (by rfl)
set_option maxRecDepth 100000 in
theorem m_929 : Cond.methodLink RX10 3 objectInit ∈ lw_tbl := List.mem_of_getElem? (i := 929) (by decide +kernel)
set_option maxRecDepth 100000 in
theorem m_930 : Cond.fieldLink RX10 9 "VeilStepsModel" "row" "[I" ∈ lw_tbl := List.mem_of_getElem? (i := 930) (by decide +kernel)
set_option maxRecDepth 100000 in
theorem m_931 : Cond.fieldLink RX10 13 "VeilStepsModel" "kept" "[I" ∈ lw_tbl := List.mem_of_getElem? (i := 931) (by decide +kernel)
set_option maxRecDepth 100000 in
theorem m_932 : Cond.fieldLink RX10 16 "VeilStepsModel" "before" "[I" ∈ lw_tbl := List.mem_of_getElem? (i := 932) (by decide +kernel)
set_option maxRecDepth 100000 in
theorem m_933 : Cond.fieldLink RX10 266 "VeilStepsModel" "images" "I" ∈ lw_tbl := List.mem_of_getElem? (i := 933) (by decide +kernel)
set_option maxRecDepth 100000 in
theorem m_934 : Cond.fieldLink RX10 19 "VeilStepsModel" "errors" "[I" ∈ lw_tbl := List.mem_of_getElem? (i := 934) (by decide +kernel)
set_option maxRecDepth 100000 in
theorem m_935 : Cond.fieldLink RX10 22 "VeilStepsModel" "bitsOf" "[I" ∈ lw_tbl := List.mem_of_getElem? (i := 935) (by decide +kernel)
set_option maxRecDepth 100000 in
theorem m_936 : Cond.fieldLink RX10 25 "VeilStepsModel" "sizeOf" "[I" ∈ lw_tbl := List.mem_of_getElem? (i := 936) (by decide +kernel)
set_option maxRecDepth 100000 in
theorem m_937 : Cond.fieldLink RX10 28 "VeilStepsModel" "cells" "[I" ∈ lw_tbl := List.mem_of_getElem? (i := 937) (by decide +kernel)
set_option maxRecDepth 100000 in
theorem m_938 : Cond.fieldLink RX10 31 "VeilStepsModel" "act" "[I" ∈ lw_tbl := List.mem_of_getElem? (i := 938) (by decide +kernel)
set_option maxRecDepth 100000 in
theorem m_939 : Cond.fieldLink RX10 34 "VeilStepsModel" "with" "[I" ∈ lw_tbl := List.mem_of_getElem? (i := 939) (by decide +kernel)
set_option maxRecDepth 100000 in
theorem m_940 : Cond.fieldLink RX10 37 "VeilStepsModel" "facts" "[I" ∈ lw_tbl := List.mem_of_getElem? (i := 940) (by decide +kernel)
set_option maxRecDepth 100000 in
theorem m_941 : Cond.fieldLink RX10 40 "VeilStepsModel" "pile" "[I" ∈ lw_tbl := List.mem_of_getElem? (i := 941) (by decide +kernel)
set_option maxRecDepth 100000 in
theorem m_942 : Cond.fieldLink RX10 124 "VeilStepsModel" "laid" "I" ∈ lw_tbl := List.mem_of_getElem? (i := 942) (by decide +kernel)
set_option maxRecDepth 100000 in
theorem m_943 : Cond.fieldLink RX10 120 "VeilStepsModel" "here" "I" ∈ lw_tbl := List.mem_of_getElem? (i := 943) (by decide +kernel)
set_option maxRecDepth 100000 in
theorem m_944 : Cond.fieldLink RX10 141 "VeilStepsModel" "opened" "I" ∈ lw_tbl := List.mem_of_getElem? (i := 944) (by decide +kernel)
set_option maxRecDepth 100000 in
theorem m_945 : Cond.fieldLink RX10 134 "VeilStepsModel" "bad" "Z" ∈ lw_tbl := List.mem_of_getElem? (i := 945) (by decide +kernel)
set_option maxRecDepth 100000 in
theorem m_946 : Cond.fieldLink RX10 127 "VeilStepsModel" "using" "I" ∈ lw_tbl := List.mem_of_getElem? (i := 946) (by decide +kernel)
set_option maxRecDepth 100000 in
theorem m_947 : Cond.fieldLink RX10 43 "VeilStepsModel" "trace" "[I" ∈ lw_tbl := List.mem_of_getElem? (i := 947) (by decide +kernel)
set_option maxRecDepth 100000 in
theorem m_948 : Cond.fieldLink RX10 219 "VeilStepsModel" "traced" "I" ∈ lw_tbl := List.mem_of_getElem? (i := 948) (by decide +kernel)
set_option maxRecDepth 100000 in
theorem m_949 : Cond.fieldLink RX10 246 "VeilStepsModel" "isParted" "Z" ∈ lw_tbl := List.mem_of_getElem? (i := 949) (by decide +kernel)
set_option maxRecDepth 100000 in
theorem m_950 : Cond.laysFinal RX10 "VeilStepsModel" "row" "[I" ∈ lw_tbl := List.mem_of_getElem? (i := 950) (by decide +kernel)
set_option maxRecDepth 100000 in
theorem m_952 : Cond.laysFinal RX10 "VeilStepsModel" "kept" "[I" ∈ lw_tbl := List.mem_of_getElem? (i := 952) (by decide +kernel)
set_option maxRecDepth 100000 in
theorem m_954 : Cond.laysFinal RX10 "VeilStepsModel" "before" "[I" ∈ lw_tbl := List.mem_of_getElem? (i := 954) (by decide +kernel)
set_option maxRecDepth 100000 in
theorem m_956 : Cond.lays RX10 "VeilStepsModel" "images" "I" ∈ lw_tbl := List.mem_of_getElem? (i := 956) (by decide +kernel)
set_option maxRecDepth 100000 in
theorem m_958 : Cond.laysFinal RX10 "VeilStepsModel" "errors" "[I" ∈ lw_tbl := List.mem_of_getElem? (i := 958) (by decide +kernel)
set_option maxRecDepth 100000 in
theorem m_960 : Cond.laysFinal RX10 "VeilStepsModel" "bitsOf" "[I" ∈ lw_tbl := List.mem_of_getElem? (i := 960) (by decide +kernel)
set_option maxRecDepth 100000 in
theorem m_962 : Cond.laysFinal RX10 "VeilStepsModel" "sizeOf" "[I" ∈ lw_tbl := List.mem_of_getElem? (i := 962) (by decide +kernel)
set_option maxRecDepth 100000 in
theorem m_964 : Cond.laysFinal RX10 "VeilStepsModel" "cells" "[I" ∈ lw_tbl := List.mem_of_getElem? (i := 964) (by decide +kernel)
set_option maxRecDepth 100000 in
theorem m_966 : Cond.laysFinal RX10 "VeilStepsModel" "act" "[I" ∈ lw_tbl := List.mem_of_getElem? (i := 966) (by decide +kernel)
set_option maxRecDepth 100000 in
theorem m_968 : Cond.laysFinal RX10 "VeilStepsModel" "with" "[I" ∈ lw_tbl := List.mem_of_getElem? (i := 968) (by decide +kernel)
set_option maxRecDepth 100000 in
theorem m_970 : Cond.laysFinal RX10 "VeilStepsModel" "facts" "[I" ∈ lw_tbl := List.mem_of_getElem? (i := 970) (by decide +kernel)
set_option maxRecDepth 100000 in
theorem m_972 : Cond.laysFinal RX10 "VeilStepsModel" "pile" "[I" ∈ lw_tbl := List.mem_of_getElem? (i := 972) (by decide +kernel)
set_option maxRecDepth 100000 in
theorem m_974 : Cond.lays RX10 "VeilStepsModel" "laid" "I" ∈ lw_tbl := List.mem_of_getElem? (i := 974) (by decide +kernel)
set_option maxRecDepth 100000 in
theorem m_976 : Cond.lays RX10 "VeilStepsModel" "here" "I" ∈ lw_tbl := List.mem_of_getElem? (i := 976) (by decide +kernel)
set_option maxRecDepth 100000 in
theorem m_978 : Cond.lays RX10 "VeilStepsModel" "opened" "I" ∈ lw_tbl := List.mem_of_getElem? (i := 978) (by decide +kernel)
set_option maxRecDepth 100000 in
theorem m_980 : Cond.lays RX10 "VeilStepsModel" "bad" "Z" ∈ lw_tbl := List.mem_of_getElem? (i := 980) (by decide +kernel)
set_option maxRecDepth 100000 in
theorem m_982 : Cond.lays RX10 "VeilStepsModel" "using" "I" ∈ lw_tbl := List.mem_of_getElem? (i := 982) (by decide +kernel)
set_option maxRecDepth 100000 in
theorem m_984 : Cond.laysFinal RX10 "VeilStepsModel" "trace" "[I" ∈ lw_tbl := List.mem_of_getElem? (i := 984) (by decide +kernel)
set_option maxRecDepth 100000 in
theorem m_986 : Cond.lays RX10 "VeilStepsModel" "traced" "I" ∈ lw_tbl := List.mem_of_getElem? (i := 986) (by decide +kernel)
set_option maxRecDepth 100000 in
theorem m_988 : Cond.lays RX10 "VeilStepsModel" "isParted" "Z" ∈ lw_tbl := List.mem_of_getElem? (i := 988) (by decide +kernel)
set_option maxRecDepth 100000 in
theorem m_991 : Cond.methodLink RL 17 yX10_person ∈ lw_tbl := List.mem_of_getElem? (i := 991) (by decide +kernel)
set_option maxRecDepth 100000 in
theorem m_992 : Cond.instanceMethod yX10_person ∈ lw_tbl := List.mem_of_getElem? (i := 992) (by decide +kernel)
set_option maxRecDepth 100000 in
theorem m_993 : Cond.selects RX10 yX10_person yX10_person ∈ lw_tbl := List.mem_of_getElem? (i := 993) (by decide +kernel)
set_option maxRecDepth 100000 in
theorem m_994 : Cond.code yX10_person cX10_person 4 (some FieldType.int) ∈ lw_tbl := List.mem_of_getElem? (i := 994) (by rfl)
set_option maxRecDepth 100000 in
theorem m_995 : Cond.methodLink RX10 86 yX10_isKm ∈ lw_tbl := List.mem_of_getElem? (i := 995) (by decide +kernel)
set_option maxRecDepth 100000 in
theorem m_996 : Cond.static yX10_isKm ∈ lw_tbl := List.mem_of_getElem? (i := 996) (by decide +kernel)
set_option maxRecDepth 100000 in
theorem m_997 : Cond.code yX10_isKm cX10_isKm 1 (some FieldType.boolean) ∈ lw_tbl := List.mem_of_getElem? (i := 997) (by rfl)
set_option maxRecDepth 100000 in
theorem m_998 : Cond.methodLink RX10 51 yX10_in ∈ lw_tbl := List.mem_of_getElem? (i := 998) (by decide +kernel)
set_option maxRecDepth 100000 in
theorem m_999 : Cond.static yX10_in ∈ lw_tbl := List.mem_of_getElem? (i := 999) (by decide +kernel)
set_option maxRecDepth 100000 in
theorem m_1000 : Cond.code yX10_in cX10_in 3 (some FieldType.boolean) ∈ lw_tbl := List.mem_of_getElem? (i := 1000) (by rfl)
set_option maxRecDepth 100000 in
theorem m_1001 : Cond.constant RX10 90 (-1000000001) ∈ lw_tbl := List.mem_of_getElem? (i := 1001) (by decide +kernel)
set_option maxRecDepth 100000 in
theorem m_1002 : Cond.methodLink RX10 91 yX10_error ∈ lw_tbl := List.mem_of_getElem? (i := 1002) (by decide +kernel)
set_option maxRecDepth 100000 in
theorem m_1004 : Cond.instanceMethod yX10_error ∈ lw_tbl := List.mem_of_getElem? (i := 1004) (by decide +kernel)
set_option maxRecDepth 100000 in
theorem m_1005 : Cond.code yX10_error cX10_error 2 (some FieldType.int) ∈ lw_tbl := List.mem_of_getElem? (i := 1005) (by rfl)
set_option maxRecDepth 100000 in
theorem m_1006 : Cond.constant RX10 46 (-1000000000) ∈ lw_tbl := List.mem_of_getElem? (i := 1006) (by decide +kernel)
set_option maxRecDepth 100000 in
theorem m_1007 : Cond.constant RX10 94 (-1000000004) ∈ lw_tbl := List.mem_of_getElem? (i := 1007) (by decide +kernel)
set_option maxRecDepth 100000 in
theorem m_1008 : Cond.methodLink RX10 95 yX10_puts ∈ lw_tbl := List.mem_of_getElem? (i := 1008) (by decide +kernel)
set_option maxRecDepth 100000 in
theorem m_1010 : Cond.instanceMethod yX10_puts ∈ lw_tbl := List.mem_of_getElem? (i := 1010) (by decide +kernel)
set_option maxRecDepth 100000 in
theorem m_1011 : Cond.code yX10_puts cX10_puts 4 none ∈ lw_tbl := List.mem_of_getElem? (i := 1011) (by rfl)
set_option maxRecDepth 100000 in
theorem m_1012 : Cond.methodLink RL 21 yX10_personIs ∈ lw_tbl := List.mem_of_getElem? (i := 1012) (by decide +kernel)
set_option maxRecDepth 100000 in
theorem m_1013 : Cond.instanceMethod yX10_personIs ∈ lw_tbl := List.mem_of_getElem? (i := 1013) (by decide +kernel)
set_option maxRecDepth 100000 in
theorem m_1014 : Cond.selects RX10 yX10_personIs yX10_personIs ∈ lw_tbl := List.mem_of_getElem? (i := 1014) (by decide +kernel)
set_option maxRecDepth 100000 in
theorem m_1015 : Cond.code yX10_personIs cX10_personIs 3 (some FieldType.int) ∈ lw_tbl := List.mem_of_getElem? (i := 1015) (by rfl)
set_option maxRecDepth 100000 in
theorem m_1016 : Cond.methodLink RX10 99 yX10_isPerson ∈ lw_tbl := List.mem_of_getElem? (i := 1016) (by decide +kernel)
set_option maxRecDepth 100000 in
theorem m_1018 : Cond.instanceMethod yX10_isPerson ∈ lw_tbl := List.mem_of_getElem? (i := 1018) (by decide +kernel)
set_option maxRecDepth 100000 in
theorem m_1019 : Cond.code yX10_isPerson cX10_isPerson 2 (some FieldType.boolean) ∈ lw_tbl := List.mem_of_getElem? (i := 1019) (by rfl)
set_option maxRecDepth 100000 in
theorem m_1020 : Cond.methodLink RX10 55 yX10_of ∈ lw_tbl := List.mem_of_getElem? (i := 1020) (by decide +kernel)
set_option maxRecDepth 100000 in
theorem m_1022 : Cond.instanceMethod yX10_of ∈ lw_tbl := List.mem_of_getElem? (i := 1022) (by decide +kernel)
set_option maxRecDepth 100000 in
theorem m_1023 : Cond.code yX10_of cX10_of 3 (some FieldType.int) ∈ lw_tbl := List.mem_of_getElem? (i := 1023) (by rfl)
set_option maxRecDepth 100000 in
theorem m_1024 : Cond.methodLink RX10 102 yX10_sight ∈ lw_tbl := List.mem_of_getElem? (i := 1024) (by decide +kernel)
set_option maxRecDepth 100000 in
theorem m_1026 : Cond.instanceMethod yX10_sight ∈ lw_tbl := List.mem_of_getElem? (i := 1026) (by decide +kernel)
set_option maxRecDepth 100000 in
theorem m_1027 : Cond.code yX10_sight cX10_sight 2 (some FieldType.int) ∈ lw_tbl := List.mem_of_getElem? (i := 1027) (by rfl)
set_option maxRecDepth 100000 in
theorem m_1028 : Cond.methodLink RX10 83 yX10_eyes ∈ lw_tbl := List.mem_of_getElem? (i := 1028) (by decide +kernel)
set_option maxRecDepth 100000 in
theorem m_1030 : Cond.instanceMethod yX10_eyes ∈ lw_tbl := List.mem_of_getElem? (i := 1030) (by decide +kernel)
set_option maxRecDepth 100000 in
theorem m_1031 : Cond.code yX10_eyes cX10_eyes 2 (some FieldType.int) ∈ lw_tbl := List.mem_of_getElem? (i := 1031) (by rfl)
set_option maxRecDepth 100000 in
theorem m_1032 : Cond.methodLink RX10 70 yX10_relatives ∈ lw_tbl := List.mem_of_getElem? (i := 1032) (by decide +kernel)
set_option maxRecDepth 100000 in
theorem m_1034 : Cond.instanceMethod yX10_relatives ∈ lw_tbl := List.mem_of_getElem? (i := 1034) (by decide +kernel)
set_option maxRecDepth 100000 in
theorem m_1035 : Cond.code yX10_relatives cX10_relatives 2 (some FieldType.int) ∈ lw_tbl := List.mem_of_getElem? (i := 1035) (by rfl)
set_option maxRecDepth 100000 in
theorem m_1036 : Cond.methodLink RX10 63 yX10_besides ∈ lw_tbl := List.mem_of_getElem? (i := 1036) (by decide +kernel)
set_option maxRecDepth 100000 in
theorem m_1038 : Cond.instanceMethod yX10_besides ∈ lw_tbl := List.mem_of_getElem? (i := 1038) (by decide +kernel)
set_option maxRecDepth 100000 in
theorem m_1039 : Cond.code yX10_besides cX10_besides 5 (some FieldType.int) ∈ lw_tbl := List.mem_of_getElem? (i := 1039) (by rfl)
set_option maxRecDepth 100000 in
theorem m_1040 : Cond.methodLink RX10 59 yX10_isKin ∈ lw_tbl := List.mem_of_getElem? (i := 1040) (by decide +kernel)
set_option maxRecDepth 100000 in
theorem m_1042 : Cond.instanceMethod yX10_isKin ∈ lw_tbl := List.mem_of_getElem? (i := 1042) (by decide +kernel)
set_option maxRecDepth 100000 in
theorem m_1043 : Cond.code yX10_isKin cX10_isKin 3 (some FieldType.boolean) ∈ lw_tbl := List.mem_of_getElem? (i := 1043) (by rfl)
set_option maxRecDepth 100000 in
theorem m_1044 : Cond.methodLink RX10 67 yX10_bits ∈ lw_tbl := List.mem_of_getElem? (i := 1044) (by decide +kernel)
set_option maxRecDepth 100000 in
theorem m_1045 : Cond.static yX10_bits ∈ lw_tbl := List.mem_of_getElem? (i := 1045) (by decide +kernel)
set_option maxRecDepth 100000 in
theorem m_1046 : Cond.code yX10_bits cX10_bits 3 (some FieldType.int) ∈ lw_tbl := List.mem_of_getElem? (i := 1046) (by rfl)
set_option maxRecDepth 100000 in
theorem m_1047 : Cond.methodLink RX10 79 yX10_gives ∈ lw_tbl := List.mem_of_getElem? (i := 1047) (by decide +kernel)
set_option maxRecDepth 100000 in
theorem m_1049 : Cond.instanceMethod yX10_gives ∈ lw_tbl := List.mem_of_getElem? (i := 1049) (by decide +kernel)
set_option maxRecDepth 100000 in
theorem m_1050 : Cond.code yX10_gives cX10_gives 6 (some FieldType.int) ∈ lw_tbl := List.mem_of_getElem? (i := 1050) (by rfl)
set_option maxRecDepth 100000 in
theorem m_1051 : Cond.methodLink RX10 176 yX10_works ∈ lw_tbl := List.mem_of_getElem? (i := 1051) (by decide +kernel)
set_option maxRecDepth 100000 in
theorem m_1053 : Cond.instanceMethod yX10_works ∈ lw_tbl := List.mem_of_getElem? (i := 1053) (by decide +kernel)
set_option maxRecDepth 100000 in
theorem m_1054 : Cond.code yX10_works cX10_works 5 (some FieldType.int) ∈ lw_tbl := List.mem_of_getElem? (i := 1054) (by rfl)
set_option maxRecDepth 100000 in
theorem m_1055 : Cond.methodLink RX10 172 yX10_twoOf ∈ lw_tbl := List.mem_of_getElem? (i := 1055) (by decide +kernel)
set_option maxRecDepth 100000 in
theorem m_1056 : Cond.static yX10_twoOf ∈ lw_tbl := List.mem_of_getElem? (i := 1056) (by decide +kernel)
set_option maxRecDepth 100000 in
theorem m_1057 : Cond.code yX10_twoOf cX10_twoOf 3 (some FieldType.int) ∈ lw_tbl := List.mem_of_getElem? (i := 1057) (by rfl)
set_option maxRecDepth 100000 in
theorem m_1058 : Cond.methodLink RX10 179 yX10_held ∈ lw_tbl := List.mem_of_getElem? (i := 1058) (by decide +kernel)
set_option maxRecDepth 100000 in
theorem m_1059 : Cond.static yX10_held ∈ lw_tbl := List.mem_of_getElem? (i := 1059) (by decide +kernel)
set_option maxRecDepth 100000 in
theorem m_1060 : Cond.code yX10_held cX10_held 3 (some FieldType.int) ∈ lw_tbl := List.mem_of_getElem? (i := 1060) (by rfl)
set_option maxRecDepth 100000 in
theorem m_1061 : Cond.methodLink RL 25 yX10_become ∈ lw_tbl := List.mem_of_getElem? (i := 1061) (by decide +kernel)
set_option maxRecDepth 100000 in
theorem m_1062 : Cond.instanceMethod yX10_become ∈ lw_tbl := List.mem_of_getElem? (i := 1062) (by decide +kernel)
set_option maxRecDepth 100000 in
theorem m_1063 : Cond.selects RX10 yX10_become yX10_become ∈ lw_tbl := List.mem_of_getElem? (i := 1063) (by decide +kernel)
set_option maxRecDepth 100000 in
theorem m_1064 : Cond.code yX10_become cX10_become 3 (some FieldType.int) ∈ lw_tbl := List.mem_of_getElem? (i := 1064) (by rfl)
set_option maxRecDepth 100000 in
theorem m_1065 : Cond.methodLink RX10 105 yX10_becomes ∈ lw_tbl := List.mem_of_getElem? (i := 1065) (by decide +kernel)
set_option maxRecDepth 100000 in
theorem m_1067 : Cond.instanceMethod yX10_becomes ∈ lw_tbl := List.mem_of_getElem? (i := 1067) (by decide +kernel)
set_option maxRecDepth 100000 in
theorem m_1068 : Cond.code yX10_becomes cX10_becomes 4 (some FieldType.int) ∈ lw_tbl := List.mem_of_getElem? (i := 1068) (by rfl)
set_option maxRecDepth 100000 in
theorem m_1069 : Cond.methodLink RL 29 yX10_as ∈ lw_tbl := List.mem_of_getElem? (i := 1069) (by decide +kernel)
set_option maxRecDepth 100000 in
theorem m_1070 : Cond.instanceMethod yX10_as ∈ lw_tbl := List.mem_of_getElem? (i := 1070) (by decide +kernel)
set_option maxRecDepth 100000 in
theorem m_1071 : Cond.selects RX10 yX10_as yX10_as ∈ lw_tbl := List.mem_of_getElem? (i := 1071) (by decide +kernel)
set_option maxRecDepth 100000 in
theorem m_1072 : Cond.code yX10_as cX10_as 5 (some FieldType.int) ∈ lw_tbl := List.mem_of_getElem? (i := 1072) (by rfl)
set_option maxRecDepth 100000 in
theorem m_1073 : Cond.constant RX10 108 (-1000000005) ∈ lw_tbl := List.mem_of_getElem? (i := 1073) (by decide +kernel)
set_option maxRecDepth 100000 in
theorem m_1074 : Cond.methodLink RL 33 yX10_descends ∈ lw_tbl := List.mem_of_getElem? (i := 1074) (by decide +kernel)
set_option maxRecDepth 100000 in
theorem m_1075 : Cond.instanceMethod yX10_descends ∈ lw_tbl := List.mem_of_getElem? (i := 1075) (by decide +kernel)
set_option maxRecDepth 100000 in
theorem m_1076 : Cond.selects RX10 yX10_descends yX10_descends ∈ lw_tbl := List.mem_of_getElem? (i := 1076) (by decide +kernel)
set_option maxRecDepth 100000 in
theorem m_1077 : Cond.code yX10_descends cX10_descends 3 (some FieldType.int) ∈ lw_tbl := List.mem_of_getElem? (i := 1077) (by rfl)
set_option maxRecDepth 100000 in
theorem m_1078 : Cond.methodLink RL 37 yX10_marries ∈ lw_tbl := List.mem_of_getElem? (i := 1078) (by decide +kernel)
set_option maxRecDepth 100000 in
theorem m_1079 : Cond.instanceMethod yX10_marries ∈ lw_tbl := List.mem_of_getElem? (i := 1079) (by decide +kernel)
set_option maxRecDepth 100000 in
theorem m_1080 : Cond.selects RX10 yX10_marries yX10_marries ∈ lw_tbl := List.mem_of_getElem? (i := 1080) (by decide +kernel)
set_option maxRecDepth 100000 in
theorem m_1081 : Cond.code yX10_marries cX10_marries 3 (some FieldType.int) ∈ lw_tbl := List.mem_of_getElem? (i := 1081) (by rfl)
set_option maxRecDepth 100000 in
theorem m_1082 : Cond.constant RX10 109 (-1000000003) ∈ lw_tbl := List.mem_of_getElem? (i := 1082) (by decide +kernel)
set_option maxRecDepth 100000 in
theorem m_1083 : Cond.methodLink RX10 110 yX10_weds ∈ lw_tbl := List.mem_of_getElem? (i := 1083) (by decide +kernel)
set_option maxRecDepth 100000 in
theorem m_1085 : Cond.instanceMethod yX10_weds ∈ lw_tbl := List.mem_of_getElem? (i := 1085) (by decide +kernel)
set_option maxRecDepth 100000 in
theorem m_1086 : Cond.code yX10_weds cX10_weds 3 none ∈ lw_tbl := List.mem_of_getElem? (i := 1086) (by rfl)
set_option maxRecDepth 100000 in
theorem m_1087 : Cond.methodLink RL 42 yX10_parts ∈ lw_tbl := List.mem_of_getElem? (i := 1087) (by decide +kernel)
set_option maxRecDepth 100000 in
theorem m_1088 : Cond.instanceMethod yX10_parts ∈ lw_tbl := List.mem_of_getElem? (i := 1088) (by decide +kernel)
set_option maxRecDepth 100000 in
theorem m_1089 : Cond.selects RX10 yX10_parts yX10_parts ∈ lw_tbl := List.mem_of_getElem? (i := 1089) (by decide +kernel)
set_option maxRecDepth 100000 in
theorem m_1090 : Cond.code yX10_parts cX10_parts 3 (some FieldType.int) ∈ lw_tbl := List.mem_of_getElem? (i := 1090) (by rfl)
set_option maxRecDepth 100000 in
theorem m_1091 : Cond.constant RX10 114 (-1000000002) ∈ lw_tbl := List.mem_of_getElem? (i := 1091) (by decide +kernel)
set_option maxRecDepth 100000 in
theorem m_1092 : Cond.methodLink RL 46 yX10_steps ∈ lw_tbl := List.mem_of_getElem? (i := 1092) (by decide +kernel)
set_option maxRecDepth 100000 in
theorem m_1093 : Cond.instanceMethod yX10_steps ∈ lw_tbl := List.mem_of_getElem? (i := 1093) (by decide +kernel)
set_option maxRecDepth 100000 in
theorem m_1094 : Cond.selects RX10 yX10_steps yX10_steps ∈ lw_tbl := List.mem_of_getElem? (i := 1094) (by decide +kernel)
set_option maxRecDepth 100000 in
theorem m_1095 : Cond.code yX10_steps cX10_steps 3 (some FieldType.int) ∈ lw_tbl := List.mem_of_getElem? (i := 1095) (by rfl)
set_option maxRecDepth 100000 in
theorem m_1096 : Cond.methodLink RX10 73 yX10_stepsBy ∈ lw_tbl := List.mem_of_getElem? (i := 1096) (by decide +kernel)
set_option maxRecDepth 100000 in
theorem m_1098 : Cond.instanceMethod yX10_stepsBy ∈ lw_tbl := List.mem_of_getElem? (i := 1098) (by decide +kernel)
set_option maxRecDepth 100000 in
theorem m_1099 : Cond.code yX10_stepsBy cX10_stepsBy 6 (some FieldType.int) ∈ lw_tbl := List.mem_of_getElem? (i := 1099) (by rfl)
set_option maxRecDepth 100000 in
theorem m_1100 : Cond.methodLink RL 50 yX10_lets ∈ lw_tbl := List.mem_of_getElem? (i := 1100) (by decide +kernel)
set_option maxRecDepth 100000 in
theorem m_1101 : Cond.instanceMethod yX10_lets ∈ lw_tbl := List.mem_of_getElem? (i := 1101) (by decide +kernel)
set_option maxRecDepth 100000 in
theorem m_1102 : Cond.selects RX10 yX10_lets yX10_lets ∈ lw_tbl := List.mem_of_getElem? (i := 1102) (by decide +kernel)
set_option maxRecDepth 100000 in
theorem m_1103 : Cond.code yX10_lets cX10_lets 3 (some FieldType.int) ∈ lw_tbl := List.mem_of_getElem? (i := 1103) (by rfl)
set_option maxRecDepth 100000 in
theorem m_1104 : Cond.methodLink RX10 115 yX10_veils ∈ lw_tbl := List.mem_of_getElem? (i := 1104) (by decide +kernel)
set_option maxRecDepth 100000 in
theorem m_1106 : Cond.instanceMethod yX10_veils ∈ lw_tbl := List.mem_of_getElem? (i := 1106) (by decide +kernel)
set_option maxRecDepth 100000 in
theorem m_1107 : Cond.code yX10_veils cX10_veils 4 (some FieldType.int) ∈ lw_tbl := List.mem_of_getElem? (i := 1107) (by rfl)
set_option maxRecDepth 100000 in
theorem m_1108 : Cond.methodLink RX10 76 yX10_letsBy ∈ lw_tbl := List.mem_of_getElem? (i := 1108) (by decide +kernel)
set_option maxRecDepth 100000 in
theorem m_1110 : Cond.instanceMethod yX10_letsBy ∈ lw_tbl := List.mem_of_getElem? (i := 1110) (by decide +kernel)
set_option maxRecDepth 100000 in
theorem m_1111 : Cond.code yX10_letsBy cX10_letsBy 4 (some FieldType.int) ∈ lw_tbl := List.mem_of_getElem? (i := 1111) (by rfl)
set_option maxRecDepth 100000 in
theorem m_1112 : Cond.methodLink RL 55 yX10_meets ∈ lw_tbl := List.mem_of_getElem? (i := 1112) (by decide +kernel)
set_option maxRecDepth 100000 in
theorem m_1113 : Cond.instanceMethod yX10_meets ∈ lw_tbl := List.mem_of_getElem? (i := 1113) (by decide +kernel)
set_option maxRecDepth 100000 in
theorem m_1114 : Cond.selects RX10 yX10_meets yX10_meets ∈ lw_tbl := List.mem_of_getElem? (i := 1114) (by decide +kernel)
set_option maxRecDepth 100000 in
theorem m_1115 : Cond.code yX10_meets cX10_meets 5 (some FieldType.int) ∈ lw_tbl := List.mem_of_getElem? (i := 1115) (by rfl)
set_option maxRecDepth 100000 in
theorem m_1116 : Cond.methodLink RL 59 yX10_trade ∈ lw_tbl := List.mem_of_getElem? (i := 1116) (by decide +kernel)
set_option maxRecDepth 100000 in
theorem m_1117 : Cond.instanceMethod yX10_trade ∈ lw_tbl := List.mem_of_getElem? (i := 1117) (by decide +kernel)
set_option maxRecDepth 100000 in
theorem m_1118 : Cond.selects RX10 yX10_trade yX10_trade ∈ lw_tbl := List.mem_of_getElem? (i := 1118) (by decide +kernel)
set_option maxRecDepth 100000 in
theorem m_1119 : Cond.code yX10_trade cX10_trade 3 (some FieldType.int) ∈ lw_tbl := List.mem_of_getElem? (i := 1119) (by rfl)
set_option maxRecDepth 100000 in
theorem m_1120 : Cond.methodLink RL 66 yX10_feed ∈ lw_tbl := List.mem_of_getElem? (i := 1120) (by decide +kernel)
set_option maxRecDepth 100000 in
theorem m_1121 : Cond.instanceMethod yX10_feed ∈ lw_tbl := List.mem_of_getElem? (i := 1121) (by decide +kernel)
set_option maxRecDepth 100000 in
theorem m_1122 : Cond.selects RX10 yX10_feed yX10_feed ∈ lw_tbl := List.mem_of_getElem? (i := 1122) (by decide +kernel)
set_option maxRecDepth 100000 in
theorem m_1123 : Cond.code yX10_feed cX10_feed 5 (some FieldType.int) ∈ lw_tbl := List.mem_of_getElem? (i := 1123) (by rfl)
set_option maxRecDepth 100000 in
theorem m_1124 : Cond.constantLong RX10 118 255 ∈ lw_tbl := List.mem_of_getElem? (i := 1124) (by decide +kernel)
set_option maxRecDepth 100000 in
theorem m_1125 : Cond.methodLink RL 70 yX10_text ∈ lw_tbl := List.mem_of_getElem? (i := 1125) (by decide +kernel)
set_option maxRecDepth 100000 in
theorem m_1126 : Cond.instanceMethod yX10_text ∈ lw_tbl := List.mem_of_getElem? (i := 1126) (by decide +kernel)
set_option maxRecDepth 100000 in
theorem m_1127 : Cond.selects RX10 yX10_text yX10_text ∈ lw_tbl := List.mem_of_getElem? (i := 1127) (by decide +kernel)
set_option maxRecDepth 100000 in
theorem m_1128 : Cond.code yX10_text cX10_text 4 (some FieldType.int) ∈ lw_tbl := List.mem_of_getElem? (i := 1128) (by rfl)
set_option maxRecDepth 100000 in
theorem m_1129 : Cond.methodLink RX10 147 yX10_any ∈ lw_tbl := List.mem_of_getElem? (i := 1129) (by decide +kernel)
set_option maxRecDepth 100000 in
theorem m_1131 : Cond.instanceMethod yX10_any ∈ lw_tbl := List.mem_of_getElem? (i := 1131) (by decide +kernel)
set_option maxRecDepth 100000 in
theorem m_1132 : Cond.code yX10_any cX10_any 1 none ∈ lw_tbl := List.mem_of_getElem? (i := 1132) (by rfl)
set_option maxRecDepth 100000 in
theorem m_1133 : Cond.methodLink RX10 169 yX10_all ∈ lw_tbl := List.mem_of_getElem? (i := 1133) (by decide +kernel)
set_option maxRecDepth 100000 in
theorem m_1135 : Cond.instanceMethod yX10_all ∈ lw_tbl := List.mem_of_getElem? (i := 1135) (by decide +kernel)
set_option maxRecDepth 100000 in
theorem m_1136 : Cond.code yX10_all cX10_all 1 none ∈ lw_tbl := List.mem_of_getElem? (i := 1136) (by rfl)
set_option maxRecDepth 100000 in
theorem m_1137 : Cond.methodLink RX10 166 yX10_compares ∈ lw_tbl := List.mem_of_getElem? (i := 1137) (by decide +kernel)
set_option maxRecDepth 100000 in
theorem m_1139 : Cond.instanceMethod yX10_compares ∈ lw_tbl := List.mem_of_getElem? (i := 1139) (by decide +kernel)
set_option maxRecDepth 100000 in
theorem m_1140 : Cond.code yX10_compares cX10_compares 2 none ∈ lw_tbl := List.mem_of_getElem? (i := 1140) (by rfl)
set_option maxRecDepth 100000 in
theorem m_1141 : Cond.methodLink RX10 163 yX10_sum ∈ lw_tbl := List.mem_of_getElem? (i := 1141) (by decide +kernel)
set_option maxRecDepth 100000 in
theorem m_1143 : Cond.instanceMethod yX10_sum ∈ lw_tbl := List.mem_of_getElem? (i := 1143) (by decide +kernel)
set_option maxRecDepth 100000 in
theorem m_1144 : Cond.code yX10_sum cX10_sum 2 none ∈ lw_tbl := List.mem_of_getElem? (i := 1144) (by rfl)
set_option maxRecDepth 100000 in
theorem m_1145 : Cond.methodLink RX10 160 yX10_times ∈ lw_tbl := List.mem_of_getElem? (i := 1145) (by decide +kernel)
set_option maxRecDepth 100000 in
theorem m_1147 : Cond.instanceMethod yX10_times ∈ lw_tbl := List.mem_of_getElem? (i := 1147) (by decide +kernel)
set_option maxRecDepth 100000 in
theorem m_1148 : Cond.code yX10_times cX10_times 2 none ∈ lw_tbl := List.mem_of_getElem? (i := 1148) (by rfl)
set_option maxRecDepth 100000 in
theorem m_1149 : Cond.methodLink RX10 144 yX10_one ∈ lw_tbl := List.mem_of_getElem? (i := 1149) (by decide +kernel)
set_option maxRecDepth 100000 in
theorem m_1151 : Cond.instanceMethod yX10_one ∈ lw_tbl := List.mem_of_getElem? (i := 1151) (by decide +kernel)
set_option maxRecDepth 100000 in
theorem m_1152 : Cond.code yX10_one cX10_one 3 none ∈ lw_tbl := List.mem_of_getElem? (i := 1152) (by rfl)
set_option maxRecDepth 100000 in
theorem m_1153 : Cond.methodLink RX10 130 yX10_look ∈ lw_tbl := List.mem_of_getElem? (i := 1153) (by decide +kernel)
set_option maxRecDepth 100000 in
theorem m_1155 : Cond.instanceMethod yX10_look ∈ lw_tbl := List.mem_of_getElem? (i := 1155) (by decide +kernel)
set_option maxRecDepth 100000 in
theorem m_1156 : Cond.code yX10_look cX10_look 1 (some FieldType.int) ∈ lw_tbl := List.mem_of_getElem? (i := 1156) (by rfl)
set_option maxRecDepth 100000 in
theorem m_1157 : Cond.methodLink RX10 150 yX10_nameOf ∈ lw_tbl := List.mem_of_getElem? (i := 1157) (by decide +kernel)
set_option maxRecDepth 100000 in
theorem m_1159 : Cond.instanceMethod yX10_nameOf ∈ lw_tbl := List.mem_of_getElem? (i := 1159) (by decide +kernel)
set_option maxRecDepth 100000 in
theorem m_1160 : Cond.code yX10_nameOf cX10_nameOf 2 (some FieldType.int) ∈ lw_tbl := List.mem_of_getElem? (i := 1160) (by rfl)
set_option maxRecDepth 100000 in
theorem m_1161 : Cond.methodLink RX10 138 yX10_lays ∈ lw_tbl := List.mem_of_getElem? (i := 1161) (by decide +kernel)
set_option maxRecDepth 100000 in
theorem m_1163 : Cond.instanceMethod yX10_lays ∈ lw_tbl := List.mem_of_getElem? (i := 1163) (by decide +kernel)
set_option maxRecDepth 100000 in
theorem m_1164 : Cond.code yX10_lays cX10_lays 3 none ∈ lw_tbl := List.mem_of_getElem? (i := 1164) (by rfl)
set_option maxRecDepth 100000 in
theorem m_1165 : Cond.methodLink RX10 153 yX10_opens ∈ lw_tbl := List.mem_of_getElem? (i := 1165) (by decide +kernel)
set_option maxRecDepth 100000 in
theorem m_1167 : Cond.instanceMethod yX10_opens ∈ lw_tbl := List.mem_of_getElem? (i := 1167) (by decide +kernel)
set_option maxRecDepth 100000 in
theorem m_1168 : Cond.code yX10_opens cX10_opens 2 none ∈ lw_tbl := List.mem_of_getElem? (i := 1168) (by rfl)
set_option maxRecDepth 100000 in
theorem m_1169 : Cond.methodLink RX10 157 yX10_number ∈ lw_tbl := List.mem_of_getElem? (i := 1169) (by decide +kernel)
set_option maxRecDepth 100000 in
theorem m_1171 : Cond.instanceMethod yX10_number ∈ lw_tbl := List.mem_of_getElem? (i := 1171) (by decide +kernel)
set_option maxRecDepth 100000 in
theorem m_1172 : Cond.code yX10_number cX10_number 3 none ∈ lw_tbl := List.mem_of_getElem? (i := 1172) (by rfl)
set_option maxRecDepth 100000 in
theorem m_1173 : Cond.methodLink RL 74 yX10_untell ∈ lw_tbl := List.mem_of_getElem? (i := 1173) (by decide +kernel)
set_option maxRecDepth 100000 in
theorem m_1174 : Cond.instanceMethod yX10_untell ∈ lw_tbl := List.mem_of_getElem? (i := 1174) (by decide +kernel)
set_option maxRecDepth 100000 in
theorem m_1175 : Cond.selects RX10 yX10_untell yX10_untell ∈ lw_tbl := List.mem_of_getElem? (i := 1175) (by decide +kernel)
set_option maxRecDepth 100000 in
theorem m_1176 : Cond.code yX10_untell cX10_untell 2 (some FieldType.int) ∈ lw_tbl := List.mem_of_getElem? (i := 1176) (by rfl)
set_option maxRecDepth 100000 in
theorem m_1177 : Cond.methodLink RL 79 yX10_law ∈ lw_tbl := List.mem_of_getElem? (i := 1177) (by decide +kernel)
set_option maxRecDepth 100000 in
theorem m_1178 : Cond.instanceMethod yX10_law ∈ lw_tbl := List.mem_of_getElem? (i := 1178) (by decide +kernel)
set_option maxRecDepth 100000 in
theorem m_1179 : Cond.selects RX10 yX10_law yX10_law ∈ lw_tbl := List.mem_of_getElem? (i := 1179) (by decide +kernel)
set_option maxRecDepth 100000 in
theorem m_1180 : Cond.code yX10_law cX10_law 5 (some FieldType.int) ∈ lw_tbl := List.mem_of_getElem? (i := 1180) (by rfl)
set_option maxRecDepth 100000 in
theorem m_1181 : Cond.methodLink RL 83 yX10_years ∈ lw_tbl := List.mem_of_getElem? (i := 1181) (by decide +kernel)
set_option maxRecDepth 100000 in
theorem m_1182 : Cond.instanceMethod yX10_years ∈ lw_tbl := List.mem_of_getElem? (i := 1182) (by decide +kernel)
set_option maxRecDepth 100000 in
theorem m_1183 : Cond.selects RX10 yX10_years yX10_years ∈ lw_tbl := List.mem_of_getElem? (i := 1183) (by decide +kernel)
set_option maxRecDepth 100000 in
theorem m_1184 : Cond.code yX10_years cX10_years 2 (some FieldType.int) ∈ lw_tbl := List.mem_of_getElem? (i := 1184) (by rfl)
set_option maxRecDepth 100000 in
theorem m_1185 : Cond.methodLink RX10 185 yX10_goesFor ∈ lw_tbl := List.mem_of_getElem? (i := 1185) (by decide +kernel)
set_option maxRecDepth 100000 in
theorem m_1187 : Cond.instanceMethod yX10_goesFor ∈ lw_tbl := List.mem_of_getElem? (i := 1187) (by decide +kernel)
set_option maxRecDepth 100000 in
theorem m_1188 : Cond.code yX10_goesFor cX10_goesFor 3 none ∈ lw_tbl := List.mem_of_getElem? (i := 1188) (by rfl)
set_option maxRecDepth 100000 in
theorem m_1189 : Cond.methodLink RX10 182 yX10_goes ∈ lw_tbl := List.mem_of_getElem? (i := 1189) (by decide +kernel)
set_option maxRecDepth 100000 in
theorem m_1191 : Cond.instanceMethod yX10_goes ∈ lw_tbl := List.mem_of_getElem? (i := 1191) (by decide +kernel)
set_option maxRecDepth 100000 in
theorem m_1192 : Cond.code yX10_goes cX10_goes 4 none ∈ lw_tbl := List.mem_of_getElem? (i := 1192) (by rfl)
set_option maxRecDepth 100000 in
theorem m_1193 : Cond.methodLink RX10 188 yX10_allSeen ∈ lw_tbl := List.mem_of_getElem? (i := 1193) (by decide +kernel)
set_option maxRecDepth 100000 in
theorem m_1195 : Cond.instanceMethod yX10_allSeen ∈ lw_tbl := List.mem_of_getElem? (i := 1195) (by decide +kernel)
set_option maxRecDepth 100000 in
theorem m_1196 : Cond.code yX10_allSeen cX10_allSeen 3 (some FieldType.int) ∈ lw_tbl := List.mem_of_getElem? (i := 1196) (by rfl)
set_option maxRecDepth 100000 in
theorem m_1197 : Cond.methodLink RL 87 yX10_loose ∈ lw_tbl := List.mem_of_getElem? (i := 1197) (by decide +kernel)
set_option maxRecDepth 100000 in
theorem m_1198 : Cond.instanceMethod yX10_loose ∈ lw_tbl := List.mem_of_getElem? (i := 1198) (by decide +kernel)
set_option maxRecDepth 100000 in
theorem m_1199 : Cond.selects RX10 yX10_loose yX10_loose ∈ lw_tbl := List.mem_of_getElem? (i := 1199) (by decide +kernel)
set_option maxRecDepth 100000 in
theorem m_1200 : Cond.code yX10_loose cX10_loose 3 (some FieldType.int) ∈ lw_tbl := List.mem_of_getElem? (i := 1200) (by rfl)
set_option maxRecDepth 100000 in
theorem m_1201 : Cond.methodLink RX10 195 yX10_drawn ∈ lw_tbl := List.mem_of_getElem? (i := 1201) (by decide +kernel)
set_option maxRecDepth 100000 in
theorem m_1203 : Cond.instanceMethod yX10_drawn ∈ lw_tbl := List.mem_of_getElem? (i := 1203) (by decide +kernel)
set_option maxRecDepth 100000 in
theorem m_1204 : Cond.code yX10_drawn cX10_drawn 2 none ∈ lw_tbl := List.mem_of_getElem? (i := 1204) (by rfl)
set_option maxRecDepth 100000 in
theorem m_1205 : Cond.methodLink RX10 192 yX10_draw ∈ lw_tbl := List.mem_of_getElem? (i := 1205) (by decide +kernel)
set_option maxRecDepth 100000 in
theorem m_1207 : Cond.instanceMethod yX10_draw ∈ lw_tbl := List.mem_of_getElem? (i := 1207) (by decide +kernel)
set_option maxRecDepth 100000 in
theorem m_1208 : Cond.code yX10_draw cX10_draw 1 (some FieldType.int) ∈ lw_tbl := List.mem_of_getElem? (i := 1208) (by rfl)
set_option maxRecDepth 100000 in
theorem m_1209 : Cond.constant RX10 191 1103515245 ∈ lw_tbl := List.mem_of_getElem? (i := 1209) (by decide +kernel)
set_option maxRecDepth 100000 in
theorem m_1210 : Cond.methodLink RL 91 yX10_year ∈ lw_tbl := List.mem_of_getElem? (i := 1210) (by decide +kernel)
set_option maxRecDepth 100000 in
theorem m_1211 : Cond.instanceMethod yX10_year ∈ lw_tbl := List.mem_of_getElem? (i := 1211) (by decide +kernel)
set_option maxRecDepth 100000 in
theorem m_1212 : Cond.selects RX10 yX10_year yX10_year ∈ lw_tbl := List.mem_of_getElem? (i := 1212) (by decide +kernel)
set_option maxRecDepth 100000 in
theorem m_1213 : Cond.code yX10_year cX10_year 2 (some FieldType.int) ∈ lw_tbl := List.mem_of_getElem? (i := 1213) (by rfl)
set_option maxRecDepth 100000 in
theorem m_1214 : Cond.methodLink RL 95 yX10_seed ∈ lw_tbl := List.mem_of_getElem? (i := 1214) (by decide +kernel)
set_option maxRecDepth 100000 in
theorem m_1215 : Cond.instanceMethod yX10_seed ∈ lw_tbl := List.mem_of_getElem? (i := 1215) (by decide +kernel)
set_option maxRecDepth 100000 in
theorem m_1216 : Cond.selects RX10 yX10_seed yX10_seed ∈ lw_tbl := List.mem_of_getElem? (i := 1216) (by decide +kernel)
set_option maxRecDepth 100000 in
theorem m_1217 : Cond.code yX10_seed cX10_seed 2 (some FieldType.int) ∈ lw_tbl := List.mem_of_getElem? (i := 1217) (by rfl)
set_option maxRecDepth 100000 in
theorem m_1218 : Cond.methodLink RL 99 yX10_then ∈ lw_tbl := List.mem_of_getElem? (i := 1218) (by decide +kernel)
set_option maxRecDepth 100000 in
theorem m_1219 : Cond.instanceMethod yX10_then ∈ lw_tbl := List.mem_of_getElem? (i := 1219) (by decide +kernel)
set_option maxRecDepth 100000 in
theorem m_1220 : Cond.selects RX10 yX10_then yX10_then ∈ lw_tbl := List.mem_of_getElem? (i := 1220) (by decide +kernel)
set_option maxRecDepth 100000 in
theorem m_1221 : Cond.code yX10_then cX10_then 4 (some FieldType.int) ∈ lw_tbl := List.mem_of_getElem? (i := 1221) (by rfl)
set_option maxRecDepth 100000 in
theorem m_1222 : Cond.methodLink RX10 198 yX10_thinks ∈ lw_tbl := List.mem_of_getElem? (i := 1222) (by decide +kernel)
set_option maxRecDepth 100000 in
theorem m_1224 : Cond.instanceMethod yX10_thinks ∈ lw_tbl := List.mem_of_getElem? (i := 1224) (by decide +kernel)
set_option maxRecDepth 100000 in
theorem m_1225 : Cond.code yX10_thinks cX10_thinks 1 none ∈ lw_tbl := List.mem_of_getElem? (i := 1225) (by rfl)
set_option maxRecDepth 100000 in
theorem m_1226 : Cond.methodLink RX10 47 yX10_copyAll ∈ lw_tbl := List.mem_of_getElem? (i := 1226) (by decide +kernel)
set_option maxRecDepth 100000 in
theorem m_1227 : Cond.static yX10_copyAll ∈ lw_tbl := List.mem_of_getElem? (i := 1227) (by decide +kernel)
set_option maxRecDepth 100000 in
theorem m_1228 : Cond.code yX10_copyAll cX10_copyAll 3 none ∈ lw_tbl := List.mem_of_getElem? (i := 1228) (by rfl)
set_option maxRecDepth 100000 in
theorem m_1229 : Cond.methodLink RX10 201 yX10_putsBack ∈ lw_tbl := List.mem_of_getElem? (i := 1229) (by decide +kernel)
set_option maxRecDepth 100000 in
theorem m_1231 : Cond.instanceMethod yX10_putsBack ∈ lw_tbl := List.mem_of_getElem? (i := 1231) (by decide +kernel)
set_option maxRecDepth 100000 in
theorem m_1232 : Cond.code yX10_putsBack cX10_putsBack 1 none ∈ lw_tbl := List.mem_of_getElem? (i := 1232) (by rfl)
set_option maxRecDepth 100000 in
theorem m_1233 : Cond.methodLink RL 103 yX10_soonest ∈ lw_tbl := List.mem_of_getElem? (i := 1233) (by decide +kernel)
set_option maxRecDepth 100000 in
theorem m_1234 : Cond.instanceMethod yX10_soonest ∈ lw_tbl := List.mem_of_getElem? (i := 1234) (by decide +kernel)
set_option maxRecDepth 100000 in
theorem m_1235 : Cond.selects RX10 yX10_soonest yX10_soonest ∈ lw_tbl := List.mem_of_getElem? (i := 1235) (by decide +kernel)
set_option maxRecDepth 100000 in
theorem m_1236 : Cond.code yX10_soonest cX10_soonest 4 (some FieldType.int) ∈ lw_tbl := List.mem_of_getElem? (i := 1236) (by rfl)
set_option maxRecDepth 100000 in
theorem m_1237 : Cond.methodLink RL 107 yX10_match ∈ lw_tbl := List.mem_of_getElem? (i := 1237) (by decide +kernel)
set_option maxRecDepth 100000 in
theorem m_1238 : Cond.instanceMethod yX10_match ∈ lw_tbl := List.mem_of_getElem? (i := 1238) (by decide +kernel)
set_option maxRecDepth 100000 in
theorem m_1239 : Cond.selects RX10 yX10_match yX10_match ∈ lw_tbl := List.mem_of_getElem? (i := 1239) (by decide +kernel)
set_option maxRecDepth 100000 in
theorem m_1240 : Cond.code yX10_match cX10_match 9 (some FieldType.int) ∈ lw_tbl := List.mem_of_getElem? (i := 1240) (by rfl)
set_option maxRecDepth 100000 in
theorem m_1241 : Cond.methodLink RL 111 yX10_orderFor ∈ lw_tbl := List.mem_of_getElem? (i := 1241) (by decide +kernel)
set_option maxRecDepth 100000 in
theorem m_1242 : Cond.instanceMethod yX10_orderFor ∈ lw_tbl := List.mem_of_getElem? (i := 1242) (by decide +kernel)
set_option maxRecDepth 100000 in
theorem m_1243 : Cond.selects RX10 yX10_orderFor yX10_orderFor ∈ lw_tbl := List.mem_of_getElem? (i := 1243) (by decide +kernel)
set_option maxRecDepth 100000 in
theorem m_1244 : Cond.code yX10_orderFor cX10_orderFor 6 (some FieldType.int) ∈ lw_tbl := List.mem_of_getElem? (i := 1244) (by rfl)
set_option maxRecDepth 100000 in
theorem m_1245 : Cond.methodLink RX10 204 yX10_seersOf ∈ lw_tbl := List.mem_of_getElem? (i := 1245) (by decide +kernel)
set_option maxRecDepth 100000 in
theorem m_1247 : Cond.instanceMethod yX10_seersOf ∈ lw_tbl := List.mem_of_getElem? (i := 1247) (by decide +kernel)
set_option maxRecDepth 100000 in
theorem m_1248 : Cond.code yX10_seersOf cX10_seersOf 4 (some FieldType.int) ∈ lw_tbl := List.mem_of_getElem? (i := 1248) (by rfl)
set_option maxRecDepth 100000 in
theorem m_1249 : Cond.methodLink RL 115 yX10_seers ∈ lw_tbl := List.mem_of_getElem? (i := 1249) (by decide +kernel)
set_option maxRecDepth 100000 in
theorem m_1250 : Cond.instanceMethod yX10_seers ∈ lw_tbl := List.mem_of_getElem? (i := 1250) (by decide +kernel)
set_option maxRecDepth 100000 in
theorem m_1251 : Cond.selects RX10 yX10_seers yX10_seers ∈ lw_tbl := List.mem_of_getElem? (i := 1251) (by decide +kernel)
set_option maxRecDepth 100000 in
theorem m_1252 : Cond.code yX10_seers cX10_seers 2 (some FieldType.int) ∈ lw_tbl := List.mem_of_getElem? (i := 1252) (by rfl)
set_option maxRecDepth 100000 in
theorem m_1253 : Cond.methodLink RL 119 yX10_witnesses ∈ lw_tbl := List.mem_of_getElem? (i := 1253) (by decide +kernel)
set_option maxRecDepth 100000 in
theorem m_1254 : Cond.instanceMethod yX10_witnesses ∈ lw_tbl := List.mem_of_getElem? (i := 1254) (by decide +kernel)
set_option maxRecDepth 100000 in
theorem m_1255 : Cond.selects RX10 yX10_witnesses yX10_witnesses ∈ lw_tbl := List.mem_of_getElem? (i := 1255) (by decide +kernel)
set_option maxRecDepth 100000 in
theorem m_1256 : Cond.code yX10_witnesses cX10_witnesses 5 (some FieldType.int) ∈ lw_tbl := List.mem_of_getElem? (i := 1256) (by rfl)
set_option maxRecDepth 100000 in
theorem m_1257 : Cond.methodLink RX10 207 yX10_everybody ∈ lw_tbl := List.mem_of_getElem? (i := 1257) (by decide +kernel)
set_option maxRecDepth 100000 in
theorem m_1259 : Cond.instanceMethod yX10_everybody ∈ lw_tbl := List.mem_of_getElem? (i := 1259) (by decide +kernel)
set_option maxRecDepth 100000 in
theorem m_1260 : Cond.code yX10_everybody cX10_everybody 1 (some FieldType.int) ∈ lw_tbl := List.mem_of_getElem? (i := 1260) (by rfl)
set_option maxRecDepth 100000 in
theorem m_1261 : Cond.methodLink RX10 210 yX10_seenBy ∈ lw_tbl := List.mem_of_getElem? (i := 1261) (by decide +kernel)
set_option maxRecDepth 100000 in
theorem m_1263 : Cond.instanceMethod yX10_seenBy ∈ lw_tbl := List.mem_of_getElem? (i := 1263) (by decide +kernel)
set_option maxRecDepth 100000 in
theorem m_1264 : Cond.code yX10_seenBy cX10_seenBy 4 (some FieldType.int) ∈ lw_tbl := List.mem_of_getElem? (i := 1264) (by rfl)
set_option maxRecDepth 100000 in
theorem m_1265 : Cond.methodLink RL 123 yX10_odds ∈ lw_tbl := List.mem_of_getElem? (i := 1265) (by decide +kernel)
set_option maxRecDepth 100000 in
theorem m_1266 : Cond.instanceMethod yX10_odds ∈ lw_tbl := List.mem_of_getElem? (i := 1266) (by decide +kernel)
set_option maxRecDepth 100000 in
theorem m_1267 : Cond.selects RX10 yX10_odds yX10_odds ∈ lw_tbl := List.mem_of_getElem? (i := 1267) (by decide +kernel)
set_option maxRecDepth 100000 in
theorem m_1268 : Cond.code yX10_odds cX10_odds 6 (some FieldType.int) ∈ lw_tbl := List.mem_of_getElem? (i := 1268) (by rfl)
set_option maxRecDepth 100000 in
theorem m_1269 : Cond.methodLink RL 127 yX10_fits ∈ lw_tbl := List.mem_of_getElem? (i := 1269) (by decide +kernel)
set_option maxRecDepth 100000 in
theorem m_1270 : Cond.instanceMethod yX10_fits ∈ lw_tbl := List.mem_of_getElem? (i := 1270) (by decide +kernel)
set_option maxRecDepth 100000 in
theorem m_1271 : Cond.selects RX10 yX10_fits yX10_fits ∈ lw_tbl := List.mem_of_getElem? (i := 1271) (by decide +kernel)
set_option maxRecDepth 100000 in
theorem m_1272 : Cond.code yX10_fits cX10_fits 6 (some FieldType.int) ∈ lw_tbl := List.mem_of_getElem? (i := 1272) (by rfl)
set_option maxRecDepth 100000 in
theorem m_1273 : Cond.methodLink RX10 213 yX10_isSheet ∈ lw_tbl := List.mem_of_getElem? (i := 1273) (by decide +kernel)
set_option maxRecDepth 100000 in
theorem m_1274 : Cond.static yX10_isSheet ∈ lw_tbl := List.mem_of_getElem? (i := 1274) (by decide +kernel)
set_option maxRecDepth 100000 in
theorem m_1275 : Cond.code yX10_isSheet cX10_isSheet 1 (some FieldType.boolean) ∈ lw_tbl := List.mem_of_getElem? (i := 1275) (by rfl)
set_option maxRecDepth 100000 in
theorem m_1276 : Cond.methodLink RX10 216 yX10_isSo ∈ lw_tbl := List.mem_of_getElem? (i := 1276) (by decide +kernel)
set_option maxRecDepth 100000 in
theorem m_1278 : Cond.instanceMethod yX10_isSo ∈ lw_tbl := List.mem_of_getElem? (i := 1278) (by decide +kernel)
set_option maxRecDepth 100000 in
theorem m_1279 : Cond.code yX10_isSo cX10_isSo 5 (some FieldType.boolean) ∈ lw_tbl := List.mem_of_getElem? (i := 1279) (by rfl)
set_option maxRecDepth 100000 in
theorem m_1280 : Cond.methodLink RL 131 yX10_voice ∈ lw_tbl := List.mem_of_getElem? (i := 1280) (by decide +kernel)
set_option maxRecDepth 100000 in
theorem m_1281 : Cond.instanceMethod yX10_voice ∈ lw_tbl := List.mem_of_getElem? (i := 1281) (by decide +kernel)
set_option maxRecDepth 100000 in
theorem m_1282 : Cond.selects RX10 yX10_voice yX10_voice ∈ lw_tbl := List.mem_of_getElem? (i := 1282) (by decide +kernel)
set_option maxRecDepth 100000 in
theorem m_1283 : Cond.code yX10_voice cX10_voice 5 (some FieldType.int) ∈ lw_tbl := List.mem_of_getElem? (i := 1283) (by rfl)
set_option maxRecDepth 100000 in
theorem m_1284 : Cond.methodLink RX10 231 yX10_lowers ∈ lw_tbl := List.mem_of_getElem? (i := 1284) (by decide +kernel)
set_option maxRecDepth 100000 in
theorem m_1286 : Cond.instanceMethod yX10_lowers ∈ lw_tbl := List.mem_of_getElem? (i := 1286) (by decide +kernel)
set_option maxRecDepth 100000 in
theorem m_1287 : Cond.code yX10_lowers cX10_lowers 3 (some FieldType.int) ∈ lw_tbl := List.mem_of_getElem? (i := 1287) (by rfl)
set_option maxRecDepth 100000 in
theorem m_1288 : Cond.methodLink RX10 228 yX10_heiressLowers ∈ lw_tbl := List.mem_of_getElem? (i := 1288) (by decide +kernel)
set_option maxRecDepth 100000 in
theorem m_1290 : Cond.instanceMethod yX10_heiressLowers ∈ lw_tbl := List.mem_of_getElem? (i := 1290) (by decide +kernel)
set_option maxRecDepth 100000 in
theorem m_1291 : Cond.code yX10_heiressLowers cX10_heiressLowers 3 (some FieldType.int) ∈ lw_tbl := List.mem_of_getElem? (i := 1291) (by rfl)
set_option maxRecDepth 100000 in
theorem m_1292 : Cond.methodLink RX10 222 yX10_begins ∈ lw_tbl := List.mem_of_getElem? (i := 1292) (by decide +kernel)
set_option maxRecDepth 100000 in
theorem m_1294 : Cond.instanceMethod yX10_begins ∈ lw_tbl := List.mem_of_getElem? (i := 1294) (by decide +kernel)
set_option maxRecDepth 100000 in
theorem m_1295 : Cond.code yX10_begins cX10_begins 2 none ∈ lw_tbl := List.mem_of_getElem? (i := 1295) (by rfl)
set_option maxRecDepth 100000 in
theorem m_1296 : Cond.methodLink RX10 225 yX10_plainLowers ∈ lw_tbl := List.mem_of_getElem? (i := 1296) (by decide +kernel)
set_option maxRecDepth 100000 in
theorem m_1298 : Cond.instanceMethod yX10_plainLowers ∈ lw_tbl := List.mem_of_getElem? (i := 1298) (by decide +kernel)
set_option maxRecDepth 100000 in
theorem m_1299 : Cond.code yX10_plainLowers cX10_plainLowers 3 (some FieldType.int) ∈ lw_tbl := List.mem_of_getElem? (i := 1299) (by rfl)
set_option maxRecDepth 100000 in
theorem m_1300 : Cond.methodLink RX10 240 yX10_lifts ∈ lw_tbl := List.mem_of_getElem? (i := 1300) (by decide +kernel)
set_option maxRecDepth 100000 in
theorem m_1302 : Cond.instanceMethod yX10_lifts ∈ lw_tbl := List.mem_of_getElem? (i := 1302) (by decide +kernel)
set_option maxRecDepth 100000 in
theorem m_1303 : Cond.code yX10_lifts cX10_lifts 3 (some FieldType.int) ∈ lw_tbl := List.mem_of_getElem? (i := 1303) (by rfl)
set_option maxRecDepth 100000 in
theorem m_1304 : Cond.methodLink RX10 237 yX10_judgeLifts ∈ lw_tbl := List.mem_of_getElem? (i := 1304) (by decide +kernel)
set_option maxRecDepth 100000 in
theorem m_1306 : Cond.instanceMethod yX10_judgeLifts ∈ lw_tbl := List.mem_of_getElem? (i := 1306) (by decide +kernel)
set_option maxRecDepth 100000 in
theorem m_1307 : Cond.code yX10_judgeLifts cX10_judgeLifts 3 (some FieldType.int) ∈ lw_tbl := List.mem_of_getElem? (i := 1307) (by rfl)
set_option maxRecDepth 100000 in
theorem m_1308 : Cond.methodLink RX10 234 yX10_plainLifts ∈ lw_tbl := List.mem_of_getElem? (i := 1308) (by decide +kernel)
set_option maxRecDepth 100000 in
theorem m_1310 : Cond.instanceMethod yX10_plainLifts ∈ lw_tbl := List.mem_of_getElem? (i := 1310) (by decide +kernel)
set_option maxRecDepth 100000 in
theorem m_1311 : Cond.code yX10_plainLifts cX10_plainLifts 3 (some FieldType.int) ∈ lw_tbl := List.mem_of_getElem? (i := 1311) (by rfl)
set_option maxRecDepth 100000 in
theorem m_1312 : Cond.methodLink RX10 252 yX10_looksBy ∈ lw_tbl := List.mem_of_getElem? (i := 1312) (by decide +kernel)
set_option maxRecDepth 100000 in
theorem m_1314 : Cond.instanceMethod yX10_looksBy ∈ lw_tbl := List.mem_of_getElem? (i := 1314) (by decide +kernel)
set_option maxRecDepth 100000 in
theorem m_1315 : Cond.code yX10_looksBy cX10_looksBy 3 (some FieldType.int) ∈ lw_tbl := List.mem_of_getElem? (i := 1315) (by rfl)
set_option maxRecDepth 100000 in
theorem m_1316 : Cond.methodLink RX10 243 yX10_plainLooks ∈ lw_tbl := List.mem_of_getElem? (i := 1316) (by decide +kernel)
set_option maxRecDepth 100000 in
theorem m_1318 : Cond.instanceMethod yX10_plainLooks ∈ lw_tbl := List.mem_of_getElem? (i := 1318) (by decide +kernel)
set_option maxRecDepth 100000 in
theorem m_1319 : Cond.code yX10_plainLooks cX10_plainLooks 3 (some FieldType.int) ∈ lw_tbl := List.mem_of_getElem? (i := 1319) (by rfl)
set_option maxRecDepth 100000 in
theorem m_1320 : Cond.methodLink RX10 255 yX10_partsBy ∈ lw_tbl := List.mem_of_getElem? (i := 1320) (by decide +kernel)
set_option maxRecDepth 100000 in
theorem m_1322 : Cond.instanceMethod yX10_partsBy ∈ lw_tbl := List.mem_of_getElem? (i := 1322) (by decide +kernel)
set_option maxRecDepth 100000 in
theorem m_1323 : Cond.code yX10_partsBy cX10_partsBy 4 (some FieldType.int) ∈ lw_tbl := List.mem_of_getElem? (i := 1323) (by rfl)
set_option maxRecDepth 100000 in
theorem m_1324 : Cond.methodLink RX10 249 yX10_plainParts ∈ lw_tbl := List.mem_of_getElem? (i := 1324) (by decide +kernel)
set_option maxRecDepth 100000 in
theorem m_1326 : Cond.instanceMethod yX10_plainParts ∈ lw_tbl := List.mem_of_getElem? (i := 1326) (by decide +kernel)
set_option maxRecDepth 100000 in
theorem m_1327 : Cond.code yX10_plainParts cX10_plainParts 4 (some FieldType.int) ∈ lw_tbl := List.mem_of_getElem? (i := 1327) (by rfl)
set_option maxRecDepth 100000 in
theorem m_1328 : Cond.constant RX10 258 (-1000000006) ∈ lw_tbl := List.mem_of_getElem? (i := 1328) (by decide +kernel)
set_option maxRecDepth 100000 in
theorem m_1329 : Cond.methodLink RL 135 yX10_body ∈ lw_tbl := List.mem_of_getElem? (i := 1329) (by decide +kernel)
set_option maxRecDepth 100000 in
theorem m_1330 : Cond.instanceMethod yX10_body ∈ lw_tbl := List.mem_of_getElem? (i := 1330) (by decide +kernel)
set_option maxRecDepth 100000 in
theorem m_1331 : Cond.selects RX10 yX10_body yX10_body ∈ lw_tbl := List.mem_of_getElem? (i := 1331) (by decide +kernel)
set_option maxRecDepth 100000 in
theorem m_1332 : Cond.code yX10_body cX10_body 2 (some FieldType.int) ∈ lw_tbl := List.mem_of_getElem? (i := 1332) (by rfl)
set_option maxRecDepth 100000 in
theorem m_1333 : Cond.methodLink RL 139 yX10_sheet ∈ lw_tbl := List.mem_of_getElem? (i := 1333) (by decide +kernel)
set_option maxRecDepth 100000 in
theorem m_1334 : Cond.instanceMethod yX10_sheet ∈ lw_tbl := List.mem_of_getElem? (i := 1334) (by decide +kernel)
set_option maxRecDepth 100000 in
theorem m_1335 : Cond.selects RX10 yX10_sheet yX10_sheet ∈ lw_tbl := List.mem_of_getElem? (i := 1335) (by decide +kernel)
set_option maxRecDepth 100000 in
theorem m_1336 : Cond.code yX10_sheet cX10_sheet 5 (some FieldType.int) ∈ lw_tbl := List.mem_of_getElem? (i := 1336) (by rfl)
set_option maxRecDepth 100000 in
theorem m_1337 : Cond.methodLink RL 143 yX10_put ∈ lw_tbl := List.mem_of_getElem? (i := 1337) (by decide +kernel)
set_option maxRecDepth 100000 in
theorem m_1338 : Cond.instanceMethod yX10_put ∈ lw_tbl := List.mem_of_getElem? (i := 1338) (by decide +kernel)
set_option maxRecDepth 100000 in
theorem m_1339 : Cond.selects RX10 yX10_put yX10_put ∈ lw_tbl := List.mem_of_getElem? (i := 1339) (by decide +kernel)
set_option maxRecDepth 100000 in
theorem m_1340 : Cond.code yX10_put cX10_put 5 (some FieldType.int) ∈ lw_tbl := List.mem_of_getElem? (i := 1340) (by rfl)
set_option maxRecDepth 100000 in
theorem m_1341 : Cond.methodLink RX10 259 yX10_notThere ∈ lw_tbl := List.mem_of_getElem? (i := 1341) (by decide +kernel)
set_option maxRecDepth 100000 in
theorem m_1343 : Cond.instanceMethod yX10_notThere ∈ lw_tbl := List.mem_of_getElem? (i := 1343) (by decide +kernel)
set_option maxRecDepth 100000 in
theorem m_1344 : Cond.code yX10_notThere cX10_notThere 2 (some FieldType.int) ∈ lw_tbl := List.mem_of_getElem? (i := 1344) (by rfl)
set_option maxRecDepth 100000 in
theorem m_1345 : Cond.methodLink RL 148 yX10_move ∈ lw_tbl := List.mem_of_getElem? (i := 1345) (by decide +kernel)
set_option maxRecDepth 100000 in
theorem m_1346 : Cond.instanceMethod yX10_move ∈ lw_tbl := List.mem_of_getElem? (i := 1346) (by decide +kernel)
set_option maxRecDepth 100000 in
theorem m_1347 : Cond.selects RX10 yX10_move yX10_move ∈ lw_tbl := List.mem_of_getElem? (i := 1347) (by decide +kernel)
set_option maxRecDepth 100000 in
theorem m_1348 : Cond.code yX10_move cX10_move 9 (some FieldType.int) ∈ lw_tbl := List.mem_of_getElem? (i := 1348) (by rfl)
set_option maxRecDepth 100000 in
theorem m_1349 : Cond.methodLink RX10 262 yX10_notMoved ∈ lw_tbl := List.mem_of_getElem? (i := 1349) (by decide +kernel)
set_option maxRecDepth 100000 in
theorem m_1351 : Cond.instanceMethod yX10_notMoved ∈ lw_tbl := List.mem_of_getElem? (i := 1351) (by decide +kernel)
set_option maxRecDepth 100000 in
theorem m_1352 : Cond.code yX10_notMoved cX10_notMoved 7 (some FieldType.int) ∈ lw_tbl := List.mem_of_getElem? (i := 1352) (by rfl)
set_option maxRecDepth 100000 in
theorem m_1353 : Cond.methodLink RL 152 yX10_seenAll ∈ lw_tbl := List.mem_of_getElem? (i := 1353) (by decide +kernel)
set_option maxRecDepth 100000 in
theorem m_1354 : Cond.instanceMethod yX10_seenAll ∈ lw_tbl := List.mem_of_getElem? (i := 1354) (by decide +kernel)
set_option maxRecDepth 100000 in
theorem m_1355 : Cond.selects RX10 yX10_seenAll yX10_seenAll ∈ lw_tbl := List.mem_of_getElem? (i := 1355) (by decide +kernel)
set_option maxRecDepth 100000 in
theorem m_1356 : Cond.code yX10_seenAll cX10_seenAll 4 (some FieldType.int) ∈ lw_tbl := List.mem_of_getElem? (i := 1356) (by rfl)
set_option maxRecDepth 100000 in
theorem m_1357 : Cond.methodLink RL 156 yX10_judge ∈ lw_tbl := List.mem_of_getElem? (i := 1357) (by decide +kernel)
set_option maxRecDepth 100000 in
theorem m_1358 : Cond.instanceMethod yX10_judge ∈ lw_tbl := List.mem_of_getElem? (i := 1358) (by decide +kernel)
set_option maxRecDepth 100000 in
theorem m_1359 : Cond.selects RX10 yX10_judge yX10_judge ∈ lw_tbl := List.mem_of_getElem? (i := 1359) (by decide +kernel)
set_option maxRecDepth 100000 in
theorem m_1360 : Cond.code yX10_judge cX10_judge 4 (some FieldType.int) ∈ lw_tbl := List.mem_of_getElem? (i := 1360) (by rfl)
set_option maxRecDepth 100000 in
theorem m_1361 : Cond.methodLink RL 161 yX10_image ∈ lw_tbl := List.mem_of_getElem? (i := 1361) (by decide +kernel)
set_option maxRecDepth 100000 in
theorem m_1362 : Cond.instanceMethod yX10_image ∈ lw_tbl := List.mem_of_getElem? (i := 1362) (by decide +kernel)
set_option maxRecDepth 100000 in
theorem m_1363 : Cond.selects RX10 yX10_image yX10_image ∈ lw_tbl := List.mem_of_getElem? (i := 1363) (by decide +kernel)
set_option maxRecDepth 100000 in
theorem m_1364 : Cond.code yX10_image cX10_image 1 (some FieldType.int) ∈ lw_tbl := List.mem_of_getElem? (i := 1364) (by rfl)
set_option maxRecDepth 100000 in
theorem m_1365 : Cond.methodLink RL 165 yX10_restore ∈ lw_tbl := List.mem_of_getElem? (i := 1365) (by decide +kernel)
set_option maxRecDepth 100000 in
theorem m_1366 : Cond.instanceMethod yX10_restore ∈ lw_tbl := List.mem_of_getElem? (i := 1366) (by decide +kernel)
set_option maxRecDepth 100000 in
theorem m_1367 : Cond.selects RX10 yX10_restore yX10_restore ∈ lw_tbl := List.mem_of_getElem? (i := 1367) (by decide +kernel)
set_option maxRecDepth 100000 in
theorem m_1368 : Cond.code yX10_restore cX10_restore 1 (some FieldType.int) ∈ lw_tbl := List.mem_of_getElem? (i := 1368) (by rfl)
set_option maxRecDepth 100000 in
theorem m_1369 : Cond.methodLink RL 169 yX10_tell ∈ lw_tbl := List.mem_of_getElem? (i := 1369) (by decide +kernel)
set_option maxRecDepth 100000 in
theorem m_1370 : Cond.instanceMethod yX10_tell ∈ lw_tbl := List.mem_of_getElem? (i := 1370) (by decide +kernel)
set_option maxRecDepth 100000 in
theorem m_1371 : Cond.selects RX10 yX10_tell yX10_tell ∈ lw_tbl := List.mem_of_getElem? (i := 1371) (by decide +kernel)
set_option maxRecDepth 100000 in
theorem m_1372 : Cond.code yX10_tell cX10_tell 2 (some FieldType.int) ∈ lw_tbl := List.mem_of_getElem? (i := 1372) (by rfl)
set_option maxRecDepth 100000 in
theorem m_1373 : Cond.methodLink RL 173 yX10_check ∈ lw_tbl := List.mem_of_getElem? (i := 1373) (by decide +kernel)
set_option maxRecDepth 100000 in
theorem m_1374 : Cond.instanceMethod yX10_check ∈ lw_tbl := List.mem_of_getElem? (i := 1374) (by decide +kernel)
set_option maxRecDepth 100000 in
theorem m_1375 : Cond.selects RX10 yX10_check yX10_check ∈ lw_tbl := List.mem_of_getElem? (i := 1375) (by decide +kernel)
set_option maxRecDepth 100000 in
theorem m_1376 : Cond.code yX10_check cX10_check 3 (some FieldType.int) ∈ lw_tbl := List.mem_of_getElem? (i := 1376) (by rfl)
set_option maxRecDepth 100000 in
theorem m_1377 : Cond.methodLink RL 177 yX10_count ∈ lw_tbl := List.mem_of_getElem? (i := 1377) (by decide +kernel)
set_option maxRecDepth 100000 in
theorem m_1378 : Cond.instanceMethod yX10_count ∈ lw_tbl := List.mem_of_getElem? (i := 1378) (by decide +kernel)
set_option maxRecDepth 100000 in
theorem m_1379 : Cond.selects RX10 yX10_count yX10_count ∈ lw_tbl := List.mem_of_getElem? (i := 1379) (by decide +kernel)
set_option maxRecDepth 100000 in
theorem m_1380 : Cond.code yX10_count cX10_count 2 (some FieldType.int) ∈ lw_tbl := List.mem_of_getElem? (i := 1380) (by rfl)
set_option maxRecDepth 100000 in
theorem m_1381 : Cond.methodLink RL 181 yX10_told ∈ lw_tbl := List.mem_of_getElem? (i := 1381) (by decide +kernel)
set_option maxRecDepth 100000 in
theorem m_1382 : Cond.instanceMethod yX10_told ∈ lw_tbl := List.mem_of_getElem? (i := 1382) (by decide +kernel)
set_option maxRecDepth 100000 in
theorem m_1383 : Cond.selects RX10 yX10_told yX10_told ∈ lw_tbl := List.mem_of_getElem? (i := 1383) (by decide +kernel)
set_option maxRecDepth 100000 in
theorem m_1384 : Cond.code yX10_told cX10_told 2 (some FieldType.int) ∈ lw_tbl := List.mem_of_getElem? (i := 1384) (by rfl)
set_option maxRecDepth 100000 in
theorem m_1385 : Cond.constantLong RL 60 4294967295 ∈ lw_tbl := List.mem_of_getElem? (i := 1385) (by decide +kernel)
set_option maxRecDepth 100000 in
theorem m_1386 : Cond.fieldLink RJ0 15 "java/lang/String" "coder" "B" ∈ lw_tbl := List.mem_of_getElem? (i := 1386) (by decide +kernel)
set_option maxRecDepth 100000 in
theorem m_1387 : Cond.fieldLink RJ0 9 "java/lang/String" "value" "[B" ∈ lw_tbl := List.mem_of_getElem? (i := 1387) (by decide +kernel)
