/-! every word of the tables, by its place -/
def z_ok : Cond → Bool
  | .fieldLinkNest .. => true
  | .methodLinkNest .. => true
  | w => goodWord w
/-- the words that a callee takes over from its caller -/
def z_tbl : List Cond := lw_tbl.filter z_ok
theorem z_in {w : Cond} {i : Nat} (h : lw_tbl[i]? = some w) (hg : z_ok w = true) : w ∈ z_tbl := List.mem_filter.mpr ⟨List.mem_of_getElem? h, hg⟩
theorem z_lw {w : Cond} (h : w ∈ z_tbl) : w ∈ lw_tbl := (List.mem_filter.mp h).1
theorem z_okw {w : Cond} (h : w ∈ z_tbl) : z_ok w = true := (List.mem_filter.mp h).2
theorem z_warm {w : Cond} {args a' : Array Value} {s U : State} (hg : z_ok w = true) (hW : s.WarmedH U.vm) (h : w.before args s = true) : w.before a' U = true := by
  cases w with
  | fieldLinkNest a i b n d h0 => exact va_Nw.use rfl (va_Nw.warmF hW (va_Nw.of rfl h))
  | methodLinkNest a i x h0 => exact va_Nw.use rfl (va_Nw.warmM hW (va_Nw.of rfl h))
  | _ => exact word_at hW (good_of_word hg) h
theorem m_0 : Cond.selects RX9 yX9_fail yX9_fail ∈ z_tbl := z_in (i := 0) (by decide +kernel) rfl
theorem m_1 : Cond.selects RX1 yX1_measure yX1_measure ∈ z_tbl := z_in (i := 1) (by decide +kernel) rfl
theorem m_2 : Cond.selects RX1 yX1_link yX1_link ∈ z_tbl := z_in (i := 2) (by decide +kernel) rfl
theorem m_3 : Cond.selects RX1 yX1_shortenBy yX1_shortenBy ∈ z_tbl := z_in (i := 3) (by decide +kernel) rfl
theorem m_4 : Cond.selects RX3 yX3_readsLevel yX3_readsLevel ∈ z_tbl := z_in (i := 4) (by decide +kernel) rfl
theorem m_5 : Cond.selects RX3 yX3_readsUnit yX3_readsUnit ∈ z_tbl := z_in (i := 5) (by decide +kernel) rfl
theorem m_6 : Cond.selects RX3 yX3_readNumber yX3_readNumber ∈ z_tbl := z_in (i := 6) (by decide +kernel) rfl
theorem m_7 : Cond.selects RX3 yX3_readsDenied yX3_readsDenied ∈ z_tbl := z_in (i := 7) (by decide +kernel) rfl
theorem m_8 : Cond.selects RX3 yX3_readsClosed yX3_readsClosed ∈ z_tbl := z_in (i := 8) (by decide +kernel) rfl
theorem m_9 : Cond.selects RX8 yX8_passYear yX8_passYear ∈ z_tbl := z_in (i := 9) (by decide +kernel) rfl
theorem m_10 : Cond.selects RX8 yX8_draw yX8_draw ∈ z_tbl := z_in (i := 10) (by decide +kernel) rfl
theorem m_11 : Cond.selects RX1 yX1_byMarriage yX1_byMarriage ∈ z_tbl := z_in (i := 11) (by decide +kernel) rfl
theorem m_12 : Cond.selects RX8 yX8_wouldLet yX8_wouldLet ∈ z_tbl := z_in (i := 12) (by decide +kernel) rfl
theorem m_13 : Cond.selects RX7 yX7_spoken yX7_spoken ∈ z_tbl := z_in (i := 13) (by decide +kernel) rfl
theorem m_14 : Cond.selects RX7 yX7_worked yX7_worked ∈ z_tbl := z_in (i := 14) (by decide +kernel) rfl
theorem m_15 : Cond.selects RX7 yX7_own yX7_own ∈ z_tbl := z_in (i := 15) (by decide +kernel) rfl
theorem m_16 : Cond.selects RX7 yX7_partsBy yX7_partsBy ∈ z_tbl := z_in (i := 16) (by decide +kernel) rfl
theorem m_17 : Cond.selects RX7 yX7_heiressParts yX7_heiressParts ∈ z_tbl := z_in (i := 17) (by decide +kernel) rfl
theorem m_18 : Cond.selects RX10 yX10_error yX10_error ∈ z_tbl := z_in (i := 18) (by decide +kernel) rfl
theorem m_19 : Cond.selects RX10 yX10_puts yX10_puts ∈ z_tbl := z_in (i := 19) (by decide +kernel) rfl
theorem m_20 : Cond.selects RX10 yX10_isPerson yX10_isPerson ∈ z_tbl := z_in (i := 20) (by decide +kernel) rfl
theorem m_21 : Cond.selects RX10 yX10_of yX10_of ∈ z_tbl := z_in (i := 21) (by decide +kernel) rfl
theorem m_22 : Cond.selects RX10 yX10_sight yX10_sight ∈ z_tbl := z_in (i := 22) (by decide +kernel) rfl
theorem m_23 : Cond.selects RX10 yX10_eyes yX10_eyes ∈ z_tbl := z_in (i := 23) (by decide +kernel) rfl
theorem m_24 : Cond.selects RX10 yX10_relatives yX10_relatives ∈ z_tbl := z_in (i := 24) (by decide +kernel) rfl
theorem m_25 : Cond.selects RX10 yX10_besides yX10_besides ∈ z_tbl := z_in (i := 25) (by decide +kernel) rfl
theorem m_26 : Cond.selects RX10 yX10_isKin yX10_isKin ∈ z_tbl := z_in (i := 26) (by decide +kernel) rfl
theorem m_27 : Cond.selects RX10 yX10_gives yX10_gives ∈ z_tbl := z_in (i := 27) (by decide +kernel) rfl
theorem m_28 : Cond.selects RX10 yX10_works yX10_works ∈ z_tbl := z_in (i := 28) (by decide +kernel) rfl
theorem m_29 : Cond.selects RX10 yX10_becomes yX10_becomes ∈ z_tbl := z_in (i := 29) (by decide +kernel) rfl
theorem m_30 : Cond.selects RX10 yX10_weds yX10_weds ∈ z_tbl := z_in (i := 30) (by decide +kernel) rfl
theorem m_31 : Cond.selects RX10 yX10_stepsBy yX10_stepsBy ∈ z_tbl := z_in (i := 31) (by decide +kernel) rfl
theorem m_32 : Cond.selects RX10 yX10_veils yX10_veils ∈ z_tbl := z_in (i := 32) (by decide +kernel) rfl
theorem m_33 : Cond.selects RX10 yX10_letsBy yX10_letsBy ∈ z_tbl := z_in (i := 33) (by decide +kernel) rfl
theorem m_34 : Cond.selects RX10 yX10_any yX10_any ∈ z_tbl := z_in (i := 34) (by decide +kernel) rfl
theorem m_35 : Cond.selects RX10 yX10_all yX10_all ∈ z_tbl := z_in (i := 35) (by decide +kernel) rfl
theorem m_36 : Cond.selects RX10 yX10_compares yX10_compares ∈ z_tbl := z_in (i := 36) (by decide +kernel) rfl
theorem m_37 : Cond.selects RX10 yX10_sum yX10_sum ∈ z_tbl := z_in (i := 37) (by decide +kernel) rfl
theorem m_38 : Cond.selects RX10 yX10_times yX10_times ∈ z_tbl := z_in (i := 38) (by decide +kernel) rfl
theorem m_39 : Cond.selects RX10 yX10_one yX10_one ∈ z_tbl := z_in (i := 39) (by decide +kernel) rfl
theorem m_40 : Cond.selects RX10 yX10_look yX10_look ∈ z_tbl := z_in (i := 40) (by decide +kernel) rfl
theorem m_41 : Cond.selects RX10 yX10_nameOf yX10_nameOf ∈ z_tbl := z_in (i := 41) (by decide +kernel) rfl
theorem m_42 : Cond.selects RX10 yX10_lays yX10_lays ∈ z_tbl := z_in (i := 42) (by decide +kernel) rfl
theorem m_43 : Cond.selects RX10 yX10_opens yX10_opens ∈ z_tbl := z_in (i := 43) (by decide +kernel) rfl
theorem m_44 : Cond.selects RX10 yX10_number yX10_number ∈ z_tbl := z_in (i := 44) (by decide +kernel) rfl
theorem m_45 : Cond.selects RX10 yX10_goesFor yX10_goesFor ∈ z_tbl := z_in (i := 45) (by decide +kernel) rfl
theorem m_46 : Cond.selects RX10 yX10_goes yX10_goes ∈ z_tbl := z_in (i := 46) (by decide +kernel) rfl
theorem m_47 : Cond.selects RX10 yX10_allSeen yX10_allSeen ∈ z_tbl := z_in (i := 47) (by decide +kernel) rfl
theorem m_48 : Cond.selects RX10 yX10_drawn yX10_drawn ∈ z_tbl := z_in (i := 48) (by decide +kernel) rfl
theorem m_49 : Cond.selects RX10 yX10_draw yX10_draw ∈ z_tbl := z_in (i := 49) (by decide +kernel) rfl
theorem m_50 : Cond.selects RX10 yX10_thinks yX10_thinks ∈ z_tbl := z_in (i := 50) (by decide +kernel) rfl
theorem m_51 : Cond.selects RX10 yX10_putsBack yX10_putsBack ∈ z_tbl := z_in (i := 51) (by decide +kernel) rfl
theorem m_52 : Cond.selects RX10 yX10_seersOf yX10_seersOf ∈ z_tbl := z_in (i := 52) (by decide +kernel) rfl
theorem m_53 : Cond.selects RX10 yX10_everybody yX10_everybody ∈ z_tbl := z_in (i := 53) (by decide +kernel) rfl
theorem m_54 : Cond.selects RX10 yX10_seenBy yX10_seenBy ∈ z_tbl := z_in (i := 54) (by decide +kernel) rfl
theorem m_55 : Cond.selects RX10 yX10_isSo yX10_isSo ∈ z_tbl := z_in (i := 55) (by decide +kernel) rfl
theorem m_56 : Cond.selects RX10 yX10_lowers yX10_lowers ∈ z_tbl := z_in (i := 56) (by decide +kernel) rfl
theorem m_57 : Cond.selects RX10 yX10_heiressLowers yX10_heiressLowers ∈ z_tbl := z_in (i := 57) (by decide +kernel) rfl
theorem m_58 : Cond.selects RX10 yX10_begins yX10_begins ∈ z_tbl := z_in (i := 58) (by decide +kernel) rfl
theorem m_59 : Cond.selects RX10 yX10_plainLowers yX10_plainLowers ∈ z_tbl := z_in (i := 59) (by decide +kernel) rfl
theorem m_60 : Cond.selects RX10 yX10_lifts yX10_lifts ∈ z_tbl := z_in (i := 60) (by decide +kernel) rfl
theorem m_61 : Cond.selects RX10 yX10_judgeLifts yX10_judgeLifts ∈ z_tbl := z_in (i := 61) (by decide +kernel) rfl
theorem m_62 : Cond.selects RX10 yX10_plainLifts yX10_plainLifts ∈ z_tbl := z_in (i := 62) (by decide +kernel) rfl
theorem m_63 : Cond.selects RX10 yX10_looksBy yX10_looksBy ∈ z_tbl := z_in (i := 63) (by decide +kernel) rfl
theorem m_64 : Cond.selects RX10 yX10_plainLooks yX10_plainLooks ∈ z_tbl := z_in (i := 64) (by decide +kernel) rfl
theorem m_65 : Cond.selects RX10 yX10_partsBy yX10_partsBy ∈ z_tbl := z_in (i := 65) (by decide +kernel) rfl
theorem m_66 : Cond.selects RX10 yX10_plainParts yX10_plainParts ∈ z_tbl := z_in (i := 66) (by decide +kernel) rfl
theorem m_67 : Cond.selects RX10 yX10_notThere yX10_notThere ∈ z_tbl := z_in (i := 67) (by decide +kernel) rfl
theorem m_68 : Cond.selects RX10 yX10_notMoved yX10_notMoved ∈ z_tbl := z_in (i := 68) (by decide +kernel) rfl
theorem m_69 : Cond.initialized RL ∈ z_tbl := z_in (i := 69) (by decide +kernel) rfl
theorem m_70 : Cond.initialized RX9 ∈ z_tbl := z_in (i := 70) (by decide +kernel) rfl
theorem m_71 : Cond.initialized RX8 ∈ z_tbl := z_in (i := 71) (by decide +kernel) rfl
theorem m_72 : Cond.initialized RX1 ∈ z_tbl := z_in (i := 72) (by decide +kernel) rfl
theorem m_73 : Cond.initialized RX0 ∈ z_tbl := z_in (i := 73) (by decide +kernel) rfl
theorem m_74 : Cond.initialized RX6 ∈ z_tbl := z_in (i := 74) (by decide +kernel) rfl
theorem m_75 : Cond.initialized RX4 ∈ z_tbl := z_in (i := 75) (by decide +kernel) rfl
theorem m_76 : Cond.initialized RJ9 ∈ z_tbl := z_in (i := 76) (by decide +kernel) rfl
theorem m_77 : Cond.initialized RX3 ∈ z_tbl := z_in (i := 77) (by decide +kernel) rfl
theorem m_78 : Cond.initialized RX7 ∈ z_tbl := z_in (i := 78) (by decide +kernel) rfl
theorem m_79 : Cond.initialized RX5 ∈ z_tbl := z_in (i := 79) (by decide +kernel) rfl
theorem m_80 : Cond.initialized RX10 ∈ z_tbl := z_in (i := 80) (by decide +kernel) rfl
theorem m_81 : Cond.initialized RX2 ∈ z_tbl := z_in (i := 81) (by decide +kernel) rfl
theorem m_82 : Cond.initialized RJ0 ∈ z_tbl := z_in (i := 82) (by decide +kernel) rfl
theorem m_83 : Cond.initialized RJ1 ∈ z_tbl := z_in (i := 83) (by decide +kernel) rfl
theorem m_84 : Cond.initialized RJ2 ∈ z_tbl := z_in (i := 84) (by decide +kernel) rfl
theorem m_85 : Cond.initialized RJ3 ∈ z_tbl := z_in (i := 85) (by decide +kernel) rfl
theorem m_86 : Cond.initialized RJ11 ∈ z_tbl := z_in (i := 86) (by decide +kernel) rfl
theorem m_87 : Cond.initialized RJ10 ∈ z_tbl := z_in (i := 87) (by decide +kernel) rfl
theorem m_88 : Cond.initialized RJ6 ∈ z_tbl := z_in (i := 88) (by decide +kernel) rfl
theorem m_89 : Cond.classLink RL 7 "VeilSteps" ∈ z_tbl := z_in (i := 89) (by decide +kernel) rfl
theorem m_90 : Cond.instantiable RX9 8 ∈ z_tbl := z_in (i := 90) (by decide +kernel) rfl
theorem m_91 : Cond.methodLink RL 9 yX9_init ∈ z_tbl := z_in (i := 91) (by decide +kernel) rfl
theorem m_92 : Cond.instanceMethod yX9_init ∈ z_tbl := z_in (i := 92) (by decide +kernel) rfl
set_option maxRecDepth 100000 in
theorem m_93 : Cond.code yX9_init cX9_init 2 none ∈ z_tbl := z_in (i := 93) (by rfl) rfl
theorem m_94 : Cond.methodLink RX9 1 objectInit ∈ z_tbl := z_in (i := 94) (by decide +kernel) rfl
theorem m_95 : Cond.instanceMethod objectInit ∈ z_tbl := z_in (i := 95) (by decide +kernel) rfl
set_option maxRecDepth 100000 in
theorem m_96 : Cond.code objectInit object_method_1_code 1 none ∈ z_tbl := z_in (i := 96) (by rfl) rfl
theorem m_97 : Cond.classLink RX9 7 "VeilSteps$World" ∈ z_tbl := z_in (i := 97) (by decide +kernel) rfl
theorem m_98 : Cond.instantiable RX8 8 ∈ z_tbl := z_in (i := 98) (by decide +kernel) rfl
theorem m_99 : Cond.methodLink RX9 9 yX8_init ∈ z_tbl := z_in (i := 99) (by decide +kernel) rfl
theorem m_100 : Cond.instanceMethod yX8_init ∈ z_tbl := z_in (i := 100) (by decide +kernel) rfl
set_option maxRecDepth 100000 in
theorem m_101 : Cond.code yX8_init cX8_init 2 none ∈ z_tbl := z_in (i := 101) (by rfl) rfl
theorem m_102 : Cond.methodLink RX8 3 objectInit ∈ z_tbl := z_in (i := 102) (by decide +kernel) rfl
theorem m_103 : Cond.classLink RX8 9 "VeilSteps$Kin" ∈ z_tbl := z_in (i := 103) (by decide +kernel) rfl
theorem m_104 : Cond.instantiable RX1 6 ∈ z_tbl := z_in (i := 104) (by decide +kernel) rfl
theorem m_105 : Cond.methodLink RX8 11 yX1_init ∈ z_tbl := z_in (i := 105) (by decide +kernel) rfl
theorem m_106 : Cond.instanceMethod yX1_init ∈ z_tbl := z_in (i := 106) (by decide +kernel) rfl
set_option maxRecDepth 100000 in
theorem m_107 : Cond.code yX1_init cX1_init 1 none ∈ z_tbl := z_in (i := 107) (by rfl) rfl
theorem m_108 : Cond.methodLink RX1 3 objectInit ∈ z_tbl := z_in (i := 108) (by decide +kernel) rfl
theorem m_109 : Cond.fieldLink RX1 9 "VeilSteps$Kin" "count" "I" ∈ z_tbl := z_in (i := 109) (by decide +kernel) rfl
theorem m_110 : Cond.fieldLinkNest RX9 69 "VeilSteps$Kin" "count" "I" "VeilSteps" ∈ z_tbl := z_in (i := 110) (by decide +kernel) rfl
theorem m_111 : Cond.fieldLinkNest RX8 136 "VeilSteps$Kin" "count" "I" "VeilSteps" ∈ z_tbl := z_in (i := 111) (by decide +kernel) rfl
theorem m_112 : Cond.fieldLink RX1 15 "VeilSteps$Kin" "kind" "[I" ∈ z_tbl := z_in (i := 112) (by decide +kernel) rfl
theorem m_113 : Cond.fieldLinkNest RX8 75 "VeilSteps$Kin" "kind" "[I" "VeilSteps" ∈ z_tbl := z_in (i := 113) (by decide +kernel) rfl
theorem m_114 : Cond.fieldLinkNest RX9 85 "VeilSteps$Kin" "kind" "[I" "VeilSteps" ∈ z_tbl := z_in (i := 114) (by decide +kernel) rfl
theorem m_115 : Cond.fieldLink RX1 19 "VeilSteps$Kin" "m" "[I" ∈ z_tbl := z_in (i := 115) (by decide +kernel) rfl
theorem m_116 : Cond.fieldLinkNest RX8 78 "VeilSteps$Kin" "m" "[I" "VeilSteps" ∈ z_tbl := z_in (i := 116) (by decide +kernel) rfl
theorem m_117 : Cond.fieldLinkNest RX9 88 "VeilSteps$Kin" "m" "[I" "VeilSteps" ∈ z_tbl := z_in (i := 117) (by decide +kernel) rfl
theorem m_118 : Cond.fieldLink RX1 22 "VeilSteps$Kin" "parent" "[I" ∈ z_tbl := z_in (i := 118) (by decide +kernel) rfl
theorem m_119 : Cond.fieldLinkNest RX9 91 "VeilSteps$Kin" "parent" "[I" "VeilSteps" ∈ z_tbl := z_in (i := 119) (by decide +kernel) rfl
theorem m_120 : Cond.fieldLinkNest RX8 139 "VeilSteps$Kin" "parent" "[I" "VeilSteps" ∈ z_tbl := z_in (i := 120) (by decide +kernel) rfl
theorem m_121 : Cond.fieldLink RX1 25 "VeilSteps$Kin" "spouse" "[I" ∈ z_tbl := z_in (i := 121) (by decide +kernel) rfl
theorem m_122 : Cond.fieldLinkNest RX9 94 "VeilSteps$Kin" "spouse" "[I" "VeilSteps" ∈ z_tbl := z_in (i := 122) (by decide +kernel) rfl
theorem m_123 : Cond.fieldLink RX1 28 "VeilSteps$Kin" "measured" "[I" ∈ z_tbl := z_in (i := 123) (by decide +kernel) rfl
theorem m_124 : Cond.lays RX1 "VeilSteps$Kin" "count" "I" ∈ z_tbl := z_in (i := 124) (by decide +kernel) rfl
theorem m_126 : Cond.laysFinal RX1 "VeilSteps$Kin" "kind" "[I" ∈ z_tbl := z_in (i := 126) (by decide +kernel) rfl
theorem m_128 : Cond.laysFinal RX1 "VeilSteps$Kin" "m" "[I" ∈ z_tbl := z_in (i := 128) (by decide +kernel) rfl
theorem m_130 : Cond.laysFinal RX1 "VeilSteps$Kin" "parent" "[I" ∈ z_tbl := z_in (i := 130) (by decide +kernel) rfl
theorem m_132 : Cond.laysFinal RX1 "VeilSteps$Kin" "spouse" "[I" ∈ z_tbl := z_in (i := 132) (by decide +kernel) rfl
theorem m_134 : Cond.laysFinal RX1 "VeilSteps$Kin" "measured" "[I" ∈ z_tbl := z_in (i := 134) (by decide +kernel) rfl
theorem m_137 : Cond.arrayClass FieldType.int ∈ z_tbl := z_in (i := 137) (by decide +kernel) rfl
theorem m_138 : Cond.classLink RX8 18 "VeilSteps$Course" ∈ z_tbl := z_in (i := 138) (by decide +kernel) rfl
theorem m_139 : Cond.instantiable RX0 4 ∈ z_tbl := z_in (i := 139) (by decide +kernel) rfl
theorem m_140 : Cond.methodLink RX8 20 yX0_init ∈ z_tbl := z_in (i := 140) (by decide +kernel) rfl
theorem m_141 : Cond.instanceMethod yX0_init ∈ z_tbl := z_in (i := 141) (by decide +kernel) rfl
set_option maxRecDepth 100000 in
theorem m_142 : Cond.code yX0_init cX0_init 1 none ∈ z_tbl := z_in (i := 142) (by rfl) rfl
theorem m_143 : Cond.methodLink RX0 3 objectInit ∈ z_tbl := z_in (i := 143) (by decide +kernel) rfl
theorem m_144 : Cond.fieldLink RX0 9 "VeilSteps$Course" "year" "I" ∈ z_tbl := z_in (i := 144) (by decide +kernel) rfl
theorem m_145 : Cond.fieldLinkNest RX8 86 "VeilSteps$Course" "year" "I" "VeilSteps" ∈ z_tbl := z_in (i := 145) (by decide +kernel) rfl
theorem m_146 : Cond.fieldLinkNest RX9 197 "VeilSteps$Course" "year" "I" "VeilSteps" ∈ z_tbl := z_in (i := 146) (by decide +kernel) rfl
theorem m_147 : Cond.fieldLink RX0 15 "VeilSteps$Course" "cloth" "I" ∈ z_tbl := z_in (i := 147) (by decide +kernel) rfl
theorem m_148 : Cond.fieldLinkNest RX8 100 "VeilSteps$Course" "cloth" "I" "VeilSteps" ∈ z_tbl := z_in (i := 148) (by decide +kernel) rfl
theorem m_149 : Cond.fieldLinkNest RX9 149 "VeilSteps$Course" "cloth" "I" "VeilSteps" ∈ z_tbl := z_in (i := 149) (by decide +kernel) rfl
theorem m_150 : Cond.fieldLink RX0 18 "VeilSteps$Course" "order" "I" ∈ z_tbl := z_in (i := 150) (by decide +kernel) rfl
theorem m_151 : Cond.fieldLinkNest RX8 125 "VeilSteps$Course" "order" "I" "VeilSteps" ∈ z_tbl := z_in (i := 151) (by decide +kernel) rfl
theorem m_152 : Cond.fieldLinkNest RX9 152 "VeilSteps$Course" "order" "I" "VeilSteps" ∈ z_tbl := z_in (i := 152) (by decide +kernel) rfl
theorem m_153 : Cond.fieldLink RX0 21 "VeilSteps$Course" "seen" "[I" ∈ z_tbl := z_in (i := 153) (by decide +kernel) rfl
theorem m_154 : Cond.fieldLinkNest RX9 100 "VeilSteps$Course" "seen" "[I" "VeilSteps" ∈ z_tbl := z_in (i := 154) (by decide +kernel) rfl
theorem m_155 : Cond.fieldLinkNest RX8 122 "VeilSteps$Course" "seen" "[I" "VeilSteps" ∈ z_tbl := z_in (i := 155) (by decide +kernel) rfl
theorem m_156 : Cond.lays RX0 "VeilSteps$Course" "year" "I" ∈ z_tbl := z_in (i := 156) (by decide +kernel) rfl
theorem m_158 : Cond.lays RX0 "VeilSteps$Course" "cloth" "I" ∈ z_tbl := z_in (i := 158) (by decide +kernel) rfl
theorem m_160 : Cond.lays RX0 "VeilSteps$Course" "order" "I" ∈ z_tbl := z_in (i := 160) (by decide +kernel) rfl
theorem m_162 : Cond.laysFinal RX0 "VeilSteps$Course" "seen" "[I" ∈ z_tbl := z_in (i := 162) (by decide +kernel) rfl
theorem m_165 : Cond.classLink RX8 32 "VeilSteps$Text" ∈ z_tbl := z_in (i := 165) (by decide +kernel) rfl
theorem n_166 : Cond.arrayOver (FieldType.object "VeilSteps$Text") ∈ lw_tbl := List.mem_of_getElem? (i := 166) (by decide +kernel)
theorem m_167 : Cond.instantiable RX6 2 ∈ z_tbl := z_in (i := 167) (by decide +kernel) rfl
theorem m_168 : Cond.methodLink RX8 38 yX6_init ∈ z_tbl := z_in (i := 168) (by decide +kernel) rfl
theorem m_169 : Cond.instanceMethod yX6_init ∈ z_tbl := z_in (i := 169) (by decide +kernel) rfl
set_option maxRecDepth 100000 in
theorem m_170 : Cond.code yX6_init cX6_init 1 none ∈ z_tbl := z_in (i := 170) (by rfl) rfl
theorem m_171 : Cond.methodLink RX6 3 objectInit ∈ z_tbl := z_in (i := 171) (by decide +kernel) rfl
theorem m_172 : Cond.classLink RX6 9 "VeilSteps$Row" ∈ z_tbl := z_in (i := 172) (by decide +kernel) rfl
theorem m_173 : Cond.instantiable RX4 2 ∈ z_tbl := z_in (i := 173) (by decide +kernel) rfl
theorem m_174 : Cond.methodLink RX6 11 yX4_init ∈ z_tbl := z_in (i := 174) (by decide +kernel) rfl
theorem m_175 : Cond.instanceMethod yX4_init ∈ z_tbl := z_in (i := 175) (by decide +kernel) rfl
set_option maxRecDepth 100000 in
theorem m_176 : Cond.code yX4_init cX4_init 2 none ∈ z_tbl := z_in (i := 176) (by rfl) rfl
theorem m_177 : Cond.methodLink RX4 1 objectInit ∈ z_tbl := z_in (i := 177) (by decide +kernel) rfl
theorem m_178 : Cond.methodLink RX4 7 Lib.Math.max.name ∈ z_tbl := z_in (i := 178) (by decide +kernel) rfl
theorem m_179 : Cond.static Lib.Math.max.name ∈ z_tbl := z_in (i := 179) (by decide +kernel) rfl
set_option maxRecDepth 100000 in
theorem m_180 : Cond.code Lib.Math.max.name cJ9_max_7cf53 2 (some FieldType.int) ∈ z_tbl := z_in (i := 180) (by rfl) rfl
theorem m_181 : Cond.fieldLink RX4 13 "VeilSteps$Row" "numbers" "[I" ∈ z_tbl := z_in (i := 181) (by decide +kernel) rfl
theorem m_182 : Cond.fieldLink RX4 19 "VeilSteps$Row" "length" "I" ∈ z_tbl := z_in (i := 182) (by decide +kernel) rfl
theorem m_183 : Cond.laysFinal RX4 "VeilSteps$Row" "numbers" "[I" ∈ z_tbl := z_in (i := 183) (by decide +kernel) rfl
theorem m_185 : Cond.lays RX4 "VeilSteps$Row" "length" "I" ∈ z_tbl := z_in (i := 185) (by decide +kernel) rfl
theorem m_188 : Cond.fieldLink RX6 14 "VeilSteps$Text" "code" "LVeilSteps$Row;" ∈ z_tbl := z_in (i := 188) (by decide +kernel) rfl
theorem m_189 : Cond.fieldLinkNest RX8 169 "VeilSteps$Text" "code" "LVeilSteps$Row;" "VeilSteps" ∈ z_tbl := z_in (i := 189) (by decide +kernel) rfl
theorem m_190 : Cond.fieldLinkNest RX9 180 "VeilSteps$Text" "code" "LVeilSteps$Row;" "VeilSteps" ∈ z_tbl := z_in (i := 190) (by decide +kernel) rfl
theorem m_191 : Cond.fieldLink RX6 20 "VeilSteps$Text" "pile" "[I" ∈ z_tbl := z_in (i := 191) (by decide +kernel) rfl
theorem m_192 : Cond.laysFinal RX6 "VeilSteps$Text" "code" "LVeilSteps$Row;" ∈ z_tbl := z_in (i := 192) (by decide +kernel) rfl
theorem m_194 : Cond.laysFinal RX6 "VeilSteps$Text" "pile" "[I" ∈ z_tbl := z_in (i := 194) (by decide +kernel) rfl
theorem m_197 : Cond.classLink RX8 39 "VeilSteps$Row" ∈ z_tbl := z_in (i := 197) (by decide +kernel) rfl
theorem m_198 : Cond.methodLink RX8 41 yX4_init ∈ z_tbl := z_in (i := 198) (by decide +kernel) rfl
theorem m_199 : Cond.fieldLink RX8 12 "VeilSteps$World" "kin" "LVeilSteps$Kin;" ∈ z_tbl := z_in (i := 199) (by decide +kernel) rfl
theorem m_200 : Cond.fieldLinkNest RX9 65 "VeilSteps$World" "kin" "LVeilSteps$Kin;" "VeilSteps" ∈ z_tbl := z_in (i := 200) (by decide +kernel) rfl
theorem m_201 : Cond.fieldLink RX8 21 "VeilSteps$World" "course" "LVeilSteps$Course;" ∈ z_tbl := z_in (i := 201) (by decide +kernel) rfl
theorem m_202 : Cond.fieldLinkNest RX9 97 "VeilSteps$World" "course" "LVeilSteps$Course;" "VeilSteps" ∈ z_tbl := z_in (i := 202) (by decide +kernel) rfl
theorem m_203 : Cond.fieldLink RX8 25 "VeilSteps$World" "looker" "[I" ∈ z_tbl := z_in (i := 203) (by decide +kernel) rfl
theorem m_204 : Cond.fieldLinkNest RX9 143 "VeilSteps$World" "looker" "[I" "VeilSteps" ∈ z_tbl := z_in (i := 204) (by decide +kernel) rfl
theorem m_205 : Cond.fieldLink RX8 29 "VeilSteps$World" "met" "[I" ∈ z_tbl := z_in (i := 205) (by decide +kernel) rfl
theorem m_206 : Cond.fieldLinkNest RX9 146 "VeilSteps$World" "met" "[I" "VeilSteps" ∈ z_tbl := z_in (i := 206) (by decide +kernel) rfl
theorem m_207 : Cond.fieldLink RX8 34 "VeilSteps$World" "texts" "[LVeilSteps$Text;" ∈ z_tbl := z_in (i := 207) (by decide +kernel) rfl
theorem m_208 : Cond.fieldLinkNest RX9 176 "VeilSteps$World" "texts" "[LVeilSteps$Text;" "VeilSteps" ∈ z_tbl := z_in (i := 208) (by decide +kernel) rfl
theorem m_209 : Cond.fieldLinkNest RX9 28 "VeilSteps$World" "tape" "LVeilSteps$Row;" "VeilSteps" ∈ z_tbl := z_in (i := 209) (by decide +kernel) rfl
theorem m_210 : Cond.fieldLink RX8 44 "VeilSteps$World" "tape" "LVeilSteps$Row;" ∈ z_tbl := z_in (i := 210) (by decide +kernel) rfl
theorem m_211 : Cond.fieldLink RX8 48 "VeilSteps$World" "waiting" "LVeilSteps$Row;" ∈ z_tbl := z_in (i := 211) (by decide +kernel) rfl
theorem m_212 : Cond.fieldLinkNest RX9 305 "VeilSteps$World" "waiting" "LVeilSteps$Row;" "VeilSteps" ∈ z_tbl := z_in (i := 212) (by decide +kernel) rfl
theorem m_213 : Cond.fieldLink RX8 51 "VeilSteps$World" "z" "I" ∈ z_tbl := z_in (i := 213) (by decide +kernel) rfl
theorem m_214 : Cond.fieldLinkNest RX9 210 "VeilSteps$World" "z" "I" "VeilSteps" ∈ z_tbl := z_in (i := 214) (by decide +kernel) rfl
theorem m_215 : Cond.laysFinal RX8 "VeilSteps$World" "kin" "LVeilSteps$Kin;" ∈ z_tbl := z_in (i := 215) (by decide +kernel) rfl
theorem m_217 : Cond.laysFinal RX8 "VeilSteps$World" "course" "LVeilSteps$Course;" ∈ z_tbl := z_in (i := 217) (by decide +kernel) rfl
theorem m_219 : Cond.laysFinal RX8 "VeilSteps$World" "looker" "[I" ∈ z_tbl := z_in (i := 219) (by decide +kernel) rfl
theorem m_221 : Cond.laysFinal RX8 "VeilSteps$World" "met" "[I" ∈ z_tbl := z_in (i := 221) (by decide +kernel) rfl
theorem m_223 : Cond.laysFinal RX8 "VeilSteps$World" "texts" "[LVeilSteps$Text;" ∈ z_tbl := z_in (i := 223) (by decide +kernel) rfl
theorem m_225 : Cond.laysFinal RX8 "VeilSteps$World" "tape" "LVeilSteps$Row;" ∈ z_tbl := z_in (i := 225) (by decide +kernel) rfl
theorem m_227 : Cond.laysFinal RX8 "VeilSteps$World" "waiting" "LVeilSteps$Row;" ∈ z_tbl := z_in (i := 227) (by decide +kernel) rfl
theorem m_229 : Cond.lays RX8 "VeilSteps$World" "z" "I" ∈ z_tbl := z_in (i := 229) (by decide +kernel) rfl
theorem m_232 : Cond.classLink RX9 19 "VeilSteps$Course" ∈ z_tbl := z_in (i := 232) (by decide +kernel) rfl
theorem m_233 : Cond.methodLink RX9 21 yX0_init ∈ z_tbl := z_in (i := 233) (by decide +kernel) rfl
theorem m_234 : Cond.classLink RX9 26 "VeilSteps$Reader" ∈ z_tbl := z_in (i := 234) (by decide +kernel) rfl
theorem m_235 : Cond.instantiable RX3 4 ∈ z_tbl := z_in (i := 235) (by decide +kernel) rfl
theorem m_236 : Cond.methodLink RX9 32 yX3_init ∈ z_tbl := z_in (i := 236) (by decide +kernel) rfl
theorem m_237 : Cond.instanceMethod yX3_init ∈ z_tbl := z_in (i := 237) (by decide +kernel) rfl
set_option maxRecDepth 100000 in
theorem m_238 : Cond.code yX3_init cX3_init 2 none ∈ z_tbl := z_in (i := 238) (by rfl) rfl
theorem m_239 : Cond.methodLink RX3 3 objectInit ∈ z_tbl := z_in (i := 239) (by decide +kernel) rfl
theorem m_240 : Cond.classLink RX3 15 "VeilSteps$Row" ∈ z_tbl := z_in (i := 240) (by decide +kernel) rfl
theorem m_241 : Cond.methodLink RX3 17 yX4_init ∈ z_tbl := z_in (i := 241) (by decide +kernel) rfl
theorem n_242 : Cond.stringRef RX3 23 "vsy" ∈ lw_tbl := List.mem_of_getElem? (i := 242) (by decide +kernel)
theorem m_243 : Cond.fieldLink RX3 9 "VeilSteps$Reader" "tape" "LVeilSteps$Row;" ∈ z_tbl := z_in (i := 243) (by decide +kernel) rfl
theorem m_244 : Cond.fieldLink RX3 20 "VeilSteps$Reader" "code" "LVeilSteps$Row;" ∈ z_tbl := z_in (i := 244) (by decide +kernel) rfl
theorem m_245 : Cond.fieldLinkNest RX9 185 "VeilSteps$Reader" "code" "LVeilSteps$Row;" "VeilSteps" ∈ z_tbl := z_in (i := 245) (by decide +kernel) rfl
theorem m_246 : Cond.fieldLink RX3 25 "VeilSteps$Reader" "names" "Ljava/lang/String;" ∈ z_tbl := z_in (i := 246) (by decide +kernel) rfl
theorem m_247 : Cond.fieldLink RX3 29 "VeilSteps$Reader" "at" "I" ∈ z_tbl := z_in (i := 247) (by decide +kernel) rfl
theorem m_248 : Cond.laysFinal RX3 "VeilSteps$Reader" "tape" "LVeilSteps$Row;" ∈ z_tbl := z_in (i := 248) (by decide +kernel) rfl
theorem m_250 : Cond.laysFinal RX3 "VeilSteps$Reader" "code" "LVeilSteps$Row;" ∈ z_tbl := z_in (i := 250) (by decide +kernel) rfl
theorem m_252 : Cond.lays RX3 "VeilSteps$Reader" "names" "Ljava/lang/String;" ∈ z_tbl := z_in (i := 252) (by decide +kernel) rfl
theorem m_254 : Cond.lays RX3 "VeilSteps$Reader" "at" "I" ∈ z_tbl := z_in (i := 254) (by decide +kernel) rfl
theorem m_257 : Cond.arrayClass FieldType.byte ∈ z_tbl := z_in (i := 257) (by decide +kernel) rfl
theorem m_258 : Cond.classLink RX9 39 "VeilSteps$Voices" ∈ z_tbl := z_in (i := 258) (by decide +kernel) rfl
theorem m_259 : Cond.instantiable RX7 5 ∈ z_tbl := z_in (i := 259) (by decide +kernel) rfl
theorem m_260 : Cond.methodLink RX9 41 yX7_init ∈ z_tbl := z_in (i := 260) (by decide +kernel) rfl
theorem m_261 : Cond.instanceMethod yX7_init ∈ z_tbl := z_in (i := 261) (by decide +kernel) rfl
set_option maxRecDepth 100000 in
theorem m_262 : Cond.code yX7_init cX7_init 1 none ∈ z_tbl := z_in (i := 262) (by rfl) rfl
theorem m_263 : Cond.methodLink RX7 1 objectInit ∈ z_tbl := z_in (i := 263) (by decide +kernel) rfl
theorem m_264 : Cond.classLink RX7 7 "VeilSteps$Row" ∈ z_tbl := z_in (i := 264) (by decide +kernel) rfl
theorem m_265 : Cond.methodLink RX7 11 yX4_init ∈ z_tbl := z_in (i := 265) (by decide +kernel) rfl
theorem m_266 : Cond.fieldLink RX7 14 "VeilSteps$Voices" "trace" "LVeilSteps$Row;" ∈ z_tbl := z_in (i := 266) (by decide +kernel) rfl
theorem m_267 : Cond.fieldLinkNest RX9 274 "VeilSteps$Voices" "trace" "LVeilSteps$Row;" "VeilSteps" ∈ z_tbl := z_in (i := 267) (by decide +kernel) rfl
theorem m_268 : Cond.fieldLink RX7 18 "VeilSteps$Voices" "kind" "I" ∈ z_tbl := z_in (i := 268) (by decide +kernel) rfl
theorem m_269 : Cond.fieldLink RX7 22 "VeilSteps$Voices" "k" "I" ∈ z_tbl := z_in (i := 269) (by decide +kernel) rfl
theorem m_270 : Cond.fieldLink RX7 25 "VeilSteps$Voices" "m" "I" ∈ z_tbl := z_in (i := 270) (by decide +kernel) rfl
theorem m_271 : Cond.fieldLink RX7 28 "VeilSteps$Voices" "parted" "Z" ∈ z_tbl := z_in (i := 271) (by decide +kernel) rfl
theorem m_272 : Cond.fieldLinkNest RX9 270 "VeilSteps$Voices" "parted" "Z" "VeilSteps" ∈ z_tbl := z_in (i := 272) (by decide +kernel) rfl
theorem m_273 : Cond.laysFinal RX7 "VeilSteps$Voices" "trace" "LVeilSteps$Row;" ∈ z_tbl := z_in (i := 273) (by decide +kernel) rfl
theorem m_275 : Cond.lays RX7 "VeilSteps$Voices" "kind" "I" ∈ z_tbl := z_in (i := 275) (by decide +kernel) rfl
theorem m_277 : Cond.lays RX7 "VeilSteps$Voices" "k" "I" ∈ z_tbl := z_in (i := 277) (by decide +kernel) rfl
theorem m_279 : Cond.lays RX7 "VeilSteps$Voices" "m" "I" ∈ z_tbl := z_in (i := 279) (by decide +kernel) rfl
theorem m_281 : Cond.lays RX7 "VeilSteps$Voices" "parted" "Z" ∈ z_tbl := z_in (i := 281) (by decide +kernel) rfl
theorem m_284 : Cond.classLink RX9 46 "VeilSteps$Sheet" ∈ z_tbl := z_in (i := 284) (by decide +kernel) rfl
theorem n_285 : Cond.arrayOver (FieldType.object "VeilSteps$Sheet") ∈ lw_tbl := List.mem_of_getElem? (i := 285) (by decide +kernel)
theorem m_286 : Cond.instantiable RX5 2 ∈ z_tbl := z_in (i := 286) (by decide +kernel) rfl
theorem m_287 : Cond.methodLink RX9 52 yX5_init ∈ z_tbl := z_in (i := 287) (by decide +kernel) rfl
theorem m_288 : Cond.instanceMethod yX5_init ∈ z_tbl := z_in (i := 288) (by decide +kernel) rfl
set_option maxRecDepth 100000 in
theorem m_289 : Cond.code yX5_init cX5_init 1 none ∈ z_tbl := z_in (i := 289) (by rfl) rfl
theorem m_290 : Cond.methodLink RX5 3 objectInit ∈ z_tbl := z_in (i := 290) (by decide +kernel) rfl
theorem m_291 : Cond.classLink RX5 9 "VeilSteps$Row" ∈ z_tbl := z_in (i := 291) (by decide +kernel) rfl
theorem m_292 : Cond.methodLink RX5 11 yX4_init ∈ z_tbl := z_in (i := 292) (by decide +kernel) rfl
theorem m_293 : Cond.fieldLink RX5 14 "VeilSteps$Sheet" "row" "LVeilSteps$Row;" ∈ z_tbl := z_in (i := 293) (by decide +kernel) rfl
theorem m_294 : Cond.fieldLinkNest RX9 253 "VeilSteps$Sheet" "row" "LVeilSteps$Row;" "VeilSteps" ∈ z_tbl := z_in (i := 294) (by decide +kernel) rfl
theorem m_295 : Cond.fieldLink RX5 20 "VeilSteps$Sheet" "bits" "I" ∈ z_tbl := z_in (i := 295) (by decide +kernel) rfl
theorem m_296 : Cond.fieldLinkNest RX9 292 "VeilSteps$Sheet" "bits" "I" "VeilSteps" ∈ z_tbl := z_in (i := 296) (by decide +kernel) rfl
theorem m_297 : Cond.laysFinal RX5 "VeilSteps$Sheet" "row" "LVeilSteps$Row;" ∈ z_tbl := z_in (i := 297) (by decide +kernel) rfl
theorem m_299 : Cond.lays RX5 "VeilSteps$Sheet" "bits" "I" ∈ z_tbl := z_in (i := 299) (by decide +kernel) rfl
theorem m_302 : Cond.fieldLink RX9 10 "VeilSteps" "now" "LVeilSteps$World;" ∈ z_tbl := z_in (i := 302) (by decide +kernel) rfl
theorem m_303 : Cond.fieldLink RX9 16 "VeilSteps" "kept" "LVeilSteps$World;" ∈ z_tbl := z_in (i := 303) (by decide +kernel) rfl
theorem m_304 : Cond.fieldLink RX9 22 "VeilSteps" "thought" "LVeilSteps$Course;" ∈ z_tbl := z_in (i := 304) (by decide +kernel) rfl
theorem m_305 : Cond.fieldLink RX9 35 "VeilSteps" "reader" "LVeilSteps$Reader;" ∈ z_tbl := z_in (i := 305) (by decide +kernel) rfl
theorem m_306 : Cond.fieldLink RX9 42 "VeilSteps" "voices" "LVeilSteps$Voices;" ∈ z_tbl := z_in (i := 306) (by decide +kernel) rfl
theorem m_307 : Cond.fieldLink RX9 48 "VeilSteps" "sheets" "[LVeilSteps$Sheet;" ∈ z_tbl := z_in (i := 307) (by decide +kernel) rfl
theorem m_308 : Cond.fieldLink RX9 53 "VeilSteps" "errors" "[I" ∈ z_tbl := z_in (i := 308) (by decide +kernel) rfl
theorem m_309 : Cond.fieldLink RX9 57 "VeilSteps" "images" "I" ∈ z_tbl := z_in (i := 309) (by decide +kernel) rfl
theorem m_310 : Cond.laysFinal RX9 "VeilSteps" "now" "LVeilSteps$World;" ∈ z_tbl := z_in (i := 310) (by decide +kernel) rfl
theorem m_312 : Cond.laysFinal RX9 "VeilSteps" "kept" "LVeilSteps$World;" ∈ z_tbl := z_in (i := 312) (by decide +kernel) rfl
theorem m_314 : Cond.laysFinal RX9 "VeilSteps" "thought" "LVeilSteps$Course;" ∈ z_tbl := z_in (i := 314) (by decide +kernel) rfl
theorem m_316 : Cond.laysFinal RX9 "VeilSteps" "reader" "LVeilSteps$Reader;" ∈ z_tbl := z_in (i := 316) (by decide +kernel) rfl
theorem m_318 : Cond.laysFinal RX9 "VeilSteps" "voices" "LVeilSteps$Voices;" ∈ z_tbl := z_in (i := 318) (by decide +kernel) rfl
theorem m_320 : Cond.laysFinal RX9 "VeilSteps" "sheets" "[LVeilSteps$Sheet;" ∈ z_tbl := z_in (i := 320) (by decide +kernel) rfl
theorem m_322 : Cond.laysFinal RX9 "VeilSteps" "errors" "[I" ∈ z_tbl := z_in (i := 322) (by decide +kernel) rfl
theorem m_324 : Cond.lays RX9 "VeilSteps" "images" "I" ∈ z_tbl := z_in (i := 324) (by decide +kernel) rfl
theorem m_327 : Cond.methodLink RL 13 yX9_person ∈ z_tbl := z_in (i := 327) (by decide +kernel) rfl
theorem m_328 : Cond.instanceMethod yX9_person ∈ z_tbl := z_in (i := 328) (by decide +kernel) rfl
theorem m_329 : Cond.selects RX9 yX9_person yX9_person ∈ z_tbl := z_in (i := 329) (by decide +kernel) rfl
set_option maxRecDepth 100000 in
theorem m_330 : Cond.code yX9_person cX9_person 3 (some FieldType.int) ∈ z_tbl := z_in (i := 330) (by rfl) rfl
theorem m_331 : Cond.methodLink RX9 61 yX9_isKm ∈ z_tbl := z_in (i := 331) (by decide +kernel) rfl
theorem m_332 : Cond.static yX9_isKm ∈ z_tbl := z_in (i := 332) (by decide +kernel) rfl
set_option maxRecDepth 100000 in
theorem m_333 : Cond.code yX9_isKm cX9_isKm 1 (some FieldType.boolean) ∈ z_tbl := z_in (i := 333) (by rfl) rfl
theorem m_334 : Cond.methodLink RX9 74 yX9_fail ∈ z_tbl := z_in (i := 334) (by decide +kernel) rfl
theorem m_336 : Cond.instanceMethod yX9_fail ∈ z_tbl := z_in (i := 336) (by decide +kernel) rfl
set_option maxRecDepth 100000 in
theorem m_337 : Cond.code yX9_fail cX9_fail 2 (some FieldType.int) ∈ z_tbl := z_in (i := 337) (by rfl) rfl
theorem m_338 : Cond.constant RX9 308 (-1000000000) ∈ z_tbl := z_in (i := 338) (by decide +kernel) rfl
theorem m_339 : Cond.methodLink RX9 78 yX1_add ∈ z_tbl := z_in (i := 339) (by decide +kernel) rfl
theorem m_340 : Cond.instanceMethod yX1_add ∈ z_tbl := z_in (i := 340) (by decide +kernel) rfl
theorem m_341 : Cond.selects RX1 yX1_add yX1_add ∈ z_tbl := z_in (i := 341) (by decide +kernel) rfl
set_option maxRecDepth 100000 in
theorem m_342 : Cond.code yX1_add cX1_add 5 (some FieldType.int) ∈ z_tbl := z_in (i := 342) (by rfl) rfl
theorem m_343 : Cond.methodLink RX1 31 yX1_measure ∈ z_tbl := z_in (i := 343) (by decide +kernel) rfl
theorem m_345 : Cond.instanceMethod yX1_measure ∈ z_tbl := z_in (i := 345) (by decide +kernel) rfl
set_option maxRecDepth 100000 in
theorem m_346 : Cond.code yX1_measure cX1_measure 3 none ∈ z_tbl := z_in (i := 346) (by rfl) rfl
theorem m_347 : Cond.methodLink RX1 38 yX1_link ∈ z_tbl := z_in (i := 347) (by decide +kernel) rfl
theorem m_349 : Cond.instanceMethod yX1_link ∈ z_tbl := z_in (i := 349) (by decide +kernel) rfl
set_option maxRecDepth 100000 in
theorem m_350 : Cond.code yX1_link cX1_link 3 none ∈ z_tbl := z_in (i := 350) (by rfl) rfl
theorem m_351 : Cond.methodLink RX1 45 yX1_has ∈ z_tbl := z_in (i := 351) (by decide +kernel) rfl
theorem m_352 : Cond.instanceMethod yX1_has ∈ z_tbl := z_in (i := 352) (by decide +kernel) rfl
theorem m_353 : Cond.selects RX1 yX1_has yX1_has ∈ z_tbl := z_in (i := 353) (by decide +kernel) rfl
set_option maxRecDepth 100000 in
theorem m_354 : Cond.code yX1_has cX1_has 2 (some FieldType.boolean) ∈ z_tbl := z_in (i := 354) (by rfl) rfl
theorem m_355 : Cond.methodLink RX1 42 yX1_shortenBy ∈ z_tbl := z_in (i := 355) (by decide +kernel) rfl
theorem m_357 : Cond.instanceMethod yX1_shortenBy ∈ z_tbl := z_in (i := 357) (by decide +kernel) rfl
set_option maxRecDepth 100000 in
theorem m_358 : Cond.code yX1_shortenBy cX1_shortenBy 6 none ∈ z_tbl := z_in (i := 358) (by rfl) rfl
theorem m_359 : Cond.methodLink RX1 34 yX1_between ∈ z_tbl := z_in (i := 359) (by decide +kernel) rfl
theorem m_360 : Cond.instanceMethod yX1_between ∈ z_tbl := z_in (i := 360) (by decide +kernel) rfl
theorem m_361 : Cond.selects RX1 yX1_between yX1_between ∈ z_tbl := z_in (i := 361) (by decide +kernel) rfl
set_option maxRecDepth 100000 in
theorem m_362 : Cond.code yX1_between cX1_between 3 (some FieldType.int) ∈ z_tbl := z_in (i := 362) (by rfl) rfl
theorem m_363 : Cond.methodLink RX1 49 Lib.Math.min.name ∈ z_tbl := z_in (i := 363) (by decide +kernel) rfl
theorem m_364 : Cond.static Lib.Math.min.name ∈ z_tbl := z_in (i := 364) (by decide +kernel) rfl
set_option maxRecDepth 100000 in
theorem m_365 : Cond.code Lib.Math.min.name cJ9_min_7cf53 2 (some FieldType.int) ∈ z_tbl := z_in (i := 365) (by rfl) rfl
theorem m_366 : Cond.methodLink RL 18 yX9_personIs ∈ z_tbl := z_in (i := 366) (by decide +kernel) rfl
theorem m_367 : Cond.instanceMethod yX9_personIs ∈ z_tbl := z_in (i := 367) (by decide +kernel) rfl
theorem m_368 : Cond.selects RX9 yX9_personIs yX9_personIs ∈ z_tbl := z_in (i := 368) (by decide +kernel) rfl
set_option maxRecDepth 100000 in
theorem m_369 : Cond.code yX9_personIs cX9_personIs 3 (some FieldType.int) ∈ z_tbl := z_in (i := 369) (by rfl) rfl
theorem m_370 : Cond.methodLink RX9 82 yX1_has ∈ z_tbl := z_in (i := 370) (by decide +kernel) rfl
theorem m_371 : Cond.methodLink RX9 103 yX8_sightOf ∈ z_tbl := z_in (i := 371) (by decide +kernel) rfl
theorem m_372 : Cond.instanceMethod yX8_sightOf ∈ z_tbl := z_in (i := 372) (by decide +kernel) rfl
theorem m_373 : Cond.selects RX8 yX8_sightOf yX8_sightOf ∈ z_tbl := z_in (i := 373) (by decide +kernel) rfl
set_option maxRecDepth 100000 in
theorem m_374 : Cond.code yX8_sightOf cX8_sightOf 4 (some FieldType.int) ∈ z_tbl := z_in (i := 374) (by rfl) rfl
theorem m_375 : Cond.methodLink RX8 93 yX1_nearTo ∈ z_tbl := z_in (i := 375) (by decide +kernel) rfl
theorem m_376 : Cond.instanceMethod yX1_nearTo ∈ z_tbl := z_in (i := 376) (by decide +kernel) rfl
theorem m_377 : Cond.selects RX1 yX1_nearTo yX1_nearTo ∈ z_tbl := z_in (i := 377) (by decide +kernel) rfl
set_option maxRecDepth 100000 in
theorem m_378 : Cond.code yX1_nearTo cX1_nearTo 4 (some FieldType.int) ∈ z_tbl := z_in (i := 378) (by rfl) rfl
theorem m_379 : Cond.methodLink RX8 97 yX2_lookThrough ∈ z_tbl := z_in (i := 379) (by decide +kernel) rfl
theorem m_380 : Cond.static yX2_lookThrough ∈ z_tbl := z_in (i := 380) (by decide +kernel) rfl
set_option maxRecDepth 100000 in
theorem m_381 : Cond.code yX2_lookThrough cX2_lookThrough 4 (some FieldType.int) ∈ z_tbl := z_in (i := 381) (by rfl) rfl
theorem m_382 : Cond.methodLink RX8 89 yX8_gives ∈ z_tbl := z_in (i := 382) (by decide +kernel) rfl
theorem m_383 : Cond.instanceMethod yX8_gives ∈ z_tbl := z_in (i := 383) (by decide +kernel) rfl
theorem m_384 : Cond.selects RX8 yX8_gives yX8_gives ∈ z_tbl := z_in (i := 384) (by decide +kernel) rfl
set_option maxRecDepth 100000 in
theorem m_385 : Cond.code yX8_gives cX8_gives 6 (some FieldType.int) ∈ z_tbl := z_in (i := 385) (by rfl) rfl
theorem m_386 : Cond.methodLink RX8 55 yX6_isGiven ∈ z_tbl := z_in (i := 386) (by decide +kernel) rfl
theorem m_387 : Cond.instanceMethod yX6_isGiven ∈ z_tbl := z_in (i := 387) (by decide +kernel) rfl
theorem m_388 : Cond.selects RX6 yX6_isGiven yX6_isGiven ∈ z_tbl := z_in (i := 388) (by decide +kernel) rfl
set_option maxRecDepth 100000 in
theorem m_389 : Cond.code yX6_isGiven cX6_isGiven 1 (some FieldType.boolean) ∈ z_tbl := z_in (i := 389) (by rfl) rfl
theorem m_390 : Cond.methodLink RX6 24 yX4_size ∈ z_tbl := z_in (i := 390) (by decide +kernel) rfl
theorem m_391 : Cond.instanceMethod yX4_size ∈ z_tbl := z_in (i := 391) (by decide +kernel) rfl
theorem m_392 : Cond.selects RX4 yX4_size yX4_size ∈ z_tbl := z_in (i := 392) (by decide +kernel) rfl
set_option maxRecDepth 100000 in
theorem m_393 : Cond.code yX4_size cX4_size 1 (some FieldType.int) ∈ z_tbl := z_in (i := 393) (by rfl) rfl
theorem m_394 : Cond.methodLink RX8 59 yX6_worked ∈ z_tbl := z_in (i := 394) (by decide +kernel) rfl
theorem m_395 : Cond.instanceMethod yX6_worked ∈ z_tbl := z_in (i := 395) (by decide +kernel) rfl
theorem m_396 : Cond.selects RX6 yX6_worked yX6_worked ∈ z_tbl := z_in (i := 396) (by decide +kernel) rfl
set_option maxRecDepth 100000 in
theorem m_397 : Cond.code yX6_worked cX6_worked 7 (some FieldType.int) ∈ z_tbl := z_in (i := 397) (by rfl) rfl
theorem m_398 : Cond.methodLink RX6 28 yX4_at ∈ z_tbl := z_in (i := 398) (by decide +kernel) rfl
theorem m_399 : Cond.instanceMethod yX4_at ∈ z_tbl := z_in (i := 399) (by decide +kernel) rfl
theorem m_400 : Cond.selects RX4 yX4_at yX4_at ∈ z_tbl := z_in (i := 400) (by decide +kernel) rfl
set_option maxRecDepth 100000 in
theorem m_401 : Cond.code yX4_at cX4_at 2 (some FieldType.int) ∈ z_tbl := z_in (i := 401) (by rfl) rfl
theorem m_402 : Cond.methodLink RX6 32 yX6_joined ∈ z_tbl := z_in (i := 402) (by decide +kernel) rfl
theorem m_403 : Cond.static yX6_joined ∈ z_tbl := z_in (i := 403) (by decide +kernel) rfl
set_option maxRecDepth 100000 in
theorem m_404 : Cond.code yX6_joined cX6_joined 3 (some FieldType.int) ∈ z_tbl := z_in (i := 404) (by rfl) rfl
theorem m_405 : Cond.methodLink RX6 36 yX6_named ∈ z_tbl := z_in (i := 405) (by decide +kernel) rfl
theorem m_406 : Cond.static yX6_named ∈ z_tbl := z_in (i := 406) (by decide +kernel) rfl
set_option maxRecDepth 100000 in
theorem m_407 : Cond.code yX6_named cX6_named 4 (some FieldType.int) ∈ z_tbl := z_in (i := 407) (by rfl) rfl
theorem m_408 : Cond.methodLink RX8 63 Lib.Math.min.name ∈ z_tbl := z_in (i := 408) (by decide +kernel) rfl
theorem m_409 : Cond.methodLink RX8 69 Lib.Math.max.name ∈ z_tbl := z_in (i := 409) (by decide +kernel) rfl
theorem m_410 : Cond.methodLink RL 22 yX9_become ∈ z_tbl := z_in (i := 410) (by decide +kernel) rfl
theorem m_411 : Cond.instanceMethod yX9_become ∈ z_tbl := z_in (i := 411) (by decide +kernel) rfl
theorem m_412 : Cond.selects RX9 yX9_become yX9_become ∈ z_tbl := z_in (i := 412) (by decide +kernel) rfl
set_option maxRecDepth 100000 in
theorem m_413 : Cond.code yX9_become cX9_become 4 (some FieldType.int) ∈ z_tbl := z_in (i := 413) (by rfl) rfl
theorem m_414 : Cond.methodLink RL 26 yX9_as ∈ z_tbl := z_in (i := 414) (by decide +kernel) rfl
theorem m_415 : Cond.instanceMethod yX9_as ∈ z_tbl := z_in (i := 415) (by decide +kernel) rfl
theorem m_416 : Cond.selects RX9 yX9_as yX9_as ∈ z_tbl := z_in (i := 416) (by decide +kernel) rfl
set_option maxRecDepth 100000 in
theorem m_417 : Cond.code yX9_as cX9_as 3 (some FieldType.int) ∈ z_tbl := z_in (i := 417) (by rfl) rfl
theorem m_418 : Cond.methodLink RX9 107 yX2_isKind ∈ z_tbl := z_in (i := 418) (by decide +kernel) rfl
theorem m_419 : Cond.static yX2_isKind ∈ z_tbl := z_in (i := 419) (by decide +kernel) rfl
set_option maxRecDepth 100000 in
theorem m_420 : Cond.code yX2_isKind cX2_isKind 1 (some FieldType.boolean) ∈ z_tbl := z_in (i := 420) (by rfl) rfl
theorem m_421 : Cond.fieldLink RX2 9 "VeilSteps$Kinds" "ABOVE" "[I" ∈ z_tbl := z_in (i := 421) (by decide +kernel) rfl
theorem n_422 : Cond.laysStatic "VeilSteps$Kinds" "ABOVE" "[I" ∈ lw_tbl := List.mem_of_getElem? (i := 422) (by decide +kernel)
theorem m_423 : Cond.methodLink RX9 112 yX2_isUnder ∈ z_tbl := z_in (i := 423) (by decide +kernel) rfl
theorem m_424 : Cond.static yX2_isUnder ∈ z_tbl := z_in (i := 424) (by decide +kernel) rfl
set_option maxRecDepth 100000 in
theorem m_425 : Cond.code yX2_isUnder cX2_isUnder 4 (some FieldType.boolean) ∈ z_tbl := z_in (i := 425) (by rfl) rfl
theorem m_426 : Cond.methodLink RX2 19 yX2_above ∈ z_tbl := z_in (i := 426) (by decide +kernel) rfl
theorem m_427 : Cond.static yX2_above ∈ z_tbl := z_in (i := 427) (by decide +kernel) rfl
set_option maxRecDepth 100000 in
theorem m_428 : Cond.code yX2_above cX2_above 1 (some FieldType.int) ∈ z_tbl := z_in (i := 428) (by rfl) rfl
theorem m_429 : Cond.methodLink RX2 15 yX2_isKind ∈ z_tbl := z_in (i := 429) (by decide +kernel) rfl
theorem m_430 : Cond.methodLink RL 30 yX9_descends ∈ z_tbl := z_in (i := 430) (by decide +kernel) rfl
theorem m_431 : Cond.instanceMethod yX9_descends ∈ z_tbl := z_in (i := 431) (by decide +kernel) rfl
theorem m_432 : Cond.selects RX9 yX9_descends yX9_descends ∈ z_tbl := z_in (i := 432) (by decide +kernel) rfl
set_option maxRecDepth 100000 in
theorem m_433 : Cond.code yX9_descends cX9_descends 4 (some FieldType.int) ∈ z_tbl := z_in (i := 433) (by rfl) rfl
theorem m_434 : Cond.methodLink RX9 116 yX1_giveParent ∈ z_tbl := z_in (i := 434) (by decide +kernel) rfl
theorem m_435 : Cond.instanceMethod yX1_giveParent ∈ z_tbl := z_in (i := 435) (by decide +kernel) rfl
theorem m_436 : Cond.selects RX1 yX1_giveParent yX1_giveParent ∈ z_tbl := z_in (i := 436) (by decide +kernel) rfl
set_option maxRecDepth 100000 in
theorem m_437 : Cond.code yX1_giveParent cX1_giveParent 3 none ∈ z_tbl := z_in (i := 437) (by rfl) rfl
theorem m_438 : Cond.methodLink RL 34 yX9_marries ∈ z_tbl := z_in (i := 438) (by decide +kernel) rfl
theorem m_439 : Cond.instanceMethod yX9_marries ∈ z_tbl := z_in (i := 439) (by decide +kernel) rfl
theorem m_440 : Cond.selects RX9 yX9_marries yX9_marries ∈ z_tbl := z_in (i := 440) (by decide +kernel) rfl
set_option maxRecDepth 100000 in
theorem m_441 : Cond.code yX9_marries cX9_marries 3 (some FieldType.int) ∈ z_tbl := z_in (i := 441) (by rfl) rfl
theorem m_442 : Cond.methodLink RX9 120 yX1_isFree ∈ z_tbl := z_in (i := 442) (by decide +kernel) rfl
theorem m_443 : Cond.instanceMethod yX1_isFree ∈ z_tbl := z_in (i := 443) (by decide +kernel) rfl
theorem m_444 : Cond.selects RX1 yX1_isFree yX1_isFree ∈ z_tbl := z_in (i := 444) (by decide +kernel) rfl
set_option maxRecDepth 100000 in
theorem m_445 : Cond.code yX1_isFree cX1_isFree 2 (some FieldType.boolean) ∈ z_tbl := z_in (i := 445) (by rfl) rfl
theorem m_446 : Cond.methodLink RX9 123 yX1_join ∈ z_tbl := z_in (i := 446) (by decide +kernel) rfl
theorem m_447 : Cond.instanceMethod yX1_join ∈ z_tbl := z_in (i := 447) (by decide +kernel) rfl
theorem m_448 : Cond.selects RX1 yX1_join yX1_join ∈ z_tbl := z_in (i := 448) (by decide +kernel) rfl
set_option maxRecDepth 100000 in
theorem m_449 : Cond.code yX1_join cX1_join 3 none ∈ z_tbl := z_in (i := 449) (by rfl) rfl
theorem m_450 : Cond.methodLink RX9 126 yX1_nearTo ∈ z_tbl := z_in (i := 450) (by decide +kernel) rfl
theorem m_451 : Cond.methodLink RL 38 yX9_parts ∈ z_tbl := z_in (i := 451) (by decide +kernel) rfl
theorem m_452 : Cond.instanceMethod yX9_parts ∈ z_tbl := z_in (i := 452) (by decide +kernel) rfl
theorem m_453 : Cond.selects RX9 yX9_parts yX9_parts ∈ z_tbl := z_in (i := 453) (by decide +kernel) rfl
set_option maxRecDepth 100000 in
theorem m_454 : Cond.code yX9_parts cX9_parts 3 (some FieldType.int) ∈ z_tbl := z_in (i := 454) (by rfl) rfl
theorem m_455 : Cond.methodLink RX9 129 yX1_part ∈ z_tbl := z_in (i := 455) (by decide +kernel) rfl
theorem m_456 : Cond.instanceMethod yX1_part ∈ z_tbl := z_in (i := 456) (by decide +kernel) rfl
theorem m_457 : Cond.selects RX1 yX1_part yX1_part ∈ z_tbl := z_in (i := 457) (by decide +kernel) rfl
set_option maxRecDepth 100000 in
theorem m_458 : Cond.code yX1_part cX1_part 3 none ∈ z_tbl := z_in (i := 458) (by rfl) rfl
theorem m_459 : Cond.methodLink RL 43 yX9_steps ∈ z_tbl := z_in (i := 459) (by decide +kernel) rfl
theorem m_460 : Cond.instanceMethod yX9_steps ∈ z_tbl := z_in (i := 460) (by decide +kernel) rfl
theorem m_461 : Cond.selects RX9 yX9_steps yX9_steps ∈ z_tbl := z_in (i := 461) (by decide +kernel) rfl
set_option maxRecDepth 100000 in
theorem m_462 : Cond.code yX9_steps cX9_steps 3 (some FieldType.int) ∈ z_tbl := z_in (i := 462) (by rfl) rfl
theorem m_463 : Cond.methodLink RX9 132 yX1_between ∈ z_tbl := z_in (i := 463) (by decide +kernel) rfl
theorem m_464 : Cond.methodLink RL 47 yX9_lets ∈ z_tbl := z_in (i := 464) (by decide +kernel) rfl
theorem m_465 : Cond.instanceMethod yX9_lets ∈ z_tbl := z_in (i := 465) (by decide +kernel) rfl
theorem m_466 : Cond.selects RX9 yX9_lets yX9_lets ∈ z_tbl := z_in (i := 466) (by decide +kernel) rfl
set_option maxRecDepth 100000 in
theorem m_467 : Cond.code yX9_lets cX9_lets 3 (some FieldType.int) ∈ z_tbl := z_in (i := 467) (by rfl) rfl
theorem m_468 : Cond.methodLink RX9 136 yX8_veilsOf ∈ z_tbl := z_in (i := 468) (by decide +kernel) rfl
theorem m_469 : Cond.instanceMethod yX8_veilsOf ∈ z_tbl := z_in (i := 469) (by decide +kernel) rfl
theorem m_470 : Cond.selects RX8 yX8_veilsOf yX8_veilsOf ∈ z_tbl := z_in (i := 470) (by decide +kernel) rfl
set_option maxRecDepth 100000 in
theorem m_471 : Cond.code yX8_veilsOf cX8_veilsOf 6 (some FieldType.int) ∈ z_tbl := z_in (i := 471) (by rfl) rfl
theorem m_472 : Cond.methodLink RX8 72 yX1_between ∈ z_tbl := z_in (i := 472) (by decide +kernel) rfl
theorem m_473 : Cond.methodLink RX8 81 yX2_letDown ∈ z_tbl := z_in (i := 473) (by decide +kernel) rfl
theorem m_474 : Cond.static yX2_letDown ∈ z_tbl := z_in (i := 474) (by decide +kernel) rfl
set_option maxRecDepth 100000 in
theorem m_475 : Cond.code yX2_letDown cX2_letDown 3 (some FieldType.int) ∈ z_tbl := z_in (i := 475) (by rfl) rfl
theorem m_476 : Cond.methodLink RX2 23 yX2_judged ∈ z_tbl := z_in (i := 476) (by decide +kernel) rfl
theorem m_477 : Cond.static yX2_judged ∈ z_tbl := z_in (i := 477) (by decide +kernel) rfl
set_option maxRecDepth 100000 in
theorem m_478 : Cond.code yX2_judged cX2_judged 1 (some FieldType.int) ∈ z_tbl := z_in (i := 478) (by rfl) rfl
theorem m_479 : Cond.methodLink RX2 26 Lib.Math.min.name ∈ z_tbl := z_in (i := 479) (by decide +kernel) rfl
theorem m_480 : Cond.methodLink RL 51 yX9_meets ∈ z_tbl := z_in (i := 480) (by decide +kernel) rfl
theorem m_481 : Cond.instanceMethod yX9_meets ∈ z_tbl := z_in (i := 481) (by decide +kernel) rfl
theorem m_482 : Cond.selects RX9 yX9_meets yX9_meets ∈ z_tbl := z_in (i := 482) (by decide +kernel) rfl
set_option maxRecDepth 100000 in
theorem m_483 : Cond.code yX9_meets cX9_meets 5 (some FieldType.int) ∈ z_tbl := z_in (i := 483) (by rfl) rfl
theorem m_484 : Cond.methodLink RX9 140 yX9_isNumber ∈ z_tbl := z_in (i := 484) (by decide +kernel) rfl
theorem m_485 : Cond.static yX9_isNumber ∈ z_tbl := z_in (i := 485) (by decide +kernel) rfl
set_option maxRecDepth 100000 in
theorem m_486 : Cond.code yX9_isNumber cX9_isNumber 1 (some FieldType.boolean) ∈ z_tbl := z_in (i := 486) (by rfl) rfl
theorem m_487 : Cond.methodLink RL 56 yX9_trade ∈ z_tbl := z_in (i := 487) (by decide +kernel) rfl
theorem m_488 : Cond.instanceMethod yX9_trade ∈ z_tbl := z_in (i := 488) (by decide +kernel) rfl
theorem m_489 : Cond.selects RX9 yX9_trade yX9_trade ∈ z_tbl := z_in (i := 489) (by decide +kernel) rfl
set_option maxRecDepth 100000 in
theorem m_490 : Cond.code yX9_trade cX9_trade 4 (some FieldType.int) ∈ z_tbl := z_in (i := 490) (by rfl) rfl
theorem m_491 : Cond.methodLink RL 62 yX9_feed ∈ z_tbl := z_in (i := 491) (by decide +kernel) rfl
theorem m_492 : Cond.instanceMethod yX9_feed ∈ z_tbl := z_in (i := 492) (by decide +kernel) rfl
theorem m_493 : Cond.selects RX9 yX9_feed yX9_feed ∈ z_tbl := z_in (i := 493) (by decide +kernel) rfl
set_option maxRecDepth 100000 in
theorem m_494 : Cond.code yX9_feed cX9_feed 5 (some FieldType.int) ∈ z_tbl := z_in (i := 494) (by rfl) rfl
theorem m_495 : Cond.methodLink RX9 155 yX4_hasRoom ∈ z_tbl := z_in (i := 495) (by decide +kernel) rfl
theorem m_496 : Cond.instanceMethod yX4_hasRoom ∈ z_tbl := z_in (i := 496) (by decide +kernel) rfl
theorem m_497 : Cond.selects RX4 yX4_hasRoom yX4_hasRoom ∈ z_tbl := z_in (i := 497) (by decide +kernel) rfl
set_option maxRecDepth 100000 in
theorem m_498 : Cond.code yX4_hasRoom cX4_hasRoom 2 (some FieldType.boolean) ∈ z_tbl := z_in (i := 498) (by rfl) rfl
theorem m_499 : Cond.methodLink RX9 160 yX4_add ∈ z_tbl := z_in (i := 499) (by decide +kernel) rfl
theorem m_500 : Cond.instanceMethod yX4_add ∈ z_tbl := z_in (i := 500) (by decide +kernel) rfl
theorem m_501 : Cond.selects RX4 yX4_add yX4_add ∈ z_tbl := z_in (i := 501) (by decide +kernel) rfl
set_option maxRecDepth 100000 in
theorem m_502 : Cond.code yX4_add cX4_add 2 none ∈ z_tbl := z_in (i := 502) (by rfl) rfl
theorem m_503 : Cond.methodLink RX9 163 yX4_size ∈ z_tbl := z_in (i := 503) (by decide +kernel) rfl
theorem m_504 : Cond.methodLink RL 67 yX9_text ∈ z_tbl := z_in (i := 504) (by decide +kernel) rfl
theorem m_505 : Cond.instanceMethod yX9_text ∈ z_tbl := z_in (i := 505) (by decide +kernel) rfl
theorem m_506 : Cond.selects RX9 yX9_text yX9_text ∈ z_tbl := z_in (i := 506) (by decide +kernel) rfl
set_option maxRecDepth 100000 in
theorem m_507 : Cond.code yX9_text cX9_text 3 (some FieldType.int) ∈ z_tbl := z_in (i := 507) (by rfl) rfl
theorem m_508 : Cond.methodLink RX9 167 yX9_isUse ∈ z_tbl := z_in (i := 508) (by decide +kernel) rfl
theorem m_509 : Cond.static yX9_isUse ∈ z_tbl := z_in (i := 509) (by decide +kernel) rfl
set_option maxRecDepth 100000 in
theorem m_510 : Cond.code yX9_isUse cX9_isUse 1 (some FieldType.boolean) ∈ z_tbl := z_in (i := 510) (by rfl) rfl
theorem m_511 : Cond.methodLink RX9 170 yX3_faultFor ∈ z_tbl := z_in (i := 511) (by decide +kernel) rfl
theorem m_512 : Cond.instanceMethod yX3_faultFor ∈ z_tbl := z_in (i := 512) (by decide +kernel) rfl
theorem m_513 : Cond.selects RX3 yX3_faultFor yX3_faultFor ∈ z_tbl := z_in (i := 513) (by decide +kernel) rfl
set_option maxRecDepth 100000 in
theorem m_514 : Cond.code yX3_faultFor cX3_faultFor 3 (some FieldType.int) ∈ z_tbl := z_in (i := 514) (by rfl) rfl
theorem n_515 : Cond.stringRef RX3 33 "eyc" ∈ lw_tbl := List.mem_of_getElem? (i := 515) (by decide +kernel)
theorem m_516 : Cond.methodLink RX3 35 yX4_clear ∈ z_tbl := z_in (i := 516) (by decide +kernel) rfl
theorem m_517 : Cond.instanceMethod yX4_clear ∈ z_tbl := z_in (i := 517) (by decide +kernel) rfl
theorem m_518 : Cond.selects RX4 yX4_clear yX4_clear ∈ z_tbl := z_in (i := 518) (by decide +kernel) rfl
set_option maxRecDepth 100000 in
theorem m_519 : Cond.code yX4_clear cX4_clear 1 none ∈ z_tbl := z_in (i := 519) (by rfl) rfl
theorem m_520 : Cond.methodLink RX3 38 yX3_readsLevel ∈ z_tbl := z_in (i := 520) (by decide +kernel) rfl
theorem m_522 : Cond.instanceMethod yX3_readsLevel ∈ z_tbl := z_in (i := 522) (by decide +kernel) rfl
set_option maxRecDepth 100000 in
theorem m_523 : Cond.code yX3_readsLevel cX3_readsLevel 4 (some FieldType.boolean) ∈ z_tbl := z_in (i := 523) (by rfl) rfl
theorem m_524 : Cond.methodLink RX3 46 yX3_readsUnit ∈ z_tbl := z_in (i := 524) (by decide +kernel) rfl
theorem m_526 : Cond.instanceMethod yX3_readsUnit ∈ z_tbl := z_in (i := 526) (by decide +kernel) rfl
set_option maxRecDepth 100000 in
theorem m_527 : Cond.code yX3_readsUnit cX3_readsUnit 4 (some FieldType.boolean) ∈ z_tbl := z_in (i := 527) (by rfl) rfl
theorem m_528 : Cond.methodLink RX3 50 yX4_at ∈ z_tbl := z_in (i := 528) (by decide +kernel) rfl
theorem m_529 : Cond.methodLink RX3 61 yX3_isDigit ∈ z_tbl := z_in (i := 529) (by decide +kernel) rfl
theorem m_530 : Cond.static yX3_isDigit ∈ z_tbl := z_in (i := 530) (by decide +kernel) rfl
set_option maxRecDepth 100000 in
theorem m_531 : Cond.code yX3_isDigit cX3_isDigit 1 (some FieldType.boolean) ∈ z_tbl := z_in (i := 531) (by rfl) rfl
theorem m_532 : Cond.methodLink RX3 64 yX3_readNumber ∈ z_tbl := z_in (i := 532) (by decide +kernel) rfl
theorem m_534 : Cond.instanceMethod yX3_readNumber ∈ z_tbl := z_in (i := 534) (by decide +kernel) rfl
set_option maxRecDepth 100000 in
theorem m_535 : Cond.code yX3_readNumber cX3_readNumber 3 none ∈ z_tbl := z_in (i := 535) (by rfl) rfl
theorem m_536 : Cond.methodLink RX3 58 yX4_add ∈ z_tbl := z_in (i := 536) (by decide +kernel) rfl
theorem m_537 : Cond.methodLink RX3 67 yJ0_indexOf_0f7a4 ∈ z_tbl := z_in (i := 537) (by decide +kernel) rfl
theorem m_538 : Cond.instanceMethod yJ0_indexOf_0f7a4 ∈ z_tbl := z_in (i := 538) (by decide +kernel) rfl
theorem m_539 : Cond.selects RJ0 yJ0_indexOf_0f7a4 yJ0_indexOf_0f7a4 ∈ z_tbl := z_in (i := 539) (by decide +kernel) rfl
set_option maxRecDepth 100000 in
theorem m_540 : Cond.code yJ0_indexOf_0f7a4 cJ0_indexOf_0f7a4 2 (some FieldType.int) ∈ z_tbl := z_in (i := 540) (by rfl) rfl
theorem m_541 : Cond.methodLink RJ0 633 yJ0_indexOf_7cf53 ∈ z_tbl := z_in (i := 541) (by decide +kernel) rfl
theorem m_542 : Cond.instanceMethod yJ0_indexOf_7cf53 ∈ z_tbl := z_in (i := 542) (by decide +kernel) rfl
theorem m_543 : Cond.selects RJ0 yJ0_indexOf_7cf53 yJ0_indexOf_7cf53 ∈ z_tbl := z_in (i := 543) (by decide +kernel) rfl
set_option maxRecDepth 100000 in
theorem m_544 : Cond.code yJ0_indexOf_7cf53 cJ0_indexOf_7cf53 3 (some FieldType.int) ∈ z_tbl := z_in (i := 544) (by rfl) rfl
theorem m_545 : Cond.methodLink RJ0 492 yJ0_isLatin1_aae02 ∈ z_tbl := z_in (i := 545) (by decide +kernel) rfl
theorem m_546 : Cond.instanceMethod yJ0_isLatin1_aae02 ∈ z_tbl := z_in (i := 546) (by decide +kernel) rfl
theorem m_547 : Cond.selects RJ0 yJ0_isLatin1_aae02 yJ0_isLatin1_aae02 ∈ z_tbl := z_in (i := 547) (by decide +kernel) rfl
set_option maxRecDepth 100000 in
theorem m_548 : Cond.code yJ0_isLatin1_aae02 cJ0_isLatin1_aae02 1 (some FieldType.boolean) ∈ z_tbl := z_in (i := 548) (by rfl) rfl
theorem m_549 : Cond.fieldLink RJ0 38 "java/lang/String" "COMPACT_STRINGS" "Z" ∈ z_tbl := z_in (i := 549) (by decide +kernel) rfl
theorem n_550 : Cond.laysStatic "java/lang/String" "COMPACT_STRINGS" "Z" ∈ lw_tbl := List.mem_of_getElem? (i := 550) (by decide +kernel)
theorem m_551 : Cond.methodLink RJ0 505 yJ0_length_8abf5 ∈ z_tbl := z_in (i := 551) (by decide +kernel) rfl
theorem m_552 : Cond.instanceMethod yJ0_length_8abf5 ∈ z_tbl := z_in (i := 552) (by decide +kernel) rfl
theorem m_553 : Cond.selects RJ0 yJ0_length_8abf5 yJ0_length_8abf5 ∈ z_tbl := z_in (i := 553) (by decide +kernel) rfl
set_option maxRecDepth 100000 in
theorem m_554 : Cond.code yJ0_length_8abf5 cJ0_length_8abf5 1 (some FieldType.int) ∈ z_tbl := z_in (i := 554) (by rfl) rfl
theorem m_555 : Cond.methodLink RJ0 335 yJ0_coder_7d493 ∈ z_tbl := z_in (i := 555) (by decide +kernel) rfl
theorem m_556 : Cond.instanceMethod yJ0_coder_7d493 ∈ z_tbl := z_in (i := 556) (by decide +kernel) rfl
theorem m_557 : Cond.selects RJ0 yJ0_coder_7d493 yJ0_coder_7d493 ∈ z_tbl := z_in (i := 557) (by decide +kernel) rfl
set_option maxRecDepth 100000 in
theorem m_558 : Cond.code yJ0_coder_7d493 cJ0_coder_7d493 1 (some FieldType.byte) ∈ z_tbl := z_in (i := 558) (by rfl) rfl
theorem m_559 : Cond.methodLink RJ0 637 yJ1_indexOf_4cfef ∈ z_tbl := z_in (i := 559) (by decide +kernel) rfl
theorem m_560 : Cond.static yJ1_indexOf_4cfef ∈ z_tbl := z_in (i := 560) (by decide +kernel) rfl
set_option maxRecDepth 100000 in
theorem m_561 : Cond.code yJ1_indexOf_4cfef cJ1_indexOf_4cfef 4 (some FieldType.int) ∈ z_tbl := z_in (i := 561) (by rfl) rfl
theorem m_562 : Cond.methodLink RJ1 88 yJ1_canEncode_9a6ad ∈ z_tbl := z_in (i := 562) (by decide +kernel) rfl
theorem m_563 : Cond.static yJ1_canEncode_9a6ad ∈ z_tbl := z_in (i := 563) (by decide +kernel) rfl
set_option maxRecDepth 100000 in
theorem m_564 : Cond.code yJ1_canEncode_9a6ad cJ1_canEncode_9a6ad 1 (some FieldType.boolean) ∈ z_tbl := z_in (i := 564) (by rfl) rfl
theorem m_565 : Cond.methodLink RJ1 92 Lib.Math.max.name ∈ z_tbl := z_in (i := 565) (by decide +kernel) rfl
theorem m_566 : Cond.methodLink RJ1 38 Lib.Math.min.name ∈ z_tbl := z_in (i := 566) (by decide +kernel) rfl
theorem m_567 : Cond.methodLink RJ1 95 yJ1_indexOfChar_4cfef ∈ z_tbl := z_in (i := 567) (by decide +kernel) rfl
theorem m_568 : Cond.static yJ1_indexOfChar_4cfef ∈ z_tbl := z_in (i := 568) (by decide +kernel) rfl
set_option maxRecDepth 100000 in
theorem m_569 : Cond.code yJ1_indexOfChar_4cfef cJ1_indexOfChar_4cfef 6 (some FieldType.int) ∈ z_tbl := z_in (i := 569) (by rfl) rfl
theorem m_570 : Cond.methodLink RJ0 640 yJ2_indexOf_4cfef ∈ z_tbl := z_in (i := 570) (by decide +kernel) rfl
theorem m_571 : Cond.static yJ2_indexOf_4cfef ∈ z_tbl := z_in (i := 571) (by decide +kernel) rfl
set_option maxRecDepth 100000 in
theorem m_572 : Cond.code yJ2_indexOf_4cfef cJ2_indexOf_4cfef 4 (some FieldType.int) ∈ z_tbl := z_in (i := 572) (by rfl) rfl
theorem m_573 : Cond.methodLink RJ2 224 Lib.Math.max.name ∈ z_tbl := z_in (i := 573) (by decide +kernel) rfl
theorem m_574 : Cond.methodLink RJ2 183 Lib.Math.min.name ∈ z_tbl := z_in (i := 574) (by decide +kernel) rfl
theorem m_575 : Cond.constant RJ2 227 65536 ∈ z_tbl := z_in (i := 575) (by decide +kernel) rfl
theorem m_576 : Cond.methodLink RJ2 228 yJ2_indexOfChar_4cfef ∈ z_tbl := z_in (i := 576) (by decide +kernel) rfl
theorem m_577 : Cond.static yJ2_indexOfChar_4cfef ∈ z_tbl := z_in (i := 577) (by decide +kernel) rfl
set_option maxRecDepth 100000 in
theorem m_578 : Cond.code yJ2_indexOfChar_4cfef cJ2_indexOfChar_4cfef 4 (some FieldType.int) ∈ z_tbl := z_in (i := 578) (by rfl) rfl
theorem m_579 : Cond.methodLink RJ2 96 yJ2_checkBoundsBeginEnd_d044e ∈ z_tbl := z_in (i := 579) (by decide +kernel) rfl
theorem m_580 : Cond.static yJ2_checkBoundsBeginEnd_d044e ∈ z_tbl := z_in (i := 580) (by decide +kernel) rfl
set_option maxRecDepth 100000 in
theorem m_581 : Cond.code yJ2_checkBoundsBeginEnd_d044e cJ2_checkBoundsBeginEnd_d044e 3 none ∈ z_tbl := z_in (i := 581) (by rfl) rfl
theorem m_582 : Cond.methodLink RJ2 48 yJ2_length_9d52b ∈ z_tbl := z_in (i := 582) (by decide +kernel) rfl
theorem m_583 : Cond.static yJ2_length_9d52b ∈ z_tbl := z_in (i := 583) (by decide +kernel) rfl
set_option maxRecDepth 100000 in
theorem m_584 : Cond.code yJ2_length_9d52b cJ2_length_9d52b 1 (some FieldType.int) ∈ z_tbl := z_in (i := 584) (by rfl) rfl
theorem m_585 : Cond.methodLink RJ2 241 yJ0_checkBoundsBeginEnd_23922 ∈ z_tbl := z_in (i := 585) (by decide +kernel) rfl
theorem m_586 : Cond.static yJ0_checkBoundsBeginEnd_23922 ∈ z_tbl := z_in (i := 586) (by decide +kernel) rfl
set_option maxRecDepth 100000 in
theorem m_587 : Cond.code yJ0_checkBoundsBeginEnd_23922 cJ0_checkBoundsBeginEnd_23922 3 none ∈ z_tbl := z_in (i := 587) (by rfl) rfl
theorem m_588 : Cond.fieldLink RJ0 1053 "jdk/internal/util/Preconditions" "SIOOBE_FORMATTER" "Ljava/util/function/BiFunction;" ∈ z_tbl := z_in (i := 588) (by decide +kernel) rfl
theorem n_589 : Cond.laysStatic "jdk/internal/util/Preconditions" "SIOOBE_FORMATTER" "Ljava/util/function/BiFunction;" ∈ lw_tbl := List.mem_of_getElem? (i := 589) (by decide +kernel)
theorem m_590 : Cond.methodLink RJ0 1062 yJ3_checkFromToIndex_8c36e ∈ z_tbl := z_in (i := 590) (by decide +kernel) rfl
theorem m_591 : Cond.static yJ3_checkFromToIndex_8c36e ∈ z_tbl := z_in (i := 591) (by decide +kernel) rfl
set_option maxRecDepth 100000 in
theorem m_592 : Cond.code yJ3_checkFromToIndex_8c36e cJ3_checkFromToIndex_8c36e 4 (some FieldType.int) ∈ z_tbl := z_in (i := 592) (by rfl) rfl
theorem m_593 : Cond.methodLink RJ2 244 yJ2_indexOfCharUnsafe_4cfef ∈ z_tbl := z_in (i := 593) (by decide +kernel) rfl
theorem m_594 : Cond.static yJ2_indexOfCharUnsafe_4cfef ∈ z_tbl := z_in (i := 594) (by decide +kernel) rfl
set_option maxRecDepth 100000 in
theorem m_595 : Cond.code yJ2_indexOfCharUnsafe_4cfef cJ2_indexOfCharUnsafe_4cfef 5 (some FieldType.int) ∈ z_tbl := z_in (i := 595) (by rfl) rfl
theorem m_596 : Cond.methodLink RJ2 71 yJ2_getChar_3b067 ∈ z_tbl := z_in (i := 596) (by decide +kernel) rfl
theorem m_597 : Cond.static yJ2_getChar_3b067 ∈ z_tbl := z_in (i := 597) (by decide +kernel) rfl
set_option maxRecDepth 100000 in
theorem m_598 : Cond.code yJ2_getChar_3b067 cJ2_getChar_3b067 2 (some FieldType.char) ∈ z_tbl := z_in (i := 598) (by rfl) rfl
theorem m_599 : Cond.fieldLink RJ2 44 "java/lang/StringUTF16" "$assertionsDisabled" "Z" ∈ z_tbl := z_in (i := 599) (by decide +kernel) rfl
theorem n_600 : Cond.laysStatic "java/lang/StringUTF16" "$assertionsDisabled" "Z" ∈ lw_tbl := List.mem_of_getElem? (i := 600) (by decide +kernel)
theorem m_601 : Cond.fieldLink RJ2 59 "java/lang/StringUTF16" "HI_BYTE_SHIFT" "I" ∈ z_tbl := z_in (i := 601) (by decide +kernel) rfl
theorem n_602 : Cond.laysStatic "java/lang/StringUTF16" "HI_BYTE_SHIFT" "I" ∈ lw_tbl := List.mem_of_getElem? (i := 602) (by decide +kernel)
theorem m_603 : Cond.fieldLink RJ2 63 "java/lang/StringUTF16" "LO_BYTE_SHIFT" "I" ∈ z_tbl := z_in (i := 603) (by decide +kernel) rfl
theorem n_604 : Cond.laysStatic "java/lang/StringUTF16" "LO_BYTE_SHIFT" "I" ∈ lw_tbl := List.mem_of_getElem? (i := 604) (by decide +kernel)
theorem m_605 : Cond.methodLink RJ2 232 yJ2_indexOfSupplementary_4cfef ∈ z_tbl := z_in (i := 605) (by decide +kernel) rfl
theorem m_606 : Cond.static yJ2_indexOfSupplementary_4cfef ∈ z_tbl := z_in (i := 606) (by decide +kernel) rfl
set_option maxRecDepth 100000 in
theorem m_607 : Cond.code yJ2_indexOfSupplementary_4cfef cJ2_indexOfSupplementary_4cfef 7 (some FieldType.int) ∈ z_tbl := z_in (i := 607) (by rfl) rfl
theorem m_608 : Cond.methodLink RJ2 164 yJ11_isValidCodePoint_9a6ad ∈ z_tbl := z_in (i := 608) (by decide +kernel) rfl
theorem m_609 : Cond.static yJ11_isValidCodePoint_9a6ad ∈ z_tbl := z_in (i := 609) (by decide +kernel) rfl
set_option maxRecDepth 100000 in
theorem m_610 : Cond.code yJ11_isValidCodePoint_9a6ad cJ11_isValidCodePoint_9a6ad 2 (some FieldType.boolean) ∈ z_tbl := z_in (i := 610) (by rfl) rfl
theorem m_611 : Cond.methodLink RJ2 157 yJ11_highSurrogate_5068e ∈ z_tbl := z_in (i := 611) (by decide +kernel) rfl
theorem m_612 : Cond.static yJ11_highSurrogate_5068e ∈ z_tbl := z_in (i := 612) (by decide +kernel) rfl
set_option maxRecDepth 100000 in
theorem m_613 : Cond.code yJ11_highSurrogate_5068e cJ11_highSurrogate_5068e 1 (some FieldType.char) ∈ z_tbl := z_in (i := 613) (by rfl) rfl
theorem m_614 : Cond.constant RJ11 110 55232 ∈ z_tbl := z_in (i := 614) (by decide +kernel) rfl
theorem m_615 : Cond.methodLink RJ2 161 yJ11_lowSurrogate_5068e ∈ z_tbl := z_in (i := 615) (by decide +kernel) rfl
theorem m_616 : Cond.static yJ11_lowSurrogate_5068e ∈ z_tbl := z_in (i := 616) (by decide +kernel) rfl
set_option maxRecDepth 100000 in
theorem m_617 : Cond.code yJ11_lowSurrogate_5068e cJ11_lowSurrogate_5068e 1 (some FieldType.char) ∈ z_tbl := z_in (i := 617) (by rfl) rfl
theorem m_618 : Cond.constant RJ11 76 56320 ∈ z_tbl := z_in (i := 618) (by decide +kernel) rfl
theorem m_619 : Cond.methodLink RX3 72 yX3_readsDenied ∈ z_tbl := z_in (i := 619) (by decide +kernel) rfl
theorem m_621 : Cond.instanceMethod yX3_readsDenied ∈ z_tbl := z_in (i := 621) (by decide +kernel) rfl
set_option maxRecDepth 100000 in
theorem m_622 : Cond.code yX3_readsDenied cX3_readsDenied 2 (some FieldType.boolean) ∈ z_tbl := z_in (i := 622) (by rfl) rfl
theorem m_623 : Cond.methodLink RX3 75 yX3_readsClosed ∈ z_tbl := z_in (i := 623) (by decide +kernel) rfl
theorem m_625 : Cond.instanceMethod yX3_readsClosed ∈ z_tbl := z_in (i := 625) (by decide +kernel) rfl
set_option maxRecDepth 100000 in
theorem m_626 : Cond.code yX3_readsClosed cX3_readsClosed 2 (some FieldType.boolean) ∈ z_tbl := z_in (i := 626) (by rfl) rfl
theorem m_627 : Cond.methodLink RX3 42 yX4_size ∈ z_tbl := z_in (i := 627) (by decide +kernel) rfl
theorem m_628 : Cond.methodLink RX3 53 yX3_levelOf ∈ z_tbl := z_in (i := 628) (by decide +kernel) rfl
theorem m_629 : Cond.static yX3_levelOf ∈ z_tbl := z_in (i := 629) (by decide +kernel) rfl
set_option maxRecDepth 100000 in
theorem m_630 : Cond.code yX3_levelOf cX3_levelOf 1 (some FieldType.int) ∈ z_tbl := z_in (i := 630) (by rfl) rfl
theorem m_631 : Cond.methodLink RX9 173 yX4_clear ∈ z_tbl := z_in (i := 631) (by decide +kernel) rfl
theorem m_632 : Cond.methodLink RX9 186 yX4_copy ∈ z_tbl := z_in (i := 632) (by decide +kernel) rfl
theorem m_633 : Cond.instanceMethod yX4_copy ∈ z_tbl := z_in (i := 633) (by decide +kernel) rfl
theorem m_634 : Cond.selects RX4 yX4_copy yX4_copy ∈ z_tbl := z_in (i := 634) (by decide +kernel) rfl
set_option maxRecDepth 100000 in
theorem m_635 : Cond.code yX4_copy cX4_copy 2 none ∈ z_tbl := z_in (i := 635) (by rfl) rfl
theorem m_636 : Cond.methodLink RX4 27 Lib.Math.min.name ∈ z_tbl := z_in (i := 636) (by decide +kernel) rfl
theorem m_637 : Cond.methodLink RX4 30 arraycopyName ∈ z_tbl := z_in (i := 637) (by decide +kernel) rfl
theorem m_638 : Cond.static arraycopyName ∈ z_tbl := z_in (i := 638) (by decide +kernel) rfl
theorem m_639 : Cond.native arraycopyName ∈ z_tbl := z_in (i := 639) (by decide +kernel) rfl
theorem m_640 : Cond.methodLink RL 71 yX9_untell ∈ z_tbl := z_in (i := 640) (by decide +kernel) rfl
theorem m_641 : Cond.instanceMethod yX9_untell ∈ z_tbl := z_in (i := 641) (by decide +kernel) rfl
theorem m_642 : Cond.selects RX9 yX9_untell yX9_untell ∈ z_tbl := z_in (i := 642) (by decide +kernel) rfl
set_option maxRecDepth 100000 in
theorem m_643 : Cond.code yX9_untell cX9_untell 3 (some FieldType.int) ∈ z_tbl := z_in (i := 643) (by rfl) rfl
theorem m_644 : Cond.methodLink RX9 189 yX6_isGiven ∈ z_tbl := z_in (i := 644) (by decide +kernel) rfl
theorem m_645 : Cond.methodLink RL 75 yX9_law ∈ z_tbl := z_in (i := 645) (by decide +kernel) rfl
theorem m_646 : Cond.instanceMethod yX9_law ∈ z_tbl := z_in (i := 646) (by decide +kernel) rfl
theorem m_647 : Cond.selects RX9 yX9_law yX9_law ∈ z_tbl := z_in (i := 647) (by decide +kernel) rfl
set_option maxRecDepth 100000 in
theorem m_648 : Cond.code yX9_law cX9_law 5 (some FieldType.int) ∈ z_tbl := z_in (i := 648) (by rfl) rfl
theorem m_649 : Cond.methodLink RX9 193 yX8_gives ∈ z_tbl := z_in (i := 649) (by decide +kernel) rfl
theorem m_650 : Cond.methodLink RL 80 yX9_years ∈ z_tbl := z_in (i := 650) (by decide +kernel) rfl
theorem m_651 : Cond.instanceMethod yX9_years ∈ z_tbl := z_in (i := 651) (by decide +kernel) rfl
theorem m_652 : Cond.selects RX9 yX9_years yX9_years ∈ z_tbl := z_in (i := 652) (by decide +kernel) rfl
set_option maxRecDepth 100000 in
theorem m_653 : Cond.code yX9_years cX9_years 2 (some FieldType.int) ∈ z_tbl := z_in (i := 653) (by rfl) rfl
theorem m_654 : Cond.methodLink RX9 200 yX8_passYears ∈ z_tbl := z_in (i := 654) (by decide +kernel) rfl
theorem m_655 : Cond.instanceMethod yX8_passYears ∈ z_tbl := z_in (i := 655) (by decide +kernel) rfl
theorem m_656 : Cond.selects RX8 yX8_passYears yX8_passYears ∈ z_tbl := z_in (i := 656) (by decide +kernel) rfl
set_option maxRecDepth 100000 in
theorem m_657 : Cond.code yX8_passYears cX8_passYears 5 none ∈ z_tbl := z_in (i := 657) (by rfl) rfl
theorem m_658 : Cond.methodLink RX8 103 yX8_placeOf ∈ z_tbl := z_in (i := 658) (by decide +kernel) rfl
theorem m_659 : Cond.static yX8_placeOf ∈ z_tbl := z_in (i := 659) (by decide +kernel) rfl
set_option maxRecDepth 100000 in
theorem m_660 : Cond.code yX8_placeOf cX8_placeOf 1 (some FieldType.int) ∈ z_tbl := z_in (i := 660) (by rfl) rfl
theorem m_661 : Cond.methodLink RX8 133 yJ9_floorMod_7cf53 ∈ z_tbl := z_in (i := 661) (by decide +kernel) rfl
theorem m_662 : Cond.static yJ9_floorMod_7cf53 ∈ z_tbl := z_in (i := 662) (by decide +kernel) rfl
set_option maxRecDepth 100000 in
theorem m_663 : Cond.code yJ9_floorMod_7cf53 cJ9_floorMod_7cf53 3 (some FieldType.int) ∈ z_tbl := z_in (i := 663) (by rfl) rfl
theorem m_664 : Cond.methodLink RX8 106 yX8_passYear ∈ z_tbl := z_in (i := 664) (by decide +kernel) rfl
theorem m_666 : Cond.instanceMethod yX8_passYear ∈ z_tbl := z_in (i := 666) (by decide +kernel) rfl
set_option maxRecDepth 100000 in
theorem m_667 : Cond.code yX8_passYear cX8_passYear 5 none ∈ z_tbl := z_in (i := 667) (by rfl) rfl
theorem m_668 : Cond.methodLink RX8 110 yX1_has ∈ z_tbl := z_in (i := 668) (by decide +kernel) rfl
theorem m_669 : Cond.methodLink RX8 114 yX8_veilsOf ∈ z_tbl := z_in (i := 669) (by decide +kernel) rfl
theorem m_670 : Cond.methodLink RX8 118 yX8_sightOf ∈ z_tbl := z_in (i := 670) (by decide +kernel) rfl
theorem m_671 : Cond.methodLink RX9 204 yX0_seenTogether ∈ z_tbl := z_in (i := 671) (by decide +kernel) rfl
theorem m_672 : Cond.instanceMethod yX0_seenTogether ∈ z_tbl := z_in (i := 672) (by decide +kernel) rfl
theorem m_673 : Cond.selects RX0 yX0_seenTogether yX0_seenTogether ∈ z_tbl := z_in (i := 673) (by decide +kernel) rfl
set_option maxRecDepth 100000 in
theorem m_674 : Cond.code yX0_seenTogether cX0_seenTogether 3 (some FieldType.int) ∈ z_tbl := z_in (i := 674) (by rfl) rfl
theorem m_675 : Cond.methodLink RX0 25 yJ6_bitCount_0f7a4 ∈ z_tbl := z_in (i := 675) (by decide +kernel) rfl
theorem m_676 : Cond.static yJ6_bitCount_0f7a4 ∈ z_tbl := z_in (i := 676) (by decide +kernel) rfl
set_option maxRecDepth 100000 in
theorem m_677 : Cond.code yJ6_bitCount_0f7a4 cJ6_bitCount_0f7a4 1 (some FieldType.int) ∈ z_tbl := z_in (i := 677) (by rfl) rfl
theorem m_678 : Cond.constant RJ6 265 1431655765 ∈ z_tbl := z_in (i := 678) (by decide +kernel) rfl
theorem m_679 : Cond.constant RJ6 266 858993459 ∈ z_tbl := z_in (i := 679) (by decide +kernel) rfl
theorem m_680 : Cond.constant RJ6 267 252645135 ∈ z_tbl := z_in (i := 680) (by decide +kernel) rfl
theorem m_681 : Cond.methodLink RL 84 yX9_loose ∈ z_tbl := z_in (i := 681) (by decide +kernel) rfl
theorem m_682 : Cond.instanceMethod yX9_loose ∈ z_tbl := z_in (i := 682) (by decide +kernel) rfl
theorem m_683 : Cond.selects RX9 yX9_loose yX9_loose ∈ z_tbl := z_in (i := 683) (by decide +kernel) rfl
set_option maxRecDepth 100000 in
theorem m_684 : Cond.code yX9_loose cX9_loose 3 (some FieldType.int) ∈ z_tbl := z_in (i := 684) (by rfl) rfl
theorem m_685 : Cond.methodLink RX9 207 yX8_drawMeeting ∈ z_tbl := z_in (i := 685) (by decide +kernel) rfl
theorem m_686 : Cond.instanceMethod yX8_drawMeeting ∈ z_tbl := z_in (i := 686) (by decide +kernel) rfl
theorem m_687 : Cond.selects RX8 yX8_drawMeeting yX8_drawMeeting ∈ z_tbl := z_in (i := 687) (by decide +kernel) rfl
set_option maxRecDepth 100000 in
theorem m_688 : Cond.code yX8_drawMeeting cX8_drawMeeting 2 none ∈ z_tbl := z_in (i := 688) (by rfl) rfl
theorem m_689 : Cond.methodLink RX8 128 yX8_draw ∈ z_tbl := z_in (i := 689) (by decide +kernel) rfl
theorem m_691 : Cond.instanceMethod yX8_draw ∈ z_tbl := z_in (i := 691) (by decide +kernel) rfl
set_option maxRecDepth 100000 in
theorem m_692 : Cond.code yX8_draw cX8_draw 1 (some FieldType.int) ∈ z_tbl := z_in (i := 692) (by rfl) rfl
theorem m_693 : Cond.constant RX8 132 1103515245 ∈ z_tbl := z_in (i := 693) (by decide +kernel) rfl
theorem m_694 : Cond.methodLink RL 88 yX9_year ∈ z_tbl := z_in (i := 694) (by decide +kernel) rfl
theorem m_695 : Cond.instanceMethod yX9_year ∈ z_tbl := z_in (i := 695) (by decide +kernel) rfl
theorem m_696 : Cond.selects RX9 yX9_year yX9_year ∈ z_tbl := z_in (i := 696) (by decide +kernel) rfl
set_option maxRecDepth 100000 in
theorem m_697 : Cond.code yX9_year cX9_year 3 (some FieldType.int) ∈ z_tbl := z_in (i := 697) (by rfl) rfl
theorem m_698 : Cond.methodLink RL 92 yX9_seed ∈ z_tbl := z_in (i := 698) (by decide +kernel) rfl
theorem m_699 : Cond.instanceMethod yX9_seed ∈ z_tbl := z_in (i := 699) (by decide +kernel) rfl
theorem m_700 : Cond.selects RX9 yX9_seed yX9_seed ∈ z_tbl := z_in (i := 700) (by decide +kernel) rfl
set_option maxRecDepth 100000 in
theorem m_701 : Cond.code yX9_seed cX9_seed 3 (some FieldType.int) ∈ z_tbl := z_in (i := 701) (by rfl) rfl
theorem m_702 : Cond.methodLink RL 96 yX9_then ∈ z_tbl := z_in (i := 702) (by decide +kernel) rfl
theorem m_703 : Cond.instanceMethod yX9_then ∈ z_tbl := z_in (i := 703) (by decide +kernel) rfl
theorem m_704 : Cond.selects RX9 yX9_then yX9_then ∈ z_tbl := z_in (i := 704) (by decide +kernel) rfl
set_option maxRecDepth 100000 in
theorem m_705 : Cond.code yX9_then cX9_then 3 (some FieldType.int) ∈ z_tbl := z_in (i := 705) (by rfl) rfl
theorem m_706 : Cond.methodLink RX9 213 yX0_copy ∈ z_tbl := z_in (i := 706) (by decide +kernel) rfl
theorem m_707 : Cond.instanceMethod yX0_copy ∈ z_tbl := z_in (i := 707) (by decide +kernel) rfl
theorem m_708 : Cond.selects RX0 yX0_copy yX0_copy ∈ z_tbl := z_in (i := 708) (by decide +kernel) rfl
set_option maxRecDepth 100000 in
theorem m_709 : Cond.code yX0_copy cX0_copy 2 none ∈ z_tbl := z_in (i := 709) (by rfl) rfl
theorem m_710 : Cond.methodLink RX0 35 arraycopyName ∈ z_tbl := z_in (i := 710) (by decide +kernel) rfl
theorem m_711 : Cond.methodLink RL 100 yX9_soonest ∈ z_tbl := z_in (i := 711) (by decide +kernel) rfl
theorem m_712 : Cond.instanceMethod yX9_soonest ∈ z_tbl := z_in (i := 712) (by decide +kernel) rfl
theorem m_713 : Cond.selects RX9 yX9_soonest yX9_soonest ∈ z_tbl := z_in (i := 713) (by decide +kernel) rfl
set_option maxRecDepth 100000 in
theorem m_714 : Cond.code yX9_soonest cX9_soonest 4 (some FieldType.int) ∈ z_tbl := z_in (i := 714) (by rfl) rfl
theorem m_715 : Cond.methodLink RX9 216 yX9_isIn ∈ z_tbl := z_in (i := 715) (by decide +kernel) rfl
theorem m_716 : Cond.static yX9_isIn ∈ z_tbl := z_in (i := 716) (by decide +kernel) rfl
set_option maxRecDepth 100000 in
theorem m_717 : Cond.code yX9_isIn cX9_isIn 2 (some FieldType.boolean) ∈ z_tbl := z_in (i := 717) (by rfl) rfl
theorem m_718 : Cond.methodLink RL 104 yX9_match ∈ z_tbl := z_in (i := 718) (by decide +kernel) rfl
theorem m_719 : Cond.instanceMethod yX9_match ∈ z_tbl := z_in (i := 719) (by decide +kernel) rfl
theorem m_720 : Cond.selects RX9 yX9_match yX9_match ∈ z_tbl := z_in (i := 720) (by decide +kernel) rfl
set_option maxRecDepth 100000 in
theorem m_721 : Cond.code yX9_match cX9_match 5 (some FieldType.int) ∈ z_tbl := z_in (i := 721) (by rfl) rfl
theorem m_722 : Cond.methodLink RX9 219 yX1_bestMatch ∈ z_tbl := z_in (i := 722) (by decide +kernel) rfl
theorem m_723 : Cond.instanceMethod yX1_bestMatch ∈ z_tbl := z_in (i := 723) (by decide +kernel) rfl
theorem m_724 : Cond.selects RX1 yX1_bestMatch yX1_bestMatch ∈ z_tbl := z_in (i := 724) (by decide +kernel) rfl
set_option maxRecDepth 100000 in
theorem m_725 : Cond.code yX1_bestMatch cX1_bestMatch 7 (some FieldType.int) ∈ z_tbl := z_in (i := 725) (by rfl) rfl
theorem m_726 : Cond.methodLink RX1 54 yX1_isFree ∈ z_tbl := z_in (i := 726) (by decide +kernel) rfl
theorem m_727 : Cond.methodLink RX1 57 yX1_byMarriage ∈ z_tbl := z_in (i := 727) (by decide +kernel) rfl
theorem m_729 : Cond.instanceMethod yX1_byMarriage ∈ z_tbl := z_in (i := 729) (by decide +kernel) rfl
set_option maxRecDepth 100000 in
theorem m_730 : Cond.code yX1_byMarriage cX1_byMarriage 7 (some FieldType.int) ∈ z_tbl := z_in (i := 730) (by rfl) rfl
theorem m_731 : Cond.methodLink RL 108 yX9_orderFor ∈ z_tbl := z_in (i := 731) (by decide +kernel) rfl
theorem m_732 : Cond.instanceMethod yX9_orderFor ∈ z_tbl := z_in (i := 732) (by decide +kernel) rfl
theorem m_733 : Cond.selects RX9 yX9_orderFor yX9_orderFor ∈ z_tbl := z_in (i := 733) (by decide +kernel) rfl
set_option maxRecDepth 100000 in
theorem m_734 : Cond.code yX9_orderFor cX9_orderFor 5 (some FieldType.int) ∈ z_tbl := z_in (i := 734) (by rfl) rfl
theorem m_735 : Cond.methodLink RX9 222 yX0_seersOf ∈ z_tbl := z_in (i := 735) (by decide +kernel) rfl
theorem m_736 : Cond.instanceMethod yX0_seersOf ∈ z_tbl := z_in (i := 736) (by decide +kernel) rfl
theorem m_737 : Cond.selects RX0 yX0_seersOf yX0_seersOf ∈ z_tbl := z_in (i := 737) (by decide +kernel) rfl
set_option maxRecDepth 100000 in
theorem m_738 : Cond.code yX0_seersOf cX0_seersOf 4 (some FieldType.int) ∈ z_tbl := z_in (i := 738) (by rfl) rfl
theorem m_739 : Cond.methodLinkNest RX0 31 yX9_isIn "VeilSteps" ∈ z_tbl := z_in (i := 739) (by decide +kernel) rfl
theorem m_740 : Cond.methodLink RL 112 yX9_seers ∈ z_tbl := z_in (i := 740) (by decide +kernel) rfl
theorem m_741 : Cond.instanceMethod yX9_seers ∈ z_tbl := z_in (i := 741) (by decide +kernel) rfl
theorem m_742 : Cond.selects RX9 yX9_seers yX9_seers ∈ z_tbl := z_in (i := 742) (by decide +kernel) rfl
set_option maxRecDepth 100000 in
theorem m_743 : Cond.code yX9_seers cX9_seers 2 (some FieldType.int) ∈ z_tbl := z_in (i := 743) (by rfl) rfl
theorem m_744 : Cond.methodLink RL 116 yX9_witnesses ∈ z_tbl := z_in (i := 744) (by decide +kernel) rfl
theorem m_745 : Cond.instanceMethod yX9_witnesses ∈ z_tbl := z_in (i := 745) (by decide +kernel) rfl
theorem m_746 : Cond.selects RX9 yX9_witnesses yX9_witnesses ∈ z_tbl := z_in (i := 746) (by decide +kernel) rfl
set_option maxRecDepth 100000 in
theorem m_747 : Cond.code yX9_witnesses cX9_witnesses 5 (some FieldType.int) ∈ z_tbl := z_in (i := 747) (by rfl) rfl
theorem m_748 : Cond.methodLink RX9 225 yX1_isSet ∈ z_tbl := z_in (i := 748) (by decide +kernel) rfl
theorem m_749 : Cond.instanceMethod yX1_isSet ∈ z_tbl := z_in (i := 749) (by decide +kernel) rfl
theorem m_750 : Cond.selects RX1 yX1_isSet yX1_isSet ∈ z_tbl := z_in (i := 750) (by decide +kernel) rfl
set_option maxRecDepth 100000 in
theorem m_751 : Cond.code yX1_isSet cX1_isSet 2 (some FieldType.boolean) ∈ z_tbl := z_in (i := 751) (by rfl) rfl
theorem m_752 : Cond.methodLink RX9 228 yJ6_bitCount_0f7a4 ∈ z_tbl := z_in (i := 752) (by decide +kernel) rfl
theorem m_753 : Cond.methodLink RX9 233 yX0_seenBy ∈ z_tbl := z_in (i := 753) (by decide +kernel) rfl
theorem m_754 : Cond.instanceMethod yX0_seenBy ∈ z_tbl := z_in (i := 754) (by decide +kernel) rfl
theorem m_755 : Cond.selects RX0 yX0_seenBy yX0_seenBy ∈ z_tbl := z_in (i := 755) (by decide +kernel) rfl
set_option maxRecDepth 100000 in
theorem m_756 : Cond.code yX0_seenBy cX0_seenBy 4 (some FieldType.int) ∈ z_tbl := z_in (i := 756) (by rfl) rfl
theorem m_757 : Cond.methodLink RL 120 yX9_odds ∈ z_tbl := z_in (i := 757) (by decide +kernel) rfl
theorem m_758 : Cond.instanceMethod yX9_odds ∈ z_tbl := z_in (i := 758) (by decide +kernel) rfl
theorem m_759 : Cond.selects RX9 yX9_odds yX9_odds ∈ z_tbl := z_in (i := 759) (by decide +kernel) rfl
set_option maxRecDepth 100000 in
theorem m_760 : Cond.code yX9_odds cX9_odds 6 (some FieldType.int) ∈ z_tbl := z_in (i := 760) (by rfl) rfl
theorem m_761 : Cond.methodLink RX9 236 yX8_throughTo ∈ z_tbl := z_in (i := 761) (by decide +kernel) rfl
theorem m_762 : Cond.instanceMethod yX8_throughTo ∈ z_tbl := z_in (i := 762) (by decide +kernel) rfl
theorem m_763 : Cond.selects RX8 yX8_throughTo yX8_throughTo ∈ z_tbl := z_in (i := 763) (by decide +kernel) rfl
set_option maxRecDepth 100000 in
theorem m_764 : Cond.code yX8_throughTo cX8_throughTo 5 (some FieldType.int) ∈ z_tbl := z_in (i := 764) (by rfl) rfl
theorem m_765 : Cond.methodLink RX9 239 yX9_greatestDivisor ∈ z_tbl := z_in (i := 765) (by decide +kernel) rfl
theorem m_766 : Cond.static yX9_greatestDivisor ∈ z_tbl := z_in (i := 766) (by decide +kernel) rfl
set_option maxRecDepth 100000 in
theorem m_767 : Cond.code yX9_greatestDivisor cX9_greatestDivisor 3 (some FieldType.int) ∈ z_tbl := z_in (i := 767) (by rfl) rfl
theorem m_768 : Cond.methodLink RX9 242 Lib.Math.max.name ∈ z_tbl := z_in (i := 768) (by decide +kernel) rfl
theorem m_769 : Cond.methodLink RL 124 yX9_fits ∈ z_tbl := z_in (i := 769) (by decide +kernel) rfl
theorem m_770 : Cond.instanceMethod yX9_fits ∈ z_tbl := z_in (i := 770) (by decide +kernel) rfl
theorem m_771 : Cond.selects RX9 yX9_fits yX9_fits ∈ z_tbl := z_in (i := 771) (by decide +kernel) rfl
set_option maxRecDepth 100000 in
theorem m_772 : Cond.code yX9_fits cX9_fits 5 (some FieldType.int) ∈ z_tbl := z_in (i := 772) (by rfl) rfl
theorem m_773 : Cond.methodLink RX9 247 yX9_isSheet ∈ z_tbl := z_in (i := 773) (by decide +kernel) rfl
theorem m_774 : Cond.static yX9_isSheet ∈ z_tbl := z_in (i := 774) (by decide +kernel) rfl
set_option maxRecDepth 100000 in
theorem m_775 : Cond.code yX9_isSheet cX9_isSheet 1 (some FieldType.boolean) ∈ z_tbl := z_in (i := 775) (by rfl) rfl
theorem m_776 : Cond.methodLink RX9 250 yX5_isMissing ∈ z_tbl := z_in (i := 776) (by decide +kernel) rfl
theorem m_777 : Cond.instanceMethod yX5_isMissing ∈ z_tbl := z_in (i := 777) (by decide +kernel) rfl
theorem m_778 : Cond.selects RX5 yX5_isMissing yX5_isMissing ∈ z_tbl := z_in (i := 778) (by decide +kernel) rfl
set_option maxRecDepth 100000 in
theorem m_779 : Cond.code yX5_isMissing cX5_isMissing 1 (some FieldType.boolean) ∈ z_tbl := z_in (i := 779) (by rfl) rfl
theorem m_780 : Cond.methodLink RX9 256 yX8_parentsFitting ∈ z_tbl := z_in (i := 780) (by decide +kernel) rfl
theorem m_781 : Cond.instanceMethod yX8_parentsFitting ∈ z_tbl := z_in (i := 781) (by decide +kernel) rfl
theorem m_782 : Cond.selects RX8 yX8_parentsFitting yX8_parentsFitting ∈ z_tbl := z_in (i := 782) (by decide +kernel) rfl
set_option maxRecDepth 100000 in
theorem m_783 : Cond.code yX8_parentsFitting cX8_parentsFitting 6 (some FieldType.int) ∈ z_tbl := z_in (i := 783) (by rfl) rfl
theorem m_784 : Cond.methodLink RX8 142 yX1_giveParent ∈ z_tbl := z_in (i := 784) (by decide +kernel) rfl
theorem m_785 : Cond.methodLink RX8 146 yX8_wouldLet ∈ z_tbl := z_in (i := 785) (by decide +kernel) rfl
theorem m_787 : Cond.instanceMethod yX8_wouldLet ∈ z_tbl := z_in (i := 787) (by decide +kernel) rfl
set_option maxRecDepth 100000 in
theorem m_788 : Cond.code yX8_wouldLet cX8_wouldLet 4 (some FieldType.boolean) ∈ z_tbl := z_in (i := 788) (by rfl) rfl
theorem m_789 : Cond.methodLink RX8 150 yX4_size ∈ z_tbl := z_in (i := 789) (by decide +kernel) rfl
theorem m_790 : Cond.methodLink RX8 153 yX4_at ∈ z_tbl := z_in (i := 790) (by decide +kernel) rfl
theorem m_791 : Cond.methodLink RL 128 yX9_voice ∈ z_tbl := z_in (i := 791) (by decide +kernel) rfl
theorem m_792 : Cond.instanceMethod yX9_voice ∈ z_tbl := z_in (i := 792) (by decide +kernel) rfl
theorem m_793 : Cond.selects RX9 yX9_voice yX9_voice ∈ z_tbl := z_in (i := 793) (by decide +kernel) rfl
set_option maxRecDepth 100000 in
theorem m_794 : Cond.code yX9_voice cX9_voice 5 (some FieldType.int) ∈ z_tbl := z_in (i := 794) (by rfl) rfl
theorem m_795 : Cond.methodLink RX9 260 yX7_isVoice ∈ z_tbl := z_in (i := 795) (by decide +kernel) rfl
theorem m_796 : Cond.static yX7_isVoice ∈ z_tbl := z_in (i := 796) (by decide +kernel) rfl
set_option maxRecDepth 100000 in
theorem m_797 : Cond.code yX7_isVoice cX7_isVoice 1 (some FieldType.boolean) ∈ z_tbl := z_in (i := 797) (by rfl) rfl
theorem m_798 : Cond.methodLink RX9 263 yX7_begin ∈ z_tbl := z_in (i := 798) (by decide +kernel) rfl
theorem m_799 : Cond.instanceMethod yX7_begin ∈ z_tbl := z_in (i := 799) (by decide +kernel) rfl
theorem m_800 : Cond.selects RX7 yX7_begin yX7_begin ∈ z_tbl := z_in (i := 800) (by decide +kernel) rfl
set_option maxRecDepth 100000 in
theorem m_801 : Cond.code yX7_begin cX7_begin 4 none ∈ z_tbl := z_in (i := 801) (by rfl) rfl
theorem m_802 : Cond.methodLink RX7 32 yX4_clear ∈ z_tbl := z_in (i := 802) (by decide +kernel) rfl
theorem m_803 : Cond.methodLink RX9 267 yX7_speak ∈ z_tbl := z_in (i := 803) (by decide +kernel) rfl
theorem m_804 : Cond.instanceMethod yX7_speak ∈ z_tbl := z_in (i := 804) (by decide +kernel) rfl
theorem m_805 : Cond.selects RX7 yX7_speak yX7_speak ∈ z_tbl := z_in (i := 805) (by decide +kernel) rfl
set_option maxRecDepth 100000 in
theorem m_806 : Cond.code yX7_speak cX7_speak 3 (some FieldType.int) ∈ z_tbl := z_in (i := 806) (by rfl) rfl
theorem m_807 : Cond.methodLink RX7 35 yX7_spoken ∈ z_tbl := z_in (i := 807) (by decide +kernel) rfl
theorem m_809 : Cond.instanceMethod yX7_spoken ∈ z_tbl := z_in (i := 809) (by decide +kernel) rfl
set_option maxRecDepth 100000 in
theorem m_810 : Cond.code yX7_spoken cX7_spoken 8 (some FieldType.int) ∈ z_tbl := z_in (i := 810) (by rfl) rfl
theorem m_811 : Cond.methodLink RX7 39 yX2_isKind ∈ z_tbl := z_in (i := 811) (by decide +kernel) rfl
theorem m_812 : Cond.fieldLink RX7 45 "VeilSteps$Voices" "BODIES" "[I" ∈ z_tbl := z_in (i := 812) (by decide +kernel) rfl
theorem n_813 : Cond.laysStatic "VeilSteps$Voices" "BODIES" "[I" ∈ lw_tbl := List.mem_of_getElem? (i := 813) (by decide +kernel)
theorem m_814 : Cond.methodLink RX7 49 yX4_add ∈ z_tbl := z_in (i := 814) (by decide +kernel) rfl
theorem m_815 : Cond.methodLink RX7 52 yX7_worked ∈ z_tbl := z_in (i := 815) (by decide +kernel) rfl
theorem m_817 : Cond.instanceMethod yX7_worked ∈ z_tbl := z_in (i := 817) (by decide +kernel) rfl
set_option maxRecDepth 100000 in
theorem m_818 : Cond.code yX7_worked cX7_worked 6 (some FieldType.int) ∈ z_tbl := z_in (i := 818) (by rfl) rfl
theorem m_819 : Cond.methodLink RX7 55 yX2_above ∈ z_tbl := z_in (i := 819) (by decide +kernel) rfl
theorem m_820 : Cond.methodLink RX7 59 yX7_own ∈ z_tbl := z_in (i := 820) (by decide +kernel) rfl
theorem m_822 : Cond.instanceMethod yX7_own ∈ z_tbl := z_in (i := 822) (by decide +kernel) rfl
set_option maxRecDepth 100000 in
theorem m_823 : Cond.code yX7_own cX7_own 4 (some FieldType.int) ∈ z_tbl := z_in (i := 823) (by rfl) rfl
theorem m_824 : Cond.methodLink RX7 63 yX7_partsBy ∈ z_tbl := z_in (i := 824) (by decide +kernel) rfl
theorem m_826 : Cond.instanceMethod yX7_partsBy ∈ z_tbl := z_in (i := 826) (by decide +kernel) rfl
set_option maxRecDepth 100000 in
theorem m_827 : Cond.code yX7_partsBy cX7_partsBy 3 (some FieldType.int) ∈ z_tbl := z_in (i := 827) (by rfl) rfl
theorem m_828 : Cond.methodLink RX7 67 yX7_heiressParts ∈ z_tbl := z_in (i := 828) (by decide +kernel) rfl
theorem m_830 : Cond.instanceMethod yX7_heiressParts ∈ z_tbl := z_in (i := 830) (by decide +kernel) rfl
set_option maxRecDepth 100000 in
theorem m_831 : Cond.code yX7_heiressParts cX7_heiressParts 5 (some FieldType.int) ∈ z_tbl := z_in (i := 831) (by rfl) rfl
theorem m_832 : Cond.methodLink RL 132 yX9_body ∈ z_tbl := z_in (i := 832) (by decide +kernel) rfl
theorem m_833 : Cond.instanceMethod yX9_body ∈ z_tbl := z_in (i := 833) (by decide +kernel) rfl
theorem m_834 : Cond.selects RX9 yX9_body yX9_body ∈ z_tbl := z_in (i := 834) (by decide +kernel) rfl
set_option maxRecDepth 100000 in
theorem m_835 : Cond.code yX9_body cX9_body 2 (some FieldType.int) ∈ z_tbl := z_in (i := 835) (by rfl) rfl
theorem m_836 : Cond.methodLink RX9 277 yX4_stands ∈ z_tbl := z_in (i := 836) (by decide +kernel) rfl
theorem m_837 : Cond.instanceMethod yX4_stands ∈ z_tbl := z_in (i := 837) (by decide +kernel) rfl
theorem m_838 : Cond.selects RX4 yX4_stands yX4_stands ∈ z_tbl := z_in (i := 838) (by decide +kernel) rfl
set_option maxRecDepth 100000 in
theorem m_839 : Cond.code yX4_stands cX4_stands 2 (some FieldType.boolean) ∈ z_tbl := z_in (i := 839) (by rfl) rfl
theorem m_840 : Cond.methodLink RX9 280 yX4_at ∈ z_tbl := z_in (i := 840) (by decide +kernel) rfl
theorem m_841 : Cond.methodLink RL 136 yX9_sheet ∈ z_tbl := z_in (i := 841) (by decide +kernel) rfl
theorem m_842 : Cond.instanceMethod yX9_sheet ∈ z_tbl := z_in (i := 842) (by decide +kernel) rfl
theorem m_843 : Cond.selects RX9 yX9_sheet yX9_sheet ∈ z_tbl := z_in (i := 843) (by decide +kernel) rfl
set_option maxRecDepth 100000 in
theorem m_844 : Cond.code yX9_sheet cX9_sheet 4 (some FieldType.int) ∈ z_tbl := z_in (i := 844) (by rfl) rfl
theorem m_845 : Cond.methodLink RX9 283 yX5_areBits ∈ z_tbl := z_in (i := 845) (by decide +kernel) rfl
theorem m_846 : Cond.static yX5_areBits ∈ z_tbl := z_in (i := 846) (by decide +kernel) rfl
set_option maxRecDepth 100000 in
theorem m_847 : Cond.code yX5_areBits cX5_areBits 1 (some FieldType.boolean) ∈ z_tbl := z_in (i := 847) (by rfl) rfl
theorem m_848 : Cond.methodLink RX9 286 yX5_makeNew ∈ z_tbl := z_in (i := 848) (by decide +kernel) rfl
theorem m_849 : Cond.instanceMethod yX5_makeNew ∈ z_tbl := z_in (i := 849) (by decide +kernel) rfl
theorem m_850 : Cond.selects RX5 yX5_makeNew yX5_makeNew ∈ z_tbl := z_in (i := 850) (by decide +kernel) rfl
set_option maxRecDepth 100000 in
theorem m_851 : Cond.code yX5_makeNew cX5_makeNew 4 none ∈ z_tbl := z_in (i := 851) (by rfl) rfl
theorem m_852 : Cond.methodLink RX5 24 yX4_clear ∈ z_tbl := z_in (i := 852) (by decide +kernel) rfl
theorem m_853 : Cond.methodLink RX5 27 yX4_add ∈ z_tbl := z_in (i := 853) (by decide +kernel) rfl
theorem m_854 : Cond.methodLink RL 140 yX9_put ∈ z_tbl := z_in (i := 854) (by decide +kernel) rfl
theorem m_855 : Cond.instanceMethod yX9_put ∈ z_tbl := z_in (i := 855) (by decide +kernel) rfl
theorem m_856 : Cond.selects RX9 yX9_put yX9_put ∈ z_tbl := z_in (i := 856) (by decide +kernel) rfl
set_option maxRecDepth 100000 in
theorem m_857 : Cond.code yX9_put cX9_put 4 (some FieldType.int) ∈ z_tbl := z_in (i := 857) (by rfl) rfl
theorem m_858 : Cond.methodLink RX9 289 yX5_write ∈ z_tbl := z_in (i := 858) (by decide +kernel) rfl
theorem m_859 : Cond.instanceMethod yX5_write ∈ z_tbl := z_in (i := 859) (by decide +kernel) rfl
theorem m_860 : Cond.selects RX5 yX5_write yX5_write ∈ z_tbl := z_in (i := 860) (by decide +kernel) rfl
set_option maxRecDepth 100000 in
theorem m_861 : Cond.code yX5_write cX5_write 3 none ∈ z_tbl := z_in (i := 861) (by rfl) rfl
theorem m_862 : Cond.methodLink RX5 30 yX4_write ∈ z_tbl := z_in (i := 862) (by decide +kernel) rfl
theorem m_863 : Cond.instanceMethod yX4_write ∈ z_tbl := z_in (i := 863) (by decide +kernel) rfl
theorem m_864 : Cond.selects RX4 yX4_write yX4_write ∈ z_tbl := z_in (i := 864) (by decide +kernel) rfl
set_option maxRecDepth 100000 in
theorem m_865 : Cond.code yX4_write cX4_write 3 none ∈ z_tbl := z_in (i := 865) (by rfl) rfl
theorem m_866 : Cond.methodLink RX4 23 yX4_stands ∈ z_tbl := z_in (i := 866) (by decide +kernel) rfl
theorem m_867 : Cond.methodLink RL 144 yX9_move ∈ z_tbl := z_in (i := 867) (by decide +kernel) rfl
theorem m_868 : Cond.instanceMethod yX9_move ∈ z_tbl := z_in (i := 868) (by decide +kernel) rfl
theorem m_869 : Cond.selects RX9 yX9_move yX9_move ∈ z_tbl := z_in (i := 869) (by decide +kernel) rfl
set_option maxRecDepth 100000 in
theorem m_870 : Cond.code yX9_move cX9_move 6 (some FieldType.int) ∈ z_tbl := z_in (i := 870) (by rfl) rfl
theorem m_871 : Cond.methodLink RX9 295 yX4_stand ∈ z_tbl := z_in (i := 871) (by decide +kernel) rfl
theorem m_872 : Cond.instanceMethod yX4_stand ∈ z_tbl := z_in (i := 872) (by decide +kernel) rfl
theorem m_873 : Cond.selects RX4 yX4_stand yX4_stand ∈ z_tbl := z_in (i := 873) (by decide +kernel) rfl
set_option maxRecDepth 100000 in
theorem m_874 : Cond.code yX4_stand cX4_stand 3 (some FieldType.boolean) ∈ z_tbl := z_in (i := 874) (by rfl) rfl
theorem m_875 : Cond.methodLink RX9 298 yX4_take ∈ z_tbl := z_in (i := 875) (by decide +kernel) rfl
theorem m_876 : Cond.instanceMethod yX4_take ∈ z_tbl := z_in (i := 876) (by decide +kernel) rfl
theorem m_877 : Cond.selects RX4 yX4_take yX4_take ∈ z_tbl := z_in (i := 877) (by decide +kernel) rfl
set_option maxRecDepth 100000 in
theorem m_878 : Cond.code yX4_take cX4_take 5 none ∈ z_tbl := z_in (i := 878) (by rfl) rfl
theorem m_879 : Cond.methodLink RX4 36 yX4_stand ∈ z_tbl := z_in (i := 879) (by decide +kernel) rfl
theorem m_880 : Cond.methodLink RL 149 yX9_seenAll ∈ z_tbl := z_in (i := 880) (by decide +kernel) rfl
theorem m_881 : Cond.instanceMethod yX9_seenAll ∈ z_tbl := z_in (i := 881) (by decide +kernel) rfl
theorem m_882 : Cond.selects RX9 yX9_seenAll yX9_seenAll ∈ z_tbl := z_in (i := 882) (by decide +kernel) rfl
set_option maxRecDepth 100000 in
theorem m_883 : Cond.code yX9_seenAll cX9_seenAll 4 (some FieldType.int) ∈ z_tbl := z_in (i := 883) (by rfl) rfl
theorem m_884 : Cond.methodLink RL 153 yX9_judge ∈ z_tbl := z_in (i := 884) (by decide +kernel) rfl
theorem m_885 : Cond.instanceMethod yX9_judge ∈ z_tbl := z_in (i := 885) (by decide +kernel) rfl
theorem m_886 : Cond.selects RX9 yX9_judge yX9_judge ∈ z_tbl := z_in (i := 886) (by decide +kernel) rfl
set_option maxRecDepth 100000 in
theorem m_887 : Cond.code yX9_judge cX9_judge 4 (some FieldType.int) ∈ z_tbl := z_in (i := 887) (by rfl) rfl
theorem m_888 : Cond.methodLink RL 157 yX9_image ∈ z_tbl := z_in (i := 888) (by decide +kernel) rfl
theorem m_889 : Cond.instanceMethod yX9_image ∈ z_tbl := z_in (i := 889) (by decide +kernel) rfl
theorem m_890 : Cond.selects RX9 yX9_image yX9_image ∈ z_tbl := z_in (i := 890) (by decide +kernel) rfl
set_option maxRecDepth 100000 in
theorem m_891 : Cond.code yX9_image cX9_image 1 (some FieldType.int) ∈ z_tbl := z_in (i := 891) (by rfl) rfl
theorem m_892 : Cond.methodLink RX9 302 yX8_copy ∈ z_tbl := z_in (i := 892) (by decide +kernel) rfl
theorem m_893 : Cond.instanceMethod yX8_copy ∈ z_tbl := z_in (i := 893) (by decide +kernel) rfl
theorem m_894 : Cond.selects RX8 yX8_copy yX8_copy ∈ z_tbl := z_in (i := 894) (by decide +kernel) rfl
set_option maxRecDepth 100000 in
theorem m_895 : Cond.code yX8_copy cX8_copy 3 none ∈ z_tbl := z_in (i := 895) (by rfl) rfl
theorem m_896 : Cond.methodLink RX8 156 yX1_copy ∈ z_tbl := z_in (i := 896) (by decide +kernel) rfl
theorem m_897 : Cond.instanceMethod yX1_copy ∈ z_tbl := z_in (i := 897) (by decide +kernel) rfl
theorem m_898 : Cond.selects RX1 yX1_copy yX1_copy ∈ z_tbl := z_in (i := 898) (by decide +kernel) rfl
set_option maxRecDepth 100000 in
theorem m_899 : Cond.code yX1_copy cX1_copy 2 none ∈ z_tbl := z_in (i := 899) (by rfl) rfl
theorem m_900 : Cond.methodLink RX1 61 arraycopyName ∈ z_tbl := z_in (i := 900) (by decide +kernel) rfl
theorem m_901 : Cond.methodLink RX8 160 yX0_copy ∈ z_tbl := z_in (i := 901) (by decide +kernel) rfl
theorem m_902 : Cond.methodLink RX8 163 arraycopyName ∈ z_tbl := z_in (i := 902) (by decide +kernel) rfl
theorem m_903 : Cond.methodLink RX8 172 yX4_copy ∈ z_tbl := z_in (i := 903) (by decide +kernel) rfl
theorem m_904 : Cond.methodLink RL 162 yX9_restore ∈ z_tbl := z_in (i := 904) (by decide +kernel) rfl
theorem m_905 : Cond.instanceMethod yX9_restore ∈ z_tbl := z_in (i := 905) (by decide +kernel) rfl
theorem m_906 : Cond.selects RX9 yX9_restore yX9_restore ∈ z_tbl := z_in (i := 906) (by decide +kernel) rfl
set_option maxRecDepth 100000 in
theorem m_907 : Cond.code yX9_restore cX9_restore 1 (some FieldType.int) ∈ z_tbl := z_in (i := 907) (by rfl) rfl
theorem m_908 : Cond.methodLink RL 166 yX9_tell ∈ z_tbl := z_in (i := 908) (by decide +kernel) rfl
theorem m_909 : Cond.instanceMethod yX9_tell ∈ z_tbl := z_in (i := 909) (by decide +kernel) rfl
theorem m_910 : Cond.selects RX9 yX9_tell yX9_tell ∈ z_tbl := z_in (i := 910) (by decide +kernel) rfl
set_option maxRecDepth 100000 in
theorem m_911 : Cond.code yX9_tell cX9_tell 2 (some FieldType.int) ∈ z_tbl := z_in (i := 911) (by rfl) rfl
theorem m_912 : Cond.methodLink RL 170 yX9_check ∈ z_tbl := z_in (i := 912) (by decide +kernel) rfl
theorem m_913 : Cond.instanceMethod yX9_check ∈ z_tbl := z_in (i := 913) (by decide +kernel) rfl
theorem m_914 : Cond.selects RX9 yX9_check yX9_check ∈ z_tbl := z_in (i := 914) (by decide +kernel) rfl
set_option maxRecDepth 100000 in
theorem m_915 : Cond.code yX9_check cX9_check 3 (some FieldType.int) ∈ z_tbl := z_in (i := 915) (by rfl) rfl
theorem m_916 : Cond.methodLink RL 174 yX9_count ∈ z_tbl := z_in (i := 916) (by decide +kernel) rfl
theorem m_917 : Cond.instanceMethod yX9_count ∈ z_tbl := z_in (i := 917) (by decide +kernel) rfl
theorem m_918 : Cond.selects RX9 yX9_count yX9_count ∈ z_tbl := z_in (i := 918) (by decide +kernel) rfl
set_option maxRecDepth 100000 in
theorem m_919 : Cond.code yX9_count cX9_count 2 (some FieldType.int) ∈ z_tbl := z_in (i := 919) (by rfl) rfl
theorem m_920 : Cond.methodLink RL 178 yX9_told ∈ z_tbl := z_in (i := 920) (by decide +kernel) rfl
theorem m_921 : Cond.instanceMethod yX9_told ∈ z_tbl := z_in (i := 921) (by decide +kernel) rfl
theorem m_922 : Cond.selects RX9 yX9_told yX9_told ∈ z_tbl := z_in (i := 922) (by decide +kernel) rfl
set_option maxRecDepth 100000 in
theorem m_923 : Cond.code yX9_told cX9_told 2 (some FieldType.int) ∈ z_tbl := z_in (i := 923) (by rfl) rfl
theorem m_924 : Cond.classLink RL 10 "VeilStepsModel" ∈ z_tbl := z_in (i := 924) (by decide +kernel) rfl
theorem m_925 : Cond.instantiable RX10 20 ∈ z_tbl := z_in (i := 925) (by decide +kernel) rfl
theorem m_926 : Cond.methodLink RL 12 yX10_init ∈ z_tbl := z_in (i := 926) (by decide +kernel) rfl
theorem m_927 : Cond.instanceMethod yX10_init ∈ z_tbl := z_in (i := 927) (by decide +kernel) rfl
set_option maxRecDepth 100000 in
theorem m_928 : Cond.code yX10_init cX10_init 2 none ∈ z_tbl := z_in (i := 928) (by rfl) rfl
theorem m_929 : Cond.methodLink RX10 3 objectInit ∈ z_tbl := z_in (i := 929) (by decide +kernel) rfl
theorem m_930 : Cond.fieldLink RX10 9 "VeilStepsModel" "row" "[I" ∈ z_tbl := z_in (i := 930) (by decide +kernel) rfl
theorem m_931 : Cond.fieldLink RX10 13 "VeilStepsModel" "kept" "[I" ∈ z_tbl := z_in (i := 931) (by decide +kernel) rfl
theorem m_932 : Cond.fieldLink RX10 16 "VeilStepsModel" "before" "[I" ∈ z_tbl := z_in (i := 932) (by decide +kernel) rfl
theorem m_933 : Cond.fieldLink RX10 266 "VeilStepsModel" "images" "I" ∈ z_tbl := z_in (i := 933) (by decide +kernel) rfl
theorem m_934 : Cond.fieldLink RX10 19 "VeilStepsModel" "errors" "[I" ∈ z_tbl := z_in (i := 934) (by decide +kernel) rfl
theorem m_935 : Cond.fieldLink RX10 22 "VeilStepsModel" "bitsOf" "[I" ∈ z_tbl := z_in (i := 935) (by decide +kernel) rfl
theorem m_936 : Cond.fieldLink RX10 25 "VeilStepsModel" "sizeOf" "[I" ∈ z_tbl := z_in (i := 936) (by decide +kernel) rfl
theorem m_937 : Cond.fieldLink RX10 28 "VeilStepsModel" "cells" "[I" ∈ z_tbl := z_in (i := 937) (by decide +kernel) rfl
theorem m_938 : Cond.fieldLink RX10 31 "VeilStepsModel" "act" "[I" ∈ z_tbl := z_in (i := 938) (by decide +kernel) rfl
theorem m_939 : Cond.fieldLink RX10 34 "VeilStepsModel" "with" "[I" ∈ z_tbl := z_in (i := 939) (by decide +kernel) rfl
theorem m_940 : Cond.fieldLink RX10 37 "VeilStepsModel" "facts" "[I" ∈ z_tbl := z_in (i := 940) (by decide +kernel) rfl
theorem m_941 : Cond.fieldLink RX10 40 "VeilStepsModel" "pile" "[I" ∈ z_tbl := z_in (i := 941) (by decide +kernel) rfl
theorem m_942 : Cond.fieldLink RX10 124 "VeilStepsModel" "laid" "I" ∈ z_tbl := z_in (i := 942) (by decide +kernel) rfl
theorem m_943 : Cond.fieldLink RX10 120 "VeilStepsModel" "here" "I" ∈ z_tbl := z_in (i := 943) (by decide +kernel) rfl
theorem m_944 : Cond.fieldLink RX10 141 "VeilStepsModel" "opened" "I" ∈ z_tbl := z_in (i := 944) (by decide +kernel) rfl
theorem m_945 : Cond.fieldLink RX10 134 "VeilStepsModel" "bad" "Z" ∈ z_tbl := z_in (i := 945) (by decide +kernel) rfl
theorem m_946 : Cond.fieldLink RX10 127 "VeilStepsModel" "using" "I" ∈ z_tbl := z_in (i := 946) (by decide +kernel) rfl
theorem m_947 : Cond.fieldLink RX10 43 "VeilStepsModel" "trace" "[I" ∈ z_tbl := z_in (i := 947) (by decide +kernel) rfl
theorem m_948 : Cond.fieldLink RX10 219 "VeilStepsModel" "traced" "I" ∈ z_tbl := z_in (i := 948) (by decide +kernel) rfl
theorem m_949 : Cond.fieldLink RX10 246 "VeilStepsModel" "isParted" "Z" ∈ z_tbl := z_in (i := 949) (by decide +kernel) rfl
theorem m_950 : Cond.laysFinal RX10 "VeilStepsModel" "row" "[I" ∈ z_tbl := z_in (i := 950) (by decide +kernel) rfl
theorem m_952 : Cond.laysFinal RX10 "VeilStepsModel" "kept" "[I" ∈ z_tbl := z_in (i := 952) (by decide +kernel) rfl
theorem m_954 : Cond.laysFinal RX10 "VeilStepsModel" "before" "[I" ∈ z_tbl := z_in (i := 954) (by decide +kernel) rfl
theorem m_956 : Cond.lays RX10 "VeilStepsModel" "images" "I" ∈ z_tbl := z_in (i := 956) (by decide +kernel) rfl
theorem m_958 : Cond.laysFinal RX10 "VeilStepsModel" "errors" "[I" ∈ z_tbl := z_in (i := 958) (by decide +kernel) rfl
theorem m_960 : Cond.laysFinal RX10 "VeilStepsModel" "bitsOf" "[I" ∈ z_tbl := z_in (i := 960) (by decide +kernel) rfl
theorem m_962 : Cond.laysFinal RX10 "VeilStepsModel" "sizeOf" "[I" ∈ z_tbl := z_in (i := 962) (by decide +kernel) rfl
theorem m_964 : Cond.laysFinal RX10 "VeilStepsModel" "cells" "[I" ∈ z_tbl := z_in (i := 964) (by decide +kernel) rfl
theorem m_966 : Cond.laysFinal RX10 "VeilStepsModel" "act" "[I" ∈ z_tbl := z_in (i := 966) (by decide +kernel) rfl
theorem m_968 : Cond.laysFinal RX10 "VeilStepsModel" "with" "[I" ∈ z_tbl := z_in (i := 968) (by decide +kernel) rfl
theorem m_970 : Cond.laysFinal RX10 "VeilStepsModel" "facts" "[I" ∈ z_tbl := z_in (i := 970) (by decide +kernel) rfl
theorem m_972 : Cond.laysFinal RX10 "VeilStepsModel" "pile" "[I" ∈ z_tbl := z_in (i := 972) (by decide +kernel) rfl
theorem m_974 : Cond.lays RX10 "VeilStepsModel" "laid" "I" ∈ z_tbl := z_in (i := 974) (by decide +kernel) rfl
theorem m_976 : Cond.lays RX10 "VeilStepsModel" "here" "I" ∈ z_tbl := z_in (i := 976) (by decide +kernel) rfl
theorem m_978 : Cond.lays RX10 "VeilStepsModel" "opened" "I" ∈ z_tbl := z_in (i := 978) (by decide +kernel) rfl
theorem m_980 : Cond.lays RX10 "VeilStepsModel" "bad" "Z" ∈ z_tbl := z_in (i := 980) (by decide +kernel) rfl
theorem m_982 : Cond.lays RX10 "VeilStepsModel" "using" "I" ∈ z_tbl := z_in (i := 982) (by decide +kernel) rfl
theorem m_984 : Cond.laysFinal RX10 "VeilStepsModel" "trace" "[I" ∈ z_tbl := z_in (i := 984) (by decide +kernel) rfl
theorem m_986 : Cond.lays RX10 "VeilStepsModel" "traced" "I" ∈ z_tbl := z_in (i := 986) (by decide +kernel) rfl
theorem m_988 : Cond.lays RX10 "VeilStepsModel" "isParted" "Z" ∈ z_tbl := z_in (i := 988) (by decide +kernel) rfl
theorem m_991 : Cond.methodLink RL 17 yX10_person ∈ z_tbl := z_in (i := 991) (by decide +kernel) rfl
theorem m_992 : Cond.instanceMethod yX10_person ∈ z_tbl := z_in (i := 992) (by decide +kernel) rfl
theorem m_993 : Cond.selects RX10 yX10_person yX10_person ∈ z_tbl := z_in (i := 993) (by decide +kernel) rfl
set_option maxRecDepth 100000 in
theorem m_994 : Cond.code yX10_person cX10_person 4 (some FieldType.int) ∈ z_tbl := z_in (i := 994) (by rfl) rfl
theorem m_995 : Cond.methodLink RX10 86 yX10_isKm ∈ z_tbl := z_in (i := 995) (by decide +kernel) rfl
theorem m_996 : Cond.static yX10_isKm ∈ z_tbl := z_in (i := 996) (by decide +kernel) rfl
set_option maxRecDepth 100000 in
theorem m_997 : Cond.code yX10_isKm cX10_isKm 1 (some FieldType.boolean) ∈ z_tbl := z_in (i := 997) (by rfl) rfl
theorem m_998 : Cond.methodLink RX10 51 yX10_in ∈ z_tbl := z_in (i := 998) (by decide +kernel) rfl
theorem m_999 : Cond.static yX10_in ∈ z_tbl := z_in (i := 999) (by decide +kernel) rfl
set_option maxRecDepth 100000 in
theorem m_1000 : Cond.code yX10_in cX10_in 3 (some FieldType.boolean) ∈ z_tbl := z_in (i := 1000) (by rfl) rfl
theorem m_1001 : Cond.constant RX10 90 (-1000000001) ∈ z_tbl := z_in (i := 1001) (by decide +kernel) rfl
theorem m_1002 : Cond.methodLink RX10 91 yX10_error ∈ z_tbl := z_in (i := 1002) (by decide +kernel) rfl
theorem m_1004 : Cond.instanceMethod yX10_error ∈ z_tbl := z_in (i := 1004) (by decide +kernel) rfl
set_option maxRecDepth 100000 in
theorem m_1005 : Cond.code yX10_error cX10_error 2 (some FieldType.int) ∈ z_tbl := z_in (i := 1005) (by rfl) rfl
theorem m_1006 : Cond.constant RX10 46 (-1000000000) ∈ z_tbl := z_in (i := 1006) (by decide +kernel) rfl
theorem m_1007 : Cond.constant RX10 94 (-1000000004) ∈ z_tbl := z_in (i := 1007) (by decide +kernel) rfl
theorem m_1008 : Cond.methodLink RX10 95 yX10_puts ∈ z_tbl := z_in (i := 1008) (by decide +kernel) rfl
theorem m_1010 : Cond.instanceMethod yX10_puts ∈ z_tbl := z_in (i := 1010) (by decide +kernel) rfl
set_option maxRecDepth 100000 in
theorem m_1011 : Cond.code yX10_puts cX10_puts 4 none ∈ z_tbl := z_in (i := 1011) (by rfl) rfl
theorem m_1012 : Cond.methodLink RL 21 yX10_personIs ∈ z_tbl := z_in (i := 1012) (by decide +kernel) rfl
theorem m_1013 : Cond.instanceMethod yX10_personIs ∈ z_tbl := z_in (i := 1013) (by decide +kernel) rfl
theorem m_1014 : Cond.selects RX10 yX10_personIs yX10_personIs ∈ z_tbl := z_in (i := 1014) (by decide +kernel) rfl
set_option maxRecDepth 100000 in
theorem m_1015 : Cond.code yX10_personIs cX10_personIs 3 (some FieldType.int) ∈ z_tbl := z_in (i := 1015) (by rfl) rfl
theorem m_1016 : Cond.methodLink RX10 99 yX10_isPerson ∈ z_tbl := z_in (i := 1016) (by decide +kernel) rfl
theorem m_1018 : Cond.instanceMethod yX10_isPerson ∈ z_tbl := z_in (i := 1018) (by decide +kernel) rfl
set_option maxRecDepth 100000 in
theorem m_1019 : Cond.code yX10_isPerson cX10_isPerson 2 (some FieldType.boolean) ∈ z_tbl := z_in (i := 1019) (by rfl) rfl
theorem m_1020 : Cond.methodLink RX10 55 yX10_of ∈ z_tbl := z_in (i := 1020) (by decide +kernel) rfl
theorem m_1022 : Cond.instanceMethod yX10_of ∈ z_tbl := z_in (i := 1022) (by decide +kernel) rfl
set_option maxRecDepth 100000 in
theorem m_1023 : Cond.code yX10_of cX10_of 3 (some FieldType.int) ∈ z_tbl := z_in (i := 1023) (by rfl) rfl
theorem m_1024 : Cond.methodLink RX10 102 yX10_sight ∈ z_tbl := z_in (i := 1024) (by decide +kernel) rfl
theorem m_1026 : Cond.instanceMethod yX10_sight ∈ z_tbl := z_in (i := 1026) (by decide +kernel) rfl
set_option maxRecDepth 100000 in
theorem m_1027 : Cond.code yX10_sight cX10_sight 2 (some FieldType.int) ∈ z_tbl := z_in (i := 1027) (by rfl) rfl
theorem m_1028 : Cond.methodLink RX10 83 yX10_eyes ∈ z_tbl := z_in (i := 1028) (by decide +kernel) rfl
theorem m_1030 : Cond.instanceMethod yX10_eyes ∈ z_tbl := z_in (i := 1030) (by decide +kernel) rfl
set_option maxRecDepth 100000 in
theorem m_1031 : Cond.code yX10_eyes cX10_eyes 2 (some FieldType.int) ∈ z_tbl := z_in (i := 1031) (by rfl) rfl
theorem m_1032 : Cond.methodLink RX10 70 yX10_relatives ∈ z_tbl := z_in (i := 1032) (by decide +kernel) rfl
theorem m_1034 : Cond.instanceMethod yX10_relatives ∈ z_tbl := z_in (i := 1034) (by decide +kernel) rfl
set_option maxRecDepth 100000 in
theorem m_1035 : Cond.code yX10_relatives cX10_relatives 2 (some FieldType.int) ∈ z_tbl := z_in (i := 1035) (by rfl) rfl
theorem m_1036 : Cond.methodLink RX10 63 yX10_besides ∈ z_tbl := z_in (i := 1036) (by decide +kernel) rfl
theorem m_1038 : Cond.instanceMethod yX10_besides ∈ z_tbl := z_in (i := 1038) (by decide +kernel) rfl
set_option maxRecDepth 100000 in
theorem m_1039 : Cond.code yX10_besides cX10_besides 5 (some FieldType.int) ∈ z_tbl := z_in (i := 1039) (by rfl) rfl
theorem m_1040 : Cond.methodLink RX10 59 yX10_isKin ∈ z_tbl := z_in (i := 1040) (by decide +kernel) rfl
theorem m_1042 : Cond.instanceMethod yX10_isKin ∈ z_tbl := z_in (i := 1042) (by decide +kernel) rfl
set_option maxRecDepth 100000 in
theorem m_1043 : Cond.code yX10_isKin cX10_isKin 3 (some FieldType.boolean) ∈ z_tbl := z_in (i := 1043) (by rfl) rfl
theorem m_1044 : Cond.methodLink RX10 67 yX10_bits ∈ z_tbl := z_in (i := 1044) (by decide +kernel) rfl
theorem m_1045 : Cond.static yX10_bits ∈ z_tbl := z_in (i := 1045) (by decide +kernel) rfl
set_option maxRecDepth 100000 in
theorem m_1046 : Cond.code yX10_bits cX10_bits 3 (some FieldType.int) ∈ z_tbl := z_in (i := 1046) (by rfl) rfl
theorem m_1047 : Cond.methodLink RX10 79 yX10_gives ∈ z_tbl := z_in (i := 1047) (by decide +kernel) rfl
theorem m_1049 : Cond.instanceMethod yX10_gives ∈ z_tbl := z_in (i := 1049) (by decide +kernel) rfl
set_option maxRecDepth 100000 in
theorem m_1050 : Cond.code yX10_gives cX10_gives 6 (some FieldType.int) ∈ z_tbl := z_in (i := 1050) (by rfl) rfl
theorem m_1051 : Cond.methodLink RX10 176 yX10_works ∈ z_tbl := z_in (i := 1051) (by decide +kernel) rfl
theorem m_1053 : Cond.instanceMethod yX10_works ∈ z_tbl := z_in (i := 1053) (by decide +kernel) rfl
set_option maxRecDepth 100000 in
theorem m_1054 : Cond.code yX10_works cX10_works 5 (some FieldType.int) ∈ z_tbl := z_in (i := 1054) (by rfl) rfl
theorem m_1055 : Cond.methodLink RX10 172 yX10_twoOf ∈ z_tbl := z_in (i := 1055) (by decide +kernel) rfl
theorem m_1056 : Cond.static yX10_twoOf ∈ z_tbl := z_in (i := 1056) (by decide +kernel) rfl
set_option maxRecDepth 100000 in
theorem m_1057 : Cond.code yX10_twoOf cX10_twoOf 3 (some FieldType.int) ∈ z_tbl := z_in (i := 1057) (by rfl) rfl
theorem m_1058 : Cond.methodLink RX10 179 yX10_held ∈ z_tbl := z_in (i := 1058) (by decide +kernel) rfl
theorem m_1059 : Cond.static yX10_held ∈ z_tbl := z_in (i := 1059) (by decide +kernel) rfl
set_option maxRecDepth 100000 in
theorem m_1060 : Cond.code yX10_held cX10_held 3 (some FieldType.int) ∈ z_tbl := z_in (i := 1060) (by rfl) rfl
theorem m_1061 : Cond.methodLink RL 25 yX10_become ∈ z_tbl := z_in (i := 1061) (by decide +kernel) rfl
theorem m_1062 : Cond.instanceMethod yX10_become ∈ z_tbl := z_in (i := 1062) (by decide +kernel) rfl
theorem m_1063 : Cond.selects RX10 yX10_become yX10_become ∈ z_tbl := z_in (i := 1063) (by decide +kernel) rfl
set_option maxRecDepth 100000 in
theorem m_1064 : Cond.code yX10_become cX10_become 3 (some FieldType.int) ∈ z_tbl := z_in (i := 1064) (by rfl) rfl
theorem m_1065 : Cond.methodLink RX10 105 yX10_becomes ∈ z_tbl := z_in (i := 1065) (by decide +kernel) rfl
theorem m_1067 : Cond.instanceMethod yX10_becomes ∈ z_tbl := z_in (i := 1067) (by decide +kernel) rfl
set_option maxRecDepth 100000 in
theorem m_1068 : Cond.code yX10_becomes cX10_becomes 4 (some FieldType.int) ∈ z_tbl := z_in (i := 1068) (by rfl) rfl
theorem m_1069 : Cond.methodLink RL 29 yX10_as ∈ z_tbl := z_in (i := 1069) (by decide +kernel) rfl
theorem m_1070 : Cond.instanceMethod yX10_as ∈ z_tbl := z_in (i := 1070) (by decide +kernel) rfl
theorem m_1071 : Cond.selects RX10 yX10_as yX10_as ∈ z_tbl := z_in (i := 1071) (by decide +kernel) rfl
set_option maxRecDepth 100000 in
theorem m_1072 : Cond.code yX10_as cX10_as 5 (some FieldType.int) ∈ z_tbl := z_in (i := 1072) (by rfl) rfl
theorem m_1073 : Cond.constant RX10 108 (-1000000005) ∈ z_tbl := z_in (i := 1073) (by decide +kernel) rfl
theorem m_1074 : Cond.methodLink RL 33 yX10_descends ∈ z_tbl := z_in (i := 1074) (by decide +kernel) rfl
theorem m_1075 : Cond.instanceMethod yX10_descends ∈ z_tbl := z_in (i := 1075) (by decide +kernel) rfl
theorem m_1076 : Cond.selects RX10 yX10_descends yX10_descends ∈ z_tbl := z_in (i := 1076) (by decide +kernel) rfl
set_option maxRecDepth 100000 in
theorem m_1077 : Cond.code yX10_descends cX10_descends 3 (some FieldType.int) ∈ z_tbl := z_in (i := 1077) (by rfl) rfl
theorem m_1078 : Cond.methodLink RL 37 yX10_marries ∈ z_tbl := z_in (i := 1078) (by decide +kernel) rfl
theorem m_1079 : Cond.instanceMethod yX10_marries ∈ z_tbl := z_in (i := 1079) (by decide +kernel) rfl
theorem m_1080 : Cond.selects RX10 yX10_marries yX10_marries ∈ z_tbl := z_in (i := 1080) (by decide +kernel) rfl
set_option maxRecDepth 100000 in
theorem m_1081 : Cond.code yX10_marries cX10_marries 3 (some FieldType.int) ∈ z_tbl := z_in (i := 1081) (by rfl) rfl
theorem m_1082 : Cond.constant RX10 109 (-1000000003) ∈ z_tbl := z_in (i := 1082) (by decide +kernel) rfl
theorem m_1083 : Cond.methodLink RX10 110 yX10_weds ∈ z_tbl := z_in (i := 1083) (by decide +kernel) rfl
theorem m_1085 : Cond.instanceMethod yX10_weds ∈ z_tbl := z_in (i := 1085) (by decide +kernel) rfl
set_option maxRecDepth 100000 in
theorem m_1086 : Cond.code yX10_weds cX10_weds 3 none ∈ z_tbl := z_in (i := 1086) (by rfl) rfl
theorem m_1087 : Cond.methodLink RL 42 yX10_parts ∈ z_tbl := z_in (i := 1087) (by decide +kernel) rfl
theorem m_1088 : Cond.instanceMethod yX10_parts ∈ z_tbl := z_in (i := 1088) (by decide +kernel) rfl
theorem m_1089 : Cond.selects RX10 yX10_parts yX10_parts ∈ z_tbl := z_in (i := 1089) (by decide +kernel) rfl
set_option maxRecDepth 100000 in
theorem m_1090 : Cond.code yX10_parts cX10_parts 3 (some FieldType.int) ∈ z_tbl := z_in (i := 1090) (by rfl) rfl
theorem m_1091 : Cond.constant RX10 114 (-1000000002) ∈ z_tbl := z_in (i := 1091) (by decide +kernel) rfl
theorem m_1092 : Cond.methodLink RL 46 yX10_steps ∈ z_tbl := z_in (i := 1092) (by decide +kernel) rfl
theorem m_1093 : Cond.instanceMethod yX10_steps ∈ z_tbl := z_in (i := 1093) (by decide +kernel) rfl
theorem m_1094 : Cond.selects RX10 yX10_steps yX10_steps ∈ z_tbl := z_in (i := 1094) (by decide +kernel) rfl
set_option maxRecDepth 100000 in
theorem m_1095 : Cond.code yX10_steps cX10_steps 3 (some FieldType.int) ∈ z_tbl := z_in (i := 1095) (by rfl) rfl
theorem m_1096 : Cond.methodLink RX10 73 yX10_stepsBy ∈ z_tbl := z_in (i := 1096) (by decide +kernel) rfl
theorem m_1098 : Cond.instanceMethod yX10_stepsBy ∈ z_tbl := z_in (i := 1098) (by decide +kernel) rfl
set_option maxRecDepth 100000 in
theorem m_1099 : Cond.code yX10_stepsBy cX10_stepsBy 6 (some FieldType.int) ∈ z_tbl := z_in (i := 1099) (by rfl) rfl
theorem m_1100 : Cond.methodLink RL 50 yX10_lets ∈ z_tbl := z_in (i := 1100) (by decide +kernel) rfl
theorem m_1101 : Cond.instanceMethod yX10_lets ∈ z_tbl := z_in (i := 1101) (by decide +kernel) rfl
theorem m_1102 : Cond.selects RX10 yX10_lets yX10_lets ∈ z_tbl := z_in (i := 1102) (by decide +kernel) rfl
set_option maxRecDepth 100000 in
theorem m_1103 : Cond.code yX10_lets cX10_lets 3 (some FieldType.int) ∈ z_tbl := z_in (i := 1103) (by rfl) rfl
theorem m_1104 : Cond.methodLink RX10 115 yX10_veils ∈ z_tbl := z_in (i := 1104) (by decide +kernel) rfl
theorem m_1106 : Cond.instanceMethod yX10_veils ∈ z_tbl := z_in (i := 1106) (by decide +kernel) rfl
set_option maxRecDepth 100000 in
theorem m_1107 : Cond.code yX10_veils cX10_veils 4 (some FieldType.int) ∈ z_tbl := z_in (i := 1107) (by rfl) rfl
theorem m_1108 : Cond.methodLink RX10 76 yX10_letsBy ∈ z_tbl := z_in (i := 1108) (by decide +kernel) rfl
theorem m_1110 : Cond.instanceMethod yX10_letsBy ∈ z_tbl := z_in (i := 1110) (by decide +kernel) rfl
set_option maxRecDepth 100000 in
theorem m_1111 : Cond.code yX10_letsBy cX10_letsBy 4 (some FieldType.int) ∈ z_tbl := z_in (i := 1111) (by rfl) rfl
theorem m_1112 : Cond.methodLink RL 55 yX10_meets ∈ z_tbl := z_in (i := 1112) (by decide +kernel) rfl
theorem m_1113 : Cond.instanceMethod yX10_meets ∈ z_tbl := z_in (i := 1113) (by decide +kernel) rfl
theorem m_1114 : Cond.selects RX10 yX10_meets yX10_meets ∈ z_tbl := z_in (i := 1114) (by decide +kernel) rfl
set_option maxRecDepth 100000 in
theorem m_1115 : Cond.code yX10_meets cX10_meets 5 (some FieldType.int) ∈ z_tbl := z_in (i := 1115) (by rfl) rfl
theorem m_1116 : Cond.methodLink RL 59 yX10_trade ∈ z_tbl := z_in (i := 1116) (by decide +kernel) rfl
theorem m_1117 : Cond.instanceMethod yX10_trade ∈ z_tbl := z_in (i := 1117) (by decide +kernel) rfl
theorem m_1118 : Cond.selects RX10 yX10_trade yX10_trade ∈ z_tbl := z_in (i := 1118) (by decide +kernel) rfl
set_option maxRecDepth 100000 in
theorem m_1119 : Cond.code yX10_trade cX10_trade 3 (some FieldType.int) ∈ z_tbl := z_in (i := 1119) (by rfl) rfl
theorem m_1120 : Cond.methodLink RL 66 yX10_feed ∈ z_tbl := z_in (i := 1120) (by decide +kernel) rfl
theorem m_1121 : Cond.instanceMethod yX10_feed ∈ z_tbl := z_in (i := 1121) (by decide +kernel) rfl
theorem m_1122 : Cond.selects RX10 yX10_feed yX10_feed ∈ z_tbl := z_in (i := 1122) (by decide +kernel) rfl
set_option maxRecDepth 100000 in
theorem m_1123 : Cond.code yX10_feed cX10_feed 5 (some FieldType.int) ∈ z_tbl := z_in (i := 1123) (by rfl) rfl
theorem m_1124 : Cond.constantLong RX10 118 255 ∈ z_tbl := z_in (i := 1124) (by decide +kernel) rfl
theorem m_1125 : Cond.methodLink RL 70 yX10_text ∈ z_tbl := z_in (i := 1125) (by decide +kernel) rfl
theorem m_1126 : Cond.instanceMethod yX10_text ∈ z_tbl := z_in (i := 1126) (by decide +kernel) rfl
theorem m_1127 : Cond.selects RX10 yX10_text yX10_text ∈ z_tbl := z_in (i := 1127) (by decide +kernel) rfl
set_option maxRecDepth 100000 in
theorem m_1128 : Cond.code yX10_text cX10_text 4 (some FieldType.int) ∈ z_tbl := z_in (i := 1128) (by rfl) rfl
theorem m_1129 : Cond.methodLink RX10 147 yX10_any ∈ z_tbl := z_in (i := 1129) (by decide +kernel) rfl
theorem m_1131 : Cond.instanceMethod yX10_any ∈ z_tbl := z_in (i := 1131) (by decide +kernel) rfl
set_option maxRecDepth 100000 in
theorem m_1132 : Cond.code yX10_any cX10_any 1 none ∈ z_tbl := z_in (i := 1132) (by rfl) rfl
theorem m_1133 : Cond.methodLink RX10 169 yX10_all ∈ z_tbl := z_in (i := 1133) (by decide +kernel) rfl
theorem m_1135 : Cond.instanceMethod yX10_all ∈ z_tbl := z_in (i := 1135) (by decide +kernel) rfl
set_option maxRecDepth 100000 in
theorem m_1136 : Cond.code yX10_all cX10_all 1 none ∈ z_tbl := z_in (i := 1136) (by rfl) rfl
theorem m_1137 : Cond.methodLink RX10 166 yX10_compares ∈ z_tbl := z_in (i := 1137) (by decide +kernel) rfl
theorem m_1139 : Cond.instanceMethod yX10_compares ∈ z_tbl := z_in (i := 1139) (by decide +kernel) rfl
set_option maxRecDepth 100000 in
theorem m_1140 : Cond.code yX10_compares cX10_compares 2 none ∈ z_tbl := z_in (i := 1140) (by rfl) rfl
theorem m_1141 : Cond.methodLink RX10 163 yX10_sum ∈ z_tbl := z_in (i := 1141) (by decide +kernel) rfl
theorem m_1143 : Cond.instanceMethod yX10_sum ∈ z_tbl := z_in (i := 1143) (by decide +kernel) rfl
set_option maxRecDepth 100000 in
theorem m_1144 : Cond.code yX10_sum cX10_sum 2 none ∈ z_tbl := z_in (i := 1144) (by rfl) rfl
theorem m_1145 : Cond.methodLink RX10 160 yX10_times ∈ z_tbl := z_in (i := 1145) (by decide +kernel) rfl
theorem m_1147 : Cond.instanceMethod yX10_times ∈ z_tbl := z_in (i := 1147) (by decide +kernel) rfl
set_option maxRecDepth 100000 in
theorem m_1148 : Cond.code yX10_times cX10_times 2 none ∈ z_tbl := z_in (i := 1148) (by rfl) rfl
theorem m_1149 : Cond.methodLink RX10 144 yX10_one ∈ z_tbl := z_in (i := 1149) (by decide +kernel) rfl
theorem m_1151 : Cond.instanceMethod yX10_one ∈ z_tbl := z_in (i := 1151) (by decide +kernel) rfl
set_option maxRecDepth 100000 in
theorem m_1152 : Cond.code yX10_one cX10_one 3 none ∈ z_tbl := z_in (i := 1152) (by rfl) rfl
theorem m_1153 : Cond.methodLink RX10 130 yX10_look ∈ z_tbl := z_in (i := 1153) (by decide +kernel) rfl
theorem m_1155 : Cond.instanceMethod yX10_look ∈ z_tbl := z_in (i := 1155) (by decide +kernel) rfl
set_option maxRecDepth 100000 in
theorem m_1156 : Cond.code yX10_look cX10_look 1 (some FieldType.int) ∈ z_tbl := z_in (i := 1156) (by rfl) rfl
theorem m_1157 : Cond.methodLink RX10 150 yX10_nameOf ∈ z_tbl := z_in (i := 1157) (by decide +kernel) rfl
theorem m_1159 : Cond.instanceMethod yX10_nameOf ∈ z_tbl := z_in (i := 1159) (by decide +kernel) rfl
set_option maxRecDepth 100000 in
theorem m_1160 : Cond.code yX10_nameOf cX10_nameOf 2 (some FieldType.int) ∈ z_tbl := z_in (i := 1160) (by rfl) rfl
theorem m_1161 : Cond.methodLink RX10 138 yX10_lays ∈ z_tbl := z_in (i := 1161) (by decide +kernel) rfl
theorem m_1163 : Cond.instanceMethod yX10_lays ∈ z_tbl := z_in (i := 1163) (by decide +kernel) rfl
set_option maxRecDepth 100000 in
theorem m_1164 : Cond.code yX10_lays cX10_lays 3 none ∈ z_tbl := z_in (i := 1164) (by rfl) rfl
theorem m_1165 : Cond.methodLink RX10 153 yX10_opens ∈ z_tbl := z_in (i := 1165) (by decide +kernel) rfl
theorem m_1167 : Cond.instanceMethod yX10_opens ∈ z_tbl := z_in (i := 1167) (by decide +kernel) rfl
set_option maxRecDepth 100000 in
theorem m_1168 : Cond.code yX10_opens cX10_opens 2 none ∈ z_tbl := z_in (i := 1168) (by rfl) rfl
theorem m_1169 : Cond.methodLink RX10 157 yX10_number ∈ z_tbl := z_in (i := 1169) (by decide +kernel) rfl
theorem m_1171 : Cond.instanceMethod yX10_number ∈ z_tbl := z_in (i := 1171) (by decide +kernel) rfl
set_option maxRecDepth 100000 in
theorem m_1172 : Cond.code yX10_number cX10_number 3 none ∈ z_tbl := z_in (i := 1172) (by rfl) rfl
theorem m_1173 : Cond.methodLink RL 74 yX10_untell ∈ z_tbl := z_in (i := 1173) (by decide +kernel) rfl
theorem m_1174 : Cond.instanceMethod yX10_untell ∈ z_tbl := z_in (i := 1174) (by decide +kernel) rfl
theorem m_1175 : Cond.selects RX10 yX10_untell yX10_untell ∈ z_tbl := z_in (i := 1175) (by decide +kernel) rfl
set_option maxRecDepth 100000 in
theorem m_1176 : Cond.code yX10_untell cX10_untell 2 (some FieldType.int) ∈ z_tbl := z_in (i := 1176) (by rfl) rfl
theorem m_1177 : Cond.methodLink RL 79 yX10_law ∈ z_tbl := z_in (i := 1177) (by decide +kernel) rfl
theorem m_1178 : Cond.instanceMethod yX10_law ∈ z_tbl := z_in (i := 1178) (by decide +kernel) rfl
theorem m_1179 : Cond.selects RX10 yX10_law yX10_law ∈ z_tbl := z_in (i := 1179) (by decide +kernel) rfl
set_option maxRecDepth 100000 in
theorem m_1180 : Cond.code yX10_law cX10_law 5 (some FieldType.int) ∈ z_tbl := z_in (i := 1180) (by rfl) rfl
theorem m_1181 : Cond.methodLink RL 83 yX10_years ∈ z_tbl := z_in (i := 1181) (by decide +kernel) rfl
theorem m_1182 : Cond.instanceMethod yX10_years ∈ z_tbl := z_in (i := 1182) (by decide +kernel) rfl
theorem m_1183 : Cond.selects RX10 yX10_years yX10_years ∈ z_tbl := z_in (i := 1183) (by decide +kernel) rfl
set_option maxRecDepth 100000 in
theorem m_1184 : Cond.code yX10_years cX10_years 2 (some FieldType.int) ∈ z_tbl := z_in (i := 1184) (by rfl) rfl
theorem m_1185 : Cond.methodLink RX10 185 yX10_goesFor ∈ z_tbl := z_in (i := 1185) (by decide +kernel) rfl
theorem m_1187 : Cond.instanceMethod yX10_goesFor ∈ z_tbl := z_in (i := 1187) (by decide +kernel) rfl
set_option maxRecDepth 100000 in
theorem m_1188 : Cond.code yX10_goesFor cX10_goesFor 3 none ∈ z_tbl := z_in (i := 1188) (by rfl) rfl
theorem m_1189 : Cond.methodLink RX10 182 yX10_goes ∈ z_tbl := z_in (i := 1189) (by decide +kernel) rfl
theorem m_1191 : Cond.instanceMethod yX10_goes ∈ z_tbl := z_in (i := 1191) (by decide +kernel) rfl
set_option maxRecDepth 100000 in
theorem m_1192 : Cond.code yX10_goes cX10_goes 4 none ∈ z_tbl := z_in (i := 1192) (by rfl) rfl
theorem m_1193 : Cond.methodLink RX10 188 yX10_allSeen ∈ z_tbl := z_in (i := 1193) (by decide +kernel) rfl
theorem m_1195 : Cond.instanceMethod yX10_allSeen ∈ z_tbl := z_in (i := 1195) (by decide +kernel) rfl
set_option maxRecDepth 100000 in
theorem m_1196 : Cond.code yX10_allSeen cX10_allSeen 3 (some FieldType.int) ∈ z_tbl := z_in (i := 1196) (by rfl) rfl
theorem m_1197 : Cond.methodLink RL 87 yX10_loose ∈ z_tbl := z_in (i := 1197) (by decide +kernel) rfl
theorem m_1198 : Cond.instanceMethod yX10_loose ∈ z_tbl := z_in (i := 1198) (by decide +kernel) rfl
theorem m_1199 : Cond.selects RX10 yX10_loose yX10_loose ∈ z_tbl := z_in (i := 1199) (by decide +kernel) rfl
set_option maxRecDepth 100000 in
theorem m_1200 : Cond.code yX10_loose cX10_loose 3 (some FieldType.int) ∈ z_tbl := z_in (i := 1200) (by rfl) rfl
theorem m_1201 : Cond.methodLink RX10 195 yX10_drawn ∈ z_tbl := z_in (i := 1201) (by decide +kernel) rfl
theorem m_1203 : Cond.instanceMethod yX10_drawn ∈ z_tbl := z_in (i := 1203) (by decide +kernel) rfl
set_option maxRecDepth 100000 in
theorem m_1204 : Cond.code yX10_drawn cX10_drawn 2 none ∈ z_tbl := z_in (i := 1204) (by rfl) rfl
theorem m_1205 : Cond.methodLink RX10 192 yX10_draw ∈ z_tbl := z_in (i := 1205) (by decide +kernel) rfl
theorem m_1207 : Cond.instanceMethod yX10_draw ∈ z_tbl := z_in (i := 1207) (by decide +kernel) rfl
set_option maxRecDepth 100000 in
theorem m_1208 : Cond.code yX10_draw cX10_draw 1 (some FieldType.int) ∈ z_tbl := z_in (i := 1208) (by rfl) rfl
theorem m_1209 : Cond.constant RX10 191 1103515245 ∈ z_tbl := z_in (i := 1209) (by decide +kernel) rfl
theorem m_1210 : Cond.methodLink RL 91 yX10_year ∈ z_tbl := z_in (i := 1210) (by decide +kernel) rfl
theorem m_1211 : Cond.instanceMethod yX10_year ∈ z_tbl := z_in (i := 1211) (by decide +kernel) rfl
theorem m_1212 : Cond.selects RX10 yX10_year yX10_year ∈ z_tbl := z_in (i := 1212) (by decide +kernel) rfl
set_option maxRecDepth 100000 in
theorem m_1213 : Cond.code yX10_year cX10_year 2 (some FieldType.int) ∈ z_tbl := z_in (i := 1213) (by rfl) rfl
theorem m_1214 : Cond.methodLink RL 95 yX10_seed ∈ z_tbl := z_in (i := 1214) (by decide +kernel) rfl
theorem m_1215 : Cond.instanceMethod yX10_seed ∈ z_tbl := z_in (i := 1215) (by decide +kernel) rfl
theorem m_1216 : Cond.selects RX10 yX10_seed yX10_seed ∈ z_tbl := z_in (i := 1216) (by decide +kernel) rfl
set_option maxRecDepth 100000 in
theorem m_1217 : Cond.code yX10_seed cX10_seed 2 (some FieldType.int) ∈ z_tbl := z_in (i := 1217) (by rfl) rfl
theorem m_1218 : Cond.methodLink RL 99 yX10_then ∈ z_tbl := z_in (i := 1218) (by decide +kernel) rfl
theorem m_1219 : Cond.instanceMethod yX10_then ∈ z_tbl := z_in (i := 1219) (by decide +kernel) rfl
theorem m_1220 : Cond.selects RX10 yX10_then yX10_then ∈ z_tbl := z_in (i := 1220) (by decide +kernel) rfl
set_option maxRecDepth 100000 in
theorem m_1221 : Cond.code yX10_then cX10_then 4 (some FieldType.int) ∈ z_tbl := z_in (i := 1221) (by rfl) rfl
theorem m_1222 : Cond.methodLink RX10 198 yX10_thinks ∈ z_tbl := z_in (i := 1222) (by decide +kernel) rfl
theorem m_1224 : Cond.instanceMethod yX10_thinks ∈ z_tbl := z_in (i := 1224) (by decide +kernel) rfl
set_option maxRecDepth 100000 in
theorem m_1225 : Cond.code yX10_thinks cX10_thinks 1 none ∈ z_tbl := z_in (i := 1225) (by rfl) rfl
theorem m_1226 : Cond.methodLink RX10 47 yX10_copyAll ∈ z_tbl := z_in (i := 1226) (by decide +kernel) rfl
theorem m_1227 : Cond.static yX10_copyAll ∈ z_tbl := z_in (i := 1227) (by decide +kernel) rfl
set_option maxRecDepth 100000 in
theorem m_1228 : Cond.code yX10_copyAll cX10_copyAll 3 none ∈ z_tbl := z_in (i := 1228) (by rfl) rfl
theorem m_1229 : Cond.methodLink RX10 201 yX10_putsBack ∈ z_tbl := z_in (i := 1229) (by decide +kernel) rfl
theorem m_1231 : Cond.instanceMethod yX10_putsBack ∈ z_tbl := z_in (i := 1231) (by decide +kernel) rfl
set_option maxRecDepth 100000 in
theorem m_1232 : Cond.code yX10_putsBack cX10_putsBack 1 none ∈ z_tbl := z_in (i := 1232) (by rfl) rfl
theorem m_1233 : Cond.methodLink RL 103 yX10_soonest ∈ z_tbl := z_in (i := 1233) (by decide +kernel) rfl
theorem m_1234 : Cond.instanceMethod yX10_soonest ∈ z_tbl := z_in (i := 1234) (by decide +kernel) rfl
theorem m_1235 : Cond.selects RX10 yX10_soonest yX10_soonest ∈ z_tbl := z_in (i := 1235) (by decide +kernel) rfl
set_option maxRecDepth 100000 in
theorem m_1236 : Cond.code yX10_soonest cX10_soonest 4 (some FieldType.int) ∈ z_tbl := z_in (i := 1236) (by rfl) rfl
theorem m_1237 : Cond.methodLink RL 107 yX10_match ∈ z_tbl := z_in (i := 1237) (by decide +kernel) rfl
theorem m_1238 : Cond.instanceMethod yX10_match ∈ z_tbl := z_in (i := 1238) (by decide +kernel) rfl
theorem m_1239 : Cond.selects RX10 yX10_match yX10_match ∈ z_tbl := z_in (i := 1239) (by decide +kernel) rfl
set_option maxRecDepth 100000 in
theorem m_1240 : Cond.code yX10_match cX10_match 9 (some FieldType.int) ∈ z_tbl := z_in (i := 1240) (by rfl) rfl
theorem m_1241 : Cond.methodLink RL 111 yX10_orderFor ∈ z_tbl := z_in (i := 1241) (by decide +kernel) rfl
theorem m_1242 : Cond.instanceMethod yX10_orderFor ∈ z_tbl := z_in (i := 1242) (by decide +kernel) rfl
theorem m_1243 : Cond.selects RX10 yX10_orderFor yX10_orderFor ∈ z_tbl := z_in (i := 1243) (by decide +kernel) rfl
set_option maxRecDepth 100000 in
theorem m_1244 : Cond.code yX10_orderFor cX10_orderFor 6 (some FieldType.int) ∈ z_tbl := z_in (i := 1244) (by rfl) rfl
theorem m_1245 : Cond.methodLink RX10 204 yX10_seersOf ∈ z_tbl := z_in (i := 1245) (by decide +kernel) rfl
theorem m_1247 : Cond.instanceMethod yX10_seersOf ∈ z_tbl := z_in (i := 1247) (by decide +kernel) rfl
set_option maxRecDepth 100000 in
theorem m_1248 : Cond.code yX10_seersOf cX10_seersOf 4 (some FieldType.int) ∈ z_tbl := z_in (i := 1248) (by rfl) rfl
theorem m_1249 : Cond.methodLink RL 115 yX10_seers ∈ z_tbl := z_in (i := 1249) (by decide +kernel) rfl
theorem m_1250 : Cond.instanceMethod yX10_seers ∈ z_tbl := z_in (i := 1250) (by decide +kernel) rfl
theorem m_1251 : Cond.selects RX10 yX10_seers yX10_seers ∈ z_tbl := z_in (i := 1251) (by decide +kernel) rfl
set_option maxRecDepth 100000 in
theorem m_1252 : Cond.code yX10_seers cX10_seers 2 (some FieldType.int) ∈ z_tbl := z_in (i := 1252) (by rfl) rfl
theorem m_1253 : Cond.methodLink RL 119 yX10_witnesses ∈ z_tbl := z_in (i := 1253) (by decide +kernel) rfl
theorem m_1254 : Cond.instanceMethod yX10_witnesses ∈ z_tbl := z_in (i := 1254) (by decide +kernel) rfl
theorem m_1255 : Cond.selects RX10 yX10_witnesses yX10_witnesses ∈ z_tbl := z_in (i := 1255) (by decide +kernel) rfl
set_option maxRecDepth 100000 in
theorem m_1256 : Cond.code yX10_witnesses cX10_witnesses 5 (some FieldType.int) ∈ z_tbl := z_in (i := 1256) (by rfl) rfl
theorem m_1257 : Cond.methodLink RX10 207 yX10_everybody ∈ z_tbl := z_in (i := 1257) (by decide +kernel) rfl
theorem m_1259 : Cond.instanceMethod yX10_everybody ∈ z_tbl := z_in (i := 1259) (by decide +kernel) rfl
set_option maxRecDepth 100000 in
theorem m_1260 : Cond.code yX10_everybody cX10_everybody 1 (some FieldType.int) ∈ z_tbl := z_in (i := 1260) (by rfl) rfl
theorem m_1261 : Cond.methodLink RX10 210 yX10_seenBy ∈ z_tbl := z_in (i := 1261) (by decide +kernel) rfl
theorem m_1263 : Cond.instanceMethod yX10_seenBy ∈ z_tbl := z_in (i := 1263) (by decide +kernel) rfl
set_option maxRecDepth 100000 in
theorem m_1264 : Cond.code yX10_seenBy cX10_seenBy 4 (some FieldType.int) ∈ z_tbl := z_in (i := 1264) (by rfl) rfl
theorem m_1265 : Cond.methodLink RL 123 yX10_odds ∈ z_tbl := z_in (i := 1265) (by decide +kernel) rfl
theorem m_1266 : Cond.instanceMethod yX10_odds ∈ z_tbl := z_in (i := 1266) (by decide +kernel) rfl
theorem m_1267 : Cond.selects RX10 yX10_odds yX10_odds ∈ z_tbl := z_in (i := 1267) (by decide +kernel) rfl
set_option maxRecDepth 100000 in
theorem m_1268 : Cond.code yX10_odds cX10_odds 6 (some FieldType.int) ∈ z_tbl := z_in (i := 1268) (by rfl) rfl
theorem m_1269 : Cond.methodLink RL 127 yX10_fits ∈ z_tbl := z_in (i := 1269) (by decide +kernel) rfl
theorem m_1270 : Cond.instanceMethod yX10_fits ∈ z_tbl := z_in (i := 1270) (by decide +kernel) rfl
theorem m_1271 : Cond.selects RX10 yX10_fits yX10_fits ∈ z_tbl := z_in (i := 1271) (by decide +kernel) rfl
set_option maxRecDepth 100000 in
theorem m_1272 : Cond.code yX10_fits cX10_fits 6 (some FieldType.int) ∈ z_tbl := z_in (i := 1272) (by rfl) rfl
theorem m_1273 : Cond.methodLink RX10 213 yX10_isSheet ∈ z_tbl := z_in (i := 1273) (by decide +kernel) rfl
theorem m_1274 : Cond.static yX10_isSheet ∈ z_tbl := z_in (i := 1274) (by decide +kernel) rfl
set_option maxRecDepth 100000 in
theorem m_1275 : Cond.code yX10_isSheet cX10_isSheet 1 (some FieldType.boolean) ∈ z_tbl := z_in (i := 1275) (by rfl) rfl
theorem m_1276 : Cond.methodLink RX10 216 yX10_isSo ∈ z_tbl := z_in (i := 1276) (by decide +kernel) rfl
theorem m_1278 : Cond.instanceMethod yX10_isSo ∈ z_tbl := z_in (i := 1278) (by decide +kernel) rfl
set_option maxRecDepth 100000 in
theorem m_1279 : Cond.code yX10_isSo cX10_isSo 5 (some FieldType.boolean) ∈ z_tbl := z_in (i := 1279) (by rfl) rfl
theorem m_1280 : Cond.methodLink RL 131 yX10_voice ∈ z_tbl := z_in (i := 1280) (by decide +kernel) rfl
theorem m_1281 : Cond.instanceMethod yX10_voice ∈ z_tbl := z_in (i := 1281) (by decide +kernel) rfl
theorem m_1282 : Cond.selects RX10 yX10_voice yX10_voice ∈ z_tbl := z_in (i := 1282) (by decide +kernel) rfl
set_option maxRecDepth 100000 in
theorem m_1283 : Cond.code yX10_voice cX10_voice 5 (some FieldType.int) ∈ z_tbl := z_in (i := 1283) (by rfl) rfl
theorem m_1284 : Cond.methodLink RX10 231 yX10_lowers ∈ z_tbl := z_in (i := 1284) (by decide +kernel) rfl
theorem m_1286 : Cond.instanceMethod yX10_lowers ∈ z_tbl := z_in (i := 1286) (by decide +kernel) rfl
set_option maxRecDepth 100000 in
theorem m_1287 : Cond.code yX10_lowers cX10_lowers 3 (some FieldType.int) ∈ z_tbl := z_in (i := 1287) (by rfl) rfl
theorem m_1288 : Cond.methodLink RX10 228 yX10_heiressLowers ∈ z_tbl := z_in (i := 1288) (by decide +kernel) rfl
theorem m_1290 : Cond.instanceMethod yX10_heiressLowers ∈ z_tbl := z_in (i := 1290) (by decide +kernel) rfl
set_option maxRecDepth 100000 in
theorem m_1291 : Cond.code yX10_heiressLowers cX10_heiressLowers 3 (some FieldType.int) ∈ z_tbl := z_in (i := 1291) (by rfl) rfl
theorem m_1292 : Cond.methodLink RX10 222 yX10_begins ∈ z_tbl := z_in (i := 1292) (by decide +kernel) rfl
theorem m_1294 : Cond.instanceMethod yX10_begins ∈ z_tbl := z_in (i := 1294) (by decide +kernel) rfl
set_option maxRecDepth 100000 in
theorem m_1295 : Cond.code yX10_begins cX10_begins 2 none ∈ z_tbl := z_in (i := 1295) (by rfl) rfl
theorem m_1296 : Cond.methodLink RX10 225 yX10_plainLowers ∈ z_tbl := z_in (i := 1296) (by decide +kernel) rfl
theorem m_1298 : Cond.instanceMethod yX10_plainLowers ∈ z_tbl := z_in (i := 1298) (by decide +kernel) rfl
set_option maxRecDepth 100000 in
theorem m_1299 : Cond.code yX10_plainLowers cX10_plainLowers 3 (some FieldType.int) ∈ z_tbl := z_in (i := 1299) (by rfl) rfl
theorem m_1300 : Cond.methodLink RX10 240 yX10_lifts ∈ z_tbl := z_in (i := 1300) (by decide +kernel) rfl
theorem m_1302 : Cond.instanceMethod yX10_lifts ∈ z_tbl := z_in (i := 1302) (by decide +kernel) rfl
set_option maxRecDepth 100000 in
theorem m_1303 : Cond.code yX10_lifts cX10_lifts 3 (some FieldType.int) ∈ z_tbl := z_in (i := 1303) (by rfl) rfl
theorem m_1304 : Cond.methodLink RX10 237 yX10_judgeLifts ∈ z_tbl := z_in (i := 1304) (by decide +kernel) rfl
theorem m_1306 : Cond.instanceMethod yX10_judgeLifts ∈ z_tbl := z_in (i := 1306) (by decide +kernel) rfl
set_option maxRecDepth 100000 in
theorem m_1307 : Cond.code yX10_judgeLifts cX10_judgeLifts 3 (some FieldType.int) ∈ z_tbl := z_in (i := 1307) (by rfl) rfl
theorem m_1308 : Cond.methodLink RX10 234 yX10_plainLifts ∈ z_tbl := z_in (i := 1308) (by decide +kernel) rfl
theorem m_1310 : Cond.instanceMethod yX10_plainLifts ∈ z_tbl := z_in (i := 1310) (by decide +kernel) rfl
set_option maxRecDepth 100000 in
theorem m_1311 : Cond.code yX10_plainLifts cX10_plainLifts 3 (some FieldType.int) ∈ z_tbl := z_in (i := 1311) (by rfl) rfl
theorem m_1312 : Cond.methodLink RX10 252 yX10_looksBy ∈ z_tbl := z_in (i := 1312) (by decide +kernel) rfl
theorem m_1314 : Cond.instanceMethod yX10_looksBy ∈ z_tbl := z_in (i := 1314) (by decide +kernel) rfl
set_option maxRecDepth 100000 in
theorem m_1315 : Cond.code yX10_looksBy cX10_looksBy 3 (some FieldType.int) ∈ z_tbl := z_in (i := 1315) (by rfl) rfl
theorem m_1316 : Cond.methodLink RX10 243 yX10_plainLooks ∈ z_tbl := z_in (i := 1316) (by decide +kernel) rfl
theorem m_1318 : Cond.instanceMethod yX10_plainLooks ∈ z_tbl := z_in (i := 1318) (by decide +kernel) rfl
set_option maxRecDepth 100000 in
theorem m_1319 : Cond.code yX10_plainLooks cX10_plainLooks 3 (some FieldType.int) ∈ z_tbl := z_in (i := 1319) (by rfl) rfl
theorem m_1320 : Cond.methodLink RX10 255 yX10_partsBy ∈ z_tbl := z_in (i := 1320) (by decide +kernel) rfl
theorem m_1322 : Cond.instanceMethod yX10_partsBy ∈ z_tbl := z_in (i := 1322) (by decide +kernel) rfl
set_option maxRecDepth 100000 in
theorem m_1323 : Cond.code yX10_partsBy cX10_partsBy 4 (some FieldType.int) ∈ z_tbl := z_in (i := 1323) (by rfl) rfl
theorem m_1324 : Cond.methodLink RX10 249 yX10_plainParts ∈ z_tbl := z_in (i := 1324) (by decide +kernel) rfl
theorem m_1326 : Cond.instanceMethod yX10_plainParts ∈ z_tbl := z_in (i := 1326) (by decide +kernel) rfl
set_option maxRecDepth 100000 in
theorem m_1327 : Cond.code yX10_plainParts cX10_plainParts 4 (some FieldType.int) ∈ z_tbl := z_in (i := 1327) (by rfl) rfl
theorem m_1328 : Cond.constant RX10 258 (-1000000006) ∈ z_tbl := z_in (i := 1328) (by decide +kernel) rfl
theorem m_1329 : Cond.methodLink RL 135 yX10_body ∈ z_tbl := z_in (i := 1329) (by decide +kernel) rfl
theorem m_1330 : Cond.instanceMethod yX10_body ∈ z_tbl := z_in (i := 1330) (by decide +kernel) rfl
theorem m_1331 : Cond.selects RX10 yX10_body yX10_body ∈ z_tbl := z_in (i := 1331) (by decide +kernel) rfl
set_option maxRecDepth 100000 in
theorem m_1332 : Cond.code yX10_body cX10_body 2 (some FieldType.int) ∈ z_tbl := z_in (i := 1332) (by rfl) rfl
theorem m_1333 : Cond.methodLink RL 139 yX10_sheet ∈ z_tbl := z_in (i := 1333) (by decide +kernel) rfl
theorem m_1334 : Cond.instanceMethod yX10_sheet ∈ z_tbl := z_in (i := 1334) (by decide +kernel) rfl
theorem m_1335 : Cond.selects RX10 yX10_sheet yX10_sheet ∈ z_tbl := z_in (i := 1335) (by decide +kernel) rfl
set_option maxRecDepth 100000 in
theorem m_1336 : Cond.code yX10_sheet cX10_sheet 5 (some FieldType.int) ∈ z_tbl := z_in (i := 1336) (by rfl) rfl
theorem m_1337 : Cond.methodLink RL 143 yX10_put ∈ z_tbl := z_in (i := 1337) (by decide +kernel) rfl
theorem m_1338 : Cond.instanceMethod yX10_put ∈ z_tbl := z_in (i := 1338) (by decide +kernel) rfl
theorem m_1339 : Cond.selects RX10 yX10_put yX10_put ∈ z_tbl := z_in (i := 1339) (by decide +kernel) rfl
set_option maxRecDepth 100000 in
theorem m_1340 : Cond.code yX10_put cX10_put 5 (some FieldType.int) ∈ z_tbl := z_in (i := 1340) (by rfl) rfl
theorem m_1341 : Cond.methodLink RX10 259 yX10_notThere ∈ z_tbl := z_in (i := 1341) (by decide +kernel) rfl
theorem m_1343 : Cond.instanceMethod yX10_notThere ∈ z_tbl := z_in (i := 1343) (by decide +kernel) rfl
set_option maxRecDepth 100000 in
theorem m_1344 : Cond.code yX10_notThere cX10_notThere 2 (some FieldType.int) ∈ z_tbl := z_in (i := 1344) (by rfl) rfl
theorem m_1345 : Cond.methodLink RL 148 yX10_move ∈ z_tbl := z_in (i := 1345) (by decide +kernel) rfl
theorem m_1346 : Cond.instanceMethod yX10_move ∈ z_tbl := z_in (i := 1346) (by decide +kernel) rfl
theorem m_1347 : Cond.selects RX10 yX10_move yX10_move ∈ z_tbl := z_in (i := 1347) (by decide +kernel) rfl
set_option maxRecDepth 100000 in
theorem m_1348 : Cond.code yX10_move cX10_move 9 (some FieldType.int) ∈ z_tbl := z_in (i := 1348) (by rfl) rfl
theorem m_1349 : Cond.methodLink RX10 262 yX10_notMoved ∈ z_tbl := z_in (i := 1349) (by decide +kernel) rfl
theorem m_1351 : Cond.instanceMethod yX10_notMoved ∈ z_tbl := z_in (i := 1351) (by decide +kernel) rfl
set_option maxRecDepth 100000 in
theorem m_1352 : Cond.code yX10_notMoved cX10_notMoved 7 (some FieldType.int) ∈ z_tbl := z_in (i := 1352) (by rfl) rfl
theorem m_1353 : Cond.methodLink RL 152 yX10_seenAll ∈ z_tbl := z_in (i := 1353) (by decide +kernel) rfl
theorem m_1354 : Cond.instanceMethod yX10_seenAll ∈ z_tbl := z_in (i := 1354) (by decide +kernel) rfl
theorem m_1355 : Cond.selects RX10 yX10_seenAll yX10_seenAll ∈ z_tbl := z_in (i := 1355) (by decide +kernel) rfl
set_option maxRecDepth 100000 in
theorem m_1356 : Cond.code yX10_seenAll cX10_seenAll 4 (some FieldType.int) ∈ z_tbl := z_in (i := 1356) (by rfl) rfl
theorem m_1357 : Cond.methodLink RL 156 yX10_judge ∈ z_tbl := z_in (i := 1357) (by decide +kernel) rfl
theorem m_1358 : Cond.instanceMethod yX10_judge ∈ z_tbl := z_in (i := 1358) (by decide +kernel) rfl
theorem m_1359 : Cond.selects RX10 yX10_judge yX10_judge ∈ z_tbl := z_in (i := 1359) (by decide +kernel) rfl
set_option maxRecDepth 100000 in
theorem m_1360 : Cond.code yX10_judge cX10_judge 4 (some FieldType.int) ∈ z_tbl := z_in (i := 1360) (by rfl) rfl
theorem m_1361 : Cond.methodLink RL 161 yX10_image ∈ z_tbl := z_in (i := 1361) (by decide +kernel) rfl
theorem m_1362 : Cond.instanceMethod yX10_image ∈ z_tbl := z_in (i := 1362) (by decide +kernel) rfl
theorem m_1363 : Cond.selects RX10 yX10_image yX10_image ∈ z_tbl := z_in (i := 1363) (by decide +kernel) rfl
set_option maxRecDepth 100000 in
theorem m_1364 : Cond.code yX10_image cX10_image 1 (some FieldType.int) ∈ z_tbl := z_in (i := 1364) (by rfl) rfl
theorem m_1365 : Cond.methodLink RL 165 yX10_restore ∈ z_tbl := z_in (i := 1365) (by decide +kernel) rfl
theorem m_1366 : Cond.instanceMethod yX10_restore ∈ z_tbl := z_in (i := 1366) (by decide +kernel) rfl
theorem m_1367 : Cond.selects RX10 yX10_restore yX10_restore ∈ z_tbl := z_in (i := 1367) (by decide +kernel) rfl
set_option maxRecDepth 100000 in
theorem m_1368 : Cond.code yX10_restore cX10_restore 1 (some FieldType.int) ∈ z_tbl := z_in (i := 1368) (by rfl) rfl
theorem m_1369 : Cond.methodLink RL 169 yX10_tell ∈ z_tbl := z_in (i := 1369) (by decide +kernel) rfl
theorem m_1370 : Cond.instanceMethod yX10_tell ∈ z_tbl := z_in (i := 1370) (by decide +kernel) rfl
theorem m_1371 : Cond.selects RX10 yX10_tell yX10_tell ∈ z_tbl := z_in (i := 1371) (by decide +kernel) rfl
set_option maxRecDepth 100000 in
theorem m_1372 : Cond.code yX10_tell cX10_tell 2 (some FieldType.int) ∈ z_tbl := z_in (i := 1372) (by rfl) rfl
theorem m_1373 : Cond.methodLink RL 173 yX10_check ∈ z_tbl := z_in (i := 1373) (by decide +kernel) rfl
theorem m_1374 : Cond.instanceMethod yX10_check ∈ z_tbl := z_in (i := 1374) (by decide +kernel) rfl
theorem m_1375 : Cond.selects RX10 yX10_check yX10_check ∈ z_tbl := z_in (i := 1375) (by decide +kernel) rfl
set_option maxRecDepth 100000 in
theorem m_1376 : Cond.code yX10_check cX10_check 3 (some FieldType.int) ∈ z_tbl := z_in (i := 1376) (by rfl) rfl
theorem m_1377 : Cond.methodLink RL 177 yX10_count ∈ z_tbl := z_in (i := 1377) (by decide +kernel) rfl
theorem m_1378 : Cond.instanceMethod yX10_count ∈ z_tbl := z_in (i := 1378) (by decide +kernel) rfl
theorem m_1379 : Cond.selects RX10 yX10_count yX10_count ∈ z_tbl := z_in (i := 1379) (by decide +kernel) rfl
set_option maxRecDepth 100000 in
theorem m_1380 : Cond.code yX10_count cX10_count 2 (some FieldType.int) ∈ z_tbl := z_in (i := 1380) (by rfl) rfl
theorem m_1381 : Cond.methodLink RL 181 yX10_told ∈ z_tbl := z_in (i := 1381) (by decide +kernel) rfl
theorem m_1382 : Cond.instanceMethod yX10_told ∈ z_tbl := z_in (i := 1382) (by decide +kernel) rfl
theorem m_1383 : Cond.selects RX10 yX10_told yX10_told ∈ z_tbl := z_in (i := 1383) (by decide +kernel) rfl
set_option maxRecDepth 100000 in
theorem m_1384 : Cond.code yX10_told cX10_told 2 (some FieldType.int) ∈ z_tbl := z_in (i := 1384) (by rfl) rfl
theorem m_1385 : Cond.constantLong RL 60 4294967295 ∈ z_tbl := z_in (i := 1385) (by decide +kernel) rfl
theorem m_1386 : Cond.fieldLink RJ0 15 "java/lang/String" "coder" "B" ∈ z_tbl := z_in (i := 1386) (by decide +kernel) rfl
theorem m_1387 : Cond.fieldLink RJ0 9 "java/lang/String" "value" "[B" ∈ z_tbl := z_in (i := 1387) (by decide +kernel) rfl
