theorem iw_X0 : ∀ w ∈ wsX00, w ∈ WL_ := k_iw (by decide +kernel)
theorem iw_X1 : ∀ w ∈ wsX10, w ∈ WL_ := k_iw (by decide +kernel)
theorem iw_X2 : ∀ w ∈ wsX20, w ∈ WL_ := k_iw (by decide +kernel)
theorem iw_X3 : ∀ w ∈ wsX30, w ∈ WL_ := k_iw (by decide +kernel)
theorem iw_X4 : ∀ w ∈ wsX40, w ∈ WL_ := k_iw (by decide +kernel)
theorem iw_X5 : ∀ w ∈ wsX50, w ∈ WL_ := k_iw (by decide +kernel)
theorem iw_X6 : ∀ w ∈ wsX60, w ∈ WL_ := k_iw (by decide +kernel)
theorem iw_X7 : ∀ w ∈ wsX70, w ∈ WL_ := k_iw (by decide +kernel)
theorem iw_X8 : ∀ w ∈ wsX80, w ∈ WL_ := k_iw (by decide +kernel)
theorem iw_X9 : ∀ w ∈ wsX90, w ∈ WL_ := k_iw (by decide +kernel)
theorem wm_0 : Cond.constant RJ6 265 (1431655765) ∈ WL_ := wl_in (tj_3 (List.mem_of_getElem? (i := 198) rfl)) rfl
theorem wm_1 : Cond.constant RJ6 266 (858993459) ∈ WL_ := wl_in (tj_3 (List.mem_of_getElem? (i := 199) rfl)) rfl
theorem wm_2 : Cond.constant RJ6 267 (252645135) ∈ WL_ := wl_in (tj_3 (List.mem_of_getElem? (i := 200) rfl)) rfl
theorem wm_3 : Cond.methodLink RJ7 13 yJ7_rangeCheck_23922 ∈ WL_ := wl_in (tj_4 (List.mem_of_getElem? (i := 178) rfl)) rfl
theorem wm_4 : Cond.initialized RJ7 ∈ WL_ := wl_in (tj_1 (List.mem_of_getElem? (i := 7) rfl)) rfl
theorem wm_5 : Cond.code yJ7_rangeCheck_23922 cJ7_rangeCheck_23922 3 none ∈ WL_ := wl_in (tj_4 (List.mem_of_getElem? (i := 180) rfl)) rfl
theorem wm_6 : Cond.static yJ7_rangeCheck_23922 ∈ WL_ := wl_in (tj_4 (List.mem_of_getElem? (i := 179) rfl)) rfl
theorem wm_7 : Cond.constantLong RX9 95 (255) ∈ WL_ := wl_in (tj_5 (List.mem_of_getElem? (i := 176) rfl)) rfl
theorem wm_8 : Cond.fieldLink RX9 101 "ShapeFramesModel" "length" "I" ∈ WL_ := wl_in (tj_5 (List.mem_of_getElem? (i := 49) rfl)) rfl
theorem wm_9 : Cond.fieldLink RX9 29 "ShapeFramesModel" "text" "[I" ∈ WL_ := wl_in (tj_5 (List.mem_of_getElem? (i := 48) rfl)) rfl
theorem wm_10 : Cond.methodLink RX9 97 yX9_in ∈ WL_ := wl_in (tj_5 (List.mem_of_getElem? (i := 177) rfl)) rfl
theorem wm_11 : Cond.initialized RX9 ∈ WL_ := wl_in (tj_1 (List.mem_of_getElem? (i := 11) rfl)) rfl
theorem wm_12 : Cond.code yX9_in cX9_in 6 (some .boolean) ∈ WL_ := wl_in (tj_5 (List.mem_of_getElem? (i := 179) rfl)) rfl
theorem wm_13 : Cond.static yX9_in ∈ WL_ := wl_in (tj_5 (List.mem_of_getElem? (i := 178) rfl)) rfl
theorem wm_14 : Cond.constantLong RX9 105 (97) ∈ WL_ := wl_in (tj_5 (List.mem_of_getElem? (i := 199) rfl)) rfl
theorem wm_15 : Cond.constantLong RX9 107 (122) ∈ WL_ := wl_in (tj_5 (List.mem_of_getElem? (i := 200) rfl)) rfl
theorem wm_16 : Cond.constantLong RX9 109 (48) ∈ WL_ := wl_in (tj_5 (List.mem_of_getElem? (i := 204) rfl)) rfl
theorem wm_17 : Cond.constantLong RX9 111 (57) ∈ WL_ := wl_in (tj_5 (List.mem_of_getElem? (i := 205) rfl)) rfl
theorem wm_18 : Cond.fieldLink RX9 113 "ShapeFramesModel" "behind" "I" ∈ WL_ := wl_in (tj_5 (List.mem_of_getElem? (i := 58) rfl)) rfl
theorem wm_19 : Cond.fieldLink RX9 116 "ShapeFramesModel" "first" "I" ∈ WL_ := wl_in (tj_5 (List.mem_of_getElem? (i := 57) rfl)) rfl
theorem wm_20 : Cond.methodLink RX9 123 yX9_isDigit ∈ WL_ := wl_in (tj_5 (List.mem_of_getElem? (i := 201) rfl)) rfl
theorem wm_21 : Cond.code yX9_isDigit cX9_isDigit 1 (some .boolean) ∈ WL_ := wl_in (tj_5 (List.mem_of_getElem? (i := 203) rfl)) rfl
theorem wm_22 : Cond.static yX9_isDigit ∈ WL_ := wl_in (tj_5 (List.mem_of_getElem? (i := 202) rfl)) rfl
theorem wm_23 : Cond.methodLink RX9 119 yX9_isLetter ∈ WL_ := wl_in (tj_5 (List.mem_of_getElem? (i := 196) rfl)) rfl
theorem wm_24 : Cond.code yX9_isLetter cX9_isLetter 1 (some .boolean) ∈ WL_ := wl_in (tj_5 (List.mem_of_getElem? (i := 198) rfl)) rfl
theorem wm_25 : Cond.static yX9_isLetter ∈ WL_ := wl_in (tj_5 (List.mem_of_getElem? (i := 197) rfl)) rfl
theorem wm_26 : Cond.methodLink RX9 129 yX9_nextToken ∈ WL_ := wl_in (tj_5 (List.mem_of_getElem? (i := 192) rfl)) rfl
theorem wm_27 : Cond.code yX9_nextToken cX9_nextToken 1 none ∈ WL_ := wl_in (tj_5 (List.mem_of_getElem? (i := 195) rfl)) rfl
theorem wm_28 : Cond.instanceMethod yX9_nextToken ∈ WL_ := wl_in (tj_5 (List.mem_of_getElem? (i := 194) rfl)) rfl
theorem wm_29 : Cond.selects RX9 yX9_nextToken yX9_nextToken ∈ WL_ := wl_in (List.mem_append_left _ (List.mem_of_getElem? (i := 34) rfl)) rfl
theorem wm_30 : Cond.fieldLink RX9 126 "ShapeFramesModel" "number" "I" ∈ WL_ := wl_in (tj_5 (List.mem_of_getElem? (i := 60) rfl)) rfl
theorem wm_31 : Cond.fieldLink RX9 13 "ShapeFramesModel" "read" "[I" ∈ WL_ := wl_in (tj_5 (List.mem_of_getElem? (i := 40) rfl)) rfl
theorem wm_32 : Cond.methodLink RX9 140 yX9_readsNumber ∈ WL_ := wl_in (tj_5 (List.mem_of_getElem? (i := 226) rfl)) rfl
theorem wm_33 : Cond.code yX9_readsNumber cX9_readsNumber 5 (some .boolean) ∈ WL_ := wl_in (tj_5 (List.mem_of_getElem? (i := 229) rfl)) rfl
theorem wm_34 : Cond.instanceMethod yX9_readsNumber ∈ WL_ := wl_in (tj_5 (List.mem_of_getElem? (i := 228) rfl)) rfl
theorem wm_35 : Cond.selects RX9 yX9_readsNumber yX9_readsNumber ∈ WL_ := wl_in (List.mem_append_left _ (List.mem_of_getElem? (i := 40) rfl)) rfl
theorem wm_36 : Cond.constantLong RX9 136 (117) ∈ WL_ := wl_in (tj_5 (List.mem_of_getElem? (i := 238) rfl)) rfl
theorem wm_37 : Cond.constantLong RX9 138 (120) ∈ WL_ := wl_in (tj_5 (List.mem_of_getElem? (i := 239) rfl)) rfl
theorem wm_38 : Cond.methodLink RX9 132 yX9_isEnd ∈ WL_ := wl_in (tj_5 (List.mem_of_getElem? (i := 234) rfl)) rfl
theorem wm_39 : Cond.code yX9_isEnd cX9_isEnd 1 (some .boolean) ∈ WL_ := wl_in (tj_5 (List.mem_of_getElem? (i := 237) rfl)) rfl
theorem wm_40 : Cond.instanceMethod yX9_isEnd ∈ WL_ := wl_in (tj_5 (List.mem_of_getElem? (i := 236) rfl)) rfl
theorem wm_41 : Cond.selects RX9 yX9_isEnd yX9_isEnd ∈ WL_ := wl_in (List.mem_append_left _ (List.mem_of_getElem? (i := 42) rfl)) rfl
theorem wm_42 : Cond.fieldLink RX9 144 "ShapeFramesModel" "readNodes" "I" ∈ WL_ := wl_in (tj_5 (List.mem_of_getElem? (i := 42) rfl)) rfl
theorem wm_43 : Cond.fieldLink RX9 53 "ShapeFramesModel" "shapeWord" "[I" ∈ WL_ := wl_in (tj_5 (List.mem_of_getElem? (i := 62) rfl)) rfl
theorem wm_44 : Cond.fieldLink RX9 56 "ShapeFramesModel" "eachWord" "[I" ∈ WL_ := wl_in (tj_5 (List.mem_of_getElem? (i := 63) rfl)) rfl
theorem wm_45 : Cond.fieldLink RX9 59 "ShapeFramesModel" "joinWord" "[I" ∈ WL_ := wl_in (tj_5 (List.mem_of_getElem? (i := 64) rfl)) rfl
theorem wm_46 : Cond.fieldLink RX9 62 "ShapeFramesModel" "turnWord" "[I" ∈ WL_ := wl_in (tj_5 (List.mem_of_getElem? (i := 65) rfl)) rfl
theorem wm_47 : Cond.fieldLink RX9 65 "ShapeFramesModel" "foldWord" "[I" ∈ WL_ := wl_in (tj_5 (List.mem_of_getElem? (i := 66) rfl)) rfl
theorem wm_48 : Cond.fieldLink RX9 68 "ShapeFramesModel" "ravelWord" "[I" ∈ WL_ := wl_in (tj_5 (List.mem_of_getElem? (i := 67) rfl)) rfl
theorem wm_49 : Cond.fieldLink RX9 71 "ShapeFramesModel" "formWord" "[I" ∈ WL_ := wl_in (tj_5 (List.mem_of_getElem? (i := 68) rfl)) rfl
theorem wm_50 : Cond.methodLink RX9 147 yX9_isWord ∈ WL_ := wl_in (tj_5 (List.mem_of_getElem? (i := 210) rfl)) rfl
theorem wm_51 : Cond.code yX9_isWord cX9_isWord 4 (some .boolean) ∈ WL_ := wl_in (tj_5 (List.mem_of_getElem? (i := 213) rfl)) rfl
theorem wm_52 : Cond.instanceMethod yX9_isWord ∈ WL_ := wl_in (tj_5 (List.mem_of_getElem? (i := 212) rfl)) rfl
theorem wm_53 : Cond.selects RX9 yX9_isWord yX9_isWord ∈ WL_ := wl_in (List.mem_append_left _ (List.mem_of_getElem? (i := 36) rfl)) rfl
theorem wm_54 : Cond.methodLink RX9 154 yX9_readsExtents ∈ WL_ := wl_in (tj_5 (List.mem_of_getElem? (i := 230) rfl)) rfl
theorem wm_55 : Cond.code yX9_readsExtents cX9_readsExtents 3 (some .boolean) ∈ WL_ := wl_in (tj_5 (List.mem_of_getElem? (i := 233) rfl)) rfl
theorem wm_56 : Cond.instanceMethod yX9_readsExtents ∈ WL_ := wl_in (tj_5 (List.mem_of_getElem? (i := 232) rfl)) rfl
theorem wm_57 : Cond.selects RX9 yX9_readsExtents yX9_readsExtents ∈ WL_ := wl_in (List.mem_append_left _ (List.mem_of_getElem? (i := 41) rfl)) rfl
theorem wm_58 : Cond.methodLink RX9 157 yX9_readsRank ∈ WL_ := wl_in (tj_6 (List.mem_of_getElem? (i := 0) rfl)) rfl
theorem wm_59 : Cond.code yX9_readsRank cX9_readsRank 4 (some .boolean) ∈ WL_ := wl_in (tj_6 (List.mem_of_getElem? (i := 3) rfl)) rfl
theorem wm_60 : Cond.instanceMethod yX9_readsRank ∈ WL_ := wl_in (tj_6 (List.mem_of_getElem? (i := 2) rfl)) rfl
theorem wm_61 : Cond.selects RX9 yX9_readsRank yX9_readsRank ∈ WL_ := wl_in (List.mem_append_left _ (List.mem_of_getElem? (i := 43) rfl)) rfl
theorem wm_62 : Cond.methodLink RX9 151 yX9_readsNode ∈ WL_ := wl_in (tj_5 (List.mem_of_getElem? (i := 222) rfl)) rfl
theorem wm_63 : Cond.code yX9_readsNode cX9_readsNode 4 (some .boolean) ∈ WL_ := wl_in (tj_5 (List.mem_of_getElem? (i := 225) rfl)) rfl
theorem wm_64 : Cond.instanceMethod yX9_readsNode ∈ WL_ := wl_in (tj_5 (List.mem_of_getElem? (i := 224) rfl)) rfl
theorem wm_65 : Cond.selects RX9 yX9_readsNode yX9_readsNode ∈ WL_ := wl_in (List.mem_append_left _ (List.mem_of_getElem? (i := 39) rfl)) rfl
theorem wm_66 : Cond.fieldLink RX9 188 "ShapeFramesModel" "laid" "I" ∈ WL_ := wl_in (tj_5 (List.mem_of_getElem? (i := 69) rfl)) rfl
theorem wm_67 : Cond.methodLink RX9 195 yX9_layExtent ∈ WL_ := wl_in (tj_6 (List.mem_of_getElem? (i := 8) rfl)) rfl
theorem wm_68 : Cond.code yX9_layExtent cX9_layExtent 3 none ∈ WL_ := wl_in (tj_6 (List.mem_of_getElem? (i := 11) rfl)) rfl
theorem wm_69 : Cond.instanceMethod yX9_layExtent ∈ WL_ := wl_in (tj_6 (List.mem_of_getElem? (i := 10) rfl)) rfl
theorem wm_70 : Cond.selects RX9 yX9_layExtent yX9_layExtent ∈ WL_ := wl_in (List.mem_append_left _ (List.mem_of_getElem? (i := 45) rfl)) rfl
theorem wm_71 : Cond.methodLink RX9 191 yX9_extentOf ∈ WL_ := wl_in (tj_6 (List.mem_of_getElem? (i := 27) rfl)) rfl
theorem wm_72 : Cond.code yX9_extentOf cX9_extentOf 3 (some .int) ∈ WL_ := wl_in (tj_6 (List.mem_of_getElem? (i := 30) rfl)) rfl
theorem wm_73 : Cond.instanceMethod yX9_extentOf ∈ WL_ := wl_in (tj_6 (List.mem_of_getElem? (i := 29) rfl)) rfl
theorem wm_74 : Cond.selects RX9 yX9_extentOf yX9_extentOf ∈ WL_ := wl_in (List.mem_append_left _ (List.mem_of_getElem? (i := 49) rfl)) rfl
theorem wm_75 : Cond.methodLink RX9 206 yX9_layExtents ∈ WL_ := wl_in (tj_6 (List.mem_of_getElem? (i := 23) rfl)) rfl
theorem wm_76 : Cond.code yX9_layExtents cX9_layExtents 6 none ∈ WL_ := wl_in (tj_6 (List.mem_of_getElem? (i := 26) rfl)) rfl
theorem wm_77 : Cond.instanceMethod yX9_layExtents ∈ WL_ := wl_in (tj_6 (List.mem_of_getElem? (i := 25) rfl)) rfl
theorem wm_78 : Cond.selects RX9 yX9_layExtents yX9_layExtents ∈ WL_ := wl_in (List.mem_append_left _ (List.mem_of_getElem? (i := 48) rfl)) rfl
theorem wm_79 : Cond.methodLink RX9 199 yX9_longOf ∈ WL_ := wl_in (tj_6 (List.mem_of_getElem? (i := 16) rfl)) rfl
theorem wm_80 : Cond.code yX9_longOf cX9_longOf 2 (some .int) ∈ WL_ := wl_in (tj_6 (List.mem_of_getElem? (i := 19) rfl)) rfl
theorem wm_81 : Cond.instanceMethod yX9_longOf ∈ WL_ := wl_in (tj_6 (List.mem_of_getElem? (i := 18) rfl)) rfl
theorem wm_82 : Cond.selects RX9 yX9_longOf yX9_longOf ∈ WL_ := wl_in (List.mem_append_left _ (List.mem_of_getElem? (i := 47) rfl)) rfl
theorem wm_83 : Cond.methodLink RX9 203 yX9_frameOf ∈ WL_ := wl_in (tj_6 (List.mem_of_getElem? (i := 20) rfl)) rfl
theorem wm_84 : Cond.code yX9_frameOf cX9_frameOf 2 (some .int) ∈ WL_ := wl_in (tj_6 (List.mem_of_getElem? (i := 22) rfl)) rfl
theorem wm_85 : Cond.static yX9_frameOf ∈ WL_ := wl_in (tj_6 (List.mem_of_getElem? (i := 21) rfl)) rfl
theorem wm_86 : Cond.methodLink RX9 210 yX9_layTwo ∈ WL_ := wl_in (tj_6 (List.mem_of_getElem? (i := 12) rfl)) rfl
theorem wm_87 : Cond.code yX9_layTwo cX9_layTwo 12 none ∈ WL_ := wl_in (tj_6 (List.mem_of_getElem? (i := 15) rfl)) rfl
theorem wm_88 : Cond.instanceMethod yX9_layTwo ∈ WL_ := wl_in (tj_6 (List.mem_of_getElem? (i := 14) rfl)) rfl
theorem wm_89 : Cond.selects RX9 yX9_layTwo yX9_layTwo ∈ WL_ := wl_in (List.mem_append_left _ (List.mem_of_getElem? (i := 46) rfl)) rfl
theorem wm_90 : Cond.methodLink RX9 214 yX9_layOne ∈ WL_ := wl_in (tj_6 (List.mem_of_getElem? (i := 31) rfl)) rfl
theorem wm_91 : Cond.code yX9_layOne cX9_layOne 6 none ∈ WL_ := wl_in (tj_6 (List.mem_of_getElem? (i := 34) rfl)) rfl
theorem wm_92 : Cond.instanceMethod yX9_layOne ∈ WL_ := wl_in (tj_6 (List.mem_of_getElem? (i := 33) rfl)) rfl
theorem wm_93 : Cond.selects RX9 yX9_layOne yX9_layOne ∈ WL_ := wl_in (List.mem_append_left _ (List.mem_of_getElem? (i := 50) rfl)) rfl
theorem wm_94 : Cond.fieldLink RX9 50 "ShapeFramesModel" "programWord" "[I" ∈ WL_ := wl_in (tj_5 (List.mem_of_getElem? (i := 61) rfl)) rfl
theorem wm_95 : Cond.methodLink RX9 167 yX9_laysShape ∈ WL_ := wl_in (tj_6 (List.mem_of_getElem? (i := 4) rfl)) rfl
theorem wm_96 : Cond.code yX9_laysShape cX9_laysShape 5 (some .boolean) ∈ WL_ := wl_in (tj_6 (List.mem_of_getElem? (i := 7) rfl)) rfl
theorem wm_97 : Cond.instanceMethod yX9_laysShape ∈ WL_ := wl_in (tj_6 (List.mem_of_getElem? (i := 6) rfl)) rfl
theorem wm_98 : Cond.selects RX9 yX9_laysShape yX9_laysShape ∈ WL_ := wl_in (List.mem_append_left _ (List.mem_of_getElem? (i := 44) rfl)) rfl
theorem wm_99 : Cond.methodLink RX9 164 yX9_readsArguments ∈ WL_ := wl_in (tj_5 (List.mem_of_getElem? (i := 218) rfl)) rfl
theorem wm_100 : Cond.code yX9_readsArguments cX9_readsArguments 4 (some .boolean) ∈ WL_ := wl_in (tj_5 (List.mem_of_getElem? (i := 221) rfl)) rfl
theorem wm_101 : Cond.instanceMethod yX9_readsArguments ∈ WL_ := wl_in (tj_5 (List.mem_of_getElem? (i := 220) rfl)) rfl
theorem wm_102 : Cond.selects RX9 yX9_readsArguments yX9_readsArguments ∈ WL_ := wl_in (List.mem_append_left _ (List.mem_of_getElem? (i := 38) rfl)) rfl
theorem wm_103 : Cond.methodLink RX9 160 yX9_kindHere ∈ WL_ := wl_in (tj_5 (List.mem_of_getElem? (i := 214) rfl)) rfl
theorem wm_104 : Cond.code yX9_kindHere cX9_kindHere 1 (some .int) ∈ WL_ := wl_in (tj_5 (List.mem_of_getElem? (i := 217) rfl)) rfl
theorem wm_105 : Cond.instanceMethod yX9_kindHere ∈ WL_ := wl_in (tj_5 (List.mem_of_getElem? (i := 216) rfl)) rfl
theorem wm_106 : Cond.selects RX9 yX9_kindHere yX9_kindHere ∈ WL_ := wl_in (List.mem_append_left _ (List.mem_of_getElem? (i := 37) rfl)) rfl
theorem wm_107 : Cond.fieldLink RX9 7 "ShapeFramesModel" "row" "[I" ∈ WL_ := wl_in (tj_5 (List.mem_of_getElem? (i := 39) rfl)) rfl
theorem wm_108 : Cond.fieldLink RX9 170 "ShapeFramesModel" "nodes" "I" ∈ WL_ := wl_in (tj_5 (List.mem_of_getElem? (i := 41) rfl)) rfl
theorem wm_109 : Cond.fieldLink RX9 173 "ShapeFramesModel" "clauses" "I" ∈ WL_ := wl_in (tj_5 (List.mem_of_getElem? (i := 59) rfl)) rfl
theorem wm_110 : Cond.methodLink RX9 176 yX9_readsClause ∈ WL_ := wl_in (tj_5 (List.mem_of_getElem? (i := 206) rfl)) rfl
theorem wm_111 : Cond.code yX9_readsClause cX9_readsClause 5 (some .boolean) ∈ WL_ := wl_in (tj_5 (List.mem_of_getElem? (i := 209) rfl)) rfl
theorem wm_112 : Cond.instanceMethod yX9_readsClause ∈ WL_ := wl_in (tj_5 (List.mem_of_getElem? (i := 208) rfl)) rfl
theorem wm_113 : Cond.selects RX9 yX9_readsClause yX9_readsClause ∈ WL_ := wl_in (List.mem_append_left _ (List.mem_of_getElem? (i := 35) rfl)) rfl
theorem wm_114 : Cond.methodLink RX9 179 yX9_reads ∈ WL_ := wl_in (tj_5 (List.mem_of_getElem? (i := 188) rfl)) rfl
theorem wm_115 : Cond.code yX9_reads cX9_reads 2 (some .boolean) ∈ WL_ := wl_in (tj_5 (List.mem_of_getElem? (i := 191) rfl)) rfl
theorem wm_116 : Cond.instanceMethod yX9_reads ∈ WL_ := wl_in (tj_5 (List.mem_of_getElem? (i := 190) rfl)) rfl
theorem wm_117 : Cond.selects RX9 yX9_reads yX9_reads ∈ WL_ := wl_in (List.mem_append_left _ (List.mem_of_getElem? (i := 33) rfl)) rfl
theorem wm_118 : Cond.fieldLink RX9 16 "ShapeFramesModel" "given" "[I" ∈ WL_ := wl_in (tj_5 (List.mem_of_getElem? (i := 43) rfl)) rfl
theorem wm_119 : Cond.fieldLink RX9 25 "ShapeFramesModel" "isKept" "[Z" ∈ WL_ := wl_in (tj_5 (List.mem_of_getElem? (i := 47) rfl)) rfl
theorem wm_120 : Cond.fieldLink RX9 44 "ShapeFramesModel" "sizes" "[I" ∈ WL_ := wl_in (tj_5 (List.mem_of_getElem? (i := 55) rfl)) rfl
theorem wm_121 : Cond.fieldLink RX9 185 "ShapeFramesModel" "seenMany" "I" ∈ WL_ := wl_in (tj_5 (List.mem_of_getElem? (i := 50) rfl)) rfl
theorem wm_122 : Cond.fieldLink RX9 182 "ShapeFramesModel" "undos" "I" ∈ WL_ := wl_in (tj_5 (List.mem_of_getElem? (i := 45) rfl)) rfl
theorem wm_123 : Cond.fieldLink RX9 74 "ShapeFramesModel" "alike" "[I" ∈ WL_ := wl_in (tj_5 (List.mem_of_getElem? (i := 70) rfl)) rfl
theorem wm_124 : Cond.fieldLink RX9 77 "ShapeFramesModel" "is" "[I" ∈ WL_ := wl_in (tj_5 (List.mem_of_getElem? (i := 71) rfl)) rfl
theorem wm_125 : Cond.fieldLink RX9 83 "ShapeFramesModel" "failing" "[I" ∈ WL_ := wl_in (tj_5 (List.mem_of_getElem? (i := 73) rfl)) rfl
theorem wm_126 : Cond.fieldLink RX9 217 "ShapeFramesModel" "isFailing" "Z" ∈ WL_ := wl_in (tj_5 (List.mem_of_getElem? (i := 74) rfl)) rfl
theorem wm_127 : Cond.methodLink RX9 228 yX9_becomeAlike ∈ WL_ := wl_in (tj_6 (List.mem_of_getElem? (i := 80) rfl)) rfl
theorem wm_128 : Cond.code yX9_becomeAlike cX9_becomeAlike 6 none ∈ WL_ := wl_in (tj_6 (List.mem_of_getElem? (i := 83) rfl)) rfl
theorem wm_129 : Cond.instanceMethod yX9_becomeAlike ∈ WL_ := wl_in (tj_6 (List.mem_of_getElem? (i := 82) rfl)) rfl
theorem wm_130 : Cond.selects RX9 yX9_becomeAlike yX9_becomeAlike ∈ WL_ := wl_in (List.mem_append_left _ (List.mem_of_getElem? (i := 59) rfl)) rfl
theorem wm_131 : Cond.methodLink RX9 224 yX9_fail ∈ WL_ := wl_in (tj_6 (List.mem_of_getElem? (i := 76) rfl)) rfl
theorem wm_132 : Cond.code yX9_fail cX9_fail 6 none ∈ WL_ := wl_in (tj_6 (List.mem_of_getElem? (i := 79) rfl)) rfl
theorem wm_133 : Cond.instanceMethod yX9_fail ∈ WL_ := wl_in (tj_6 (List.mem_of_getElem? (i := 78) rfl)) rfl
theorem wm_134 : Cond.selects RX9 yX9_fail yX9_fail ∈ WL_ := wl_in (List.mem_append_left _ (List.mem_of_getElem? (i := 58) rfl)) rfl
theorem wm_135 : Cond.methodLink RX9 221 yX9_solved ∈ WL_ := wl_in (tj_6 (List.mem_of_getElem? (i := 72) rfl)) rfl
theorem wm_136 : Cond.code yX9_solved cX9_solved 3 (some .int) ∈ WL_ := wl_in (tj_6 (List.mem_of_getElem? (i := 75) rfl)) rfl
theorem wm_137 : Cond.instanceMethod yX9_solved ∈ WL_ := wl_in (tj_6 (List.mem_of_getElem? (i := 74) rfl)) rfl
theorem wm_138 : Cond.selects RX9 yX9_solved yX9_solved ∈ WL_ := wl_in (List.mem_append_left _ (List.mem_of_getElem? (i := 57) rfl)) rfl
theorem wm_139 : Cond.methodLink RX9 231 yX9_meet ∈ WL_ := wl_in (tj_6 (List.mem_of_getElem? (i := 68) rfl)) rfl
theorem wm_140 : Cond.code yX9_meet cX9_meet 8 none ∈ WL_ := wl_in (tj_6 (List.mem_of_getElem? (i := 71) rfl)) rfl
theorem wm_141 : Cond.instanceMethod yX9_meet ∈ WL_ := wl_in (tj_6 (List.mem_of_getElem? (i := 70) rfl)) rfl
theorem wm_142 : Cond.selects RX9 yX9_meet yX9_meet ∈ WL_ := wl_in (List.mem_append_left _ (List.mem_of_getElem? (i := 56) rfl)) rfl
theorem wm_143 : Cond.fieldLink RX9 86 "ShapeFramesModel" "leftSide" "[I" ∈ WL_ := wl_in (tj_5 (List.mem_of_getElem? (i := 76) rfl)) rfl
theorem wm_144 : Cond.fieldLink RX9 234 "ShapeFramesModel" "leftMany" "I" ∈ WL_ := wl_in (tj_5 (List.mem_of_getElem? (i := 78) rfl)) rfl
theorem wm_145 : Cond.fieldLink RX9 89 "ShapeFramesModel" "rightSide" "[I" ∈ WL_ := wl_in (tj_5 (List.mem_of_getElem? (i := 77) rfl)) rfl
theorem wm_146 : Cond.fieldLink RX9 237 "ShapeFramesModel" "rightMany" "I" ∈ WL_ := wl_in (tj_5 (List.mem_of_getElem? (i := 79) rfl)) rfl
theorem wm_147 : Cond.fieldLink RX9 240 "ShapeFramesModel" "unknown" "I" ∈ WL_ := wl_in (tj_5 (List.mem_of_getElem? (i := 80) rfl)) rfl
theorem wm_148 : Cond.fieldLink RX9 243 "ShapeFramesModel" "unknownOne" "I" ∈ WL_ := wl_in (tj_5 (List.mem_of_getElem? (i := 81) rfl)) rfl
theorem wm_149 : Cond.methodLink RX9 246 yX9_lookFor ∈ WL_ := wl_in (tj_6 (List.mem_of_getElem? (i := 100) rfl)) rfl
theorem wm_150 : Cond.code yX9_lookFor cX9_lookFor 3 none ∈ WL_ := wl_in (tj_6 (List.mem_of_getElem? (i := 103) rfl)) rfl
theorem wm_151 : Cond.instanceMethod yX9_lookFor ∈ WL_ := wl_in (tj_6 (List.mem_of_getElem? (i := 102) rfl)) rfl
theorem wm_152 : Cond.selects RX9 yX9_lookFor yX9_lookFor ∈ WL_ := wl_in (List.mem_append_left _ (List.mem_of_getElem? (i := 64) rfl)) rfl
theorem wm_153 : Cond.fieldLink RX9 250 "ShapeFramesModel" "isMore" "Z" ∈ WL_ := wl_in (tj_5 (List.mem_of_getElem? (i := 75) rfl)) rfl
theorem wm_154 : Cond.constantLong RX9 253 (9999) ∈ WL_ := wl_in (tj_6 (List.mem_of_getElem? (i := 108) rfl)) rfl
theorem wm_155 : Cond.methodLink RX9 255 yX9_becomes ∈ WL_ := wl_in (tj_6 (List.mem_of_getElem? (i := 109) rfl)) rfl
theorem wm_156 : Cond.code yX9_becomes cX9_becomes 2 none ∈ WL_ := wl_in (tj_6 (List.mem_of_getElem? (i := 112) rfl)) rfl
theorem wm_157 : Cond.instanceMethod yX9_becomes ∈ WL_ := wl_in (tj_6 (List.mem_of_getElem? (i := 111) rfl)) rfl
theorem wm_158 : Cond.selects RX9 yX9_becomes yX9_becomes ∈ WL_ := wl_in (List.mem_append_left _ (List.mem_of_getElem? (i := 66) rfl)) rfl
theorem wm_159 : Cond.constantLong RX9 258 (999999999999) ∈ WL_ := wl_in (tj_6 (List.mem_of_getElem? (i := 121) rfl)) rfl
theorem wm_160 : Cond.constantLong RX9 260 (-1) ∈ WL_ := wl_in (tj_6 (List.mem_of_getElem? (i := 122) rfl)) rfl
theorem wm_161 : Cond.methodLink RX9 266 yX9_isOnLeft ∈ WL_ := wl_in (tj_6 (List.mem_of_getElem? (i := 123) rfl)) rfl
theorem wm_162 : Cond.code yX9_isOnLeft cX9_isOnLeft 3 (some .boolean) ∈ WL_ := wl_in (tj_6 (List.mem_of_getElem? (i := 126) rfl)) rfl
theorem wm_163 : Cond.instanceMethod yX9_isOnLeft ∈ WL_ := wl_in (tj_6 (List.mem_of_getElem? (i := 125) rfl)) rfl
theorem wm_164 : Cond.selects RX9 yX9_isOnLeft yX9_isOnLeft ∈ WL_ := wl_in (List.mem_append_left _ (List.mem_of_getElem? (i := 69) rfl)) rfl
theorem wm_165 : Cond.methodLink RX9 262 yX9_productOf ∈ WL_ := wl_in (tj_6 (List.mem_of_getElem? (i := 117) rfl)) rfl
theorem wm_166 : Cond.code yX9_productOf cX9_productOf 7 (some .long) ∈ WL_ := wl_in (tj_6 (List.mem_of_getElem? (i := 120) rfl)) rfl
theorem wm_167 : Cond.instanceMethod yX9_productOf ∈ WL_ := wl_in (tj_6 (List.mem_of_getElem? (i := 119) rfl)) rfl
theorem wm_168 : Cond.selects RX9 yX9_productOf yX9_productOf ∈ WL_ := wl_in (List.mem_append_left _ (List.mem_of_getElem? (i := 68) rfl)) rfl
theorem wm_169 : Cond.methodLink RX9 269 yX9_layLeft ∈ WL_ := wl_in (tj_6 (List.mem_of_getElem? (i := 88) rfl)) rfl
theorem wm_170 : Cond.code yX9_layLeft cX9_layLeft 2 none ∈ WL_ := wl_in (tj_6 (List.mem_of_getElem? (i := 91) rfl)) rfl
theorem wm_171 : Cond.instanceMethod yX9_layLeft ∈ WL_ := wl_in (tj_6 (List.mem_of_getElem? (i := 90) rfl)) rfl
theorem wm_172 : Cond.selects RX9 yX9_layLeft yX9_layLeft ∈ WL_ := wl_in (List.mem_append_left _ (List.mem_of_getElem? (i := 61) rfl)) rfl
theorem wm_173 : Cond.methodLink RX9 272 yX9_layRight ∈ WL_ := wl_in (tj_6 (List.mem_of_getElem? (i := 92) rfl)) rfl
theorem wm_174 : Cond.code yX9_layRight cX9_layRight 2 none ∈ WL_ := wl_in (tj_6 (List.mem_of_getElem? (i := 95) rfl)) rfl
theorem wm_175 : Cond.instanceMethod yX9_layRight ∈ WL_ := wl_in (tj_6 (List.mem_of_getElem? (i := 94) rfl)) rfl
theorem wm_176 : Cond.selects RX9 yX9_layRight yX9_layRight ∈ WL_ := wl_in (List.mem_append_left _ (List.mem_of_getElem? (i := 62) rfl)) rfl
theorem wm_177 : Cond.methodLink RX9 281 yX9_multiply ∈ WL_ := wl_in (tj_6 (List.mem_of_getElem? (i := 113) rfl)) rfl
theorem wm_178 : Cond.code yX9_multiply cX9_multiply 10 none ∈ WL_ := wl_in (tj_6 (List.mem_of_getElem? (i := 116) rfl)) rfl
theorem wm_179 : Cond.instanceMethod yX9_multiply ∈ WL_ := wl_in (tj_6 (List.mem_of_getElem? (i := 115) rfl)) rfl
theorem wm_180 : Cond.selects RX9 yX9_multiply yX9_multiply ∈ WL_ := wl_in (List.mem_append_left _ (List.mem_of_getElem? (i := 67) rfl)) rfl
theorem wm_181 : Cond.methodLink RX9 275 yX9_isAlmostKnown ∈ WL_ := wl_in (tj_6 (List.mem_of_getElem? (i := 96) rfl)) rfl
theorem wm_182 : Cond.code yX9_isAlmostKnown cX9_isAlmostKnown 2 (some .boolean) ∈ WL_ := wl_in (tj_6 (List.mem_of_getElem? (i := 99) rfl)) rfl
theorem wm_183 : Cond.instanceMethod yX9_isAlmostKnown ∈ WL_ := wl_in (tj_6 (List.mem_of_getElem? (i := 98) rfl)) rfl
theorem wm_184 : Cond.selects RX9 yX9_isAlmostKnown yX9_isAlmostKnown ∈ WL_ := wl_in (List.mem_append_left _ (List.mem_of_getElem? (i := 63) rfl)) rfl
theorem wm_185 : Cond.methodLink RX9 278 yX9_sumUp ∈ WL_ := wl_in (tj_6 (List.mem_of_getElem? (i := 104) rfl)) rfl
theorem wm_186 : Cond.code yX9_sumUp cX9_sumUp 6 none ∈ WL_ := wl_in (tj_6 (List.mem_of_getElem? (i := 107) rfl)) rfl
theorem wm_187 : Cond.instanceMethod yX9_sumUp ∈ WL_ := wl_in (tj_6 (List.mem_of_getElem? (i := 106) rfl)) rfl
theorem wm_188 : Cond.selects RX9 yX9_sumUp yX9_sumUp ∈ WL_ := wl_in (List.mem_append_left _ (List.mem_of_getElem? (i := 65) rfl)) rfl
theorem wm_189 : Cond.fieldLink RX9 80 "ShapeFramesModel" "by" "[I" ∈ WL_ := wl_in (tj_5 (List.mem_of_getElem? (i := 72) rfl)) rfl
theorem wm_190 : Cond.methodLink RX9 284 yX9_meetBoth ∈ WL_ := wl_in (tj_6 (List.mem_of_getElem? (i := 64) rfl)) rfl
theorem wm_191 : Cond.code yX9_meetBoth cX9_meetBoth 8 none ∈ WL_ := wl_in (tj_6 (List.mem_of_getElem? (i := 67) rfl)) rfl
theorem wm_192 : Cond.instanceMethod yX9_meetBoth ∈ WL_ := wl_in (tj_6 (List.mem_of_getElem? (i := 66) rfl)) rfl
theorem wm_193 : Cond.selects RX9 yX9_meetBoth yX9_meetBoth ∈ WL_ := wl_in (List.mem_append_left _ (List.mem_of_getElem? (i := 55) rfl)) rfl
theorem wm_194 : Cond.methodLink RX9 287 yX9_reckon ∈ WL_ := wl_in (tj_6 (List.mem_of_getElem? (i := 84) rfl)) rfl
theorem wm_195 : Cond.code yX9_reckon cX9_reckon 8 none ∈ WL_ := wl_in (tj_6 (List.mem_of_getElem? (i := 87) rfl)) rfl
theorem wm_196 : Cond.instanceMethod yX9_reckon ∈ WL_ := wl_in (tj_6 (List.mem_of_getElem? (i := 86) rfl)) rfl
theorem wm_197 : Cond.selects RX9 yX9_reckon yX9_reckon ∈ WL_ := wl_in (List.mem_append_left _ (List.mem_of_getElem? (i := 60) rfl)) rfl
theorem wm_198 : Cond.methodLink RX9 293 yX9_solve ∈ WL_ := wl_in (tj_6 (List.mem_of_getElem? (i := 60) rfl)) rfl
theorem wm_199 : Cond.code yX9_solve cX9_solve 2 none ∈ WL_ := wl_in (tj_6 (List.mem_of_getElem? (i := 63) rfl)) rfl
theorem wm_200 : Cond.instanceMethod yX9_solve ∈ WL_ := wl_in (tj_6 (List.mem_of_getElem? (i := 62) rfl)) rfl
theorem wm_201 : Cond.selects RX9 yX9_solve yX9_solve ∈ WL_ := wl_in (List.mem_append_left _ (List.mem_of_getElem? (i := 54) rfl)) rfl
theorem wm_202 : Cond.methodLink RX9 290 yX9_layNodes ∈ WL_ := wl_in (tj_6 (List.mem_of_getElem? (i := 56) rfl)) rfl
theorem wm_203 : Cond.code yX9_layNodes cX9_layNodes 2 none ∈ WL_ := wl_in (tj_6 (List.mem_of_getElem? (i := 59) rfl)) rfl
theorem wm_204 : Cond.instanceMethod yX9_layNodes ∈ WL_ := wl_in (tj_6 (List.mem_of_getElem? (i := 58) rfl)) rfl
theorem wm_205 : Cond.selects RX9 yX9_layNodes yX9_layNodes ∈ WL_ := wl_in (List.mem_append_left _ (List.mem_of_getElem? (i := 53) rfl)) rfl
theorem wm_206 : Cond.constantLong RX9 299 (5) ∈ WL_ := wl_in (tj_6 (List.mem_of_getElem? (i := 47) rfl)) rfl
theorem wm_207 : Cond.methodLink RX9 296 yX9_isNode ∈ WL_ := wl_in (tj_6 (List.mem_of_getElem? (i := 43) rfl)) rfl
theorem wm_208 : Cond.code yX9_isNode cX9_isNode 2 (some .boolean) ∈ WL_ := wl_in (tj_6 (List.mem_of_getElem? (i := 46) rfl)) rfl
theorem wm_209 : Cond.instanceMethod yX9_isNode ∈ WL_ := wl_in (tj_6 (List.mem_of_getElem? (i := 45) rfl)) rfl
theorem wm_210 : Cond.selects RX9 yX9_isNode yX9_isNode ∈ WL_ := wl_in (List.mem_append_left _ (List.mem_of_getElem? (i := 51) rfl)) rfl
theorem wm_211 : Cond.methodLink RX9 301 yX9_solveNow ∈ WL_ := wl_in (tj_6 (List.mem_of_getElem? (i := 52) rfl)) rfl
theorem wm_212 : Cond.code yX9_solveNow cX9_solveNow 2 none ∈ WL_ := wl_in (tj_6 (List.mem_of_getElem? (i := 55) rfl)) rfl
theorem wm_213 : Cond.instanceMethod yX9_solveNow ∈ WL_ := wl_in (tj_6 (List.mem_of_getElem? (i := 54) rfl)) rfl
theorem wm_214 : Cond.selects RX9 yX9_solveNow yX9_solveNow ∈ WL_ := wl_in (List.mem_append_left _ (List.mem_of_getElem? (i := 52) rfl)) rfl
theorem wm_215 : Cond.constantLong RX9 304 (3) ∈ WL_ := wl_in (tj_6 (List.mem_of_getElem? (i := 138) rfl)) rfl
theorem wm_216 : Cond.fieldLink RX9 19 "ShapeFramesModel" "pasts" "[I" ∈ WL_ := wl_in (tj_5 (List.mem_of_getElem? (i := 44) rfl)) rfl
theorem wm_217 : Cond.constantLong RX9 309 (9) ∈ WL_ := wl_in (tj_6 (List.mem_of_getElem? (i := 139) rfl)) rfl
theorem wm_218 : Cond.methodLink RX9 314 yX9_givenMany ∈ WL_ := wl_in (tj_6 (List.mem_of_getElem? (i := 144) rfl)) rfl
theorem wm_219 : Cond.code yX9_givenMany cX9_givenMany 3 (some .int) ∈ WL_ := wl_in (tj_6 (List.mem_of_getElem? (i := 147) rfl)) rfl
theorem wm_220 : Cond.instanceMethod yX9_givenMany ∈ WL_ := wl_in (tj_6 (List.mem_of_getElem? (i := 146) rfl)) rfl
theorem wm_221 : Cond.selects RX9 yX9_givenMany yX9_givenMany ∈ WL_ := wl_in (List.mem_append_left _ (List.mem_of_getElem? (i := 71) rfl)) rfl
theorem wm_222 : Cond.methodLink RX9 311 yX9_become ∈ WL_ := wl_in (tj_6 (List.mem_of_getElem? (i := 140) rfl)) rfl
theorem wm_223 : Cond.code yX9_become cX9_become 4 none ∈ WL_ := wl_in (tj_6 (List.mem_of_getElem? (i := 143) rfl)) rfl
theorem wm_224 : Cond.instanceMethod yX9_become ∈ WL_ := wl_in (tj_6 (List.mem_of_getElem? (i := 142) rfl)) rfl
theorem wm_225 : Cond.selects RX9 yX9_become yX9_become ∈ WL_ := wl_in (List.mem_append_left _ (List.mem_of_getElem? (i := 70) rfl)) rfl
theorem wm_226 : Cond.methodLink RX9 306 yX9_isTold ∈ WL_ := wl_in (tj_6 (List.mem_of_getElem? (i := 135) rfl)) rfl
theorem wm_227 : Cond.code yX9_isTold cX9_isTold 1 (some .boolean) ∈ WL_ := wl_in (tj_6 (List.mem_of_getElem? (i := 137) rfl)) rfl
theorem wm_228 : Cond.static yX9_isTold ∈ WL_ := wl_in (tj_6 (List.mem_of_getElem? (i := 136) rfl)) rfl
theorem wm_229 : Cond.fieldLink RX9 22 "ShapeFramesModel" "kept" "[I" ∈ WL_ := wl_in (tj_5 (List.mem_of_getElem? (i := 46) rfl)) rfl
theorem wm_230 : Cond.constantLong RX9 317 (4) ∈ WL_ := wl_in (tj_6 (List.mem_of_getElem? (i := 172) rfl)) rfl
theorem wm_231 : Cond.methodLink RX9 322 yX9_has ∈ WL_ := wl_in (tj_6 (List.mem_of_getElem? (i := 181) rfl)) rfl
theorem wm_232 : Cond.code yX9_has cX9_has 2 (some .boolean) ∈ WL_ := wl_in (tj_6 (List.mem_of_getElem? (i := 183) rfl)) rfl
theorem wm_233 : Cond.static yX9_has ∈ WL_ := wl_in (tj_6 (List.mem_of_getElem? (i := 182) rfl)) rfl
theorem wm_234 : Cond.methodLink RX9 319 yX9_toldLetters ∈ WL_ := wl_in (tj_6 (List.mem_of_getElem? (i := 177) rfl)) rfl
theorem wm_235 : Cond.code yX9_toldLetters cX9_toldLetters 5 (some .int) ∈ WL_ := wl_in (tj_6 (List.mem_of_getElem? (i := 180) rfl)) rfl
theorem wm_236 : Cond.instanceMethod yX9_toldLetters ∈ WL_ := wl_in (tj_6 (List.mem_of_getElem? (i := 179) rfl)) rfl
theorem wm_237 : Cond.selects RX9 yX9_toldLetters yX9_toldLetters ∈ WL_ := wl_in (List.mem_append_left _ (List.mem_of_getElem? (i := 72) rfl)) rfl
theorem wm_238 : Cond.fieldLink RX9 92 "ShapeFramesModel" "firstWay" "[I" ∈ WL_ := wl_in (tj_5 (List.mem_of_getElem? (i := 82) rfl)) rfl
theorem wm_239 : Cond.methodLink RX9 328 yX9_findWays ∈ WL_ := wl_in (tj_6 (List.mem_of_getElem? (i := 189) rfl)) rfl
theorem wm_240 : Cond.code yX9_findWays cX9_findWays 7 (some .int) ∈ WL_ := wl_in (tj_6 (List.mem_of_getElem? (i := 192) rfl)) rfl
theorem wm_241 : Cond.instanceMethod yX9_findWays ∈ WL_ := wl_in (tj_6 (List.mem_of_getElem? (i := 191) rfl)) rfl
theorem wm_242 : Cond.selects RX9 yX9_findWays yX9_findWays ∈ WL_ := wl_in (List.mem_append_left _ (List.mem_of_getElem? (i := 73) rfl)) rfl
theorem wm_243 : Cond.methodLink RX9 325 yX9_open ∈ WL_ := wl_in (tj_6 (List.mem_of_getElem? (i := 188) rfl)) rfl
theorem wm_244 : Cond.code yX9_open cX9_open 4 (some .int) ∈ WL_ := wl_in (tj_6 (List.mem_of_getElem? (i := 176) rfl)) rfl
theorem wm_245 : Cond.instanceMethod yX9_open ∈ WL_ := wl_in (tj_6 (List.mem_of_getElem? (i := 174) rfl)) rfl
theorem wm_246 : Cond.selects RX9 yX9_open yX9_open ∈ WL_ := wl_in (tj_6 (List.mem_of_getElem? (i := 175) rfl)) rfl
theorem wm_247 : Cond.methodLink RX9 331 yX9_bits ∈ WL_ := wl_in (tj_6 (List.mem_of_getElem? (i := 201) rfl)) rfl
theorem wm_248 : Cond.code yX9_bits cX9_bits 3 (some .int) ∈ WL_ := wl_in (tj_6 (List.mem_of_getElem? (i := 203) rfl)) rfl
theorem wm_249 : Cond.static yX9_bits ∈ WL_ := wl_in (tj_6 (List.mem_of_getElem? (i := 202) rfl)) rfl
theorem wm_250 : Cond.methodLink RX9 334 yX9_isMended ∈ WL_ := wl_in (tj_6 (List.mem_of_getElem? (i := 208) rfl)) rfl
theorem wm_251 : Cond.code yX9_isMended cX9_isMended 5 (some .boolean) ∈ WL_ := wl_in (tj_6 (List.mem_of_getElem? (i := 211) rfl)) rfl
theorem wm_252 : Cond.instanceMethod yX9_isMended ∈ WL_ := wl_in (tj_6 (List.mem_of_getElem? (i := 210) rfl)) rfl
theorem wm_253 : Cond.selects RX9 yX9_isMended yX9_isMended ∈ WL_ := wl_in (List.mem_append_left _ (List.mem_of_getElem? (i := 74) rfl)) rfl
theorem wm_254 : Cond.constantLong RX9 338 (99) ∈ WL_ := wl_in (tj_6 (List.mem_of_getElem? (i := 216) rfl)) rfl
theorem wm_255 : Cond.fieldLink RX9 32 "ShapeFramesModel" "seenOf" "[I" ∈ WL_ := wl_in (tj_5 (List.mem_of_getElem? (i := 51) rfl)) rfl
theorem wm_256 : Cond.fieldLink RX9 35 "ShapeFramesModel" "seenAxes" "[I" ∈ WL_ := wl_in (tj_5 (List.mem_of_getElem? (i := 52) rfl)) rfl
theorem wm_257 : Cond.fieldLink RX9 38 "ShapeFramesModel" "seenTo" "[I" ∈ WL_ := wl_in (tj_5 (List.mem_of_getElem? (i := 53) rfl)) rfl
theorem wm_258 : Cond.methodLink RX9 340 yX9_comesOf ∈ WL_ := wl_in (tj_6 (List.mem_of_getElem? (i := 225) rfl)) rfl
theorem wm_259 : Cond.code yX9_comesOf cX9_comesOf 2 (some .int) ∈ WL_ := wl_in (tj_6 (List.mem_of_getElem? (i := 227) rfl)) rfl
theorem wm_260 : Cond.static yX9_comesOf ∈ WL_ := wl_in (tj_6 (List.mem_of_getElem? (i := 226) rfl)) rfl
theorem wm_261 : Cond.methodLink RX9 343 yX9_kinds ∈ WL_ := wl_in (tj_6 (List.mem_of_getElem? (i := 232) rfl)) rfl
theorem wm_262 : Cond.code yX9_kinds cX9_kinds 5 (some .int) ∈ WL_ := wl_in (tj_6 (List.mem_of_getElem? (i := 224) rfl)) rfl
theorem wm_263 : Cond.instanceMethod yX9_kinds ∈ WL_ := wl_in (tj_6 (List.mem_of_getElem? (i := 222) rfl)) rfl
theorem wm_264 : Cond.selects RX9 yX9_kinds yX9_kinds ∈ WL_ := wl_in (tj_6 (List.mem_of_getElem? (i := 223) rfl)) rfl
theorem wm_265 : Cond.constantLong RX9 346 (2) ∈ WL_ := wl_in (tj_7 (List.mem_of_getElem? (i := 0) rfl)) rfl
theorem wm_266 : Cond.fieldLink RX9 41 "ShapeFramesModel" "sorts" "[I" ∈ WL_ := wl_in (tj_5 (List.mem_of_getElem? (i := 54) rfl)) rfl
theorem wm_267 : Cond.fieldLink RX9 47 "ShapeFramesModel" "values" "[I" ∈ WL_ := wl_in (tj_5 (List.mem_of_getElem? (i := 56) rfl)) rfl
theorem wm_268 : Cond.methodLink RX9 348 yX9_isRow ∈ WL_ := wl_in (tj_6 (List.mem_of_getElem? (i := 237) rfl)) rfl
theorem wm_269 : Cond.code yX9_isRow cX9_isRow 1 (some .boolean) ∈ WL_ := wl_in (tj_6 (List.mem_of_getElem? (i := 239) rfl)) rfl
theorem wm_270 : Cond.static yX9_isRow ∈ WL_ := wl_in (tj_6 (List.mem_of_getElem? (i := 238) rfl)) rfl
theorem wm_271 : Cond.constantLong RX9 351 (-9999) ∈ WL_ := wl_in (tj_7 (List.mem_of_getElem? (i := 5) rfl)) rfl
theorem wm_272 : Cond.constant RX9 357 (50000) ∈ WL_ := wl_in (tj_7 (List.mem_of_getElem? (i := 10) rfl)) rfl
theorem wm_273 : Cond.methodLink RX9 353 yX9_noPlace ∈ WL_ := wl_in (tj_7 (List.mem_of_getElem? (i := 6) rfl)) rfl
theorem wm_274 : Cond.code yX9_noPlace cX9_noPlace 4 (some .int) ∈ WL_ := wl_in (tj_7 (List.mem_of_getElem? (i := 9) rfl)) rfl
theorem wm_275 : Cond.instanceMethod yX9_noPlace ∈ WL_ := wl_in (tj_7 (List.mem_of_getElem? (i := 8) rfl)) rfl
theorem wm_276 : Cond.selects RX9 yX9_noPlace yX9_noPlace ∈ WL_ := wl_in (List.mem_append_left _ (List.mem_of_getElem? (i := 75) rfl)) rfl
theorem wm_277 : Cond.methodLink RX9 358 yX9_isSpan ∈ WL_ := wl_in (tj_7 (List.mem_of_getElem? (i := 19) rfl)) rfl
theorem wm_278 : Cond.code yX9_isSpan cX9_isSpan 4 (some .boolean) ∈ WL_ := wl_in (tj_7 (List.mem_of_getElem? (i := 22) rfl)) rfl
theorem wm_279 : Cond.instanceMethod yX9_isSpan ∈ WL_ := wl_in (tj_7 (List.mem_of_getElem? (i := 21) rfl)) rfl
theorem wm_280 : Cond.selects RX9 yX9_isSpan yX9_isSpan ∈ WL_ := wl_in (List.mem_append_left _ (List.mem_of_getElem? (i := 76) rfl)) rfl
theorem wm_281 : Cond.constant RX9 361 (500000) ∈ WL_ := wl_in (tj_7 (List.mem_of_getElem? (i := 35) rfl)) rfl
theorem wm_282 : Cond.methodLink RX9 362 yX9_givenOnes ∈ WL_ := wl_in (tj_7 (List.mem_of_getElem? (i := 44) rfl)) rfl
theorem wm_283 : Cond.code yX9_givenOnes cX9_givenOnes 3 (some .int) ∈ WL_ := wl_in (tj_7 (List.mem_of_getElem? (i := 47) rfl)) rfl
theorem wm_284 : Cond.instanceMethod yX9_givenOnes ∈ WL_ := wl_in (tj_7 (List.mem_of_getElem? (i := 46) rfl)) rfl
theorem wm_285 : Cond.selects RX9 yX9_givenOnes yX9_givenOnes ∈ WL_ := wl_in (List.mem_append_left _ (List.mem_of_getElem? (i := 77) rfl)) rfl
theorem wm_286 : Cond.methodLink RX9 365 yX9_allPlaces ∈ WL_ := wl_in (tj_7 (List.mem_of_getElem? (i := 48) rfl)) rfl
theorem wm_287 : Cond.code yX9_allPlaces cX9_allPlaces 3 (some .int) ∈ WL_ := wl_in (tj_7 (List.mem_of_getElem? (i := 51) rfl)) rfl
theorem wm_288 : Cond.instanceMethod yX9_allPlaces ∈ WL_ := wl_in (tj_7 (List.mem_of_getElem? (i := 50) rfl)) rfl
theorem wm_289 : Cond.selects RX9 yX9_allPlaces yX9_allPlaces ∈ WL_ := wl_in (List.mem_append_left _ (List.mem_of_getElem? (i := 78) rfl)) rfl
theorem wm_290 : Cond.fieldLink RX0 9 "ShapeFrames$Given" "numbers" "[I" ∈ WL_ := wl_in (tj_1 (List.mem_of_getElem? (i := 154) rfl)) rfl
theorem wm_291 : Cond.fieldLink RX0 24 "ShapeFrames$Given" "isStored" "[Z" ∈ WL_ := wl_in (tj_1 (List.mem_of_getElem? (i := 158) rfl)) rfl
theorem wm_292 : Cond.fieldLink RX0 34 "ShapeFrames$Given" "undoable" "I" ∈ WL_ := wl_in (tj_1 (List.mem_of_getElem? (i := 159) rfl)) rfl
theorem wm_293 : Cond.methodLink RX0 28 yJ7_fill_53178 ∈ WL_ := wl_in (tj_1 (List.mem_of_getElem? (i := 151) rfl)) rfl
theorem wm_294 : Cond.code yJ7_fill_53178 cJ7_fill_53178 4 none ∈ WL_ := wl_in (tj_1 (List.mem_of_getElem? (i := 153) rfl)) rfl
theorem wm_295 : Cond.static yJ7_fill_53178 ∈ WL_ := wl_in (tj_1 (List.mem_of_getElem? (i := 152) rfl)) rfl
theorem wm_296 : Cond.methodLink RX0 42 yJ6_bitCount_0f7a4 ∈ WL_ := wl_in (tj_3 (List.mem_of_getElem? (i := 195) rfl)) rfl
theorem wm_297 : Cond.initialized RJ6 ∈ WL_ := wl_in (tj_1 (List.mem_of_getElem? (i := 18) rfl)) rfl
theorem wm_298 : Cond.code yJ6_bitCount_0f7a4 cJ6_bitCount_0f7a4 1 (some .int) ∈ WL_ := wl_in (tj_3 (List.mem_of_getElem? (i := 197) rfl)) rfl
theorem wm_299 : Cond.static yJ6_bitCount_0f7a4 ∈ WL_ := wl_in (tj_3 (List.mem_of_getElem? (i := 196) rfl)) rfl
theorem wm_300 : Cond.methodLink RX0 38 yX0_bits ∈ WL_ := wl_in (tj_3 (List.mem_of_getElem? (i := 191) rfl)) rfl
theorem wm_301 : Cond.initialized RX0 ∈ WL_ := wl_in (tj_1 (List.mem_of_getElem? (i := 6) rfl)) rfl
theorem wm_302 : Cond.code yX0_bits cX0_bits 3 (some .int) ∈ WL_ := wl_in (tj_3 (List.mem_of_getElem? (i := 194) rfl)) rfl
theorem wm_303 : Cond.instanceMethod yX0_bits ∈ WL_ := wl_in (tj_3 (List.mem_of_getElem? (i := 192) rfl)) rfl
theorem wm_304 : Cond.selects RX0 yX0_bits yX0_bits ∈ WL_ := wl_in (tj_3 (List.mem_of_getElem? (i := 193) rfl)) rfl
theorem wm_305 : Cond.fieldLink RX0 15 "ShapeFrames$Given" "undoLetter" "[I" ∈ WL_ := wl_in (tj_1 (List.mem_of_getElem? (i := 155) rfl)) rfl
theorem wm_306 : Cond.fieldLink RX0 18 "ShapeFrames$Given" "undoNumber" "[I" ∈ WL_ := wl_in (tj_1 (List.mem_of_getElem? (i := 156) rfl)) rfl
theorem wm_307 : Cond.methodLink RX0 48 arraycopyName ∈ WL_ := wl_in (tj_3 (List.mem_of_getElem? (i := 186) rfl)) rfl
theorem wm_308 : Cond.native arraycopyName ∈ WL_ := wl_in (tj_2 (List.mem_of_getElem? (i := 56) rfl)) rfl
theorem wm_309 : Cond.static arraycopyName ∈ WL_ := wl_in (tj_2 (List.mem_of_getElem? (i := 55) rfl)) rfl
theorem wm_310 : Cond.initialized "java/lang/System" ∈ WL_ := wl_in (tj_1 (List.mem_of_getElem? (i := 12) rfl)) rfl
theorem wm_311 : Cond.fieldLink RX0 21 "ShapeFrames$Given" "stored" "[I" ∈ WL_ := wl_in (tj_1 (List.mem_of_getElem? (i := 157) rfl)) rfl
theorem wm_312 : Cond.fieldLink RX1 30 "ShapeFrames$Nodes" "size" "I" ∈ WL_ := wl_in (tj_1 (List.mem_of_getElem? (i := 74) rfl)) rfl
theorem wm_313 : Cond.fieldLink RX1 9 "ShapeFrames$Nodes" "kind" "[I" ∈ WL_ := wl_in (tj_1 (List.mem_of_getElem? (i := 68) rfl)) rfl
theorem wm_314 : Cond.fieldLink RX1 15 "ShapeFrames$Nodes" "first" "[I" ∈ WL_ := wl_in (tj_1 (List.mem_of_getElem? (i := 69) rfl)) rfl
theorem wm_315 : Cond.fieldLink RX1 18 "ShapeFrames$Nodes" "second" "[I" ∈ WL_ := wl_in (tj_1 (List.mem_of_getElem? (i := 70) rfl)) rfl
theorem wm_316 : Cond.fieldLink RX1 21 "ShapeFrames$Nodes" "rank" "[I" ∈ WL_ := wl_in (tj_1 (List.mem_of_getElem? (i := 71) rfl)) rfl
theorem wm_317 : Cond.fieldLink RX1 24 "ShapeFrames$Nodes" "axes" "[I" ∈ WL_ := wl_in (tj_1 (List.mem_of_getElem? (i := 72) rfl)) rfl
theorem wm_318 : Cond.fieldLink RX1 27 "ShapeFrames$Nodes" "extents" "[I" ∈ WL_ := wl_in (tj_1 (List.mem_of_getElem? (i := 73) rfl)) rfl
theorem wm_319 : Cond.methodLink RX1 34 arraycopyName ∈ WL_ := wl_in (tj_2 (List.mem_of_getElem? (i := 54) rfl)) rfl
theorem wm_320 : Cond.methodLink RX1 40 yX1_has ∈ WL_ := wl_in (tj_4 (List.mem_of_getElem? (i := 5) rfl)) rfl
theorem wm_321 : Cond.initialized RX1 ∈ WL_ := wl_in (tj_1 (List.mem_of_getElem? (i := 3) rfl)) rfl
theorem wm_322 : Cond.code yX1_has cX1_has 2 (some .boolean) ∈ WL_ := wl_in (tj_3 (List.mem_of_getElem? (i := 22) rfl)) rfl
theorem wm_323 : Cond.instanceMethod yX1_has ∈ WL_ := wl_in (tj_3 (List.mem_of_getElem? (i := 20) rfl)) rfl
theorem wm_324 : Cond.selects RX1 yX1_has yX1_has ∈ WL_ := wl_in (tj_3 (List.mem_of_getElem? (i := 21) rfl)) rfl
theorem wm_325 : Cond.methodLink RX1 47 yX1_at ∈ WL_ := wl_in (tj_2 (List.mem_of_getElem? (i := 199) rfl)) rfl
theorem wm_326 : Cond.code yX1_at cX1_at 3 (some .int) ∈ WL_ := wl_in (tj_2 (List.mem_of_getElem? (i := 202) rfl)) rfl
theorem wm_327 : Cond.instanceMethod yX1_at ∈ WL_ := wl_in (tj_2 (List.mem_of_getElem? (i := 200) rfl)) rfl
theorem wm_328 : Cond.selects RX1 yX1_at yX1_at ∈ WL_ := wl_in (tj_2 (List.mem_of_getElem? (i := 201) rfl)) rfl
theorem wm_329 : Cond.methodLink RX1 44 yX1_isTold ∈ WL_ := wl_in (tj_5 (List.mem_of_getElem? (i := 32) rfl)) rfl
theorem wm_330 : Cond.code yX1_isTold cX1_isTold 2 (some .boolean) ∈ WL_ := wl_in (tj_4 (List.mem_of_getElem? (i := 25) rfl)) rfl
theorem wm_331 : Cond.instanceMethod yX1_isTold ∈ WL_ := wl_in (tj_4 (List.mem_of_getElem? (i := 23) rfl)) rfl
theorem wm_332 : Cond.selects RX1 yX1_isTold yX1_isTold ∈ WL_ := wl_in (tj_4 (List.mem_of_getElem? (i := 24) rfl)) rfl
theorem wm_333 : Cond.methodLink RX1 51 yX1_frameOf ∈ WL_ := wl_in (tj_2 (List.mem_of_getElem? (i := 171) rfl)) rfl
theorem wm_334 : Cond.code yX1_frameOf cX1_frameOf 4 (some .int) ∈ WL_ := wl_in (tj_2 (List.mem_of_getElem? (i := 174) rfl)) rfl
theorem wm_335 : Cond.instanceMethod yX1_frameOf ∈ WL_ := wl_in (tj_2 (List.mem_of_getElem? (i := 172) rfl)) rfl
theorem wm_336 : Cond.selects RX1 yX1_frameOf yX1_frameOf ∈ WL_ := wl_in (tj_2 (List.mem_of_getElem? (i := 173) rfl)) rfl
theorem wm_337 : Cond.methodLink RX1 54 yJ9_max_7cf53 ∈ WL_ := wl_in (tj_2 (List.mem_of_getElem? (i := 175) rfl)) rfl
theorem wm_338 : Cond.static yJ9_max_7cf53 ∈ WL_ := wl_in (tj_2 (List.mem_of_getElem? (i := 176) rfl)) rfl
theorem wm_339 : Cond.initialized RJ9 ∈ WL_ := wl_in (tj_1 (List.mem_of_getElem? (i := 17) rfl)) rfl
theorem wm_340 : Cond.code yJ9_max_7cf53 cJ9_max_7cf53 2 (some .int) ∈ WL_ := wl_in (tj_2 (List.mem_of_getElem? (i := 177) rfl)) rfl
theorem wm_341 : Cond.methodLink RX1 59 yX1_cellOf ∈ WL_ := wl_in (tj_2 (List.mem_of_getElem? (i := 178) rfl)) rfl
theorem wm_342 : Cond.code yX1_cellOf cX1_cellOf 3 (some .int) ∈ WL_ := wl_in (tj_2 (List.mem_of_getElem? (i := 181) rfl)) rfl
theorem wm_343 : Cond.instanceMethod yX1_cellOf ∈ WL_ := wl_in (tj_2 (List.mem_of_getElem? (i := 179) rfl)) rfl
theorem wm_344 : Cond.selects RX1 yX1_cellOf yX1_cellOf ∈ WL_ := wl_in (tj_2 (List.mem_of_getElem? (i := 180) rfl)) rfl
theorem wm_345 : Cond.methodLink RX1 70 yX1_putOne ∈ WL_ := wl_in (tj_2 (List.mem_of_getElem? (i := 203) rfl)) rfl
theorem wm_346 : Cond.code yX1_putOne cX1_putOne 4 (some .int) ∈ WL_ := wl_in (tj_2 (List.mem_of_getElem? (i := 206) rfl)) rfl
theorem wm_347 : Cond.instanceMethod yX1_putOne ∈ WL_ := wl_in (tj_2 (List.mem_of_getElem? (i := 205) rfl)) rfl
theorem wm_348 : Cond.selects RX1 yX1_putOne yX1_putOne ∈ WL_ := wl_in (List.mem_append_left _ (List.mem_of_getElem? (i := 12) rfl)) rfl
theorem wm_349 : Cond.methodLink RX1 89 yX1_putFrame ∈ WL_ := wl_in (tj_2 (List.mem_of_getElem? (i := 195) rfl)) rfl
theorem wm_350 : Cond.code yX1_putFrame cX1_putFrame 5 (some .int) ∈ WL_ := wl_in (tj_2 (List.mem_of_getElem? (i := 198) rfl)) rfl
theorem wm_351 : Cond.instanceMethod yX1_putFrame ∈ WL_ := wl_in (tj_2 (List.mem_of_getElem? (i := 197) rfl)) rfl
theorem wm_352 : Cond.selects RX1 yX1_putFrame yX1_putFrame ∈ WL_ := wl_in (List.mem_append_left _ (List.mem_of_getElem? (i := 11) rfl)) rfl
theorem wm_353 : Cond.methodLink RX1 85 yX1_putPart ∈ WL_ := wl_in (tj_2 (List.mem_of_getElem? (i := 211) rfl)) rfl
theorem wm_354 : Cond.code yX1_putPart cX1_putPart 6 none ∈ WL_ := wl_in (tj_2 (List.mem_of_getElem? (i := 214) rfl)) rfl
theorem wm_355 : Cond.instanceMethod yX1_putPart ∈ WL_ := wl_in (tj_2 (List.mem_of_getElem? (i := 213) rfl)) rfl
theorem wm_356 : Cond.selects RX1 yX1_putPart yX1_putPart ∈ WL_ := wl_in (List.mem_append_left _ (List.mem_of_getElem? (i := 14) rfl)) rfl
theorem wm_357 : Cond.methodLink RX1 78 yX1_putLongerCell ∈ WL_ := wl_in (tj_2 (List.mem_of_getElem? (i := 207) rfl)) rfl
theorem wm_358 : Cond.code yX1_putLongerCell cX1_putLongerCell 7 none ∈ WL_ := wl_in (tj_2 (List.mem_of_getElem? (i := 210) rfl)) rfl
theorem wm_359 : Cond.instanceMethod yX1_putLongerCell ∈ WL_ := wl_in (tj_2 (List.mem_of_getElem? (i := 209) rfl)) rfl
theorem wm_360 : Cond.selects RX1 yX1_putLongerCell yX1_putLongerCell ∈ WL_ := wl_in (List.mem_append_left _ (List.mem_of_getElem? (i := 13) rfl)) rfl
theorem wm_361 : Cond.methodLink RX1 74 yX1_putLongerFrame ∈ WL_ := wl_in (tj_2 (List.mem_of_getElem? (i := 191) rfl)) rfl
theorem wm_362 : Cond.code yX1_putLongerFrame cX1_putLongerFrame 4 (some .int) ∈ WL_ := wl_in (tj_2 (List.mem_of_getElem? (i := 194) rfl)) rfl
theorem wm_363 : Cond.instanceMethod yX1_putLongerFrame ∈ WL_ := wl_in (tj_2 (List.mem_of_getElem? (i := 193) rfl)) rfl
theorem wm_364 : Cond.selects RX1 yX1_putLongerFrame yX1_putLongerFrame ∈ WL_ := wl_in (List.mem_append_left _ (List.mem_of_getElem? (i := 10) rfl)) rfl
theorem wm_365 : Cond.methodLink RX1 82 yX1_ownLetter ∈ WL_ := wl_in (tj_2 (List.mem_of_getElem? (i := 215) rfl)) rfl
theorem wm_366 : Cond.code yX1_ownLetter cX1_ownLetter 1 (some .int) ∈ WL_ := wl_in (tj_2 (List.mem_of_getElem? (i := 217) rfl)) rfl
theorem wm_367 : Cond.static yX1_ownLetter ∈ WL_ := wl_in (tj_2 (List.mem_of_getElem? (i := 216) rfl)) rfl
theorem wm_368 : Cond.methodLink RX1 66 yX1_derive ∈ WL_ := wl_in (tj_2 (List.mem_of_getElem? (i := 187) rfl)) rfl
theorem wm_369 : Cond.code yX1_derive cX1_derive 3 none ∈ WL_ := wl_in (tj_2 (List.mem_of_getElem? (i := 190) rfl)) rfl
theorem wm_370 : Cond.instanceMethod yX1_derive ∈ WL_ := wl_in (tj_2 (List.mem_of_getElem? (i := 189) rfl)) rfl
theorem wm_371 : Cond.selects RX1 yX1_derive yX1_derive ∈ WL_ := wl_in (List.mem_append_left _ (List.mem_of_getElem? (i := 9) rfl)) rfl
theorem wm_372 : Cond.methodLink RX1 62 yX1_axesOfVerb ∈ WL_ := wl_in (tj_2 (List.mem_of_getElem? (i := 186) rfl)) rfl
theorem wm_373 : Cond.code yX1_axesOfVerb cX1_axesOfVerb 5 (some .int) ∈ WL_ := wl_in (tj_2 (List.mem_of_getElem? (i := 170) rfl)) rfl
theorem wm_374 : Cond.instanceMethod yX1_axesOfVerb ∈ WL_ := wl_in (tj_2 (List.mem_of_getElem? (i := 168) rfl)) rfl
theorem wm_375 : Cond.selects RX1 yX1_axesOfVerb yX1_axesOfVerb ∈ WL_ := wl_in (tj_2 (List.mem_of_getElem? (i := 169) rfl)) rfl
theorem wm_376 : Cond.fieldLink RX2 15 "ShapeFrames$Rows" "sizes" "[I" ∈ WL_ := wl_in (tj_1 (List.mem_of_getElem? (i := 223) rfl)) rfl
theorem wm_377 : Cond.methodLink RX2 21 yJ7_fill_53178 ∈ WL_ := wl_in (tj_1 (List.mem_of_getElem? (i := 221) rfl)) rfl
theorem wm_378 : Cond.fieldLink RX2 18 "ShapeFrames$Rows" "sorts" "[I" ∈ WL_ := wl_in (tj_1 (List.mem_of_getElem? (i := 224) rfl)) rfl
theorem wm_379 : Cond.fieldLink RX2 9 "ShapeFrames$Rows" "places" "[I" ∈ WL_ := wl_in (tj_1 (List.mem_of_getElem? (i := 222) rfl)) rfl
theorem wm_380 : Cond.methodLink RX2 27 yJ7_fill_fda19 ∈ WL_ := wl_in (tj_4 (List.mem_of_getElem? (i := 175) rfl)) rfl
theorem wm_381 : Cond.code yJ7_fill_fda19 cJ7_fill_fda19 5 none ∈ WL_ := wl_in (tj_4 (List.mem_of_getElem? (i := 177) rfl)) rfl
theorem wm_382 : Cond.static yJ7_fill_fda19 ∈ WL_ := wl_in (tj_4 (List.mem_of_getElem? (i := 176) rfl)) rfl
theorem wm_383 : Cond.methodLink RX2 30 yX2_isMissing ∈ WL_ := wl_in (tj_4 (List.mem_of_getElem? (i := 189) rfl)) rfl
theorem wm_384 : Cond.initialized RX2 ∈ WL_ := wl_in (tj_1 (List.mem_of_getElem? (i := 10) rfl)) rfl
theorem wm_385 : Cond.code yX2_isMissing cX2_isMissing 2 (some .boolean) ∈ WL_ := wl_in (tj_4 (List.mem_of_getElem? (i := 192) rfl)) rfl
theorem wm_386 : Cond.instanceMethod yX2_isMissing ∈ WL_ := wl_in (tj_4 (List.mem_of_getElem? (i := 190) rfl)) rfl
theorem wm_387 : Cond.selects RX2 yX2_isMissing yX2_isMissing ∈ WL_ := wl_in (tj_4 (List.mem_of_getElem? (i := 191) rfl)) rfl
theorem wm_388 : Cond.methodLink RX2 34 arraycopyName ∈ WL_ := wl_in (tj_4 (List.mem_of_getElem? (i := 223) rfl)) rfl
theorem wm_389 : Cond.methodLink RX2 40 yX2_move ∈ WL_ := wl_in (tj_4 (List.mem_of_getElem? (i := 236) rfl)) rfl
theorem wm_390 : Cond.code yX2_move cX2_move 6 none ∈ WL_ := wl_in (tj_4 (List.mem_of_getElem? (i := 222) rfl)) rfl
theorem wm_391 : Cond.instanceMethod yX2_move ∈ WL_ := wl_in (tj_4 (List.mem_of_getElem? (i := 220) rfl)) rfl
theorem wm_392 : Cond.selects RX2 yX2_move yX2_move ∈ WL_ := wl_in (tj_4 (List.mem_of_getElem? (i := 221) rfl)) rfl
theorem wm_393 : Cond.methodLink RX2 44 yX2_at ∈ WL_ := wl_in (tj_5 (List.mem_of_getElem? (i := 9) rfl)) rfl
theorem wm_394 : Cond.code yX2_at cX2_at 3 (some .int) ∈ WL_ := wl_in (tj_4 (List.mem_of_getElem? (i := 196) rfl)) rfl
theorem wm_395 : Cond.instanceMethod yX2_at ∈ WL_ := wl_in (tj_4 (List.mem_of_getElem? (i := 194) rfl)) rfl
theorem wm_396 : Cond.selects RX2 yX2_at yX2_at ∈ WL_ := wl_in (tj_4 (List.mem_of_getElem? (i := 195) rfl)) rfl
theorem wm_397 : Cond.fieldLink RX3 18 "ShapeFrames$Seen" "size" "I" ∈ WL_ := wl_in (tj_1 (List.mem_of_getElem? (i := 207) rfl)) rfl
theorem wm_398 : Cond.fieldLink RX3 9 "ShapeFrames$Seen" "asked" "[I" ∈ WL_ := wl_in (tj_1 (List.mem_of_getElem? (i := 205) rfl)) rfl
theorem wm_399 : Cond.fieldLink RX3 15 "ShapeFrames$Seen" "answered" "[I" ∈ WL_ := wl_in (tj_1 (List.mem_of_getElem? (i := 206) rfl)) rfl
theorem wm_400 : Cond.methodLink RX3 26 yX3_wouldAnswer ∈ WL_ := wl_in (tj_4 (List.mem_of_getElem? (i := 144) rfl)) rfl
theorem wm_401 : Cond.initialized RX3 ∈ WL_ := wl_in (tj_1 (List.mem_of_getElem? (i := 9) rfl)) rfl
theorem wm_402 : Cond.code yX3_wouldAnswer cX3_wouldAnswer 2 (some .int) ∈ WL_ := wl_in (tj_4 (List.mem_of_getElem? (i := 146) rfl)) rfl
theorem wm_403 : Cond.static yX3_wouldAnswer ∈ WL_ := wl_in (tj_4 (List.mem_of_getElem? (i := 145) rfl)) rfl
theorem wm_404 : Cond.methodLink RX3 22 yX3_fitsAll ∈ WL_ := wl_in (tj_4 (List.mem_of_getElem? (i := 140) rfl)) rfl
theorem wm_405 : Cond.code yX3_fitsAll cX3_fitsAll 3 (some .boolean) ∈ WL_ := wl_in (tj_4 (List.mem_of_getElem? (i := 143) rfl)) rfl
theorem wm_406 : Cond.instanceMethod yX3_fitsAll ∈ WL_ := wl_in (tj_4 (List.mem_of_getElem? (i := 142) rfl)) rfl
theorem wm_407 : Cond.selects RX3 yX3_fitsAll yX3_fitsAll ∈ WL_ := wl_in (List.mem_append_left _ (List.mem_of_getElem? (i := 32) rfl)) rfl
theorem wm_408 : Cond.methodLink RX3 43 yJ9_max_7cf53 ∈ WL_ := wl_in (tj_4 (List.mem_of_getElem? (i := 160) rfl)) rfl
theorem wm_409 : Cond.methodLink RX3 40 yX3_greatestPart ∈ WL_ := wl_in (tj_4 (List.mem_of_getElem? (i := 157) rfl)) rfl
theorem wm_410 : Cond.code yX3_greatestPart cX3_greatestPart 7 (some .int) ∈ WL_ := wl_in (tj_4 (List.mem_of_getElem? (i := 159) rfl)) rfl
theorem wm_411 : Cond.static yX3_greatestPart ∈ WL_ := wl_in (tj_4 (List.mem_of_getElem? (i := 158) rfl)) rfl
theorem wm_412 : Cond.methodLink RX3 34 yJ6_bitCount_0f7a4 ∈ WL_ := wl_in (tj_4 (List.mem_of_getElem? (i := 156) rfl)) rfl
theorem wm_413 : Cond.methodLink RX3 30 yX3_kindsThatFit ∈ WL_ := wl_in (tj_4 (List.mem_of_getElem? (i := 155) rfl)) rfl
theorem wm_414 : Cond.code yX3_kindsThatFit cX3_kindsThatFit 3 (some .int) ∈ WL_ := wl_in (tj_4 (List.mem_of_getElem? (i := 139) rfl)) rfl
theorem wm_415 : Cond.instanceMethod yX3_kindsThatFit ∈ WL_ := wl_in (tj_4 (List.mem_of_getElem? (i := 137) rfl)) rfl
theorem wm_416 : Cond.selects RX3 yX3_kindsThatFit yX3_kindsThatFit ∈ WL_ := wl_in (tj_4 (List.mem_of_getElem? (i := 138) rfl)) rfl
theorem wm_417 : Cond.fieldLink RX4 9 "ShapeFrames$Sides" "sums" "[J" ∈ WL_ := wl_in (tj_1 (List.mem_of_getElem? (i := 103) rfl)) rfl
theorem wm_418 : Cond.fieldLink RX4 15 "ShapeFrames$Sides" "products" "[J" ∈ WL_ := wl_in (tj_1 (List.mem_of_getElem? (i := 104) rfl)) rfl
theorem wm_419 : Cond.fieldLink RX4 28 "ShapeFrames$Sides" "bits" "I" ∈ WL_ := wl_in (tj_1 (List.mem_of_getElem? (i := 108) rfl)) rfl
theorem wm_420 : Cond.fieldLink RX4 25 "ShapeFrames$Sides" "letterSide" "I" ∈ WL_ := wl_in (tj_1 (List.mem_of_getElem? (i := 107) rfl)) rfl
theorem wm_421 : Cond.fieldLink RX4 22 "ShapeFrames$Sides" "letter" "I" ∈ WL_ := wl_in (tj_1 (List.mem_of_getElem? (i := 106) rfl)) rfl
theorem wm_422 : Cond.fieldLink RX4 18 "ShapeFrames$Sides" "letters" "I" ∈ WL_ := wl_in (tj_1 (List.mem_of_getElem? (i := 105) rfl)) rfl
theorem wm_423 : Cond.constantLong RX4 31 (999999999999) ∈ WL_ := wl_in (tj_3 (List.mem_of_getElem? (i := 125) rfl)) rfl
theorem wm_424 : Cond.constantLong RX4 35 (-1) ∈ WL_ := wl_in (tj_3 (List.mem_of_getElem? (i := 144) rfl)) rfl
theorem wm_425 : Cond.constantLong RX4 37 (9999) ∈ WL_ := wl_in (tj_3 (List.mem_of_getElem? (i := 145) rfl)) rfl
theorem wm_426 : Cond.constantLong RX4 33 (-2) ∈ WL_ := wl_in (tj_3 (List.mem_of_getElem? (i := 143) rfl)) rfl
theorem wm_427 : Cond.fieldLink RX5 28 "ShapeFrames$Solver" "fail" "[I" ∈ WL_ := wl_in (tj_1 (List.mem_of_getElem? (i := 128) rfl)) rfl
theorem wm_428 : Cond.fieldLink RX5 42 "ShapeFrames$Solver" "tooGreat" "Z" ∈ WL_ := wl_in (tj_1 (List.mem_of_getElem? (i := 129) rfl)) rfl
theorem wm_429 : Cond.fieldLink RX5 18 "ShapeFrames$Solver" "least" "[I" ∈ WL_ := wl_in (tj_1 (List.mem_of_getElem? (i := 125) rfl)) rfl
theorem wm_430 : Cond.fieldLink RX5 22 "ShapeFrames$Solver" "number" "[I" ∈ WL_ := wl_in (tj_1 (List.mem_of_getElem? (i := 126) rfl)) rfl
theorem wm_431 : Cond.methodLink RX5 127 yX5_makeAlike ∈ WL_ := wl_in (tj_3 (List.mem_of_getElem? (i := 98) rfl)) rfl
theorem wm_432 : Cond.initialized RX5 ∈ WL_ := wl_in (tj_1 (List.mem_of_getElem? (i := 4) rfl)) rfl
theorem wm_433 : Cond.code yX5_makeAlike cX5_makeAlike 4 none ∈ WL_ := wl_in (tj_3 (List.mem_of_getElem? (i := 101) rfl)) rfl
theorem wm_434 : Cond.instanceMethod yX5_makeAlike ∈ WL_ := wl_in (tj_3 (List.mem_of_getElem? (i := 100) rfl)) rfl
theorem wm_435 : Cond.selects RX5 yX5_makeAlike yX5_makeAlike ∈ WL_ := wl_in (List.mem_append_left _ (List.mem_of_getElem? (i := 23) rfl)) rfl
theorem wm_436 : Cond.methodLink RX5 124 yJ9_max_7cf53 ∈ WL_ := wl_in (tj_3 (List.mem_of_getElem? (i := 97) rfl)) rfl
theorem wm_437 : Cond.methodLink RX5 109 yJ9_min_7cf53 ∈ WL_ := wl_in (tj_3 (List.mem_of_getElem? (i := 81) rfl)) rfl
theorem wm_438 : Cond.static yJ9_min_7cf53 ∈ WL_ := wl_in (tj_3 (List.mem_of_getElem? (i := 82) rfl)) rfl
theorem wm_439 : Cond.code yJ9_min_7cf53 cJ9_min_7cf53 2 (some .int) ∈ WL_ := wl_in (tj_3 (List.mem_of_getElem? (i := 83) rfl)) rfl
theorem wm_440 : Cond.methodLink RX5 121 yX5_failAt ∈ WL_ := wl_in (tj_3 (List.mem_of_getElem? (i := 93) rfl)) rfl
theorem wm_441 : Cond.code yX5_failAt cX5_failAt 6 none ∈ WL_ := wl_in (tj_3 (List.mem_of_getElem? (i := 96) rfl)) rfl
theorem wm_442 : Cond.instanceMethod yX5_failAt ∈ WL_ := wl_in (tj_3 (List.mem_of_getElem? (i := 95) rfl)) rfl
theorem wm_443 : Cond.selects RX5 yX5_failAt yX5_failAt ∈ WL_ := wl_in (List.mem_append_left _ (List.mem_of_getElem? (i := 22) rfl)) rfl
theorem wm_444 : Cond.methodLink RX5 64 yX5_valueOf ∈ WL_ := wl_in (tj_3 (List.mem_of_getElem? (i := 89) rfl)) rfl
theorem wm_445 : Cond.code yX5_valueOf cX5_valueOf 3 (some .int) ∈ WL_ := wl_in (tj_3 (List.mem_of_getElem? (i := 92) rfl)) rfl
theorem wm_446 : Cond.instanceMethod yX5_valueOf ∈ WL_ := wl_in (tj_3 (List.mem_of_getElem? (i := 90) rfl)) rfl
theorem wm_447 : Cond.selects RX5 yX5_valueOf yX5_valueOf ∈ WL_ := wl_in (tj_3 (List.mem_of_getElem? (i := 91) rfl)) rfl
theorem wm_448 : Cond.fieldLink RX5 31 "ShapeFrames$Solver" "nodes" "LShapeFrames$Nodes;" ∈ WL_ := wl_in (tj_1 (List.mem_of_getElem? (i := 123) rfl)) rfl
theorem wm_449 : Cond.methodLink RX5 114 yX5_meet ∈ WL_ := wl_in (tj_3 (List.mem_of_getElem? (i := 85) rfl)) rfl
theorem wm_450 : Cond.code yX5_meet cX5_meet 8 none ∈ WL_ := wl_in (tj_3 (List.mem_of_getElem? (i := 88) rfl)) rfl
theorem wm_451 : Cond.instanceMethod yX5_meet ∈ WL_ := wl_in (tj_3 (List.mem_of_getElem? (i := 87) rfl)) rfl
theorem wm_452 : Cond.selects RX5 yX5_meet yX5_meet ∈ WL_ := wl_in (List.mem_append_left _ (List.mem_of_getElem? (i := 21) rfl)) rfl
theorem wm_453 : Cond.methodLink RX5 60 yX1_at ∈ WL_ := wl_in (tj_3 (List.mem_of_getElem? (i := 84) rfl)) rfl
theorem wm_454 : Cond.methodLink RX5 70 yX5_hasFailed ∈ WL_ := wl_in (tj_3 (List.mem_of_getElem? (i := 68) rfl)) rfl
theorem wm_455 : Cond.code yX5_hasFailed cX5_hasFailed 1 (some .boolean) ∈ WL_ := wl_in (tj_3 (List.mem_of_getElem? (i := 71) rfl)) rfl
theorem wm_456 : Cond.instanceMethod yX5_hasFailed ∈ WL_ := wl_in (tj_3 (List.mem_of_getElem? (i := 69) rfl)) rfl
theorem wm_457 : Cond.selects RX5 yX5_hasFailed yX5_hasFailed ∈ WL_ := wl_in (tj_3 (List.mem_of_getElem? (i := 70) rfl)) rfl
theorem wm_458 : Cond.methodLink RX5 106 yX1_frameOf ∈ WL_ := wl_in (tj_3 (List.mem_of_getElem? (i := 80) rfl)) rfl
theorem wm_459 : Cond.methodLink RX5 103 yX1_rankOf ∈ WL_ := wl_in (tj_3 (List.mem_of_getElem? (i := 79) rfl)) rfl
theorem wm_460 : Cond.code yX1_rankOf cX1_rankOf 2 (some .int) ∈ WL_ := wl_in (tj_3 (List.mem_of_getElem? (i := 42) rfl)) rfl
theorem wm_461 : Cond.instanceMethod yX1_rankOf ∈ WL_ := wl_in (tj_3 (List.mem_of_getElem? (i := 40) rfl)) rfl
theorem wm_462 : Cond.selects RX1 yX1_rankOf yX1_rankOf ∈ WL_ := wl_in (tj_3 (List.mem_of_getElem? (i := 41) rfl)) rfl
theorem wm_463 : Cond.methodLink RX5 100 yX1_secondOf ∈ WL_ := wl_in (tj_3 (List.mem_of_getElem? (i := 78) rfl)) rfl
theorem wm_464 : Cond.code yX1_secondOf cX1_secondOf 2 (some .int) ∈ WL_ := wl_in (tj_3 (List.mem_of_getElem? (i := 38) rfl)) rfl
theorem wm_465 : Cond.instanceMethod yX1_secondOf ∈ WL_ := wl_in (tj_3 (List.mem_of_getElem? (i := 36) rfl)) rfl
theorem wm_466 : Cond.selects RX1 yX1_secondOf yX1_secondOf ∈ WL_ := wl_in (tj_3 (List.mem_of_getElem? (i := 37) rfl)) rfl
theorem wm_467 : Cond.methodLink RX5 97 yX1_firstOf ∈ WL_ := wl_in (tj_3 (List.mem_of_getElem? (i := 77) rfl)) rfl
theorem wm_468 : Cond.code yX1_firstOf cX1_firstOf 2 (some .int) ∈ WL_ := wl_in (tj_3 (List.mem_of_getElem? (i := 34) rfl)) rfl
theorem wm_469 : Cond.instanceMethod yX1_firstOf ∈ WL_ := wl_in (tj_3 (List.mem_of_getElem? (i := 32) rfl)) rfl
theorem wm_470 : Cond.selects RX1 yX1_firstOf yX1_firstOf ∈ WL_ := wl_in (tj_3 (List.mem_of_getElem? (i := 33) rfl)) rfl
theorem wm_471 : Cond.methodLink RX5 118 yX1_cellOf ∈ WL_ := wl_in (tj_3 (List.mem_of_getElem? (i := 106) rfl)) rfl
theorem wm_472 : Cond.methodLink RX5 81 yX5_meetCells ∈ WL_ := wl_in (tj_3 (List.mem_of_getElem? (i := 102) rfl)) rfl
theorem wm_473 : Cond.code yX5_meetCells cX5_meetCells 10 none ∈ WL_ := wl_in (tj_3 (List.mem_of_getElem? (i := 105) rfl)) rfl
theorem wm_474 : Cond.instanceMethod yX5_meetCells ∈ WL_ := wl_in (tj_3 (List.mem_of_getElem? (i := 104) rfl)) rfl
theorem wm_475 : Cond.selects RX5 yX5_meetCells yX5_meetCells ∈ WL_ := wl_in (List.mem_append_left _ (List.mem_of_getElem? (i := 24) rfl)) rfl
theorem wm_476 : Cond.methodLink RX5 77 yX5_meetFrames ∈ WL_ := wl_in (tj_3 (List.mem_of_getElem? (i := 73) rfl)) rfl
theorem wm_477 : Cond.code yX5_meetFrames cX5_meetFrames 7 none ∈ WL_ := wl_in (tj_3 (List.mem_of_getElem? (i := 76) rfl)) rfl
theorem wm_478 : Cond.instanceMethod yX5_meetFrames ∈ WL_ := wl_in (tj_3 (List.mem_of_getElem? (i := 75) rfl)) rfl
theorem wm_479 : Cond.selects RX5 yX5_meetFrames yX5_meetFrames ∈ WL_ := wl_in (List.mem_append_left _ (List.mem_of_getElem? (i := 20) rfl)) rfl
theorem wm_480 : Cond.methodLink RX5 74 yX1_kindOf ∈ WL_ := wl_in (tj_3 (List.mem_of_getElem? (i := 72) rfl)) rfl
theorem wm_481 : Cond.code yX1_kindOf cX1_kindOf 2 (some .int) ∈ WL_ := wl_in (tj_3 (List.mem_of_getElem? (i := 26) rfl)) rfl
theorem wm_482 : Cond.instanceMethod yX1_kindOf ∈ WL_ := wl_in (tj_3 (List.mem_of_getElem? (i := 24) rfl)) rfl
theorem wm_483 : Cond.selects RX1 yX1_kindOf yX1_kindOf ∈ WL_ := wl_in (tj_3 (List.mem_of_getElem? (i := 25) rfl)) rfl
theorem wm_484 : Cond.methodLink RX5 46 yX1_size ∈ WL_ := wl_in (tj_3 (List.mem_of_getElem? (i := 67) rfl)) rfl
theorem wm_485 : Cond.code yX1_size cX1_size 1 (some .int) ∈ WL_ := wl_in (tj_2 (List.mem_of_getElem? (i := 146) rfl)) rfl
theorem wm_486 : Cond.instanceMethod yX1_size ∈ WL_ := wl_in (tj_2 (List.mem_of_getElem? (i := 144) rfl)) rfl
theorem wm_487 : Cond.selects RX1 yX1_size yX1_size ∈ WL_ := wl_in (tj_2 (List.mem_of_getElem? (i := 145) rfl)) rfl
theorem wm_488 : Cond.fieldLink RX5 25 "ShapeFrames$Solver" "numberMet" "[I" ∈ WL_ := wl_in (tj_1 (List.mem_of_getElem? (i := 127) rfl)) rfl
theorem wm_489 : Cond.methodLink RX5 85 arraycopyName ∈ WL_ := wl_in (tj_3 (List.mem_of_getElem? (i := 107) rfl)) rfl
theorem wm_490 : Cond.methodLink RX5 67 yX5_clearFail ∈ WL_ := wl_in (tj_3 (List.mem_of_getElem? (i := 63) rfl)) rfl
theorem wm_491 : Cond.code yX5_clearFail cX5_clearFail 2 none ∈ WL_ := wl_in (tj_3 (List.mem_of_getElem? (i := 66) rfl)) rfl
theorem wm_492 : Cond.instanceMethod yX5_clearFail ∈ WL_ := wl_in (tj_3 (List.mem_of_getElem? (i := 65) rfl)) rfl
theorem wm_493 : Cond.selects RX5 yX5_clearFail yX5_clearFail ∈ WL_ := wl_in (List.mem_append_left _ (List.mem_of_getElem? (i := 19) rfl)) rfl
theorem wm_494 : Cond.fieldLink RX5 12 "ShapeFrames$Solver" "sides" "LShapeFrames$Sides;" ∈ WL_ := wl_in (tj_1 (List.mem_of_getElem? (i := 124) rfl)) rfl
theorem wm_495 : Cond.methodLink RX5 142 yX4_add ∈ WL_ := wl_in (tj_3 (List.mem_of_getElem? (i := 121) rfl)) rfl
theorem wm_496 : Cond.initialized RX4 ∈ WL_ := wl_in (tj_1 (List.mem_of_getElem? (i := 5) rfl)) rfl
theorem wm_497 : Cond.code yX4_add cX4_add 3 none ∈ WL_ := wl_in (tj_3 (List.mem_of_getElem? (i := 124) rfl)) rfl
theorem wm_498 : Cond.instanceMethod yX4_add ∈ WL_ := wl_in (tj_3 (List.mem_of_getElem? (i := 122) rfl)) rfl
theorem wm_499 : Cond.selects RX4 yX4_add yX4_add ∈ WL_ := wl_in (tj_3 (List.mem_of_getElem? (i := 123) rfl)) rfl
theorem wm_500 : Cond.methodLink RX5 56 yX1_axesOf ∈ WL_ := wl_in (tj_3 (List.mem_of_getElem? (i := 130) rfl)) rfl
theorem wm_501 : Cond.code yX1_axesOf cX1_axesOf 2 (some .int) ∈ WL_ := wl_in (tj_3 (List.mem_of_getElem? (i := 30) rfl)) rfl
theorem wm_502 : Cond.instanceMethod yX1_axesOf ∈ WL_ := wl_in (tj_3 (List.mem_of_getElem? (i := 28) rfl)) rfl
theorem wm_503 : Cond.selects RX1 yX1_axesOf yX1_axesOf ∈ WL_ := wl_in (tj_3 (List.mem_of_getElem? (i := 29) rfl)) rfl
theorem wm_504 : Cond.methodLink RX5 145 yX1_joinedAt ∈ WL_ := wl_in (tj_3 (List.mem_of_getElem? (i := 126) rfl)) rfl
theorem wm_505 : Cond.code yX1_joinedAt cX1_joinedAt 3 (some .int) ∈ WL_ := wl_in (tj_3 (List.mem_of_getElem? (i := 129) rfl)) rfl
theorem wm_506 : Cond.instanceMethod yX1_joinedAt ∈ WL_ := wl_in (tj_3 (List.mem_of_getElem? (i := 127) rfl)) rfl
theorem wm_507 : Cond.selects RX1 yX1_joinedAt yX1_joinedAt ∈ WL_ := wl_in (tj_3 (List.mem_of_getElem? (i := 128) rfl)) rfl
theorem wm_508 : Cond.methodLink RX5 139 yX1_ownLetter ∈ WL_ := wl_in (tj_3 (List.mem_of_getElem? (i := 120) rfl)) rfl
theorem wm_509 : Cond.methodLink RX5 136 yX4_clear ∈ WL_ := wl_in (tj_3 (List.mem_of_getElem? (i := 116) rfl)) rfl
theorem wm_510 : Cond.code yX4_clear cX4_clear 2 none ∈ WL_ := wl_in (tj_3 (List.mem_of_getElem? (i := 119) rfl)) rfl
theorem wm_511 : Cond.instanceMethod yX4_clear ∈ WL_ := wl_in (tj_3 (List.mem_of_getElem? (i := 117) rfl)) rfl
theorem wm_512 : Cond.selects RX4 yX4_clear yX4_clear ∈ WL_ := wl_in (tj_3 (List.mem_of_getElem? (i := 118) rfl)) rfl
theorem wm_513 : Cond.constantLong RX5 155 (-1) ∈ WL_ := wl_in (tj_3 (List.mem_of_getElem? (i := 150) rfl)) rfl
theorem wm_514 : Cond.constantLong RX5 160 (-2) ∈ WL_ := wl_in (tj_3 (List.mem_of_getElem? (i := 155) rfl)) rfl
theorem wm_515 : Cond.methodLink RX5 162 yX4_latestLetter ∈ WL_ := wl_in (tj_3 (List.mem_of_getElem? (i := 156) rfl)) rfl
theorem wm_516 : Cond.code yX4_latestLetter cX4_latestLetter 1 (some .int) ∈ WL_ := wl_in (tj_3 (List.mem_of_getElem? (i := 159) rfl)) rfl
theorem wm_517 : Cond.instanceMethod yX4_latestLetter ∈ WL_ := wl_in (tj_3 (List.mem_of_getElem? (i := 157) rfl)) rfl
theorem wm_518 : Cond.selects RX4 yX4_latestLetter yX4_latestLetter ∈ WL_ := wl_in (tj_3 (List.mem_of_getElem? (i := 158) rfl)) rfl
theorem wm_519 : Cond.methodLink RX5 157 yX4_isTooGreat ∈ WL_ := wl_in (tj_3 (List.mem_of_getElem? (i := 151) rfl)) rfl
theorem wm_520 : Cond.code yX4_isTooGreat cX4_isTooGreat 1 (some .boolean) ∈ WL_ := wl_in (tj_3 (List.mem_of_getElem? (i := 154) rfl)) rfl
theorem wm_521 : Cond.instanceMethod yX4_isTooGreat ∈ WL_ := wl_in (tj_3 (List.mem_of_getElem? (i := 152) rfl)) rfl
theorem wm_522 : Cond.selects RX4 yX4_isTooGreat yX4_isTooGreat ∈ WL_ := wl_in (tj_3 (List.mem_of_getElem? (i := 153) rfl)) rfl
theorem wm_523 : Cond.methodLink RX5 152 yX4_missingFactor ∈ WL_ := wl_in (tj_3 (List.mem_of_getElem? (i := 146) rfl)) rfl
theorem wm_524 : Cond.code yX4_missingFactor cX4_missingFactor 5 (some .long) ∈ WL_ := wl_in (tj_3 (List.mem_of_getElem? (i := 149) rfl)) rfl
theorem wm_525 : Cond.instanceMethod yX4_missingFactor ∈ WL_ := wl_in (tj_3 (List.mem_of_getElem? (i := 147) rfl)) rfl
theorem wm_526 : Cond.selects RX4 yX4_missingFactor yX4_missingFactor ∈ WL_ := wl_in (tj_3 (List.mem_of_getElem? (i := 148) rfl)) rfl
theorem wm_527 : Cond.methodLink RX5 148 yX4_missingAddend ∈ WL_ := wl_in (tj_3 (List.mem_of_getElem? (i := 139) rfl)) rfl
theorem wm_528 : Cond.code yX4_missingAddend cX4_missingAddend 3 (some .long) ∈ WL_ := wl_in (tj_3 (List.mem_of_getElem? (i := 142) rfl)) rfl
theorem wm_529 : Cond.instanceMethod yX4_missingAddend ∈ WL_ := wl_in (tj_3 (List.mem_of_getElem? (i := 140) rfl)) rfl
theorem wm_530 : Cond.selects RX4 yX4_missingAddend yX4_missingAddend ∈ WL_ := wl_in (tj_3 (List.mem_of_getElem? (i := 141) rfl)) rfl
theorem wm_531 : Cond.methodLink RX5 133 yX5_settleOne ∈ WL_ := wl_in (tj_3 (List.mem_of_getElem? (i := 135) rfl)) rfl
theorem wm_532 : Cond.code yX5_settleOne cX5_settleOne 5 (some .boolean) ∈ WL_ := wl_in (tj_3 (List.mem_of_getElem? (i := 138) rfl)) rfl
theorem wm_533 : Cond.instanceMethod yX5_settleOne ∈ WL_ := wl_in (tj_3 (List.mem_of_getElem? (i := 137) rfl)) rfl
theorem wm_534 : Cond.selects RX5 yX5_settleOne yX5_settleOne ∈ WL_ := wl_in (List.mem_append_left _ (List.mem_of_getElem? (i := 27) rfl)) rfl
theorem wm_535 : Cond.methodLink RX5 130 yX4_letters ∈ WL_ := wl_in (tj_3 (List.mem_of_getElem? (i := 131) rfl)) rfl
theorem wm_536 : Cond.code yX4_letters cX4_letters 1 (some .int) ∈ WL_ := wl_in (tj_3 (List.mem_of_getElem? (i := 134) rfl)) rfl
theorem wm_537 : Cond.instanceMethod yX4_letters ∈ WL_ := wl_in (tj_3 (List.mem_of_getElem? (i := 132) rfl)) rfl
theorem wm_538 : Cond.selects RX4 yX4_letters yX4_letters ∈ WL_ := wl_in (tj_3 (List.mem_of_getElem? (i := 133) rfl)) rfl
theorem wm_539 : Cond.methodLink RX5 91 yX5_gatherSides ∈ WL_ := wl_in (tj_3 (List.mem_of_getElem? (i := 112) rfl)) rfl
theorem wm_540 : Cond.code yX5_gatherSides cX5_gatherSides 7 (some .boolean) ∈ WL_ := wl_in (tj_3 (List.mem_of_getElem? (i := 115) rfl)) rfl
theorem wm_541 : Cond.instanceMethod yX5_gatherSides ∈ WL_ := wl_in (tj_3 (List.mem_of_getElem? (i := 114) rfl)) rfl
theorem wm_542 : Cond.selects RX5 yX5_gatherSides yX5_gatherSides ∈ WL_ := wl_in (List.mem_append_left _ (List.mem_of_getElem? (i := 26) rfl)) rfl
theorem wm_543 : Cond.methodLink RX5 39 yX5_settle ∈ WL_ := wl_in (tj_3 (List.mem_of_getElem? (i := 108) rfl)) rfl
theorem wm_544 : Cond.code yX5_settle cX5_settle 6 none ∈ WL_ := wl_in (tj_3 (List.mem_of_getElem? (i := 111) rfl)) rfl
theorem wm_545 : Cond.instanceMethod yX5_settle ∈ WL_ := wl_in (tj_3 (List.mem_of_getElem? (i := 110) rfl)) rfl
theorem wm_546 : Cond.selects RX5 yX5_settle yX5_settle ∈ WL_ := wl_in (List.mem_append_left _ (List.mem_of_getElem? (i := 25) rfl)) rfl
theorem wm_547 : Cond.methodLink RX5 35 yX5_meetAll ∈ WL_ := wl_in (tj_3 (List.mem_of_getElem? (i := 59) rfl)) rfl
theorem wm_548 : Cond.code yX5_meetAll cX5_meetAll 4 none ∈ WL_ := wl_in (tj_3 (List.mem_of_getElem? (i := 62) rfl)) rfl
theorem wm_549 : Cond.instanceMethod yX5_meetAll ∈ WL_ := wl_in (tj_3 (List.mem_of_getElem? (i := 60) rfl)) rfl
theorem wm_550 : Cond.selects RX5 yX5_meetAll yX5_meetAll ∈ WL_ := wl_in (tj_3 (List.mem_of_getElem? (i := 61) rfl)) rfl
theorem wm_551 : Cond.methodLink RX5 52 yX1_isTold ∈ WL_ := wl_in (tj_4 (List.mem_of_getElem? (i := 22) rfl)) rfl
theorem wm_552 : Cond.methodLink RX5 94 yX4_letterBits ∈ WL_ := wl_in (tj_4 (List.mem_of_getElem? (i := 50) rfl)) rfl
theorem wm_553 : Cond.code yX4_letterBits cX4_letterBits 1 (some .int) ∈ WL_ := wl_in (tj_4 (List.mem_of_getElem? (i := 53) rfl)) rfl
theorem wm_554 : Cond.instanceMethod yX4_letterBits ∈ WL_ := wl_in (tj_4 (List.mem_of_getElem? (i := 51) rfl)) rfl
theorem wm_555 : Cond.selects RX4 yX4_letterBits yX4_letterBits ∈ WL_ := wl_in (tj_4 (List.mem_of_getElem? (i := 52) rfl)) rfl
theorem wm_556 : Cond.fieldLink RX6 15 "ShapeFrames$Text" "length" "I" ∈ WL_ := wl_in (tj_1 (List.mem_of_getElem? (i := 34) rfl)) rfl
theorem wm_557 : Cond.fieldLink RX6 9 "ShapeFrames$Text" "letters" "[C" ∈ WL_ := wl_in (tj_1 (List.mem_of_getElem? (i := 33) rfl)) rfl
theorem wm_558 : Cond.fieldLink RX6 19 "ShapeFrames$Text" "clauses" "I" ∈ WL_ := wl_in (tj_1 (List.mem_of_getElem? (i := 35) rfl)) rfl
theorem wm_559 : Cond.fieldLink RX6 39 "ShapeFrames$Text" "start" "I" ∈ WL_ := wl_in (tj_1 (List.mem_of_getElem? (i := 37) rfl)) rfl
theorem wm_560 : Cond.fieldLink RX6 22 "ShapeFrames$Text" "next" "I" ∈ WL_ := wl_in (tj_1 (List.mem_of_getElem? (i := 38) rfl)) rfl
theorem wm_561 : Cond.fieldLink RX6 32 "ShapeFrames$Text" "sort" "I" ∈ WL_ := wl_in (tj_1 (List.mem_of_getElem? (i := 36) rfl)) rfl
theorem wm_562 : Cond.methodLink RX6 82 yX6_numberHere ∈ WL_ := wl_in (tj_2 (List.mem_of_getElem? (i := 155) rfl)) rfl
theorem wm_563 : Cond.initialized RX6 ∈ WL_ := wl_in (tj_1 (List.mem_of_getElem? (i := 2) rfl)) rfl
theorem wm_564 : Cond.code yX6_numberHere cX6_numberHere 3 (some .int) ∈ WL_ := wl_in (tj_2 (List.mem_of_getElem? (i := 158) rfl)) rfl
theorem wm_565 : Cond.instanceMethod yX6_numberHere ∈ WL_ := wl_in (tj_2 (List.mem_of_getElem? (i := 157) rfl)) rfl
theorem wm_566 : Cond.selects RX6 yX6_numberHere yX6_numberHere ∈ WL_ := wl_in (List.mem_append_left _ (List.mem_of_getElem? (i := 6) rfl)) rfl
theorem wm_567 : Cond.methodLink RX6 96 yX6_sortOf ∈ WL_ := wl_in (tj_2 (List.mem_of_getElem? (i := 65) rfl)) rfl
theorem wm_568 : Cond.code yX6_sortOf cX6_sortOf 1 (some .int) ∈ WL_ := wl_in (tj_2 (List.mem_of_getElem? (i := 67) rfl)) rfl
theorem wm_569 : Cond.static yX6_sortOf ∈ WL_ := wl_in (tj_2 (List.mem_of_getElem? (i := 66) rfl)) rfl
theorem wm_570 : Cond.methodLink RX6 25 yX6_step ∈ WL_ := wl_in (tj_2 (List.mem_of_getElem? (i := 61) rfl)) rfl
theorem wm_571 : Cond.code yX6_step cX6_step 1 none ∈ WL_ := wl_in (tj_2 (List.mem_of_getElem? (i := 64) rfl)) rfl
theorem wm_572 : Cond.instanceMethod yX6_step ∈ WL_ := wl_in (tj_2 (List.mem_of_getElem? (i := 63) rfl)) rfl
theorem wm_573 : Cond.selects RX6 yX6_step yX6_step ∈ WL_ := wl_in (List.mem_append_left _ (List.mem_of_getElem? (i := 0) rfl)) rfl
theorem wm_574 : Cond.fieldLink RX6 64 "ShapeFrames$Text" "rank" "I" ∈ WL_ := wl_in (tj_1 (List.mem_of_getElem? (i := 41) rfl)) rfl
theorem wm_575 : Cond.methodLink RX6 79 yX6_isNumber ∈ WL_ := wl_in (tj_2 (List.mem_of_getElem? (i := 151) rfl)) rfl
theorem wm_576 : Cond.code yX6_isNumber cX6_isNumber 4 (some .boolean) ∈ WL_ := wl_in (tj_2 (List.mem_of_getElem? (i := 154) rfl)) rfl
theorem wm_577 : Cond.instanceMethod yX6_isNumber ∈ WL_ := wl_in (tj_2 (List.mem_of_getElem? (i := 153) rfl)) rfl
theorem wm_578 : Cond.selects RX6 yX6_isNumber yX6_isNumber ∈ WL_ := wl_in (List.mem_append_left _ (List.mem_of_getElem? (i := 5) rfl)) rfl
theorem wm_579 : Cond.methodLink RX6 35 yX6_isSign ∈ WL_ := wl_in (tj_2 (List.mem_of_getElem? (i := 163) rfl)) rfl
theorem wm_580 : Cond.code yX6_isSign cX6_isSign 2 (some .boolean) ∈ WL_ := wl_in (tj_2 (List.mem_of_getElem? (i := 166) rfl)) rfl
theorem wm_581 : Cond.instanceMethod yX6_isSign ∈ WL_ := wl_in (tj_2 (List.mem_of_getElem? (i := 165) rfl)) rfl
theorem wm_582 : Cond.selects RX6 yX6_isSign yX6_isSign ∈ WL_ := wl_in (List.mem_append_left _ (List.mem_of_getElem? (i := 8) rfl)) rfl
theorem wm_583 : Cond.methodLink RX6 85 yX6_readRank ∈ WL_ := wl_in (tj_2 (List.mem_of_getElem? (i := 159) rfl)) rfl
theorem wm_584 : Cond.code yX6_readRank cX6_readRank 2 (some .boolean) ∈ WL_ := wl_in (tj_2 (List.mem_of_getElem? (i := 162) rfl)) rfl
theorem wm_585 : Cond.instanceMethod yX6_readRank ∈ WL_ := wl_in (tj_2 (List.mem_of_getElem? (i := 161) rfl)) rfl
theorem wm_586 : Cond.selects RX6 yX6_readRank yX6_readRank ∈ WL_ := wl_in (List.mem_append_left _ (List.mem_of_getElem? (i := 7) rfl)) rfl
theorem wm_587 : Cond.fieldLink RX6 61 "ShapeFrames$Text" "second" "I" ∈ WL_ := wl_in (tj_1 (List.mem_of_getElem? (i := 40) rfl)) rfl
theorem wm_588 : Cond.fieldLink RX6 58 "ShapeFrames$Text" "first" "I" ∈ WL_ := wl_in (tj_1 (List.mem_of_getElem? (i := 39) rfl)) rfl
theorem wm_589 : Cond.methodLink RX6 89 yX1_tell ∈ WL_ := wl_in (tj_2 (List.mem_of_getElem? (i := 222) rfl)) rfl
theorem wm_590 : Cond.code yX1_tell cX1_tell 3 none ∈ WL_ := wl_in (tj_2 (List.mem_of_getElem? (i := 225) rfl)) rfl
theorem wm_591 : Cond.instanceMethod yX1_tell ∈ WL_ := wl_in (tj_2 (List.mem_of_getElem? (i := 223) rfl)) rfl
theorem wm_592 : Cond.selects RX1 yX1_tell yX1_tell ∈ WL_ := wl_in (tj_2 (List.mem_of_getElem? (i := 224) rfl)) rfl
theorem wm_593 : Cond.methodLink RX6 93 yX6_isPlainLetter ∈ WL_ := wl_in (tj_2 (List.mem_of_getElem? (i := 226) rfl)) rfl
theorem wm_594 : Cond.code yX6_isPlainLetter cX6_isPlainLetter 1 (some .boolean) ∈ WL_ := wl_in (tj_2 (List.mem_of_getElem? (i := 229) rfl)) rfl
theorem wm_595 : Cond.instanceMethod yX6_isPlainLetter ∈ WL_ := wl_in (tj_2 (List.mem_of_getElem? (i := 228) rfl)) rfl
theorem wm_596 : Cond.selects RX6 yX6_isPlainLetter yX6_isPlainLetter ∈ WL_ := wl_in (List.mem_append_left _ (List.mem_of_getElem? (i := 16) rfl)) rfl
theorem wm_597 : Cond.fieldLink RX7 22 "ShapeFrames$Ways" "ways" "I" ∈ WL_ := wl_in (tj_1 (List.mem_of_getElem? (i := 185) rfl)) rfl
theorem wm_598 : Cond.fieldLink RX7 30 "ShapeFrames$Ways" "open" "I" ∈ WL_ := wl_in (tj_1 (List.mem_of_getElem? (i := 183) rfl)) rfl
theorem wm_599 : Cond.methodLink RX7 26 yX7_isOpen ∈ WL_ := wl_in (tj_4 (List.mem_of_getElem? (i := 68) rfl)) rfl
theorem wm_600 : Cond.initialized RX7 ∈ WL_ := wl_in (tj_1 (List.mem_of_getElem? (i := 8) rfl)) rfl
theorem wm_601 : Cond.code yX7_isOpen cX7_isOpen 2 (some .boolean) ∈ WL_ := wl_in (tj_4 (List.mem_of_getElem? (i := 71) rfl)) rfl
theorem wm_602 : Cond.instanceMethod yX7_isOpen ∈ WL_ := wl_in (tj_4 (List.mem_of_getElem? (i := 69) rfl)) rfl
theorem wm_603 : Cond.selects RX7 yX7_isOpen yX7_isOpen ∈ WL_ := wl_in (tj_4 (List.mem_of_getElem? (i := 70) rfl)) rfl
theorem wm_604 : Cond.fieldLink RX7 15 "ShapeFrames$Ways" "firstWay" "[I" ∈ WL_ := wl_in (tj_1 (List.mem_of_getElem? (i := 182) rfl)) rfl
theorem wm_605 : Cond.fieldLink RX7 9 "ShapeFrames$Ways" "chosen" "[I" ∈ WL_ := wl_in (tj_1 (List.mem_of_getElem? (i := 181) rfl)) rfl
theorem wm_606 : Cond.methodLink RX7 54 yJ7_fill_53178 ∈ WL_ := wl_in (tj_4 (List.mem_of_getElem? (i := 39) rfl)) rfl
theorem wm_607 : Cond.fieldLink RX7 18 "ShapeFrames$Ways" "solver" "LShapeFrames$Solver;" ∈ WL_ := wl_in (tj_1 (List.mem_of_getElem? (i := 180) rfl)) rfl
theorem wm_608 : Cond.methodLink RX7 82 arraycopyName ∈ WL_ := wl_in (tj_4 (List.mem_of_getElem? (i := 67) rfl)) rfl
theorem wm_609 : Cond.methodLink RX7 67 yX5_hasFailed ∈ WL_ := wl_in (tj_4 (List.mem_of_getElem? (i := 66) rfl)) rfl
theorem wm_610 : Cond.fieldLink RX7 47 "ShapeFrames$Ways" "inEquations" "I" ∈ WL_ := wl_in (tj_1 (List.mem_of_getElem? (i := 184) rfl)) rfl
theorem wm_611 : Cond.methodLink RX7 50 yX7_waysFrom ∈ WL_ := wl_in (tj_4 (List.mem_of_getElem? (i := 54) rfl)) rfl
theorem wm_612 : Cond.code yX7_waysFrom cX7_waysFrom 8 (some .int) ∈ WL_ := wl_in (tj_4 (List.mem_of_getElem? (i := 57) rfl)) rfl
theorem wm_613 : Cond.instanceMethod yX7_waysFrom ∈ WL_ := wl_in (tj_4 (List.mem_of_getElem? (i := 56) rfl)) rfl
theorem wm_614 : Cond.selects RX7 yX7_waysFrom yX7_waysFrom ∈ WL_ := wl_in (List.mem_append_left _ (List.mem_of_getElem? (i := 29) rfl)) rfl
theorem wm_615 : Cond.methodLink RX7 77 yJ9_min_7cf53 ∈ WL_ := wl_in (tj_4 (List.mem_of_getElem? (i := 77) rfl)) rfl
theorem wm_616 : Cond.methodLink RX7 74 yX5_valueOf ∈ WL_ := wl_in (tj_4 (List.mem_of_getElem? (i := 76) rfl)) rfl
theorem wm_617 : Cond.methodLink RX7 71 yX5_hasTooGreat ∈ WL_ := wl_in (tj_4 (List.mem_of_getElem? (i := 72) rfl)) rfl
theorem wm_618 : Cond.code yX5_hasTooGreat cX5_hasTooGreat 1 (some .boolean) ∈ WL_ := wl_in (tj_4 (List.mem_of_getElem? (i := 75) rfl)) rfl
theorem wm_619 : Cond.instanceMethod yX5_hasTooGreat ∈ WL_ := wl_in (tj_4 (List.mem_of_getElem? (i := 73) rfl)) rfl
theorem wm_620 : Cond.selects RX5 yX5_hasTooGreat yX5_hasTooGreat ∈ WL_ := wl_in (tj_4 (List.mem_of_getElem? (i := 74) rfl)) rfl
theorem wm_621 : Cond.methodLink RX7 60 yX5_settleWith ∈ WL_ := wl_in (tj_4 (List.mem_of_getElem? (i := 58) rfl)) rfl
theorem wm_622 : Cond.code yX5_settleWith cX5_settleWith 3 none ∈ WL_ := wl_in (tj_4 (List.mem_of_getElem? (i := 61) rfl)) rfl
theorem wm_623 : Cond.instanceMethod yX5_settleWith ∈ WL_ := wl_in (tj_4 (List.mem_of_getElem? (i := 59) rfl)) rfl
theorem wm_624 : Cond.selects RX5 yX5_settleWith yX5_settleWith ∈ WL_ := wl_in (tj_4 (List.mem_of_getElem? (i := 60) rfl)) rfl
theorem wm_625 : Cond.methodLink RX7 63 yX7_waysAsSettled ∈ WL_ := wl_in (tj_4 (List.mem_of_getElem? (i := 62) rfl)) rfl
theorem wm_626 : Cond.code yX7_waysAsSettled cX7_waysAsSettled 2 (some .int) ∈ WL_ := wl_in (tj_4 (List.mem_of_getElem? (i := 65) rfl)) rfl
theorem wm_627 : Cond.instanceMethod yX7_waysAsSettled ∈ WL_ := wl_in (tj_4 (List.mem_of_getElem? (i := 64) rfl)) rfl
theorem wm_628 : Cond.selects RX7 yX7_waysAsSettled yX7_waysAsSettled ∈ WL_ := wl_in (List.mem_append_left _ (List.mem_of_getElem? (i := 30) rfl)) rfl
theorem wm_629 : Cond.methodLink RX7 43 yX5_lettersInEquations ∈ WL_ := wl_in (tj_4 (List.mem_of_getElem? (i := 46) rfl)) rfl
theorem wm_630 : Cond.code yX5_lettersInEquations cX5_lettersInEquations 3 (some .int) ∈ WL_ := wl_in (tj_4 (List.mem_of_getElem? (i := 49) rfl)) rfl
theorem wm_631 : Cond.instanceMethod yX5_lettersInEquations ∈ WL_ := wl_in (tj_4 (List.mem_of_getElem? (i := 47) rfl)) rfl
theorem wm_632 : Cond.selects RX5 yX5_lettersInEquations yX5_lettersInEquations ∈ WL_ := wl_in (tj_4 (List.mem_of_getElem? (i := 48) rfl)) rfl
theorem wm_633 : Cond.methodLink RX7 37 yX5_meetAll ∈ WL_ := wl_in (tj_4 (List.mem_of_getElem? (i := 45) rfl)) rfl
theorem wm_634 : Cond.methodLink RX7 33 yX7_findNone ∈ WL_ := wl_in (tj_4 (List.mem_of_getElem? (i := 44) rfl)) rfl
theorem wm_635 : Cond.code yX7_findNone cX7_findNone 2 none ∈ WL_ := wl_in (tj_4 (List.mem_of_getElem? (i := 38) rfl)) rfl
theorem wm_636 : Cond.instanceMethod yX7_findNone ∈ WL_ := wl_in (tj_4 (List.mem_of_getElem? (i := 36) rfl)) rfl
theorem wm_637 : Cond.selects RX7 yX7_findNone yX7_findNone ∈ WL_ := wl_in (tj_4 (List.mem_of_getElem? (i := 37) rfl)) rfl
theorem wm_638 : Cond.fieldLink RX8 12 "ShapeFrames" "text" "LShapeFrames$Text;" ∈ WL_ := wl_in (tj_1 (List.mem_of_getElem? (i := 232) rfl)) rfl
theorem wm_639 : Cond.methodLink RX8 79 yX6_length ∈ WL_ := wl_in (tj_2 (List.mem_of_getElem? (i := 34) rfl)) rfl
theorem wm_640 : Cond.code yX6_length cX6_length 1 (some .int) ∈ WL_ := wl_in (tj_2 (List.mem_of_getElem? (i := 37) rfl)) rfl
theorem wm_641 : Cond.instanceMethod yX6_length ∈ WL_ := wl_in (tj_2 (List.mem_of_getElem? (i := 35) rfl)) rfl
theorem wm_642 : Cond.selects RX6 yX6_length yX6_length ∈ WL_ := wl_in (tj_2 (List.mem_of_getElem? (i := 36) rfl)) rfl
theorem wm_643 : Cond.methodLink RX8 75 yX6_add ∈ WL_ := wl_in (tj_2 (List.mem_of_getElem? (i := 30) rfl)) rfl
theorem wm_644 : Cond.code yX6_add cX6_add 2 (some .boolean) ∈ WL_ := wl_in (tj_2 (List.mem_of_getElem? (i := 33) rfl)) rfl
theorem wm_645 : Cond.instanceMethod yX6_add ∈ WL_ := wl_in (tj_2 (List.mem_of_getElem? (i := 31) rfl)) rfl
theorem wm_646 : Cond.selects RX6 yX6_add yX6_add ∈ WL_ := wl_in (tj_2 (List.mem_of_getElem? (i := 32) rfl)) rfl
theorem wm_647 : Cond.methodLink RX8 83 yX6_clear ∈ WL_ := wl_in (tj_2 (List.mem_of_getElem? (i := 42) rfl)) rfl
theorem wm_648 : Cond.code yX6_clear cX6_clear 1 none ∈ WL_ := wl_in (tj_2 (List.mem_of_getElem? (i := 45) rfl)) rfl
theorem wm_649 : Cond.instanceMethod yX6_clear ∈ WL_ := wl_in (tj_2 (List.mem_of_getElem? (i := 43) rfl)) rfl
theorem wm_650 : Cond.selects RX6 yX6_clear yX6_clear ∈ WL_ := wl_in (tj_2 (List.mem_of_getElem? (i := 44) rfl)) rfl
theorem wm_651 : Cond.fieldLink RX8 19 "ShapeFrames" "nodes" "LShapeFrames$Nodes;" ∈ WL_ := wl_in (tj_1 (List.mem_of_getElem? (i := 233) rfl)) rfl
theorem wm_652 : Cond.methodLink RX8 105 yX1_kindOf ∈ WL_ := wl_in (tj_3 (List.mem_of_getElem? (i := 23) rfl)) rfl
theorem wm_653 : Cond.methodLink RX8 109 yX1_axesOf ∈ WL_ := wl_in (tj_3 (List.mem_of_getElem? (i := 27) rfl)) rfl
theorem wm_654 : Cond.methodLink RX8 112 yX1_firstOf ∈ WL_ := wl_in (tj_3 (List.mem_of_getElem? (i := 31) rfl)) rfl
theorem wm_655 : Cond.methodLink RX8 115 yX1_secondOf ∈ WL_ := wl_in (tj_3 (List.mem_of_getElem? (i := 35) rfl)) rfl
theorem wm_656 : Cond.methodLink RX8 118 yX1_rankOf ∈ WL_ := wl_in (tj_3 (List.mem_of_getElem? (i := 39) rfl)) rfl
theorem wm_657 : Cond.methodLink RX8 102 yX1_has ∈ WL_ := wl_in (tj_3 (List.mem_of_getElem? (i := 19) rfl)) rfl
theorem wm_658 : Cond.fieldLink RX8 68 "ShapeFrames" "solved" "Z" ∈ WL_ := wl_in (tj_2 (List.mem_of_getElem? (i := 1) rfl)) rfl
theorem wm_659 : Cond.fieldLink RX8 31 "ShapeFrames" "solver" "LShapeFrames$Solver;" ∈ WL_ := wl_in (tj_1 (List.mem_of_getElem? (i := 235) rfl)) rfl
theorem wm_660 : Cond.fieldLink RX8 41 "ShapeFrames" "given" "LShapeFrames$Given;" ∈ WL_ := wl_in (tj_1 (List.mem_of_getElem? (i := 237) rfl)) rfl
theorem wm_661 : Cond.methodLink RX8 268 yX5_solve ∈ WL_ := wl_in (tj_3 (List.mem_of_getElem? (i := 55) rfl)) rfl
theorem wm_662 : Cond.code yX5_solve cX5_solve 2 none ∈ WL_ := wl_in (tj_3 (List.mem_of_getElem? (i := 58) rfl)) rfl
theorem wm_663 : Cond.instanceMethod yX5_solve ∈ WL_ := wl_in (tj_3 (List.mem_of_getElem? (i := 56) rfl)) rfl
theorem wm_664 : Cond.selects RX5 yX5_solve yX5_solve ∈ WL_ := wl_in (tj_3 (List.mem_of_getElem? (i := 57) rfl)) rfl
theorem wm_665 : Cond.methodLink RX8 264 yX0_numbers ∈ WL_ := wl_in (tj_3 (List.mem_of_getElem? (i := 51) rfl)) rfl
theorem wm_666 : Cond.code yX0_numbers cX0_numbers 1 (some (.array .int)) ∈ WL_ := wl_in (tj_3 (List.mem_of_getElem? (i := 54) rfl)) rfl
theorem wm_667 : Cond.instanceMethod yX0_numbers ∈ WL_ := wl_in (tj_3 (List.mem_of_getElem? (i := 52) rfl)) rfl
theorem wm_668 : Cond.selects RX0 yX0_numbers yX0_numbers ∈ WL_ := wl_in (tj_3 (List.mem_of_getElem? (i := 53) rfl)) rfl
theorem wm_669 : Cond.methodLink RX8 128 yX5_valueOf ∈ WL_ := wl_in (tj_3 (List.mem_of_getElem? (i := 161) rfl)) rfl
theorem wm_670 : Cond.methodLink RX8 124 yX1_at ∈ WL_ := wl_in (tj_3 (List.mem_of_getElem? (i := 160) rfl)) rfl
theorem wm_671 : Cond.methodLink RX8 121 yX8_solveNow ∈ WL_ := wl_in (tj_3 (List.mem_of_getElem? (i := 47) rfl)) rfl
theorem wm_672 : Cond.initialized RX8 ∈ WL_ := wl_in (tj_1 (List.mem_of_getElem? (i := 1) rfl)) rfl
theorem wm_673 : Cond.code yX8_solveNow cX8_solveNow 1 none ∈ WL_ := wl_in (tj_3 (List.mem_of_getElem? (i := 50) rfl)) rfl
theorem wm_674 : Cond.instanceMethod yX8_solveNow ∈ WL_ := wl_in (tj_3 (List.mem_of_getElem? (i := 49) rfl)) rfl
theorem wm_675 : Cond.selects RX8 yX8_solveNow yX8_solveNow ∈ WL_ := wl_in (List.mem_append_left _ (List.mem_of_getElem? (i := 18) rfl)) rfl
theorem wm_676 : Cond.fieldLink RX8 72 "ShapeFrames" "counted" "Z" ∈ WL_ := wl_in (tj_2 (List.mem_of_getElem? (i := 2) rfl)) rfl
theorem wm_677 : Cond.methodLink RX8 145 yX0_howMany ∈ WL_ := wl_in (tj_3 (List.mem_of_getElem? (i := 187) rfl)) rfl
theorem wm_678 : Cond.code yX0_howMany cX0_howMany 1 (some .int) ∈ WL_ := wl_in (tj_3 (List.mem_of_getElem? (i := 190) rfl)) rfl
theorem wm_679 : Cond.instanceMethod yX0_howMany ∈ WL_ := wl_in (tj_3 (List.mem_of_getElem? (i := 188) rfl)) rfl
theorem wm_680 : Cond.selects RX0 yX0_howMany yX0_howMany ∈ WL_ := wl_in (tj_3 (List.mem_of_getElem? (i := 189) rfl)) rfl
theorem wm_681 : Cond.methodLink RX8 96 yX8_forgetSolved ∈ WL_ := wl_in (tj_3 (List.mem_of_getElem? (i := 7) rfl)) rfl
theorem wm_682 : Cond.code yX8_forgetSolved cX8_forgetSolved 1 none ∈ WL_ := wl_in (tj_3 (List.mem_of_getElem? (i := 10) rfl)) rfl
theorem wm_683 : Cond.instanceMethod yX8_forgetSolved ∈ WL_ := wl_in (tj_3 (List.mem_of_getElem? (i := 9) rfl)) rfl
theorem wm_684 : Cond.selects RX8 yX8_forgetSolved yX8_forgetSolved ∈ WL_ := wl_in (List.mem_append_left _ (List.mem_of_getElem? (i := 17) rfl)) rfl
theorem wm_685 : Cond.methodLink RX8 141 yX0_change ∈ WL_ := wl_in (tj_3 (List.mem_of_getElem? (i := 182) rfl)) rfl
theorem wm_686 : Cond.code yX0_change cX0_change 3 none ∈ WL_ := wl_in (tj_3 (List.mem_of_getElem? (i := 185) rfl)) rfl
theorem wm_687 : Cond.instanceMethod yX0_change ∈ WL_ := wl_in (tj_3 (List.mem_of_getElem? (i := 183) rfl)) rfl
theorem wm_688 : Cond.selects RX0 yX0_change yX0_change ∈ WL_ := wl_in (tj_3 (List.mem_of_getElem? (i := 184) rfl)) rfl
theorem wm_689 : Cond.methodLink RX8 138 yX0_numberOf ∈ WL_ := wl_in (tj_3 (List.mem_of_getElem? (i := 178) rfl)) rfl
theorem wm_690 : Cond.code yX0_numberOf cX0_numberOf 2 (some .int) ∈ WL_ := wl_in (tj_3 (List.mem_of_getElem? (i := 181) rfl)) rfl
theorem wm_691 : Cond.instanceMethod yX0_numberOf ∈ WL_ := wl_in (tj_3 (List.mem_of_getElem? (i := 179) rfl)) rfl
theorem wm_692 : Cond.selects RX0 yX0_numberOf yX0_numberOf ∈ WL_ := wl_in (tj_3 (List.mem_of_getElem? (i := 180) rfl)) rfl
theorem wm_693 : Cond.methodLink RX8 135 yX8_isPlain ∈ WL_ := wl_in (tj_3 (List.mem_of_getElem? (i := 175) rfl)) rfl
theorem wm_694 : Cond.code yX8_isPlain cX8_isPlain 1 (some .boolean) ∈ WL_ := wl_in (tj_3 (List.mem_of_getElem? (i := 177) rfl)) rfl
theorem wm_695 : Cond.static yX8_isPlain ∈ WL_ := wl_in (tj_3 (List.mem_of_getElem? (i := 176) rfl)) rfl
theorem wm_696 : Cond.methodLink RX8 148 yX0_undoable ∈ WL_ := wl_in (tj_3 (List.mem_of_getElem? (i := 209) rfl)) rfl
theorem wm_697 : Cond.code yX0_undoable cX0_undoable 1 (some .int) ∈ WL_ := wl_in (tj_3 (List.mem_of_getElem? (i := 212) rfl)) rfl
theorem wm_698 : Cond.instanceMethod yX0_undoable ∈ WL_ := wl_in (tj_3 (List.mem_of_getElem? (i := 210) rfl)) rfl
theorem wm_699 : Cond.selects RX0 yX0_undoable yX0_undoable ∈ WL_ := wl_in (tj_3 (List.mem_of_getElem? (i := 211) rfl)) rfl
theorem wm_700 : Cond.methodLink RX8 151 yX0_takeBack ∈ WL_ := wl_in (tj_3 (List.mem_of_getElem? (i := 213) rfl)) rfl
theorem wm_701 : Cond.code yX0_takeBack cX0_takeBack 1 none ∈ WL_ := wl_in (tj_3 (List.mem_of_getElem? (i := 216) rfl)) rfl
theorem wm_702 : Cond.instanceMethod yX0_takeBack ∈ WL_ := wl_in (tj_3 (List.mem_of_getElem? (i := 214) rfl)) rfl
theorem wm_703 : Cond.selects RX0 yX0_takeBack yX0_takeBack ∈ WL_ := wl_in (tj_3 (List.mem_of_getElem? (i := 215) rfl)) rfl
theorem wm_704 : Cond.methodLink RX8 154 yX0_store ∈ WL_ := wl_in (tj_3 (List.mem_of_getElem? (i := 221) rfl)) rfl
theorem wm_705 : Cond.code yX0_store cX0_store 2 none ∈ WL_ := wl_in (tj_3 (List.mem_of_getElem? (i := 224) rfl)) rfl
theorem wm_706 : Cond.instanceMethod yX0_store ∈ WL_ := wl_in (tj_3 (List.mem_of_getElem? (i := 222) rfl)) rfl
theorem wm_707 : Cond.selects RX0 yX0_store yX0_store ∈ WL_ := wl_in (tj_3 (List.mem_of_getElem? (i := 223) rfl)) rfl
theorem wm_708 : Cond.methodLink RX8 161 yX0_restore ∈ WL_ := wl_in (tj_3 (List.mem_of_getElem? (i := 233) rfl)) rfl
theorem wm_709 : Cond.code yX0_restore cX0_restore 2 none ∈ WL_ := wl_in (tj_3 (List.mem_of_getElem? (i := 236) rfl)) rfl
theorem wm_710 : Cond.instanceMethod yX0_restore ∈ WL_ := wl_in (tj_3 (List.mem_of_getElem? (i := 234) rfl)) rfl
theorem wm_711 : Cond.selects RX0 yX0_restore yX0_restore ∈ WL_ := wl_in (tj_3 (List.mem_of_getElem? (i := 235) rfl)) rfl
theorem wm_712 : Cond.methodLink RX8 158 yX0_isStored ∈ WL_ := wl_in (tj_3 (List.mem_of_getElem? (i := 229) rfl)) rfl
theorem wm_713 : Cond.code yX0_isStored cX0_isStored 2 (some .boolean) ∈ WL_ := wl_in (tj_3 (List.mem_of_getElem? (i := 232) rfl)) rfl
theorem wm_714 : Cond.instanceMethod yX0_isStored ∈ WL_ := wl_in (tj_3 (List.mem_of_getElem? (i := 230) rfl)) rfl
theorem wm_715 : Cond.selects RX0 yX0_isStored yX0_isStored ∈ WL_ := wl_in (tj_3 (List.mem_of_getElem? (i := 231) rfl)) rfl
theorem wm_716 : Cond.methodLink RX8 164 yX1_hasOwnLetter ∈ WL_ := wl_in (tj_4 (List.mem_of_getElem? (i := 1) rfl)) rfl
theorem wm_717 : Cond.code yX1_hasOwnLetter cX1_hasOwnLetter 3 (some .boolean) ∈ WL_ := wl_in (tj_4 (List.mem_of_getElem? (i := 4) rfl)) rfl
theorem wm_718 : Cond.instanceMethod yX1_hasOwnLetter ∈ WL_ := wl_in (tj_4 (List.mem_of_getElem? (i := 2) rfl)) rfl
theorem wm_719 : Cond.selects RX1 yX1_hasOwnLetter yX1_hasOwnLetter ∈ WL_ := wl_in (tj_4 (List.mem_of_getElem? (i := 3) rfl)) rfl
theorem wm_720 : Cond.methodLink RX8 167 yX5_failPart ∈ WL_ := wl_in (tj_4 (List.mem_of_getElem? (i := 10) rfl)) rfl
theorem wm_721 : Cond.code yX5_failPart cX5_failPart 2 (some .int) ∈ WL_ := wl_in (tj_4 (List.mem_of_getElem? (i := 13) rfl)) rfl
theorem wm_722 : Cond.instanceMethod yX5_failPart ∈ WL_ := wl_in (tj_4 (List.mem_of_getElem? (i := 11) rfl)) rfl
theorem wm_723 : Cond.selects RX5 yX5_failPart yX5_failPart ∈ WL_ := wl_in (tj_4 (List.mem_of_getElem? (i := 12) rfl)) rfl
theorem wm_724 : Cond.methodLink RX8 170 yX5_openLetters ∈ WL_ := wl_in (tj_4 (List.mem_of_getElem? (i := 18) rfl)) rfl
theorem wm_725 : Cond.code yX5_openLetters cX5_openLetters 5 (some .int) ∈ WL_ := wl_in (tj_4 (List.mem_of_getElem? (i := 21) rfl)) rfl
theorem wm_726 : Cond.instanceMethod yX5_openLetters ∈ WL_ := wl_in (tj_4 (List.mem_of_getElem? (i := 19) rfl)) rfl
theorem wm_727 : Cond.selects RX5 yX5_openLetters yX5_openLetters ∈ WL_ := wl_in (tj_4 (List.mem_of_getElem? (i := 20) rfl)) rfl
theorem wm_728 : Cond.fieldLink RX8 50 "ShapeFrames" "found" "LShapeFrames$Ways;" ∈ WL_ := wl_in (tj_1 (List.mem_of_getElem? (i := 238) rfl)) rfl
theorem wm_729 : Cond.methodLink RX8 275 yX7_find ∈ WL_ := wl_in (tj_4 (List.mem_of_getElem? (i := 40) rfl)) rfl
theorem wm_730 : Cond.code yX7_find cX7_find 3 none ∈ WL_ := wl_in (tj_4 (List.mem_of_getElem? (i := 43) rfl)) rfl
theorem wm_731 : Cond.instanceMethod yX7_find ∈ WL_ := wl_in (tj_4 (List.mem_of_getElem? (i := 41) rfl)) rfl
theorem wm_732 : Cond.selects RX7 yX7_find yX7_find ∈ WL_ := wl_in (tj_4 (List.mem_of_getElem? (i := 42) rfl)) rfl
theorem wm_733 : Cond.methodLink RX8 272 yX7_findNone ∈ WL_ := wl_in (tj_4 (List.mem_of_getElem? (i := 35) rfl)) rfl
theorem wm_734 : Cond.methodLink RX8 187 yX5_hasFailed ∈ WL_ := wl_in (tj_4 (List.mem_of_getElem? (i := 34) rfl)) rfl
theorem wm_735 : Cond.methodLink RX8 176 yX7_howMany ∈ WL_ := wl_in (tj_4 (List.mem_of_getElem? (i := 78) rfl)) rfl
theorem wm_736 : Cond.code yX7_howMany cX7_howMany 1 (some .int) ∈ WL_ := wl_in (tj_4 (List.mem_of_getElem? (i := 81) rfl)) rfl
theorem wm_737 : Cond.instanceMethod yX7_howMany ∈ WL_ := wl_in (tj_4 (List.mem_of_getElem? (i := 79) rfl)) rfl
theorem wm_738 : Cond.selects RX7 yX7_howMany yX7_howMany ∈ WL_ := wl_in (tj_4 (List.mem_of_getElem? (i := 80) rfl)) rfl
theorem wm_739 : Cond.methodLink RX8 173 yX8_countNow ∈ WL_ := wl_in (tj_4 (List.mem_of_getElem? (i := 30) rfl)) rfl
theorem wm_740 : Cond.code yX8_countNow cX8_countNow 1 none ∈ WL_ := wl_in (tj_4 (List.mem_of_getElem? (i := 33) rfl)) rfl
theorem wm_741 : Cond.instanceMethod yX8_countNow ∈ WL_ := wl_in (tj_4 (List.mem_of_getElem? (i := 32) rfl)) rfl
theorem wm_742 : Cond.selects RX8 yX8_countNow yX8_countNow ∈ WL_ := wl_in (List.mem_append_left _ (List.mem_of_getElem? (i := 28) rfl)) rfl
theorem wm_743 : Cond.methodLink RX8 180 yX7_firstOf ∈ WL_ := wl_in (tj_4 (List.mem_of_getElem? (i := 87) rfl)) rfl
theorem wm_744 : Cond.code yX7_firstOf cX7_firstOf 2 (some .int) ∈ WL_ := wl_in (tj_4 (List.mem_of_getElem? (i := 90) rfl)) rfl
theorem wm_745 : Cond.instanceMethod yX7_firstOf ∈ WL_ := wl_in (tj_4 (List.mem_of_getElem? (i := 88) rfl)) rfl
theorem wm_746 : Cond.selects RX7 yX7_firstOf yX7_firstOf ∈ WL_ := wl_in (tj_4 (List.mem_of_getElem? (i := 89) rfl)) rfl
theorem wm_747 : Cond.methodLink RX8 177 yX7_isOpen ∈ WL_ := wl_in (tj_4 (List.mem_of_getElem? (i := 86) rfl)) rfl
theorem wm_748 : Cond.methodLink RX8 184 yX8_commonDivisor ∈ WL_ := wl_in (tj_4 (List.mem_of_getElem? (i := 99) rfl)) rfl
theorem wm_749 : Cond.code yX8_commonDivisor cX8_commonDivisor 6 (some .int) ∈ WL_ := wl_in (tj_4 (List.mem_of_getElem? (i := 101) rfl)) rfl
theorem wm_750 : Cond.static yX8_commonDivisor ∈ WL_ := wl_in (tj_4 (List.mem_of_getElem? (i := 100) rfl)) rfl
theorem wm_751 : Cond.methodLink RX8 181 yX7_howManyAtMost ∈ WL_ := wl_in (tj_4 (List.mem_of_getElem? (i := 95) rfl)) rfl
theorem wm_752 : Cond.code yX7_howManyAtMost cX7_howManyAtMost 3 (some .int) ∈ WL_ := wl_in (tj_4 (List.mem_of_getElem? (i := 98) rfl)) rfl
theorem wm_753 : Cond.instanceMethod yX7_howManyAtMost ∈ WL_ := wl_in (tj_4 (List.mem_of_getElem? (i := 96) rfl)) rfl
theorem wm_754 : Cond.selects RX7 yX7_howManyAtMost yX7_howManyAtMost ∈ WL_ := wl_in (tj_4 (List.mem_of_getElem? (i := 97) rfl)) rfl
theorem wm_755 : Cond.fieldLink RX8 23 "ShapeFrames" "trial" "LShapeFrames$Nodes;" ∈ WL_ := wl_in (tj_1 (List.mem_of_getElem? (i := 234) rfl)) rfl
theorem wm_756 : Cond.fieldLink RX8 35 "ShapeFrames" "trialSolver" "LShapeFrames$Solver;" ∈ WL_ := wl_in (tj_1 (List.mem_of_getElem? (i := 236) rfl)) rfl
theorem wm_757 : Cond.methodLink RX8 279 yX1_tellInstead ∈ WL_ := wl_in (tj_4 (List.mem_of_getElem? (i := 112) rfl)) rfl
theorem wm_758 : Cond.code yX1_tellInstead cX1_tellInstead 5 none ∈ WL_ := wl_in (tj_4 (List.mem_of_getElem? (i := 115) rfl)) rfl
theorem wm_759 : Cond.instanceMethod yX1_tellInstead ∈ WL_ := wl_in (tj_4 (List.mem_of_getElem? (i := 113) rfl)) rfl
theorem wm_760 : Cond.selects RX1 yX1_tellInstead yX1_tellInstead ∈ WL_ := wl_in (tj_4 (List.mem_of_getElem? (i := 114) rfl)) rfl
theorem wm_761 : Cond.methodLink RX8 86 yX1_takeAll ∈ WL_ := wl_in (tj_2 (List.mem_of_getElem? (i := 50) rfl)) rfl
theorem wm_762 : Cond.code yX1_takeAll cX1_takeAll 2 none ∈ WL_ := wl_in (tj_2 (List.mem_of_getElem? (i := 53) rfl)) rfl
theorem wm_763 : Cond.instanceMethod yX1_takeAll ∈ WL_ := wl_in (tj_2 (List.mem_of_getElem? (i := 51) rfl)) rfl
theorem wm_764 : Cond.selects RX1 yX1_takeAll yX1_takeAll ∈ WL_ := wl_in (tj_2 (List.mem_of_getElem? (i := 52) rfl)) rfl
theorem wm_765 : Cond.methodLink RX8 197 yX8_mendingDigit ∈ WL_ := wl_in (tj_4 (List.mem_of_getElem? (i := 108) rfl)) rfl
theorem wm_766 : Cond.code yX8_mendingDigit cX8_mendingDigit 4 (some .int) ∈ WL_ := wl_in (tj_4 (List.mem_of_getElem? (i := 111) rfl)) rfl
theorem wm_767 : Cond.instanceMethod yX8_mendingDigit ∈ WL_ := wl_in (tj_4 (List.mem_of_getElem? (i := 110) rfl)) rfl
theorem wm_768 : Cond.selects RX8 yX8_mendingDigit yX8_mendingDigit ∈ WL_ := wl_in (List.mem_append_left _ (List.mem_of_getElem? (i := 31) rfl)) rfl
theorem wm_769 : Cond.methodLink RX8 194 yX1_isTold ∈ WL_ := wl_in (tj_4 (List.mem_of_getElem? (i := 107) rfl)) rfl
theorem wm_770 : Cond.methodLink RX8 191 yX1_size ∈ WL_ := wl_in (tj_4 (List.mem_of_getElem? (i := 106) rfl)) rfl
theorem wm_771 : Cond.fieldLink RX8 57 "ShapeFrames" "shapesSeen" "LShapeFrames$Seen;" ∈ WL_ := wl_in (tj_1 (List.mem_of_getElem? (i := 239) rfl)) rfl
theorem wm_772 : Cond.methodLink RX8 203 yX3_size ∈ WL_ := wl_in (tj_4 (List.mem_of_getElem? (i := 124) rfl)) rfl
theorem wm_773 : Cond.code yX3_size cX3_size 1 (some .int) ∈ WL_ := wl_in (tj_4 (List.mem_of_getElem? (i := 127) rfl)) rfl
theorem wm_774 : Cond.instanceMethod yX3_size ∈ WL_ := wl_in (tj_4 (List.mem_of_getElem? (i := 125) rfl)) rfl
theorem wm_775 : Cond.selects RX3 yX3_size yX3_size ∈ WL_ := wl_in (tj_4 (List.mem_of_getElem? (i := 126) rfl)) rfl
theorem wm_776 : Cond.methodLink RX8 200 yX3_add ∈ WL_ := wl_in (tj_4 (List.mem_of_getElem? (i := 120) rfl)) rfl
theorem wm_777 : Cond.code yX3_add cX3_add 4 (some .boolean) ∈ WL_ := wl_in (tj_4 (List.mem_of_getElem? (i := 123) rfl)) rfl
theorem wm_778 : Cond.instanceMethod yX3_add ∈ WL_ := wl_in (tj_4 (List.mem_of_getElem? (i := 121) rfl)) rfl
theorem wm_779 : Cond.selects RX3 yX3_add yX3_add ∈ WL_ := wl_in (tj_4 (List.mem_of_getElem? (i := 122) rfl)) rfl
theorem wm_780 : Cond.methodLink RX8 94 yX3_clear ∈ WL_ := wl_in (tj_2 (List.mem_of_getElem? (i := 239) rfl)) rfl
theorem wm_781 : Cond.code yX3_clear cX3_clear 1 none ∈ WL_ := wl_in (tj_3 (List.mem_of_getElem? (i := 2) rfl)) rfl
theorem wm_782 : Cond.instanceMethod yX3_clear ∈ WL_ := wl_in (tj_3 (List.mem_of_getElem? (i := 0) rfl)) rfl
theorem wm_783 : Cond.selects RX3 yX3_clear yX3_clear ∈ WL_ := wl_in (tj_3 (List.mem_of_getElem? (i := 1) rfl)) rfl
theorem wm_784 : Cond.methodLink RX8 204 yX3_kindsThatFit ∈ WL_ := wl_in (tj_4 (List.mem_of_getElem? (i := 136) rfl)) rfl
theorem wm_785 : Cond.methodLink RX8 207 yX3_bestToAsk ∈ WL_ := wl_in (tj_4 (List.mem_of_getElem? (i := 151) rfl)) rfl
theorem wm_786 : Cond.code yX3_bestToAsk cX3_bestToAsk 6 (some .int) ∈ WL_ := wl_in (tj_4 (List.mem_of_getElem? (i := 154) rfl)) rfl
theorem wm_787 : Cond.instanceMethod yX3_bestToAsk ∈ WL_ := wl_in (tj_4 (List.mem_of_getElem? (i := 152) rfl)) rfl
theorem wm_788 : Cond.selects RX3 yX3_bestToAsk yX3_bestToAsk ∈ WL_ := wl_in (tj_4 (List.mem_of_getElem? (i := 153) rfl)) rfl
theorem wm_789 : Cond.fieldLink RX8 64 "ShapeFrames" "rows" "LShapeFrames$Rows;" ∈ WL_ := wl_in (tj_2 (List.mem_of_getElem? (i := 0) rfl)) rfl
theorem wm_790 : Cond.methodLink RX8 216 yX2_make ∈ WL_ := wl_in (tj_4 (List.mem_of_getElem? (i := 171) rfl)) rfl
theorem wm_791 : Cond.code yX2_make cX2_make 4 none ∈ WL_ := wl_in (tj_4 (List.mem_of_getElem? (i := 174) rfl)) rfl
theorem wm_792 : Cond.instanceMethod yX2_make ∈ WL_ := wl_in (tj_4 (List.mem_of_getElem? (i := 172) rfl)) rfl
theorem wm_793 : Cond.selects RX2 yX2_make yX2_make ∈ WL_ := wl_in (tj_4 (List.mem_of_getElem? (i := 173) rfl)) rfl
theorem wm_794 : Cond.methodLink RX8 213 yX8_isSort ∈ WL_ := wl_in (tj_4 (List.mem_of_getElem? (i := 168) rfl)) rfl
theorem wm_795 : Cond.code yX8_isSort cX8_isSort 1 (some .boolean) ∈ WL_ := wl_in (tj_4 (List.mem_of_getElem? (i := 170) rfl)) rfl
theorem wm_796 : Cond.static yX8_isSort ∈ WL_ := wl_in (tj_4 (List.mem_of_getElem? (i := 169) rfl)) rfl
theorem wm_797 : Cond.methodLink RX8 210 yX8_isRow ∈ WL_ := wl_in (tj_4 (List.mem_of_getElem? (i := 165) rfl)) rfl
theorem wm_798 : Cond.code yX8_isRow cX8_isRow 1 (some .boolean) ∈ WL_ := wl_in (tj_4 (List.mem_of_getElem? (i := 167) rfl)) rfl
theorem wm_799 : Cond.static yX8_isRow ∈ WL_ := wl_in (tj_4 (List.mem_of_getElem? (i := 166) rfl)) rfl
theorem wm_800 : Cond.constant RX8 228 (50000) ∈ WL_ := wl_in (tj_4 (List.mem_of_getElem? (i := 201) rfl)) rfl
theorem wm_801 : Cond.methodLink RX8 225 yX2_put ∈ WL_ := wl_in (tj_4 (List.mem_of_getElem? (i := 197) rfl)) rfl
theorem wm_802 : Cond.code yX2_put cX2_put 4 none ∈ WL_ := wl_in (tj_4 (List.mem_of_getElem? (i := 200) rfl)) rfl
theorem wm_803 : Cond.instanceMethod yX2_put ∈ WL_ := wl_in (tj_4 (List.mem_of_getElem? (i := 198) rfl)) rfl
theorem wm_804 : Cond.selects RX2 yX2_put yX2_put ∈ WL_ := wl_in (tj_4 (List.mem_of_getElem? (i := 199) rfl)) rfl
theorem wm_805 : Cond.methodLink RX8 224 yX2_at ∈ WL_ := wl_in (tj_4 (List.mem_of_getElem? (i := 193) rfl)) rfl
theorem wm_806 : Cond.methodLink RX8 220 yX2_placeTrouble ∈ WL_ := wl_in (tj_4 (List.mem_of_getElem? (i := 185) rfl)) rfl
theorem wm_807 : Cond.code yX2_placeTrouble cX2_placeTrouble 4 (some .int) ∈ WL_ := wl_in (tj_4 (List.mem_of_getElem? (i := 188) rfl)) rfl
theorem wm_808 : Cond.instanceMethod yX2_placeTrouble ∈ WL_ := wl_in (tj_4 (List.mem_of_getElem? (i := 186) rfl)) rfl
theorem wm_809 : Cond.selects RX2 yX2_placeTrouble yX2_placeTrouble ∈ WL_ := wl_in (tj_4 (List.mem_of_getElem? (i := 187) rfl)) rfl
theorem wm_810 : Cond.methodLink RX8 238 yX2_move ∈ WL_ := wl_in (tj_4 (List.mem_of_getElem? (i := 219) rfl)) rfl
theorem wm_811 : Cond.methodLink RX8 235 yX2_hasPlaces ∈ WL_ := wl_in (tj_4 (List.mem_of_getElem? (i := 215) rfl)) rfl
theorem wm_812 : Cond.code yX2_hasPlaces cX2_hasPlaces 4 (some .boolean) ∈ WL_ := wl_in (tj_4 (List.mem_of_getElem? (i := 218) rfl)) rfl
theorem wm_813 : Cond.instanceMethod yX2_hasPlaces ∈ WL_ := wl_in (tj_4 (List.mem_of_getElem? (i := 216) rfl)) rfl
theorem wm_814 : Cond.selects RX2 yX2_hasPlaces yX2_hasPlaces ∈ WL_ := wl_in (tj_4 (List.mem_of_getElem? (i := 217) rfl)) rfl
theorem wm_815 : Cond.methodLink RX8 232 yX2_sortOf ∈ WL_ := wl_in (tj_4 (List.mem_of_getElem? (i := 211) rfl)) rfl
theorem wm_816 : Cond.code yX2_sortOf cX2_sortOf 2 (some .int) ∈ WL_ := wl_in (tj_4 (List.mem_of_getElem? (i := 214) rfl)) rfl
theorem wm_817 : Cond.instanceMethod yX2_sortOf ∈ WL_ := wl_in (tj_4 (List.mem_of_getElem? (i := 212) rfl)) rfl
theorem wm_818 : Cond.selects RX2 yX2_sortOf yX2_sortOf ∈ WL_ := wl_in (tj_4 (List.mem_of_getElem? (i := 213) rfl)) rfl
theorem wm_819 : Cond.methodLink RX8 229 yX2_isMissing ∈ WL_ := wl_in (tj_4 (List.mem_of_getElem? (i := 210) rfl)) rfl
theorem wm_820 : Cond.methodLink RX8 242 yX2_sizeOf ∈ WL_ := wl_in (tj_4 (List.mem_of_getElem? (i := 228) rfl)) rfl
theorem wm_821 : Cond.code yX2_sizeOf cX2_sizeOf 2 (some .int) ∈ WL_ := wl_in (tj_4 (List.mem_of_getElem? (i := 231) rfl)) rfl
theorem wm_822 : Cond.instanceMethod yX2_sizeOf ∈ WL_ := wl_in (tj_4 (List.mem_of_getElem? (i := 229) rfl)) rfl
theorem wm_823 : Cond.selects RX2 yX2_sizeOf yX2_sizeOf ∈ WL_ := wl_in (tj_4 (List.mem_of_getElem? (i := 230) rfl)) rfl
theorem wm_824 : Cond.methodLink RX8 245 yX2_extend ∈ WL_ := wl_in (tj_4 (List.mem_of_getElem? (i := 232) rfl)) rfl
theorem wm_825 : Cond.code yX2_extend cX2_extend 4 none ∈ WL_ := wl_in (tj_4 (List.mem_of_getElem? (i := 235) rfl)) rfl
theorem wm_826 : Cond.instanceMethod yX2_extend ∈ WL_ := wl_in (tj_4 (List.mem_of_getElem? (i := 233) rfl)) rfl
theorem wm_827 : Cond.selects RX2 yX2_extend yX2_extend ∈ WL_ := wl_in (tj_4 (List.mem_of_getElem? (i := 234) rfl)) rfl
theorem wm_828 : Cond.constant RX8 251 (500000) ∈ WL_ := wl_in (tj_5 (List.mem_of_getElem? (i := 10) rfl)) rfl
theorem wm_829 : Cond.methodLink RX8 248 yX2_total ∈ WL_ := wl_in (tj_5 (List.mem_of_getElem? (i := 5) rfl)) rfl
theorem wm_830 : Cond.code yX2_total cX2_total 4 (some .int) ∈ WL_ := wl_in (tj_5 (List.mem_of_getElem? (i := 8) rfl)) rfl
theorem wm_831 : Cond.instanceMethod yX2_total ∈ WL_ := wl_in (tj_5 (List.mem_of_getElem? (i := 6) rfl)) rfl
theorem wm_832 : Cond.selects RX2 yX2_total yX2_total ∈ WL_ := wl_in (tj_5 (List.mem_of_getElem? (i := 7) rfl)) rfl
theorem wm_833 : Cond.methodLink RX8 252 yX2_remove ∈ WL_ := wl_in (tj_5 (List.mem_of_getElem? (i := 15) rfl)) rfl
theorem wm_834 : Cond.code yX2_remove cX2_remove 2 none ∈ WL_ := wl_in (tj_5 (List.mem_of_getElem? (i := 18) rfl)) rfl
theorem wm_835 : Cond.instanceMethod yX2_remove ∈ WL_ := wl_in (tj_5 (List.mem_of_getElem? (i := 16) rfl)) rfl
theorem wm_836 : Cond.selects RX2 yX2_remove yX2_remove ∈ WL_ := wl_in (tj_5 (List.mem_of_getElem? (i := 17) rfl)) rfl
theorem wm_837 : Cond.methodLink RX8 255 yX0_bits ∈ WL_ := wl_in (tj_5 (List.mem_of_getElem? (i := 23) rfl)) rfl
theorem wm_838 : Cond.methodLink RX8 258 yX2_allPlaces ∈ WL_ := wl_in (tj_5 (List.mem_of_getElem? (i := 24) rfl)) rfl
theorem wm_839 : Cond.code yX2_allPlaces cX2_allPlaces 3 (some .int) ∈ WL_ := wl_in (tj_5 (List.mem_of_getElem? (i := 27) rfl)) rfl
theorem wm_840 : Cond.instanceMethod yX2_allPlaces ∈ WL_ := wl_in (tj_5 (List.mem_of_getElem? (i := 25) rfl)) rfl
theorem wm_841 : Cond.selects RX2 yX2_allPlaces yX2_allPlaces ∈ WL_ := wl_in (tj_5 (List.mem_of_getElem? (i := 26) rfl)) rfl
theorem wm_842 : Cond.methodLink RX8 261 yX1_toldLetters ∈ WL_ := wl_in (tj_5 (List.mem_of_getElem? (i := 28) rfl)) rfl
theorem wm_843 : Cond.code yX1_toldLetters cX1_toldLetters 4 (some .int) ∈ WL_ := wl_in (tj_5 (List.mem_of_getElem? (i := 31) rfl)) rfl
theorem wm_844 : Cond.instanceMethod yX1_toldLetters ∈ WL_ := wl_in (tj_5 (List.mem_of_getElem? (i := 29) rfl)) rfl
theorem wm_845 : Cond.selects RX1 yX1_toldLetters yX1_toldLetters ∈ WL_ := wl_in (tj_5 (List.mem_of_getElem? (i := 30) rfl)) rfl
