set_option maxRecDepth 20000 in
theorem mw_0 : (Cond.classLink RL 7 RX3) ∈ wsL_law := List.mem_of_getElem? (i := 0) rfl
set_option maxRecDepth 20000 in
theorem mw_1 : (Cond.instantiable RX3 6) ∈ wsL_law := List.mem_of_getElem? (i := 1) rfl
set_option maxRecDepth 20000 in
theorem mw_2 : (Cond.initialized RX3) ∈ wsL_law := List.mem_of_getElem? (i := 2) rfl
set_option maxRecDepth 20000 in
theorem mw_3 : (Cond.classLink RL 10 RX4) ∈ wsL_law := List.mem_of_getElem? (i := 3) rfl
set_option maxRecDepth 20000 in
theorem mw_4 : (Cond.instantiable RX4 23) ∈ wsL_law := List.mem_of_getElem? (i := 4) rfl
set_option maxRecDepth 20000 in
theorem mw_5 : (Cond.initialized RX4) ∈ wsL_law := List.mem_of_getElem? (i := 5) rfl
set_option maxRecDepth 20000 in
theorem mw_6 : (Cond.methodLink RL 9 yX3_init) ∈ wsL_law := List.mem_of_getElem? (i := 6) rfl
set_option maxRecDepth 20000 in
theorem mw_7 : (Cond.instanceMethod yX3_init) ∈ wsL_law := List.mem_of_getElem? (i := 7) rfl
set_option maxRecDepth 20000 in
theorem mw_8 : (Cond.code yX3_init cX3_init 1 none) ∈ wsL_law := List.mem_of_getElem? (i := 8) rfl
set_option maxRecDepth 20000 in
theorem mw_9 : (Cond.methodLink RX3 1 objectInit) ∈ wsL_law := List.mem_of_getElem? (i := 9) rfl
set_option maxRecDepth 20000 in
theorem mw_10 : (Cond.instanceMethod objectInit) ∈ wsL_law := List.mem_of_getElem? (i := 10) rfl
set_option maxRecDepth 20000 in
theorem mw_11 : (Cond.code objectInit ⟨#[0xb1]⟩ 1 none) ∈ wsL_law := List.mem_of_getElem? (i := 11) rfl
set_option maxRecDepth 20000 in
theorem mw_12 : (Cond.classLink RX3 7 RX1) ∈ wsL_law := List.mem_of_getElem? (i := 12) rfl
set_option maxRecDepth 20000 in
theorem mw_13 : (Cond.instantiable RX1 9) ∈ wsL_law := List.mem_of_getElem? (i := 13) rfl
set_option maxRecDepth 20000 in
theorem mw_14 : (Cond.initialized RX1) ∈ wsL_law := List.mem_of_getElem? (i := 14) rfl
set_option maxRecDepth 20000 in
theorem mw_15 : (Cond.fieldLink RX3 10 "NetCuts" "net" "LNetCuts$Net;") ∈ wsL_law := List.mem_of_getElem? (i := 15) rfl
set_option maxRecDepth 20000 in
theorem mw_16 : (Cond.classLink RX3 16 RX2) ∈ wsL_law := List.mem_of_getElem? (i := 16) rfl
set_option maxRecDepth 20000 in
theorem mw_17 : (Cond.instantiable RX2 12) ∈ wsL_law := List.mem_of_getElem? (i := 17) rfl
set_option maxRecDepth 20000 in
theorem mw_18 : (Cond.initialized RX2) ∈ wsL_law := List.mem_of_getElem? (i := 18) rfl
set_option maxRecDepth 20000 in
theorem mw_19 : (Cond.fieldLink RX3 19 "NetCuts" "search" "LNetCuts$Search;") ∈ wsL_law := List.mem_of_getElem? (i := 19) rfl
set_option maxRecDepth 20000 in
theorem mw_20 : (Cond.classLink RX3 23 RX0) ∈ wsL_law := List.mem_of_getElem? (i := 20) rfl
set_option maxRecDepth 20000 in
theorem mw_21 : (Cond.instantiable RX0 2) ∈ wsL_law := List.mem_of_getElem? (i := 21) rfl
set_option maxRecDepth 20000 in
theorem mw_22 : (Cond.initialized RX0) ∈ wsL_law := List.mem_of_getElem? (i := 22) rfl
set_option maxRecDepth 20000 in
theorem mw_23 : (Cond.fieldLink RX3 26 "NetCuts" "halvings" "LNetCuts$Halvings;") ∈ wsL_law := List.mem_of_getElem? (i := 23) rfl
set_option maxRecDepth 20000 in
theorem mw_24 : (Cond.arrayClass .int) ∈ wsL_law := List.mem_of_getElem? (i := 24) rfl
set_option maxRecDepth 20000 in
theorem mw_25 : (Cond.fieldLink RX3 30 "NetCuts" "pairedWith" "[I") ∈ wsL_law := List.mem_of_getElem? (i := 25) rfl
set_option maxRecDepth 20000 in
theorem mw_26 : (Cond.fieldLink RX3 34 "NetCuts" "pairCount" "I") ∈ wsL_law := List.mem_of_getElem? (i := 26) rfl
set_option maxRecDepth 20000 in
theorem mw_27 : (Cond.fieldLink RX3 38 "NetCuts" "terminalBits" "I") ∈ wsL_law := List.mem_of_getElem? (i := 27) rfl
set_option maxRecDepth 20000 in
theorem mw_28 : (Cond.instanceMethod yX1_init) ∈ wsL_law := List.mem_of_getElem? (i := 28) rfl
set_option maxRecDepth 20000 in
theorem mw_29 : (Cond.code yX1_init cX1_init 1 none) ∈ wsL_law := List.mem_of_getElem? (i := 29) rfl
set_option maxRecDepth 20000 in
theorem mw_30 : (Cond.methodLink RX1 3 objectInit) ∈ wsL_law := List.mem_of_getElem? (i := 30) rfl
set_option maxRecDepth 20000 in
theorem mw_31 : (Cond.fieldLink RX1 9 "NetCuts$Net" "from" "[I") ∈ wsL_law := List.mem_of_getElem? (i := 31) rfl
set_option maxRecDepth 20000 in
theorem mw_32 : (Cond.fieldLink RX1 15 "NetCuts$Net" "to" "[I") ∈ wsL_law := List.mem_of_getElem? (i := 32) rfl
set_option maxRecDepth 20000 in
theorem mw_33 : (Cond.fieldLink RX1 18 "NetCuts$Net" "linePrice" "[I") ∈ wsL_law := List.mem_of_getElem? (i := 33) rfl
set_option maxRecDepth 20000 in
theorem mw_34 : (Cond.arrayClass .boolean) ∈ wsL_law := List.mem_of_getElem? (i := 34) rfl
set_option maxRecDepth 20000 in
theorem mw_35 : (Cond.fieldLink RX1 21 "NetCuts$Net" "likes" "[Z") ∈ wsL_law := List.mem_of_getElem? (i := 35) rfl
set_option maxRecDepth 20000 in
theorem mw_36 : (Cond.fieldLink RX1 25 "NetCuts$Net" "ended" "[Z") ∈ wsL_law := List.mem_of_getElem? (i := 36) rfl
set_option maxRecDepth 20000 in
theorem mw_37 : (Cond.fieldLink RX1 28 "NetCuts$Net" "posts" "I") ∈ wsL_law := List.mem_of_getElem? (i := 37) rfl
set_option maxRecDepth 20000 in
theorem mw_38 : (Cond.fieldLink RX1 32 "NetCuts$Net" "lines" "I") ∈ wsL_law := List.mem_of_getElem? (i := 38) rfl
set_option maxRecDepth 20000 in
theorem mw_39 : (Cond.fieldLink RX1 35 "NetCuts$Net" "postPrice" "[I") ∈ wsL_law := List.mem_of_getElem? (i := 39) rfl
set_option maxRecDepth 20000 in
theorem mw_40 : (Cond.fieldLink RX1 38 "NetCuts$Net" "joined" "[I") ∈ wsL_law := List.mem_of_getElem? (i := 40) rfl
set_option maxRecDepth 20000 in
theorem mw_41 : (Cond.instanceMethod yX2_init) ∈ wsL_law := List.mem_of_getElem? (i := 41) rfl
set_option maxRecDepth 20000 in
theorem mw_42 : (Cond.code yX2_init cX2_init 1 none) ∈ wsL_law := List.mem_of_getElem? (i := 42) rfl
set_option maxRecDepth 20000 in
theorem mw_43 : (Cond.methodLink RX2 3 objectInit) ∈ wsL_law := List.mem_of_getElem? (i := 43) rfl
set_option maxRecDepth 20000 in
theorem mw_44 : (Cond.classLink RX2 9 "[[I") ∈ wsL_law := List.mem_of_getElem? (i := 44) rfl
set_option maxRecDepth 20000 in
theorem mw_45 : (Cond.fieldLink RX2 11 "NetCuts$Search" "splitCost" "[[I") ∈ wsL_law := List.mem_of_getElem? (i := 45) rfl
set_option maxRecDepth 20000 in
theorem mw_46 : (Cond.fieldLink RX2 16 "NetCuts$Search" "joinCost" "[[I") ∈ wsL_law := List.mem_of_getElem? (i := 46) rfl
set_option maxRecDepth 20000 in
theorem mw_47 : (Cond.fieldLink RX2 19 "NetCuts$Search" "toll" "[[I") ∈ wsL_law := List.mem_of_getElem? (i := 47) rfl
set_option maxRecDepth 20000 in
theorem mw_48 : (Cond.fieldLink RX2 22 "NetCuts$Search" "foes" "[I") ∈ wsL_law := List.mem_of_getElem? (i := 48) rfl
set_option maxRecDepth 20000 in
theorem mw_49 : (Cond.fieldLink RX2 26 "NetCuts$Search" "friends" "[I") ∈ wsL_law := List.mem_of_getElem? (i := 49) rfl
set_option maxRecDepth 20000 in
theorem mw_50 : (Cond.fieldLink RX2 29 "NetCuts$Search" "members" "[I") ∈ wsL_law := List.mem_of_getElem? (i := 50) rfl
set_option maxRecDepth 20000 in
theorem mw_51 : (Cond.fieldLink RX2 32 "NetCuts$Search" "part" "[I") ∈ wsL_law := List.mem_of_getElem? (i := 51) rfl
set_option maxRecDepth 20000 in
theorem mw_52 : (Cond.fieldLink RX2 35 "NetCuts$Search" "bestPart" "[I") ∈ wsL_law := List.mem_of_getElem? (i := 52) rfl
set_option maxRecDepth 20000 in
theorem mw_53 : (Cond.fieldLink RX2 38 "NetCuts$Search" "posts" "I") ∈ wsL_law := List.mem_of_getElem? (i := 53) rfl
set_option maxRecDepth 20000 in
theorem mw_54 : (Cond.fieldLink RX2 42 "NetCuts$Search" "fewestParts" "I") ∈ wsL_law := List.mem_of_getElem? (i := 54) rfl
set_option maxRecDepth 20000 in
theorem mw_55 : (Cond.fieldLink RX2 45 "NetCuts$Search" "mostParts" "I") ∈ wsL_law := List.mem_of_getElem? (i := 55) rfl
set_option maxRecDepth 20000 in
theorem mw_56 : (Cond.constant RX2 48 (1000000)) ∈ wsL_law := List.mem_of_getElem? (i := 56) rfl
set_option maxRecDepth 20000 in
theorem mw_57 : (Cond.fieldLink RX2 49 "NetCuts$Search" "bestCost" "I") ∈ wsL_law := List.mem_of_getElem? (i := 57) rfl
set_option maxRecDepth 20000 in
theorem mw_58 : (Cond.instanceMethod yX0_init) ∈ wsL_law := List.mem_of_getElem? (i := 58) rfl
set_option maxRecDepth 20000 in
theorem mw_59 : (Cond.code yX0_init cX0_init 1 none) ∈ wsL_law := List.mem_of_getElem? (i := 59) rfl
set_option maxRecDepth 20000 in
theorem mw_60 : (Cond.methodLink RX0 3 objectInit) ∈ wsL_law := List.mem_of_getElem? (i := 60) rfl
set_option maxRecDepth 20000 in
theorem mw_61 : (Cond.fieldLink RX0 9 "NetCuts$Halvings" "found" "[I") ∈ wsL_law := List.mem_of_getElem? (i := 61) rfl
set_option maxRecDepth 20000 in
theorem mw_62 : (Cond.fieldLink RX0 15 "NetCuts$Halvings" "size" "I") ∈ wsL_law := List.mem_of_getElem? (i := 62) rfl
set_option maxRecDepth 20000 in
theorem mw_63 : (Cond.methodLink RL 12 yX4_init) ∈ wsL_law := List.mem_of_getElem? (i := 63) rfl
set_option maxRecDepth 20000 in
theorem mw_64 : (Cond.instanceMethod yX4_init) ∈ wsL_law := List.mem_of_getElem? (i := 64) rfl
set_option maxRecDepth 20000 in
theorem mw_65 : (Cond.code yX4_init cX4_init 1 none) ∈ wsL_law := List.mem_of_getElem? (i := 65) rfl
set_option maxRecDepth 20000 in
theorem mw_66 : (Cond.methodLink RX4 1 objectInit) ∈ wsL_law := List.mem_of_getElem? (i := 66) rfl
set_option maxRecDepth 20000 in
theorem mw_67 : (Cond.fieldLink RX4 9 "NetCutsModel" "price" "[I") ∈ wsL_law := List.mem_of_getElem? (i := 67) rfl
set_option maxRecDepth 20000 in
theorem mw_68 : (Cond.fieldLink RX4 13 "NetCutsModel" "isEnd" "[Z") ∈ wsL_law := List.mem_of_getElem? (i := 68) rfl
set_option maxRecDepth 20000 in
theorem mw_69 : (Cond.fieldLink RX4 17 "NetCutsModel" "a" "[I") ∈ wsL_law := List.mem_of_getElem? (i := 69) rfl
set_option maxRecDepth 20000 in
theorem mw_70 : (Cond.fieldLink RX4 20 "NetCutsModel" "b" "[I") ∈ wsL_law := List.mem_of_getElem? (i := 70) rfl
set_option maxRecDepth 20000 in
theorem mw_71 : (Cond.fieldLink RX4 23 "NetCutsModel" "cost" "[I") ∈ wsL_law := List.mem_of_getElem? (i := 71) rfl
set_option maxRecDepth 20000 in
theorem mw_72 : (Cond.fieldLink RX4 26 "NetCutsModel" "isLiking" "[Z") ∈ wsL_law := List.mem_of_getElem? (i := 72) rfl
set_option maxRecDepth 20000 in
theorem mw_73 : (Cond.fieldLink RX4 29 "NetCutsModel" "isOver" "[Z") ∈ wsL_law := List.mem_of_getElem? (i := 73) rfl
set_option maxRecDepth 20000 in
theorem mw_74 : (Cond.fieldLink RX4 32 "NetCutsModel" "one" "[I") ∈ wsL_law := List.mem_of_getElem? (i := 74) rfl
set_option maxRecDepth 20000 in
theorem mw_75 : (Cond.fieldLink RX4 35 "NetCutsModel" "other" "[I") ∈ wsL_law := List.mem_of_getElem? (i := 75) rfl
set_option maxRecDepth 20000 in
theorem mw_76 : (Cond.fieldLink RX4 38 "NetCutsModel" "part" "[I") ∈ wsL_law := List.mem_of_getElem? (i := 76) rfl
set_option maxRecDepth 20000 in
theorem mw_77 : (Cond.fieldLink RX4 41 "NetCutsModel" "best" "[I") ∈ wsL_law := List.mem_of_getElem? (i := 77) rfl
set_option maxRecDepth 20000 in
theorem mw_78 : (Cond.fieldLink RX4 44 "NetCutsModel" "cutIn" "[I") ∈ wsL_law := List.mem_of_getElem? (i := 78) rfl
set_option maxRecDepth 20000 in
theorem mw_79 : (Cond.fieldLink RX4 47 "NetCutsModel" "isReached" "[Z") ∈ wsL_law := List.mem_of_getElem? (i := 79) rfl
set_option maxRecDepth 20000 in
theorem mw_80 : (Cond.methodLink RL 13 yX3_post) ∈ wsL_law := List.mem_of_getElem? (i := 80) rfl
set_option maxRecDepth 20000 in
theorem mw_81 : (Cond.instanceMethod yX3_post) ∈ wsL_law := List.mem_of_getElem? (i := 81) rfl
set_option maxRecDepth 20000 in
theorem mw_82 : (Cond.selects RX3 yX3_post yX3_post) ∈ wsL_law := List.mem_of_getElem? (i := 82) rfl
set_option maxRecDepth 20000 in
theorem mw_83 : (Cond.code yX3_post cX3_post 2 (some .int)) ∈ wsL_law := List.mem_of_getElem? (i := 83) rfl
set_option maxRecDepth 20000 in
theorem mw_84 : (Cond.methodLink RX3 41 yX1_addPost) ∈ wsL_law := List.mem_of_getElem? (i := 84) rfl
set_option maxRecDepth 20000 in
theorem mw_85 : (Cond.instanceMethod yX1_addPost) ∈ wsL_law := List.mem_of_getElem? (i := 85) rfl
set_option maxRecDepth 20000 in
theorem mw_86 : (Cond.selects RX1 yX1_addPost yX1_addPost) ∈ wsL_law := List.mem_of_getElem? (i := 86) rfl
set_option maxRecDepth 20000 in
theorem mw_87 : (Cond.code yX1_addPost cX1_addPost 2 (some .int)) ∈ wsL_law := List.mem_of_getElem? (i := 87) rfl
set_option maxRecDepth 20000 in
theorem mw_88 : (Cond.methodLink RL 17 yX4_post) ∈ wsL_law := List.mem_of_getElem? (i := 88) rfl
set_option maxRecDepth 20000 in
theorem mw_89 : (Cond.instanceMethod yX4_post) ∈ wsL_law := List.mem_of_getElem? (i := 89) rfl
set_option maxRecDepth 20000 in
theorem mw_90 : (Cond.selects RX4 yX4_post yX4_post) ∈ wsL_law := List.mem_of_getElem? (i := 90) rfl
set_option maxRecDepth 20000 in
theorem mw_91 : (Cond.code yX4_post cX4_post 2 (some .int)) ∈ wsL_law := List.mem_of_getElem? (i := 91) rfl
set_option maxRecDepth 20000 in
theorem mw_92 : (Cond.fieldLink RX4 50 "NetCutsModel" "posts" "I") ∈ wsL_law := List.mem_of_getElem? (i := 92) rfl
set_option maxRecDepth 20000 in
theorem mw_93 : (Cond.methodLink RX4 54 yX4_in) ∈ wsL_law := List.mem_of_getElem? (i := 93) rfl
set_option maxRecDepth 20000 in
theorem mw_94 : (Cond.static yX4_in) ∈ wsL_law := List.mem_of_getElem? (i := 94) rfl
set_option maxRecDepth 20000 in
theorem mw_95 : (Cond.code yX4_in cX4_in 3 (some .boolean)) ∈ wsL_law := List.mem_of_getElem? (i := 95) rfl
set_option maxRecDepth 20000 in
theorem mw_96 : (Cond.methodLink RL 18 yX3_line) ∈ wsL_law := List.mem_of_getElem? (i := 96) rfl
set_option maxRecDepth 20000 in
theorem mw_97 : (Cond.instanceMethod yX3_line) ∈ wsL_law := List.mem_of_getElem? (i := 97) rfl
set_option maxRecDepth 20000 in
theorem mw_98 : (Cond.selects RX3 yX3_line yX3_line) ∈ wsL_law := List.mem_of_getElem? (i := 98) rfl
set_option maxRecDepth 20000 in
theorem mw_99 : (Cond.code yX3_line cX3_line 5 (some .int)) ∈ wsL_law := List.mem_of_getElem? (i := 99) rfl
set_option maxRecDepth 20000 in
theorem mw_100 : (Cond.methodLink RX3 45 yX1_addLine) ∈ wsL_law := List.mem_of_getElem? (i := 100) rfl
set_option maxRecDepth 20000 in
theorem mw_101 : (Cond.instanceMethod yX1_addLine) ∈ wsL_law := List.mem_of_getElem? (i := 101) rfl
set_option maxRecDepth 20000 in
theorem mw_102 : (Cond.selects RX1 yX1_addLine yX1_addLine) ∈ wsL_law := List.mem_of_getElem? (i := 102) rfl
set_option maxRecDepth 20000 in
theorem mw_103 : (Cond.code yX1_addLine cX1_addLine 5 (some .int)) ∈ wsL_law := List.mem_of_getElem? (i := 103) rfl
set_option maxRecDepth 20000 in
theorem mw_104 : (Cond.methodLink RX1 45 yX1_hasTwo) ∈ wsL_law := List.mem_of_getElem? (i := 104) rfl
set_option maxRecDepth 20000 in
theorem mw_105 : (Cond.instanceMethod yX1_hasTwo) ∈ wsL_law := List.mem_of_getElem? (i := 105) rfl
set_option maxRecDepth 20000 in
theorem mw_106 : (Cond.selects RX1 yX1_hasTwo yX1_hasTwo) ∈ wsL_law := List.mem_of_getElem? (i := 106) rfl
set_option maxRecDepth 20000 in
theorem mw_107 : (Cond.code yX1_hasTwo cX1_hasTwo 3 (some .boolean)) ∈ wsL_law := List.mem_of_getElem? (i := 107) rfl
set_option maxRecDepth 20000 in
theorem mw_108 : (Cond.methodLink RX1 41 yX1_hasPost) ∈ wsL_law := List.mem_of_getElem? (i := 108) rfl
set_option maxRecDepth 20000 in
theorem mw_109 : (Cond.instanceMethod yX1_hasPost) ∈ wsL_law := List.mem_of_getElem? (i := 109) rfl
set_option maxRecDepth 20000 in
theorem mw_110 : (Cond.selects RX1 yX1_hasPost yX1_hasPost) ∈ wsL_law := List.mem_of_getElem? (i := 110) rfl
set_option maxRecDepth 20000 in
theorem mw_111 : (Cond.code yX1_hasPost cX1_hasPost 2 (some .boolean)) ∈ wsL_law := List.mem_of_getElem? (i := 111) rfl
set_option maxRecDepth 20000 in
theorem mw_112 : (Cond.methodLink RL 22 yX4_line) ∈ wsL_law := List.mem_of_getElem? (i := 112) rfl
set_option maxRecDepth 20000 in
theorem mw_113 : (Cond.instanceMethod yX4_line) ∈ wsL_law := List.mem_of_getElem? (i := 113) rfl
set_option maxRecDepth 20000 in
theorem mw_114 : (Cond.selects RX4 yX4_line yX4_line) ∈ wsL_law := List.mem_of_getElem? (i := 114) rfl
set_option maxRecDepth 20000 in
theorem mw_115 : (Cond.code yX4_line cX4_line 5 (some .int)) ∈ wsL_law := List.mem_of_getElem? (i := 115) rfl
set_option maxRecDepth 20000 in
theorem mw_116 : (Cond.fieldLink RX4 58 "NetCutsModel" "lines" "I") ∈ wsL_law := List.mem_of_getElem? (i := 116) rfl
set_option maxRecDepth 20000 in
theorem mw_117 : (Cond.methodLink RX4 61 yX4_isPost) ∈ wsL_law := List.mem_of_getElem? (i := 117) rfl
set_option maxRecDepth 20000 in
theorem mw_118 : (Cond.instanceMethod yX4_isPost) ∈ wsL_law := List.mem_of_getElem? (i := 118) rfl
set_option maxRecDepth 20000 in
theorem mw_119 : (Cond.selects RX4 yX4_isPost yX4_isPost) ∈ wsL_law := List.mem_of_getElem? (i := 119) rfl
set_option maxRecDepth 20000 in
theorem mw_120 : (Cond.code yX4_isPost cX4_isPost 2 (some .boolean)) ∈ wsL_law := List.mem_of_getElem? (i := 120) rfl
set_option maxRecDepth 20000 in
theorem mw_121 : (Cond.methodLink RL 23 yX3_end) ∈ wsL_law := List.mem_of_getElem? (i := 121) rfl
set_option maxRecDepth 20000 in
theorem mw_122 : (Cond.instanceMethod yX3_end) ∈ wsL_law := List.mem_of_getElem? (i := 122) rfl
set_option maxRecDepth 20000 in
theorem mw_123 : (Cond.selects RX3 yX3_end yX3_end) ∈ wsL_law := List.mem_of_getElem? (i := 123) rfl
set_option maxRecDepth 20000 in
theorem mw_124 : (Cond.code yX3_end cX3_end 2 (some .boolean)) ∈ wsL_law := List.mem_of_getElem? (i := 124) rfl
set_option maxRecDepth 20000 in
theorem mw_125 : (Cond.methodLink RX3 49 yX1_endLine) ∈ wsL_law := List.mem_of_getElem? (i := 125) rfl
set_option maxRecDepth 20000 in
theorem mw_126 : (Cond.instanceMethod yX1_endLine) ∈ wsL_law := List.mem_of_getElem? (i := 126) rfl
set_option maxRecDepth 20000 in
theorem mw_127 : (Cond.selects RX1 yX1_endLine yX1_endLine) ∈ wsL_law := List.mem_of_getElem? (i := 127) rfl
set_option maxRecDepth 20000 in
theorem mw_128 : (Cond.code yX1_endLine cX1_endLine 2 (some .boolean)) ∈ wsL_law := List.mem_of_getElem? (i := 128) rfl
set_option maxRecDepth 20000 in
theorem mw_129 : (Cond.methodLink RX1 49 yX1_hasLine) ∈ wsL_law := List.mem_of_getElem? (i := 129) rfl
set_option maxRecDepth 20000 in
theorem mw_130 : (Cond.instanceMethod yX1_hasLine) ∈ wsL_law := List.mem_of_getElem? (i := 130) rfl
set_option maxRecDepth 20000 in
theorem mw_131 : (Cond.selects RX1 yX1_hasLine yX1_hasLine) ∈ wsL_law := List.mem_of_getElem? (i := 131) rfl
set_option maxRecDepth 20000 in
theorem mw_132 : (Cond.code yX1_hasLine cX1_hasLine 2 (some .boolean)) ∈ wsL_law := List.mem_of_getElem? (i := 132) rfl
set_option maxRecDepth 20000 in
theorem mw_133 : (Cond.methodLink RL 27 yX4_end) ∈ wsL_law := List.mem_of_getElem? (i := 133) rfl
set_option maxRecDepth 20000 in
theorem mw_134 : (Cond.instanceMethod yX4_end) ∈ wsL_law := List.mem_of_getElem? (i := 134) rfl
set_option maxRecDepth 20000 in
theorem mw_135 : (Cond.selects RX4 yX4_end yX4_end) ∈ wsL_law := List.mem_of_getElem? (i := 135) rfl
set_option maxRecDepth 20000 in
theorem mw_136 : (Cond.code yX4_end cX4_end 2 (some .boolean)) ∈ wsL_law := List.mem_of_getElem? (i := 136) rfl
set_option maxRecDepth 20000 in
theorem mw_137 : (Cond.methodLink RX4 65 yX4_isLine) ∈ wsL_law := List.mem_of_getElem? (i := 137) rfl
set_option maxRecDepth 20000 in
theorem mw_138 : (Cond.instanceMethod yX4_isLine) ∈ wsL_law := List.mem_of_getElem? (i := 138) rfl
set_option maxRecDepth 20000 in
theorem mw_139 : (Cond.selects RX4 yX4_isLine yX4_isLine) ∈ wsL_law := List.mem_of_getElem? (i := 139) rfl
set_option maxRecDepth 20000 in
theorem mw_140 : (Cond.code yX4_isLine cX4_isLine 2 (some .boolean)) ∈ wsL_law := List.mem_of_getElem? (i := 140) rfl
set_option maxRecDepth 20000 in
theorem mw_141 : (Cond.methodLink RL 28 yX3_terminal) ∈ wsL_law := List.mem_of_getElem? (i := 141) rfl
set_option maxRecDepth 20000 in
theorem mw_142 : (Cond.instanceMethod yX3_terminal) ∈ wsL_law := List.mem_of_getElem? (i := 142) rfl
set_option maxRecDepth 20000 in
theorem mw_143 : (Cond.selects RX3 yX3_terminal yX3_terminal) ∈ wsL_law := List.mem_of_getElem? (i := 143) rfl
set_option maxRecDepth 20000 in
theorem mw_144 : (Cond.code yX3_terminal cX3_terminal 3 (some .boolean)) ∈ wsL_law := List.mem_of_getElem? (i := 144) rfl
set_option maxRecDepth 20000 in
theorem mw_145 : (Cond.methodLink RX3 53 yX1_hasPost) ∈ wsL_law := List.mem_of_getElem? (i := 145) rfl
set_option maxRecDepth 20000 in
theorem mw_146 : (Cond.methodLink RX3 56 yX3_holds) ∈ wsL_law := List.mem_of_getElem? (i := 146) rfl
set_option maxRecDepth 20000 in
theorem mw_147 : (Cond.static yX3_holds) ∈ wsL_law := List.mem_of_getElem? (i := 147) rfl
set_option maxRecDepth 20000 in
theorem mw_148 : (Cond.code yX3_holds cX3_holds 2 (some .boolean)) ∈ wsL_law := List.mem_of_getElem? (i := 148) rfl
set_option maxRecDepth 20000 in
theorem mw_149 : (Cond.methodLink RL 32 yX4_terminal) ∈ wsL_law := List.mem_of_getElem? (i := 149) rfl
set_option maxRecDepth 20000 in
theorem mw_150 : (Cond.instanceMethod yX4_terminal) ∈ wsL_law := List.mem_of_getElem? (i := 150) rfl
set_option maxRecDepth 20000 in
theorem mw_151 : (Cond.selects RX4 yX4_terminal yX4_terminal) ∈ wsL_law := List.mem_of_getElem? (i := 151) rfl
set_option maxRecDepth 20000 in
theorem mw_152 : (Cond.code yX4_terminal cX4_terminal 3 (some .boolean)) ∈ wsL_law := List.mem_of_getElem? (i := 152) rfl
set_option maxRecDepth 20000 in
theorem mw_153 : (Cond.methodLink RL 33 yX3_pair) ∈ wsL_law := List.mem_of_getElem? (i := 153) rfl
set_option maxRecDepth 20000 in
theorem mw_154 : (Cond.instanceMethod yX3_pair) ∈ wsL_law := List.mem_of_getElem? (i := 154) rfl
set_option maxRecDepth 20000 in
theorem mw_155 : (Cond.selects RX3 yX3_pair yX3_pair) ∈ wsL_law := List.mem_of_getElem? (i := 155) rfl
set_option maxRecDepth 20000 in
theorem mw_156 : (Cond.code yX3_pair cX3_pair 3 (some .boolean)) ∈ wsL_law := List.mem_of_getElem? (i := 156) rfl
set_option maxRecDepth 20000 in
theorem mw_157 : (Cond.methodLink RX3 60 yX1_hasTwo) ∈ wsL_law := List.mem_of_getElem? (i := 157) rfl
set_option maxRecDepth 20000 in
theorem mw_158 : (Cond.methodLink RX3 63 yX3_turnPair) ∈ wsL_law := List.mem_of_getElem? (i := 158) rfl
set_option maxRecDepth 20000 in
theorem mw_159 : (Cond.instanceMethod yX3_turnPair) ∈ wsL_law := List.mem_of_getElem? (i := 159) rfl
set_option maxRecDepth 20000 in
theorem mw_160 : (Cond.selects RX3 yX3_turnPair yX3_turnPair) ∈ wsL_law := List.mem_of_getElem? (i := 160) rfl
set_option maxRecDepth 20000 in
theorem mw_161 : (Cond.code yX3_turnPair cX3_turnPair 3 none) ∈ wsL_law := List.mem_of_getElem? (i := 161) rfl
set_option maxRecDepth 20000 in
theorem mw_162 : (Cond.methodLink RL 37 yX4_pair) ∈ wsL_law := List.mem_of_getElem? (i := 162) rfl
set_option maxRecDepth 20000 in
theorem mw_163 : (Cond.instanceMethod yX4_pair) ∈ wsL_law := List.mem_of_getElem? (i := 163) rfl
set_option maxRecDepth 20000 in
theorem mw_164 : (Cond.selects RX4 yX4_pair yX4_pair) ∈ wsL_law := List.mem_of_getElem? (i := 164) rfl
set_option maxRecDepth 20000 in
theorem mw_165 : (Cond.code yX4_pair cX4_pair 3 (some .boolean)) ∈ wsL_law := List.mem_of_getElem? (i := 165) rfl
set_option maxRecDepth 20000 in
theorem mw_166 : (Cond.fieldLink RX4 68 "NetCutsModel" "pairs" "I") ∈ wsL_law := List.mem_of_getElem? (i := 166) rfl
set_option maxRecDepth 20000 in
theorem mw_167 : (Cond.methodLink RX4 71 yX4_pairOf) ∈ wsL_law := List.mem_of_getElem? (i := 167) rfl
set_option maxRecDepth 20000 in
theorem mw_168 : (Cond.instanceMethod yX4_pairOf) ∈ wsL_law := List.mem_of_getElem? (i := 168) rfl
set_option maxRecDepth 20000 in
theorem mw_169 : (Cond.selects RX4 yX4_pairOf yX4_pairOf) ∈ wsL_law := List.mem_of_getElem? (i := 169) rfl
set_option maxRecDepth 20000 in
theorem mw_170 : (Cond.code yX4_pairOf cX4_pairOf 4 (some .int)) ∈ wsL_law := List.mem_of_getElem? (i := 170) rfl
set_option maxRecDepth 20000 in
theorem mw_171 : (Cond.methodLink RL 38 yX3_unpair) ∈ wsL_law := List.mem_of_getElem? (i := 171) rfl
set_option maxRecDepth 20000 in
theorem mw_172 : (Cond.instanceMethod yX3_unpair) ∈ wsL_law := List.mem_of_getElem? (i := 172) rfl
set_option maxRecDepth 20000 in
theorem mw_173 : (Cond.selects RX3 yX3_unpair yX3_unpair) ∈ wsL_law := List.mem_of_getElem? (i := 173) rfl
set_option maxRecDepth 20000 in
theorem mw_174 : (Cond.code yX3_unpair cX3_unpair 3 (some .boolean)) ∈ wsL_law := List.mem_of_getElem? (i := 174) rfl
set_option maxRecDepth 20000 in
theorem mw_175 : (Cond.methodLink RL 41 yX4_unpair) ∈ wsL_law := List.mem_of_getElem? (i := 175) rfl
set_option maxRecDepth 20000 in
theorem mw_176 : (Cond.instanceMethod yX4_unpair) ∈ wsL_law := List.mem_of_getElem? (i := 176) rfl
set_option maxRecDepth 20000 in
theorem mw_177 : (Cond.selects RX4 yX4_unpair yX4_unpair) ∈ wsL_law := List.mem_of_getElem? (i := 177) rfl
set_option maxRecDepth 20000 in
theorem mw_178 : (Cond.code yX4_unpair cX4_unpair 4 (some .boolean)) ∈ wsL_law := List.mem_of_getElem? (i := 178) rfl
set_option maxRecDepth 20000 in
theorem mw_179 : (Cond.methodLink RL 42 yX3_cut) ∈ wsL_law := List.mem_of_getElem? (i := 179) rfl
