set_option maxRecDepth 20000 in
theorem ggL_law_X11_nextEclipseByTurns_q0 : GoodIn wsL_law ((.code yX11_nextEclipseByTurns cX11_nextEclipseByTurns 4 (some .int)) :: wsX11_nextEclipseByTurns_r1) := goodIn_r _ [1002, 1003, 985, 986, 5, 987, 155, 154, 146, 928, 929, 930, 931, 226, 227, 228, 229, 327, 328, 329, 323, 324, 325, 326, 221] (by decide +kernel) (by decide +kernel)
set_option maxRecDepth 20000 in
theorem ggL_law_X11_nextEclipseByTurns_q1 : GoodIn wsL_law wsX11_nextEclipseByTurns_r2 := goodIn_r _ [222, 223, 224, 225, 342, 343, 344, 345, 317, 346, 347, 348, 349, 330, 331, 332, 333, 530, 531, 532, 230, 231, 232, 233] (by decide +kernel) (by decide +kernel)
set_option maxRecDepth 20000 in
theorem ggL_law_X11_nextEclipseByTurns : GoodIn wsL_law wsX11_nextEclipseByTurns := goodIn_ca (goodIn_ca ((goodIn_ca (goodIn_ca (ggL_law_X11_nextEclipseByTurns_q0) (ggL_law_X11_nextEclipseByTurns_q1)) (ggL_law_X11_init_q1))) (goodIn_sub (fun _ h => List.mem_append_left _ (List.mem_append_left _ (List.mem_append_left _ (List.mem_append_left _ (List.mem_append_left _ (List.mem_append_left _ (List.mem_append_left _ (List.mem_append_right _ h)))))))) (by decide +kernel))) (goodIn_sub (fun _ h => List.mem_append_left _ (List.mem_append_right _ h)) (by decide +kernel))
set_option maxRecDepth 20000 in
theorem gL_law_X11_nextEclipseByTurns : GoodIn wsL_law (wsV RL 305 RX11 yX11_nextEclipseByTurns wsX11_nextEclipseByTurns) := goodIn_app (goodIn_of _ (by decide +kernel)) ggL_law_X11_nextEclipseByTurns
set_option maxRecDepth 20000 in
theorem ggL_law_L_planetByAngle_q0 : GoodIn wsL_law ((.codeWith yL_planetByAngle cL_planetByAngle 4 (some .int) [(0, 9, 12, 31)]) :: [.classLink RL 31 "java/util/NoSuchElementException", .methodLink RL 128 yX10_planetByAngle, .instanceMethod yX10_planetByAngle, .selects RX10 yX10_planetByAngle yX10_planetByAngle, .initialized RX10, .code yX10_planetByAngle cX10_planetByAngle 3 (some .int), .classLink RX10 144 "java/util/NoSuchElementException", .initialized "java/util/NoSuchElementException", .fieldLink RX10 12 "PlanetWorkshop" "now" "LPlanetWorkshop$State;", .fieldLink RX10 222 "PlanetWorkshop$State" "planets" "I", .methodLink RX10 250 yX7_rankByAngle, .instanceMethod yX7_rankByAngle, .selects RX7 yX7_rankByAngle yX7_rankByAngle, .initialized RX7, .code yX7_rankByAngle cX7_rankByAngle 8 (some .int), .fieldLink RX7 15 "PlanetWorkshop$State" "angles" "[J", .fieldLink RX7 42 "PlanetWorkshop$State" "carriers" "[I", .fieldLink RX7 52 "PlanetWorkshop$State" "planets" "I"]) := goodIn_r _ [1006, 376, 1007, 1008, 1009, 2, 1010, 196, 197, 17, 903, 1011, 1012, 1013, 16, 1014, 56, 66, 69] (by decide +kernel) (by decide +kernel)
set_option maxRecDepth 20000 in
theorem ggL_law_L_planetByAngle : GoodIn wsL_law wsL_planetByAngle := goodIn_ca (goodIn_ca ((goodIn_ca (goodIn_ca (ggL_law_L_planetByAngle_q0) (ggL_law_X10_init_q7)) (ggL_law_X10_init_q6))) (goodIn_sub (fun _ h => List.mem_append_left _ (List.mem_append_left _ (List.mem_append_left _ (List.mem_append_left _ (List.mem_append_left _ (List.mem_append_left _ (List.mem_append_left _ (List.mem_append_right _ h)))))))) (by decide +kernel))) (goodIn_sub (fun _ h => List.mem_append_left _ (List.mem_append_left _ (List.mem_append_right _ h))) (by decide +kernel))
set_option maxRecDepth 20000 in
theorem gL_law_L_planetByAngle : GoodIn wsL_law (va_wsS RL 306 yL_planetByAngle wsL_planetByAngle) := goodIn_app (goodIn_of _ (by decide +kernel)) ggL_law_L_planetByAngle
set_option maxRecDepth 20000 in
theorem ggL_law_X11_planetByAngle_q0 : GoodIn wsL_law ((.code yX11_planetByAngle cX11_planetByAngle 5 (some .int)) :: [.methodLink RX11 61 yX11_at, .instanceMethod yX11_at, .selects RX11 yX11_at yX11_at, .initialized RX11, .code yX11_at cX11_at 2 (some .int), .fieldLink RX11 7 "PlanetWorkshopModel" "g" "[J", .methodLink RX11 202 yX11_isBehind, .instanceMethod yX11_isBehind, .selects RX11 yX11_isBehind yX11_isBehind, .code yX11_isBehind cX11_isBehind 5 (some .boolean), .methodLink RX11 195 yX11_angleOf, .instanceMethod yX11_angleOf, .selects RX11 yX11_angleOf yX11_angleOf, .code yX11_angleOf cX11_angleOf 2 (some .long), .methodLink RX11 98 yX11_done, .instanceMethod yX11_done, .selects RX11 yX11_done yX11_done, .code yX11_done cX11_done 2 (some .int), .fieldLink RX11 49 "PlanetWorkshopModel" "thrown" "I", .methodLink RX11 95 yX11_fails, .instanceMethod yX11_fails, .selects RX11 yX11_fails yX11_fails, .code yX11_fails cX11_fails 2 (some .int)]) := goodIn_r _ [1018, 226, 227, 228, 5, 229, 146, 1019, 1020, 1021, 1022, 943, 944, 945, 946, 230, 231, 232, 233, 225, 221, 222, 223, 224] (by decide +kernel) (by decide +kernel)
set_option maxRecDepth 20000 in
theorem ggL_law_X11_planetByAngle : GoodIn wsL_law wsX11_planetByAngle := goodIn_ca ((goodIn_ca (ggL_law_X11_planetByAngle_q0) (ggL_law_X11_init_q1))) (goodIn_sub (fun _ h => List.mem_append_left _ (List.mem_append_left _ (List.mem_append_left _ (List.mem_append_left _ (List.mem_append_left _ (List.mem_append_left _ (List.mem_append_left _ (List.mem_append_right _ h)))))))) (by decide +kernel))
set_option maxRecDepth 20000 in
theorem gL_law_X11_planetByAngle : GoodIn wsL_law (wsV RL 308 RX11 yX11_planetByAngle wsX11_planetByAngle) := goodIn_app (goodIn_of _ (by decide +kernel)) ggL_law_X11_planetByAngle
set_option maxRecDepth 20000 in
theorem ggL_law_L_fewestPairs_q0 : GoodIn wsL_law ((.codeWith yL_fewestPairs cL_fewestPairs 5 (some .int) [(0, 10, 13, 13), (0, 10, 17, 31)]) :: wsL_fewestPairs_r1) := goodIn_r _ [1025, 162, 376, 1026, 1027, 1028, 2, 1029, 40, 1030, 1031, 1032, 190, 191, 1033, 1034, 1035, 39, 1036, 109, 1037, 1038, 1039, 1040, 1041] (by decide +kernel) (by decide +kernel)
set_option maxRecDepth 20000 in
theorem ggL_law_L_fewestPairs_q1 : GoodIn wsL_law wsL_fewestPairs_r2 := goodIn_r _ [1042, 981, 982, 983, 196, 197] (by decide +kernel) (by decide +kernel)
set_option maxRecDepth 20000 in
theorem ggL_law_L_fewestPairs : GoodIn wsL_law wsL_fewestPairs := goodIn_ca (goodIn_ca (goodIn_ca ((goodIn_ca (goodIn_ca (goodIn_ca (goodIn_ca (ggL_law_L_fewestPairs_q0) (ggL_law_L_fewestPairs_q1)) (ggL_law_X10_init_q7)) (ggL_law_X10_init_q12)) (ggL_law_X10_init_q6))) (goodIn_sub (fun _ h => List.mem_append_left _ (List.mem_append_left _ (List.mem_append_left _ (List.mem_append_left _ (List.mem_append_left _ (List.mem_append_left _ (List.mem_append_left _ (List.mem_append_right _ h)))))))) (by decide +kernel))) (goodIn_sub (fun _ h => List.mem_append_left _ (List.mem_append_left _ (List.mem_append_left _ (List.mem_append_left _ (List.mem_append_left _ (List.mem_append_right _ h)))))) (by decide +kernel))) (goodIn_sub (fun _ h => List.mem_append_left _ (List.mem_append_left _ (List.mem_append_right _ h))) (by decide +kernel))
set_option maxRecDepth 20000 in
theorem gL_law_L_fewestPairs : GoodIn wsL_law (va_wsS RL 309 yL_fewestPairs wsL_fewestPairs) := goodIn_app (goodIn_of _ (by decide +kernel)) ggL_law_L_fewestPairs
set_option maxRecDepth 20000 in
theorem ggL_law_X11_fewestPairs_q0 : GoodIn wsL_law ((.code yX11_fewestPairs cX11_fewestPairs 7 (some .int)) :: wsX11_fewestPairs_r1) := goodIn_r _ [1046, 327, 328, 5, 329, 221, 222, 223, 224, 225, 319, 320, 321, 322, 323, 324, 325, 326, 226, 227, 228, 229, 146, 1047, 1048] (by decide +kernel) (by decide +kernel)
set_option maxRecDepth 20000 in
theorem ggL_law_X11_fewestPairs_q1 : GoodIn wsL_law wsX11_fewestPairs_r2 := goodIn_r _ [1049, 1050, 230, 231, 232, 233, 1051, 1052, 1053, 1054] (by decide +kernel) (by decide +kernel)
set_option maxRecDepth 20000 in
theorem ggL_law_X11_fewestPairs : GoodIn wsL_law wsX11_fewestPairs := goodIn_ca ((goodIn_ca (goodIn_ca (ggL_law_X11_fewestPairs_q0) (ggL_law_X11_fewestPairs_q1)) (ggL_law_X11_init_q1))) (goodIn_sub (fun _ h => List.mem_append_left _ (List.mem_append_left _ (List.mem_append_left _ (List.mem_append_left _ (List.mem_append_left _ (List.mem_append_left _ (List.mem_append_left _ (List.mem_append_right _ h)))))))) (by decide +kernel))
set_option maxRecDepth 20000 in
theorem gL_law_X11_fewestPairs : GoodIn wsL_law (wsV RL 311 RX11 yX11_fewestPairs wsX11_fewestPairs) := goodIn_app (goodIn_of _ (by decide +kernel)) ggL_law_X11_fewestPairs
set_option maxRecDepth 20000 in
theorem ggL_law_L_fewestPairsByTable_q0 : GoodIn wsL_law ((.codeWith yL_fewestPairsByTable cL_fewestPairsByTable 5 (some .int) [(0, 10, 13, 13), (0, 10, 17, 31)]) :: wsL_fewestPairsByTable_r1) := goodIn_r _ [1057, 162, 376, 1058, 1059, 1060, 2, 1061, 40, 1030, 1031, 1032, 190, 191, 1062, 1063, 1064, 39, 1065, 108, 105, 104, 106, 107, 1066] (by decide +kernel) (by decide +kernel)
set_option maxRecDepth 20000 in
theorem ggL_law_L_fewestPairsByTable_q1 : GoodIn wsL_law wsL_fewestPairsByTable_r2 := goodIn_r _ [1067, 1068, 1069, 109, 1037, 1070, 1071, 1072, 1073, 1038, 1074, 739, 284, 740, 741, 497, 473, 498, 742, 500, 501, 502, 503, 288] (by decide +kernel) (by decide +kernel)
set_option maxRecDepth 20000 in
theorem ggL_law_L_fewestPairsByTable_q2 : GoodIn wsL_law wsL_fewestPairsByTable_r3 := goodIn_r _ [504, 1075, 283, 285, 286, 287, 289, 1076, 1077, 1078, 1079, 981, 982, 983, 196, 197] (by decide +kernel) (by decide +kernel)
set_option maxRecDepth 20000 in
theorem ggL_law_L_fewestPairsByTable : GoodIn wsL_law wsL_fewestPairsByTable := goodIn_ca (goodIn_ca (goodIn_ca ((goodIn_ca (goodIn_ca (goodIn_ca (goodIn_ca (ggL_law_L_fewestPairsByTable_q0) (goodIn_app (ggL_law_L_fewestPairsByTable_q1) (ggL_law_L_fewestPairsByTable_q2))) (ggL_law_X10_init_q7)) (ggL_law_X10_init_q12)) (ggL_law_X10_init_q6))) (goodIn_sub (fun _ h => List.mem_append_left _ (List.mem_append_left _ (List.mem_append_left _ (List.mem_append_left _ (List.mem_append_left _ (List.mem_append_left _ (List.mem_append_left _ (List.mem_append_right _ h)))))))) (by decide +kernel))) (goodIn_sub (fun _ h => List.mem_append_left _ (List.mem_append_left _ (List.mem_append_left _ (List.mem_append_left _ (List.mem_append_left _ (List.mem_append_right _ h)))))) (by decide +kernel))) (goodIn_sub (fun _ h => List.mem_append_left _ (List.mem_append_left _ (List.mem_append_right _ h))) (by decide +kernel))
set_option maxRecDepth 20000 in
theorem gL_law_L_fewestPairsByTable : GoodIn wsL_law (va_wsS RL 312 yL_fewestPairsByTable wsL_fewestPairsByTable) := goodIn_app (goodIn_of _ (by decide +kernel)) ggL_law_L_fewestPairsByTable
set_option maxRecDepth 20000 in
theorem ggL_law_X11_fewestPairsByTable_q0 : GoodIn wsL_law ((.code yX11_fewestPairsByTable cX11_fewestPairsByTable 3 (some .int)) :: wsX11_fewestPairsByTable_r1) := goodIn_r _ [1083, 1084, 1044, 1045, 5, 1046, 327, 328, 329, 221, 222, 223, 224, 225, 319, 320, 321, 322, 323, 324, 325, 326, 226, 227, 228] (by decide +kernel) (by decide +kernel)
set_option maxRecDepth 20000 in
theorem ggL_law_X11_fewestPairsByTable_q1 : GoodIn wsL_law wsX11_fewestPairsByTable_r2 := goodIn_r _ [229, 146, 1047, 1048, 1049, 1050, 230, 231, 232, 233, 1051, 1052, 1053, 1054] (by decide +kernel) (by decide +kernel)
set_option maxRecDepth 20000 in
theorem ggL_law_X11_fewestPairsByTable : GoodIn wsL_law wsX11_fewestPairsByTable := goodIn_ca ((goodIn_ca (goodIn_ca (ggL_law_X11_fewestPairsByTable_q0) (ggL_law_X11_fewestPairsByTable_q1)) (ggL_law_X11_init_q1))) (goodIn_sub (fun _ h => List.mem_append_left _ (List.mem_append_left _ (List.mem_append_left _ (List.mem_append_left _ (List.mem_append_left _ (List.mem_append_left _ (List.mem_append_left _ (List.mem_append_right _ h)))))))) (by decide +kernel))
set_option maxRecDepth 20000 in
theorem gL_law_X11_fewestPairsByTable : GoodIn wsL_law (wsV RL 314 RX11 yX11_fewestPairsByTable wsX11_fewestPairsByTable) := goodIn_app (goodIn_of _ (by decide +kernel)) ggL_law_X11_fewestPairsByTable
set_option maxRecDepth 20000 in
theorem ggL_law_X10_woundTotal_q0 : GoodIn wsL_law ((.code yX10_woundTotal cX10_woundTotal 1 (some .int)) :: [.fieldLink RX10 12 "PlanetWorkshop" "now" "LPlanetWorkshop$State;", .fieldLink RX10 262 "PlanetWorkshop$State" "wound" "I"]) := goodIn_r _ [1088, 17, 1089] (by decide +kernel) (by decide +kernel)
set_option maxRecDepth 20000 in
theorem ggL_law_X10_woundTotal : GoodIn wsL_law wsX10_woundTotal := (goodIn_ca (goodIn_ca (ggL_law_X10_woundTotal_q0) (ggL_law_X10_init_q7)) (ggL_law_X10_init_q6))
set_option maxRecDepth 20000 in
theorem gL_law_X10_woundTotal : GoodIn wsL_law (wsV RL 315 RX10 yX10_woundTotal wsX10_woundTotal) := goodIn_app (goodIn_of _ (by decide +kernel)) ggL_law_X10_woundTotal
set_option maxRecDepth 20000 in
theorem ggL_law_X11_woundTotal_q0 : GoodIn wsL_law ((.code yX11_woundTotal cX11_woundTotal 1 (some .int)) :: [.methodLink RX11 61 yX11_at, .instanceMethod yX11_at, .selects RX11 yX11_at yX11_at, .initialized RX11, .code yX11_at cX11_at 2 (some .int), .fieldLink RX11 7 "PlanetWorkshopModel" "g" "[J", .methodLink RX11 98 yX11_done, .instanceMethod yX11_done, .selects RX11 yX11_done yX11_done, .code yX11_done cX11_done 2 (some .int), .fieldLink RX11 49 "PlanetWorkshopModel" "thrown" "I"]) := goodIn_r _ [1093, 226, 227, 228, 5, 229, 146, 230, 231, 232, 233, 225] (by decide +kernel) (by decide +kernel)
set_option maxRecDepth 20000 in
theorem ggL_law_X11_woundTotal : GoodIn wsL_law wsX11_woundTotal := goodIn_ca ((goodIn_ca (ggL_law_X11_woundTotal_q0) (ggL_law_X11_init_q1))) (goodIn_sub (fun _ h => List.mem_append_left _ (List.mem_append_left _ (List.mem_append_left _ (List.mem_append_left _ (List.mem_append_left _ (List.mem_append_left _ (List.mem_append_left _ (List.mem_append_right _ h)))))))) (by decide +kernel))
set_option maxRecDepth 20000 in
theorem gL_law_X11_woundTotal : GoodIn wsL_law (wsV RL 318 RX11 yX11_woundTotal wsX11_woundTotal) := goodIn_app (goodIn_of _ (by decide +kernel)) ggL_law_X11_woundTotal
set_option maxRecDepth 20000 in
theorem ggL_law_X10_tensionTotal_q0 : GoodIn wsL_law ((.code yX10_tensionTotal cX10_tensionTotal 1 (some .int)) :: [.fieldLink RX10 12 "PlanetWorkshop" "now" "LPlanetWorkshop$State;", .methodLink RX10 265 yX7_sumOfTensions, .instanceMethod yX7_sumOfTensions, .selects RX7 yX7_sumOfTensions yX7_sumOfTensions, .initialized RX7, .code yX7_sumOfTensions cX7_sumOfTensions 3 (some .int), .fieldLink RX7 45 "PlanetWorkshop$State" "gears" "I", .fieldLink RX7 32 "PlanetWorkshop$State" "tensions" "[I"]) := goodIn_r _ [1097, 17, 1098, 1099, 1100, 16, 1101, 67, 62] (by decide +kernel) (by decide +kernel)
set_option maxRecDepth 20000 in
theorem ggL_law_X10_tensionTotal : GoodIn wsL_law wsX10_tensionTotal := goodIn_ca ((goodIn_ca (goodIn_ca (ggL_law_X10_tensionTotal_q0) (ggL_law_X10_init_q7)) (ggL_law_X10_init_q6))) (goodIn_sub (fun _ h => List.mem_append_left _ (List.mem_append_left _ (List.mem_append_left _ (List.mem_append_left _ (List.mem_append_left _ (List.mem_append_left _ (List.mem_append_left _ (List.mem_append_right _ h)))))))) (by decide +kernel))
set_option maxRecDepth 20000 in
theorem gL_law_X10_tensionTotal : GoodIn wsL_law (wsV RL 319 RX10 yX10_tensionTotal wsX10_tensionTotal) := goodIn_app (goodIn_of _ (by decide +kernel)) ggL_law_X10_tensionTotal
set_option maxRecDepth 20000 in
theorem ggL_law_X11_tensionTotal_q0 : GoodIn wsL_law ((.code yX11_tensionTotal cX11_tensionTotal 3 (some .int)) :: [.methodLink RX11 61 yX11_at, .instanceMethod yX11_at, .selects RX11 yX11_at yX11_at, .initialized RX11, .code yX11_at cX11_at 2 (some .int), .fieldLink RX11 7 "PlanetWorkshopModel" "g" "[J", .methodLink RX11 98 yX11_done, .instanceMethod yX11_done, .selects RX11 yX11_done yX11_done, .code yX11_done cX11_done 2 (some .int), .fieldLink RX11 49 "PlanetWorkshopModel" "thrown" "I"]) := goodIn_r _ [1105, 226, 227, 228, 5, 229, 146, 230, 231, 232, 233, 225] (by decide +kernel) (by decide +kernel)
set_option maxRecDepth 20000 in
theorem ggL_law_X11_tensionTotal : GoodIn wsL_law wsX11_tensionTotal := goodIn_ca ((goodIn_ca (ggL_law_X11_tensionTotal_q0) (ggL_law_X11_init_q1))) (goodIn_sub (fun _ h => List.mem_append_left _ (List.mem_append_left _ (List.mem_append_left _ (List.mem_append_left _ (List.mem_append_left _ (List.mem_append_left _ (List.mem_append_left _ (List.mem_append_right _ h)))))))) (by decide +kernel))
set_option maxRecDepth 20000 in
theorem gL_law_X11_tensionTotal : GoodIn wsL_law (wsV RL 322 RX11 yX11_tensionTotal wsX11_tensionTotal) := goodIn_app (goodIn_of _ (by decide +kernel)) ggL_law_X11_tensionTotal
set_option maxRecDepth 20000 in
theorem ggL_law_X10_tensionByAccounts_q0 : GoodIn wsL_law ((.code yX10_tensionByAccounts cX10_tensionByAccounts 1 (some .int)) :: [.fieldLink RX10 12 "PlanetWorkshop" "now" "LPlanetWorkshop$State;", .fieldLink RX10 262 "PlanetWorkshop$State" "wound" "I", .fieldLink RX10 269 "PlanetWorkshop$State" "taken" "I"]) := goodIn_r _ [1109, 17, 1089, 1110] (by decide +kernel) (by decide +kernel)
set_option maxRecDepth 20000 in
theorem ggL_law_X10_tensionByAccounts : GoodIn wsL_law wsX10_tensionByAccounts := (goodIn_ca (goodIn_ca (ggL_law_X10_tensionByAccounts_q0) (ggL_law_X10_init_q7)) (ggL_law_X10_init_q6))
set_option maxRecDepth 20000 in
theorem gL_law_X10_tensionByAccounts : GoodIn wsL_law (wsV RL 323 RX10 yX10_tensionByAccounts wsX10_tensionByAccounts) := goodIn_app (goodIn_of _ (by decide +kernel)) ggL_law_X10_tensionByAccounts
set_option maxRecDepth 20000 in
theorem ggL_law_X11_tensionByAccounts_q0 : GoodIn wsL_law ((.code yX11_tensionByAccounts cX11_tensionByAccounts 1 (some .int)) :: [.methodLink RX11 61 yX11_at, .instanceMethod yX11_at, .selects RX11 yX11_at yX11_at, .initialized RX11, .code yX11_at cX11_at 2 (some .int), .fieldLink RX11 7 "PlanetWorkshopModel" "g" "[J", .methodLink RX11 98 yX11_done, .instanceMethod yX11_done, .selects RX11 yX11_done yX11_done, .code yX11_done cX11_done 2 (some .int), .fieldLink RX11 49 "PlanetWorkshopModel" "thrown" "I"]) := goodIn_r _ [1114, 226, 227, 228, 5, 229, 146, 230, 231, 232, 233, 225] (by decide +kernel) (by decide +kernel)
set_option maxRecDepth 20000 in
theorem ggL_law_X11_tensionByAccounts : GoodIn wsL_law wsX11_tensionByAccounts := goodIn_ca ((goodIn_ca (ggL_law_X11_tensionByAccounts_q0) (ggL_law_X11_init_q1))) (goodIn_sub (fun _ h => List.mem_append_left _ (List.mem_append_left _ (List.mem_append_left _ (List.mem_append_left _ (List.mem_append_left _ (List.mem_append_left _ (List.mem_append_left _ (List.mem_append_right _ h)))))))) (by decide +kernel))
set_option maxRecDepth 20000 in
theorem gL_law_X11_tensionByAccounts : GoodIn wsL_law (wsV RL 326 RX11 yX11_tensionByAccounts wsX11_tensionByAccounts) := goodIn_app (goodIn_of _ (by decide +kernel)) ggL_law_X11_tensionByAccounts
set_option maxRecDepth 20000 in
theorem ggL_law_X10_releaseTotal_q0 : GoodIn wsL_law ((.code yX10_releaseTotal cX10_releaseTotal 1 (some .int)) :: [.fieldLink RX10 12 "PlanetWorkshop" "now" "LPlanetWorkshop$State;", .fieldLink RX10 272 "PlanetWorkshop$State" "releases" "I"]) := goodIn_r _ [1118, 17, 1119] (by decide +kernel) (by decide +kernel)
set_option maxRecDepth 20000 in
theorem ggL_law_X10_releaseTotal : GoodIn wsL_law wsX10_releaseTotal := (goodIn_ca (goodIn_ca (ggL_law_X10_releaseTotal_q0) (ggL_law_X10_init_q7)) (ggL_law_X10_init_q6))
set_option maxRecDepth 20000 in
theorem gL_law_X10_releaseTotal : GoodIn wsL_law (wsV RL 327 RX10 yX10_releaseTotal wsX10_releaseTotal) := goodIn_app (goodIn_of _ (by decide +kernel)) ggL_law_X10_releaseTotal
set_option maxRecDepth 20000 in
theorem ggL_law_X11_releaseTotal_q0 : GoodIn wsL_law ((.code yX11_releaseTotal cX11_releaseTotal 1 (some .int)) :: [.methodLink RX11 61 yX11_at, .instanceMethod yX11_at, .selects RX11 yX11_at yX11_at, .initialized RX11, .code yX11_at cX11_at 2 (some .int), .fieldLink RX11 7 "PlanetWorkshopModel" "g" "[J", .methodLink RX11 98 yX11_done, .instanceMethod yX11_done, .selects RX11 yX11_done yX11_done, .code yX11_done cX11_done 2 (some .int), .fieldLink RX11 49 "PlanetWorkshopModel" "thrown" "I"]) := goodIn_r _ [1123, 226, 227, 228, 5, 229, 146, 230, 231, 232, 233, 225] (by decide +kernel) (by decide +kernel)
set_option maxRecDepth 20000 in
theorem ggL_law_X11_releaseTotal : GoodIn wsL_law wsX11_releaseTotal := goodIn_ca ((goodIn_ca (ggL_law_X11_releaseTotal_q0) (ggL_law_X11_init_q1))) (goodIn_sub (fun _ h => List.mem_append_left _ (List.mem_append_left _ (List.mem_append_left _ (List.mem_append_left _ (List.mem_append_left _ (List.mem_append_left _ (List.mem_append_left _ (List.mem_append_right _ h)))))))) (by decide +kernel))
set_option maxRecDepth 20000 in
theorem gL_law_X11_releaseTotal : GoodIn wsL_law (wsV RL 330 RX11 yX11_releaseTotal wsX11_releaseTotal) := goodIn_app (goodIn_of _ (by decide +kernel)) ggL_law_X11_releaseTotal
set_option maxRecDepth 20000 in
theorem ggL_law_L_meanTeeth_q0 : GoodIn wsL_law ((.codeWith yL_meanTeeth cL_meanTeeth 3 (some .int) [(0, 7, 10, 141)]) :: [.classLink RL 141 "java/lang/ArithmeticException", .methodLink RL 137 yX10_meanTeeth, .instanceMethod yX10_meanTeeth, .selects RX10 yX10_meanTeeth yX10_meanTeeth, .initialized RX10, .code yX10_meanTeeth cX10_meanTeeth 1 (some .double), .classLink RX10 275 "java/lang/ArithmeticException", .initialized "java/lang/ArithmeticException", .fieldLink RX10 12 "PlanetWorkshop" "now" "LPlanetWorkshop$State;", .fieldLink RX10 129 "PlanetWorkshop$State" "gears" "I", .methodLink RX10 278 yX7_sumOfTeeth, .instanceMethod yX7_sumOfTeeth, .selects RX7 yX7_sumOfTeeth yX7_sumOfTeeth, .initialized RX7, .code yX7_sumOfTeeth cX7_sumOfTeeth 3 (some .int), .fieldLink RX7 45 "PlanetWorkshop$State" "gears" "I", .fieldLink RX7 9 "PlanetWorkshop$State" "teeth" "[I"]) := goodIn_r _ [1126, 1127, 1128, 1129, 1130, 2, 1131, 1132, 1133, 17, 634, 1134, 1135, 1136, 16, 1137, 67, 55] (by decide +kernel) (by decide +kernel)
set_option maxRecDepth 20000 in
theorem ggL_law_L_meanTeeth : GoodIn wsL_law wsL_meanTeeth := goodIn_ca (goodIn_ca ((goodIn_ca (goodIn_ca (ggL_law_L_meanTeeth_q0) (ggL_law_X10_init_q7)) (ggL_law_X10_init_q6))) (goodIn_sub (fun _ h => List.mem_append_left _ (List.mem_append_left _ (List.mem_append_left _ (List.mem_append_left _ (List.mem_append_left _ (List.mem_append_left _ (List.mem_append_left _ (List.mem_append_right _ h)))))))) (by decide +kernel))) (goodIn_sub (fun _ h => List.mem_append_right _ h) (by decide +kernel))
set_option maxRecDepth 20000 in
theorem gL_law_L_meanTeeth : GoodIn wsL_law (va_wsS RL 331 yL_meanTeeth wsL_meanTeeth) := goodIn_app (goodIn_of _ (by decide +kernel)) ggL_law_L_meanTeeth
set_option maxRecDepth 20000 in
theorem ggL_law_X11_meanTeeth_q0 : GoodIn wsL_law ((.code yX11_meanTeeth cX11_meanTeeth 4 (some .double)) :: [.fieldLink RX11 7 "PlanetWorkshopModel" "g" "[J", .fieldLink RX11 49 "PlanetWorkshopModel" "thrown" "I"]) := goodIn_r _ [1141, 146, 225] (by decide +kernel) (by decide +kernel)
set_option maxRecDepth 20000 in
theorem ggL_law_X11_meanTeeth : GoodIn wsL_law wsX11_meanTeeth := goodIn_ca ((goodIn_ca (ggL_law_X11_meanTeeth_q0) (ggL_law_X11_init_q1))) (goodIn_sub (fun _ h => List.mem_append_left _ (List.mem_append_left _ (List.mem_append_left _ (List.mem_append_left _ (List.mem_append_left _ (List.mem_append_left _ (List.mem_append_left _ (List.mem_append_right _ h)))))))) (by decide +kernel))
set_option maxRecDepth 20000 in
theorem gL_law_X11_meanTeeth : GoodIn wsL_law (wsV RL 334 RX11 yX11_meanTeeth wsX11_meanTeeth) := goodIn_app (goodIn_of _ (by decide +kernel)) ggL_law_X11_meanTeeth
set_option maxRecDepth 20000 in
theorem ggL_law_L_dryShare_q0 : GoodIn wsL_law ((.codeWith yL_dryShare cL_dryShare 3 (some .int) [(0, 8, 11, 141)]) :: [.classLink RL 141 "java/lang/ArithmeticException", .methodLink RL 143 yX10_dryShare, .instanceMethod yX10_dryShare, .selects RX10 yX10_dryShare yX10_dryShare, .initialized RX10, .code yX10_dryShare cX10_dryShare 1 (some .float), .classLink RX10 275 "java/lang/ArithmeticException", .initialized "java/lang/ArithmeticException", .fieldLink RX10 12 "PlanetWorkshop" "now" "LPlanetWorkshop$State;", .fieldLink RX10 129 "PlanetWorkshop$State" "gears" "I", .methodLink RX10 281 yX7_dryGears, .instanceMethod yX7_dryGears, .selects RX7 yX7_dryGears yX7_dryGears, .initialized RX7, .code yX7_dryGears cX7_dryGears 3 (some .int), .fieldLink RX7 45 "PlanetWorkshop$State" "gears" "I", .fieldLink RX7 19 "PlanetWorkshop$State" "oiled" "[Z"]) := goodIn_r _ [1144, 1127, 1145, 1146, 1147, 2, 1148, 1132, 1133, 17, 634, 1149, 1150, 1151, 16, 1152, 67, 58] (by decide +kernel) (by decide +kernel)
set_option maxRecDepth 20000 in
theorem ggL_law_L_dryShare : GoodIn wsL_law wsL_dryShare := goodIn_ca (goodIn_ca ((goodIn_ca (goodIn_ca (ggL_law_L_dryShare_q0) (ggL_law_X10_init_q7)) (ggL_law_X10_init_q6))) (goodIn_sub (fun _ h => List.mem_append_left _ (List.mem_append_left _ (List.mem_append_left _ (List.mem_append_left _ (List.mem_append_left _ (List.mem_append_left _ (List.mem_append_left _ (List.mem_append_right _ h)))))))) (by decide +kernel))) (goodIn_sub (fun _ h => List.mem_append_right _ h) (by decide +kernel))
set_option maxRecDepth 20000 in
theorem gL_law_L_dryShare : GoodIn wsL_law (va_wsS RL 335 yL_dryShare wsL_dryShare) := goodIn_app (goodIn_of _ (by decide +kernel)) ggL_law_L_dryShare
set_option maxRecDepth 20000 in
theorem ggL_law_X11_dryShare_q0 : GoodIn wsL_law ((.code yX11_dryShare cX11_dryShare 3 (some .float)) :: [.fieldLink RX11 7 "PlanetWorkshopModel" "g" "[J", .fieldLink RX11 49 "PlanetWorkshopModel" "thrown" "I", .methodLink RX11 61 yX11_at, .instanceMethod yX11_at, .selects RX11 yX11_at yX11_at, .initialized RX11, .code yX11_at cX11_at 2 (some .int)]) := goodIn_r _ [1156, 146, 225, 226, 227, 228, 5, 229] (by decide +kernel) (by decide +kernel)
set_option maxRecDepth 20000 in
theorem ggL_law_X11_dryShare : GoodIn wsL_law wsX11_dryShare := goodIn_ca ((goodIn_ca (ggL_law_X11_dryShare_q0) (ggL_law_X11_init_q1))) (goodIn_sub (fun _ h => List.mem_append_left _ (List.mem_append_left _ (List.mem_append_left _ (List.mem_append_left _ (List.mem_append_left _ (List.mem_append_left _ (List.mem_append_left _ (List.mem_append_right _ h)))))))) (by decide +kernel))
set_option maxRecDepth 20000 in
theorem gL_law_X11_dryShare : GoodIn wsL_law (wsV RL 337 RX11 yX11_dryShare wsX11_dryShare) := goodIn_app (goodIn_of _ (by decide +kernel)) ggL_law_X11_dryShare
set_option maxRecDepth 20000 in
theorem ggL_law_X10_isConsistent_q0 : GoodIn wsL_law ((.code yX10_isConsistent cX10_isConsistent 1 (some .boolean)) :: wsX10_isConsistent_r1) := goodIn_r _ [1160, 36, 40, 17, 1089, 1110, 1161, 1162, 1163, 2, 1164, 634, 713, 714, 715, 716, 28, 717, 685, 265, 266, 27, 267, 85, 87] (by decide +kernel) (by decide +kernel)
set_option maxRecDepth 20000 in
theorem ggL_law_X10_isConsistent_q1 : GoodIn wsL_law wsX10_isConsistent_r2 := goodIn_r _ [268, 86, 269, 270, 271, 272, 273, 274, 275, 276, 16, 277, 65, 278, 279, 280, 281, 55, 282, 283, 284, 285, 286, 287] (by decide +kernel) (by decide +kernel)
set_option maxRecDepth 20000 in
theorem ggL_law_X10_isConsistent_q2 : GoodIn wsL_law wsX10_isConsistent_r3 := goodIn_r _ [288, 289, 729, 730, 731, 732, 733, 734, 735, 736, 737, 738, 739, 740, 741, 497, 473, 498, 742, 500, 501, 502, 503, 504] (by decide +kernel) (by decide +kernel)
set_option maxRecDepth 20000 in
theorem ggL_law_X10_isConsistent_q3 : GoodIn wsL_law wsX10_isConsistent_r4 := goodIn_r _ [743, 1165, 1166, 1167, 35, 1168, 98, 1169, 958, 1170, 955, 956, 957, 99, 959, 921, 922, 923, 69, 960, 261, 262, 263, 67] (by decide +kernel) (by decide +kernel)
set_option maxRecDepth 20000 in
theorem ggL_law_X10_isConsistent_q4 : GoodIn wsL_law wsX10_isConsistent_r5 := goodIn_r _ [961, 962, 295, 296, 297, 1171, 964, 965, 966, 967, 968, 969, 970, 971, 972, 973, 974, 975, 976, 977, 978, 979, 980, 1172] (by decide +kernel) (by decide +kernel)
set_option maxRecDepth 20000 in
theorem ggL_law_X10_isConsistent_q5 : GoodIn wsL_law wsX10_isConsistent_r6 := goodIn_r _ [996, 997, 998, 1173, 1174, 1175, 39, 1176, 1177, 1034, 1035, 1036, 109, 1037, 1038, 1039, 1040, 1041, 1042, 1178, 1063, 1064, 1065, 108] (by decide +kernel) (by decide +kernel)
set_option maxRecDepth 20000 in
theorem ggL_law_X10_isConsistent_q6 : GoodIn wsL_law wsX10_isConsistent_r7 := goodIn_r _ [105, 104, 106, 107, 1066, 1067, 1068, 1069, 1070, 1071, 1072, 1073, 1074, 1075, 1076, 1077, 1078, 1079, 1098, 1099, 1100, 1101, 62] (by decide +kernel) (by decide +kernel)
set_option maxRecDepth 20000 in
theorem ggL_law_X10_isConsistent : GoodIn wsL_law wsX10_isConsistent := goodIn_ca ((goodIn_ca (goodIn_ca (goodIn_ca (goodIn_ca (goodIn_ca (goodIn_ca (ggL_law_X10_isConsistent_q0) (goodIn_app (ggL_law_X10_isConsistent_q1) (goodIn_app (ggL_law_X10_isConsistent_q2) (goodIn_app (ggL_law_X10_isConsistent_q3) (goodIn_app (ggL_law_X10_isConsistent_q4) (goodIn_app (ggL_law_X10_isConsistent_q5) (ggL_law_X10_isConsistent_q6))))))) (ggL_law_X10_init_q7)) (ggL_law_X10_init_q6)) (ggL_law_X10_init_q9)) (ggL_law_X10_init_q11)) (ggL_law_X10_init_q12))) (goodIn_sub (fun _ h => List.mem_append_left _ (List.mem_append_left _ (List.mem_append_left _ (List.mem_append_left _ (List.mem_append_left _ (List.mem_append_left _ (List.mem_append_left _ (List.mem_append_right _ h)))))))) (by decide +kernel))
set_option maxRecDepth 20000 in
theorem gL_law_X10_isConsistent : GoodIn wsL_law (wsV RL 338 RX10 yX10_isConsistent wsX10_isConsistent) := goodIn_app (goodIn_of _ (by decide +kernel)) ggL_law_X10_isConsistent
set_option maxRecDepth 20000 in
theorem ggL_law_X11_isConsistent_q0 : GoodIn wsL_law ((.code yX11_isConsistent cX11_isConsistent 1 (some .boolean)) :: [.fieldLink RX11 49 "PlanetWorkshopModel" "thrown" "I"]) := goodIn_r _ [1182, 225] (by decide +kernel) (by decide +kernel)
set_option maxRecDepth 20000 in
theorem ggL_law_X11_isConsistent : GoodIn wsL_law wsX11_isConsistent := (goodIn_ca (ggL_law_X11_isConsistent_q0) (ggL_law_X11_init_q1))
set_option maxRecDepth 20000 in
theorem gL_law_X11_isConsistent : GoodIn wsL_law (wsV RL 342 RX11 yX11_isConsistent wsX11_isConsistent) := goodIn_app (goodIn_of _ (by decide +kernel)) ggL_law_X11_isConsistent
set_option maxRecDepth 20000 in
theorem ggL_law_L_renderGear_q0 : GoodIn wsL_law ((.codeWith yL_renderGear cL_renderGear 4 (some .int) [(0, 9, 12, 21)]) :: wsL_renderGear_r1) := goodIn_r _ [1185, 246, 1186, 1187, 1188, 2, 1189, 48, 17, 646, 873, 861, 781, 802, 1190, 647, 648, 649, 650, 188, 189, 651, 261, 262, 16] (by decide +kernel) (by decide +kernel)
set_option maxRecDepth 20000 in
theorem ggL_law_L_renderGear_q1 : GoodIn wsL_law wsL_renderGear_r2 := goodIn_r _ [263, 67, 1191, 1192, 1193, 47, 1194, 1195, 1196, 1197, 1198, 127, 1199, 1200, 1201, 1202, 1203, 132, 1204, 1205, 1206, 1207, 1208, 1209] (by decide +kernel) (by decide +kernel)
set_option maxRecDepth 20000 in
theorem ggL_law_L_renderGear_q2 : GoodIn wsL_law wsL_renderGear_r3 := goodIn_r _ [133, 1210, 1211, 1212, 1213, 1214, 1215, 1216, 1217, 1218, 1219, 1220, 1221, 473, 1222, 1223, 1224, 1225, 1226, 1227, 1228, 1229, 1230, 1231] (by decide +kernel) (by decide +kernel)
set_option maxRecDepth 20000 in
theorem ggL_law_L_renderGear_q3 : GoodIn wsL_law wsL_renderGear_r4 := goodIn_r _ [1232, 1233, 1234, 1235, 1236, 131, 1237, 472, 474, 1238, 1239, 1240, 1241, 1242, 1243, 1244, 1245, 1246, 130, 1247, 1248, 1249, 1250, 1251] (by decide +kernel) (by decide +kernel)
set_option maxRecDepth 20000 in
theorem ggL_law_L_renderGear_q4 : GoodIn wsL_law wsL_renderGear_r5 := goodIn_r _ [1252, 1253, 1254, 1255, 1256, 1257, 46, 1258, 1259, 1260, 1261, 1262, 136, 1263, 1264, 1265, 1266, 1267, 1268, 1269, 1270, 1271, 1272, 1273] (by decide +kernel) (by decide +kernel)
set_option maxRecDepth 20000 in
theorem ggL_law_L_renderGear_q5 : GoodIn wsL_law wsL_renderGear_r6 := goodIn_r _ [1274, 1275, 1276, 1277, 1278, 1279, 1280, 1281, 1282, 1283, 1284, 1285, 1286, 1287, 1288, 1289, 1290, 1291, 1292, 1293, 1294, 1295, 1296, 1297] (by decide +kernel) (by decide +kernel)
set_option maxRecDepth 20000 in
theorem ggL_law_L_renderGear_q6 : GoodIn wsL_law wsL_renderGear_r7 := goodIn_r _ [1298, 1299, 1300, 1301, 1302, 1303, 1304, 1305, 1306, 1307, 1308, 1309, 1310, 1311, 1312, 1313, 1314, 1315, 1316, 1317, 1318, 1319, 1320, 1321] (by decide +kernel) (by decide +kernel)
set_option maxRecDepth 20000 in
theorem ggL_law_L_renderGear_q7 : GoodIn wsL_law wsL_renderGear_r8 := goodIn_r _ [1322, 1323, 1324, 1325, 1326, 134, 135, 137, 138, 139, 140, 141, 1327, 1328, 1329, 1330, 1331, 1332, 1333, 1334, 1335, 1336, 1337, 1338] (by decide +kernel) (by decide +kernel)
set_option maxRecDepth 20000 in
theorem ggL_law_L_renderGear_q8 : GoodIn wsL_law wsL_renderGear_r9 := goodIn_r _ [1339, 1340, 1341, 1342, 1343, 1344, 1345, 1346, 1347, 1348, 1349, 1350, 1351, 1352, 1353, 786, 299, 300, 301, 61, 1354, 1355, 1356, 1357] (by decide +kernel) (by decide +kernel)
set_option maxRecDepth 20000 in
theorem ggL_law_L_renderGear_q9 : GoodIn wsL_law wsL_renderGear_r10 := goodIn_r _ [1358, 1359, 1360, 1361] (by decide +kernel) (by decide +kernel)
set_option maxRecDepth 20000 in
theorem ggL_law_L_renderGear_q10 : GoodIn wsL_law wsJx7c7330 := goodIn_r _ [1701, 1702, 1703, 1704, 1705, 1706] (by decide +kernel) (by decide +kernel)
set_option maxRecDepth 20000 in
theorem ggL_law_L_renderGear_q11 : GoodIn wsL_law wsJx000600 := goodIn_r _ [1707, 1708, 1709, 1710, 1711, 1712] (by decide +kernel) (by decide +kernel)
set_option maxRecDepth 20000 in
theorem ggL_law_L_renderGear : GoodIn wsL_law wsL_renderGear := goodIn_ca (goodIn_ca ((goodIn_ca (goodIn_ca (goodIn_ca (goodIn_ca (goodIn_ca (goodIn_ca (ggL_law_L_renderGear_q0) (goodIn_app (ggL_law_L_renderGear_q1) (goodIn_app (ggL_law_L_renderGear_q2) (goodIn_app (ggL_law_L_renderGear_q3) (goodIn_app (ggL_law_L_renderGear_q4) (goodIn_app (ggL_law_L_renderGear_q5) (goodIn_app (ggL_law_L_renderGear_q6) (goodIn_app (ggL_law_L_renderGear_q7) (goodIn_app (ggL_law_L_renderGear_q8) (ggL_law_L_renderGear_q9)))))))))) (ggL_law_X10_init_q7)) (ggL_law_X10_init_q6)) (ggL_law_L_renderGear_q10)) (ggL_law_X10_init_q14)) (ggL_law_L_renderGear_q11))) (goodIn_sub (fun _ h => List.mem_append_left _ (List.mem_append_left _ (List.mem_append_left _ (List.mem_append_left _ (List.mem_append_left _ (List.mem_append_left _ (List.mem_append_left _ (List.mem_append_right _ h)))))))) (by decide +kernel))) (goodIn_sub (fun _ h => List.mem_append_left _ (List.mem_append_left _ (List.mem_append_left _ (List.mem_append_left _ (List.mem_append_left _ (List.mem_append_left _ (List.mem_append_right _ h))))))) (by decide +kernel))
set_option maxRecDepth 20000 in
theorem gL_law_L_renderGear : GoodIn wsL_law (va_wsS RL 343 yL_renderGear wsL_renderGear) := goodIn_app (goodIn_of _ (by decide +kernel)) ggL_law_L_renderGear
set_option maxRecDepth 20000 in
theorem ggL_law_X11_renderGear_q0 : GoodIn wsL_law ((.code yX11_renderGear cX11_renderGear 2 (some .int)) :: wsX11_renderGear_r1) := goodIn_r _ [1365, 1366, 146, 323, 324, 325, 5, 326, 226, 227, 228, 229, 327, 328, 329, 221, 222, 223, 224, 225, 1367, 1368, 1369, 1370, 1371] (by decide +kernel) (by decide +kernel)
set_option maxRecDepth 20000 in
theorem ggL_law_X11_renderGear_q1 : GoodIn wsL_law wsX11_renderGear_r2 := goodIn_r _ [1372, 1373, 1374, 153, 1375, 1376, 1377, 1378, 354, 355, 356, 357, 230, 231, 232, 233] (by decide +kernel) (by decide +kernel)
set_option maxRecDepth 20000 in
theorem ggL_law_X11_renderGear : GoodIn wsL_law wsX11_renderGear := goodIn_ca (goodIn_ca ((goodIn_ca (goodIn_ca (ggL_law_X11_renderGear_q0) (ggL_law_X11_renderGear_q1)) (ggL_law_X11_init_q1))) (goodIn_sub (fun _ h => List.mem_append_left _ (List.mem_append_left _ (List.mem_append_left _ (List.mem_append_left _ (List.mem_append_left _ (List.mem_append_left _ (List.mem_append_left _ (List.mem_append_right _ h)))))))) (by decide +kernel))) (goodIn_sub (fun _ h => List.mem_append_left _ (List.mem_append_right _ h)) (by decide +kernel))
set_option maxRecDepth 20000 in
theorem gL_law_X11_renderGear : GoodIn wsL_law (wsV RL 345 RX11 yX11_renderGear wsX11_renderGear) := goodIn_app (goodIn_of _ (by decide +kernel)) ggL_law_X11_renderGear
set_option maxRecDepth 20000 in
theorem ggL_law_L_renderTrain_q0 : GoodIn wsL_law ((.codeWith yL_renderTrain cL_renderTrain 4 (some .int) [(0, 9, 12, 21)]) :: wsL_renderTrain_r1) := goodIn_r _ [1381, 246, 1382, 1383, 1384, 2, 1385, 28, 17, 48, 634, 647, 648, 649, 650, 188, 189, 651, 261, 262, 16, 263, 67, 685, 265] (by decide +kernel) (by decide +kernel)
set_option maxRecDepth 20000 in
theorem ggL_law_L_renderTrain_q1 : GoodIn wsL_law wsL_renderTrain_r2 := goodIn_r _ [266, 27, 267, 85, 87, 268, 86, 269, 270, 271, 272, 273, 274, 275, 276, 277, 65, 278, 279, 280, 281, 55, 282, 283] (by decide +kernel) (by decide +kernel)
set_option maxRecDepth 20000 in
theorem ggL_law_L_renderTrain_q2 : GoodIn wsL_law wsL_renderTrain_r3 := goodIn_r _ [284, 285, 286, 287, 288, 289, 1191, 1192, 1193, 47, 1194, 1195, 1196, 1197, 1198, 127, 1199, 1200, 1201, 1202, 1203, 132, 1204, 1205] (by decide +kernel) (by decide +kernel)
set_option maxRecDepth 20000 in
theorem ggL_law_L_renderTrain_q3 : GoodIn wsL_law wsL_renderTrain_r4 := goodIn_r _ [1206, 1207, 1208, 1209, 133, 1210, 1211, 1212, 1213, 1214, 1215, 1216, 1217, 1218, 1219, 1220, 1221, 473, 1222, 1223, 1224, 1225, 1226, 1227] (by decide +kernel) (by decide +kernel)
set_option maxRecDepth 20000 in
theorem ggL_law_L_renderTrain_q4 : GoodIn wsL_law wsL_renderTrain_r5 := goodIn_r _ [1228, 1229, 1230, 1231, 1232, 1233, 1234, 1235, 1236, 131, 1237, 472, 474, 1238, 1239, 1240, 1241, 1242, 1243, 1244, 1245, 1246, 130, 1247] (by decide +kernel) (by decide +kernel)
set_option maxRecDepth 20000 in
theorem ggL_law_L_renderTrain_q5 : GoodIn wsL_law wsL_renderTrain_r6 := goodIn_r _ [1248, 1249, 1250, 1251, 1252, 1253, 1254, 1255, 1256, 1257, 46, 1258, 1259, 1260, 1261, 1262, 136, 1263, 1264, 697, 295, 296, 297, 1354] (by decide +kernel) (by decide +kernel)
set_option maxRecDepth 20000 in
theorem ggL_law_L_renderTrain_q6 : GoodIn wsL_law wsL_renderTrain_r7 := goodIn_r _ [1355, 1356, 1357, 1358, 1359, 1360, 1361, 1311, 1312, 1313, 1314, 1315, 1316, 1317, 1318, 1319, 1320, 1321, 1322, 1323, 1324, 1325, 1326, 134] (by decide +kernel) (by decide +kernel)
set_option maxRecDepth 20000 in
theorem ggL_law_L_renderTrain_q7 : GoodIn wsL_law wsL_renderTrain_r8 := goodIn_r _ [135, 137, 138, 139, 140, 141, 1327, 1328, 1329, 1330, 1331, 1332, 1333, 1334, 1335, 1289, 1290, 1291, 1336, 1337, 1294, 1338, 1296, 1339] (by decide +kernel) (by decide +kernel)
set_option maxRecDepth 20000 in
theorem ggL_law_L_renderTrain_q8 : GoodIn wsL_law wsL_renderTrain_r9 := goodIn_r _ [1340, 1299, 1341, 1306, 1307, 1308, 1285, 1309, 1310, 1342, 1343, 1344, 1345, 1346, 1347, 1348, 1349, 1350, 1351, 1352, 1353, 1265, 1266, 1267] (by decide +kernel) (by decide +kernel)
set_option maxRecDepth 20000 in
theorem ggL_law_L_renderTrain_q9 : GoodIn wsL_law wsL_renderTrain_r10 := goodIn_r _ [1268, 1269, 1270, 1271, 1272, 1273, 1274, 1275, 1276, 1277, 1278, 1279, 1280, 1281, 1282, 1283, 1284, 1286, 1287, 1288, 1292, 1293, 1295, 1297] (by decide +kernel) (by decide +kernel)
set_option maxRecDepth 20000 in
theorem ggL_law_L_renderTrain_q10 : GoodIn wsL_law wsL_renderTrain_r11 := goodIn_r _ [1298, 1300, 1301, 1302, 1303, 1304, 1305, 1386, 615, 616, 617, 69, 66] (by decide +kernel) (by decide +kernel)
set_option maxRecDepth 20000 in
theorem ggL_law_L_renderTrain : GoodIn wsL_law wsL_renderTrain := goodIn_ca (goodIn_ca ((goodIn_ca (goodIn_ca (goodIn_ca (goodIn_ca (goodIn_ca (goodIn_ca (goodIn_ca (ggL_law_L_renderTrain_q0) (goodIn_app (ggL_law_L_renderTrain_q1) (goodIn_app (ggL_law_L_renderTrain_q2) (goodIn_app (ggL_law_L_renderTrain_q3) (goodIn_app (ggL_law_L_renderTrain_q4) (goodIn_app (ggL_law_L_renderTrain_q5) (goodIn_app (ggL_law_L_renderTrain_q6) (goodIn_app (ggL_law_L_renderTrain_q7) (goodIn_app (ggL_law_L_renderTrain_q8) (goodIn_app (ggL_law_L_renderTrain_q9) (ggL_law_L_renderTrain_q10))))))))))) (ggL_law_X10_init_q7)) (ggL_law_X10_init_q6)) (ggL_law_X10_init_q9)) (ggL_law_L_renderGear_q10)) (ggL_law_X10_init_q14)) (ggL_law_L_renderGear_q11))) (goodIn_sub (fun _ h => List.mem_append_left _ (List.mem_append_left _ (List.mem_append_left _ (List.mem_append_left _ (List.mem_append_left _ (List.mem_append_left _ (List.mem_append_left _ (List.mem_append_right _ h)))))))) (by decide +kernel))) (goodIn_sub (fun _ h => List.mem_append_left _ (List.mem_append_left _ (List.mem_append_left _ (List.mem_append_left _ (List.mem_append_left _ (List.mem_append_left _ (List.mem_append_right _ h))))))) (by decide +kernel))
set_option maxRecDepth 20000 in
theorem gL_law_L_renderTrain : GoodIn wsL_law (va_wsS RL 346 yL_renderTrain wsL_renderTrain) := goodIn_app (goodIn_of _ (by decide +kernel)) ggL_law_L_renderTrain
set_option maxRecDepth 20000 in
theorem ggL_law_X11_renderTrain_q0 : GoodIn wsL_law ((.code yX11_renderTrain cX11_renderTrain 3 (some .int)) :: wsX11_renderTrain_r1) := goodIn_r _ [1390, 1366, 155, 323, 324, 325, 5, 326, 226, 227, 228, 229, 146, 327, 328, 329, 221, 222, 223, 224, 225, 342, 343, 344, 345] (by decide +kernel) (by decide +kernel)
set_option maxRecDepth 20000 in
theorem ggL_law_X11_renderTrain_q1 : GoodIn wsL_law wsX11_renderTrain_r2 := goodIn_r _ [154, 317, 346, 347, 348, 349, 330, 331, 332, 333, 1375, 1376, 1377, 1378, 1371, 1372, 1373, 1374, 153, 1367, 1368, 1369, 1370, 626] (by decide +kernel) (by decide +kernel)
set_option maxRecDepth 20000 in
theorem ggL_law_X11_renderTrain_q2 : GoodIn wsL_law wsX11_renderTrain_r3 := goodIn_r _ [627, 628, 629, 230, 231, 232, 233] (by decide +kernel) (by decide +kernel)
set_option maxRecDepth 20000 in
theorem ggL_law_X11_renderTrain : GoodIn wsL_law wsX11_renderTrain := goodIn_ca (goodIn_ca ((goodIn_ca (goodIn_ca (ggL_law_X11_renderTrain_q0) (goodIn_app (ggL_law_X11_renderTrain_q1) (ggL_law_X11_renderTrain_q2))) (ggL_law_X11_init_q1))) (goodIn_sub (fun _ h => List.mem_append_left _ (List.mem_append_left _ (List.mem_append_left _ (List.mem_append_left _ (List.mem_append_left _ (List.mem_append_left _ (List.mem_append_left _ (List.mem_append_right _ h)))))))) (by decide +kernel))) (goodIn_sub (fun _ h => List.mem_append_left _ (List.mem_append_right _ h)) (by decide +kernel))
set_option maxRecDepth 20000 in
theorem gL_law_X11_renderTrain : GoodIn wsL_law (wsV RL 348 RX11 yX11_renderTrain wsX11_renderTrain) := goodIn_app (goodIn_of _ (by decide +kernel)) ggL_law_X11_renderTrain
set_option maxRecDepth 20000 in
theorem ggL_law_L_outputAt_q0 : GoodIn wsL_law ((.codeWith yL_outputAt cL_outputAt 4 (some .int) [(0, 9, 12, 21)]) :: wsL_outputAt_r1) := goodIn_r _ [1393, 246, 1394, 1395, 1396, 2, 1397, 188, 189, 48, 1354, 1355, 1356, 47, 1357, 1358, 1359, 1197, 1360, 127, 1361, 1203, 1398, 1399, 1400] (by decide +kernel) (by decide +kernel)
set_option maxRecDepth 20000 in
theorem ggL_law_L_outputAt_q1 : GoodIn wsL_law wsL_outputAt_r2 := goodIn_r _ [1401, 1402, 1403, 1404, 1405, 133, 132, 1406, 472, 473, 474, 1407, 1349, 1294, 1350, 1296, 1351, 1352, 1299, 1353, 1408, 1409, 136, 1410] (by decide +kernel) (by decide +kernel)
set_option maxRecDepth 20000 in
theorem ggL_law_L_outputAt_q2 : GoodIn wsL_law wsL_outputAt_r3 := goodIn_r _ [1285, 1309, 1310, 1289, 1290, 1291] (by decide +kernel) (by decide +kernel)
set_option maxRecDepth 20000 in
theorem ggL_law_L_outputAt : GoodIn wsL_law wsL_outputAt := goodIn_ca (goodIn_ca ((goodIn_ca (goodIn_ca (goodIn_ca (ggL_law_L_outputAt_q0) (goodIn_app (ggL_law_L_outputAt_q1) (ggL_law_L_outputAt_q2))) (ggL_law_X10_init_q7)) (ggL_law_X10_init_q14))) (goodIn_sub (fun _ h => List.mem_append_left _ (List.mem_append_left _ (List.mem_append_left _ (List.mem_append_left _ (List.mem_append_left _ (List.mem_append_left _ (List.mem_append_left _ (List.mem_append_right _ h)))))))) (by decide +kernel))) (goodIn_sub (fun _ h => List.mem_append_left _ (List.mem_append_left _ (List.mem_append_left _ (List.mem_append_left _ (List.mem_append_left _ (List.mem_append_left _ (List.mem_append_right _ h))))))) (by decide +kernel))
set_option maxRecDepth 20000 in
theorem gL_law_L_outputAt : GoodIn wsL_law (va_wsS RL 349 yL_outputAt wsL_outputAt) := goodIn_app (goodIn_of _ (by decide +kernel)) ggL_law_L_outputAt
set_option maxRecDepth 20000 in
theorem ggL_law_X11_outputAt_q0 : GoodIn wsL_law ((.code yX11_outputAt cX11_outputAt 2 (some .char)) :: [.fieldLink RX11 215 "PlanetWorkshopModel" "outputLength" "I", .fieldLink RX11 49 "PlanetWorkshopModel" "thrown" "I", .fieldLink RX11 33 "PlanetWorkshopModel" "letters" "[C", .methodLink RX11 65 yX11_in, .static yX11_in, .initialized RX11, .code yX11_in cX11_in 3 (some .boolean)]) := goodIn_r _ [1414, 1366, 225, 153, 327, 328, 5, 329] (by decide +kernel) (by decide +kernel)
set_option maxRecDepth 20000 in
theorem ggL_law_X11_outputAt : GoodIn wsL_law wsX11_outputAt := goodIn_ca ((goodIn_ca (ggL_law_X11_outputAt_q0) (ggL_law_X11_init_q1))) (goodIn_sub (fun _ h => List.mem_append_left _ (List.mem_append_left _ (List.mem_append_left _ (List.mem_append_left _ (List.mem_append_left _ (List.mem_append_left _ (List.mem_append_left _ (List.mem_append_right _ h)))))))) (by decide +kernel))
set_option maxRecDepth 20000 in
theorem gL_law_X11_outputAt : GoodIn wsL_law (wsV RL 351 RX11 yX11_outputAt wsX11_outputAt) := goodIn_app (goodIn_of _ (by decide +kernel)) ggL_law_X11_outputAt
set_option maxRecDepth 20000 in
theorem ggL_law_L_type_q0 : GoodIn wsL_law ((.codeWith yL_type cL_type 4 (some .int) [(0, 9, 12, 13), (0, 9, 15, 15)]) :: [.classLink RL 13 "java/lang/IllegalArgumentException", .classLink RL 15 "java/lang/IllegalStateException", .methodLink RL 157 yX10_type, .instanceMethod yX10_type, .selects RX10 yX10_type yX10_type, .initialized RX10, .code yX10_type cX10_type 2 (some .int), .classLink RX10 231 "java/lang/IllegalArgumentException", .initialized "java/lang/IllegalArgumentException", .classLink RX10 320 "java/lang/IllegalStateException", .initialized "java/lang/IllegalStateException", .fieldLink RX10 68 "PlanetWorkshop" "script" "LPlanetWorkshop$Script;", .fieldLink RX10 318 "PlanetWorkshop$Script" "length" "I", .methodLink RX10 323 yX6_add, .instanceMethod yX6_add, .selects RX6 yX6_add yX6_add, .initialized RX6, .code yX6_add cX6_add 2 none, .fieldLink RX6 15 "PlanetWorkshop$Script" "length" "I", .fieldLink RX6 9 "PlanetWorkshop$Script" "text" "[C"]) := goodIn_r _ [1417, 162, 163, 1418, 1419, 1420, 2, 1421, 190, 191, 192, 193, 44, 1422, 1423, 1424, 1425, 43, 1426, 114, 113] (by decide +kernel) (by decide +kernel)
set_option maxRecDepth 20000 in
theorem ggL_law_L_type : GoodIn wsL_law wsL_type := goodIn_ca (goodIn_ca (goodIn_ca ((goodIn_ca (goodIn_ca (ggL_law_L_type_q0) (ggL_law_X10_init_q7)) (ggL_law_X10_init_q13))) (goodIn_sub (fun _ h => List.mem_append_left _ (List.mem_append_left _ (List.mem_append_left _ (List.mem_append_left _ (List.mem_append_left _ (List.mem_append_left _ (List.mem_append_left _ (List.mem_append_right _ h)))))))) (by decide +kernel))) (goodIn_sub (fun _ h => List.mem_append_left _ (List.mem_append_left _ (List.mem_append_left _ (List.mem_append_left _ (List.mem_append_left _ (List.mem_append_right _ h)))))) (by decide +kernel))) (goodIn_sub (fun _ h => List.mem_append_left _ (List.mem_append_left _ (List.mem_append_left _ (List.mem_append_left _ (List.mem_append_right _ h))))) (by decide +kernel))
set_option maxRecDepth 20000 in
theorem gL_law_L_type : GoodIn wsL_law (va_wsS RL 352 yL_type wsL_type) := goodIn_app (goodIn_of _ (by decide +kernel)) ggL_law_L_type
set_option maxRecDepth 20000 in
theorem ggL_law_X11_type_q0 : GoodIn wsL_law ((.code yX11_type cX11_type 2 (some .int)) :: [.fieldLink RX11 228 "PlanetWorkshopModel" "typed" "I", .fieldLink RX11 22 "PlanetWorkshopModel" "buffer" "[C", .methodLink RX11 65 yX11_in, .static yX11_in, .initialized RX11, .code yX11_in cX11_in 3 (some .boolean), .methodLink RX11 95 yX11_fails, .instanceMethod yX11_fails, .selects RX11 yX11_fails yX11_fails, .code yX11_fails cX11_fails 2 (some .int), .fieldLink RX11 49 "PlanetWorkshopModel" "thrown" "I", .methodLink RX11 98 yX11_done, .instanceMethod yX11_done, .selects RX11 yX11_done yX11_done, .code yX11_done cX11_done 2 (some .int)]) := goodIn_r _ [1430, 1431, 150, 327, 328, 5, 329, 221, 222, 223, 224, 225, 230, 231, 232, 233] (by decide +kernel) (by decide +kernel)
set_option maxRecDepth 20000 in
theorem ggL_law_X11_type : GoodIn wsL_law wsX11_type := goodIn_ca ((goodIn_ca (ggL_law_X11_type_q0) (ggL_law_X11_init_q1))) (goodIn_sub (fun _ h => List.mem_append_left _ (List.mem_append_left _ (List.mem_append_left _ (List.mem_append_left _ (List.mem_append_left _ (List.mem_append_left _ (List.mem_append_left _ (List.mem_append_right _ h)))))))) (by decide +kernel))
set_option maxRecDepth 20000 in
theorem gL_law_X11_type : GoodIn wsL_law (wsV RL 355 RX11 yX11_type wsX11_type) := goodIn_app (goodIn_of _ (by decide +kernel)) ggL_law_X11_type
set_option maxRecDepth 20000 in
theorem ggL_law_L_runScript_q0 : GoodIn wsL_law ((.codeWith yL_runScript cL_runScript 3 (some .int) [(0, 8, 11, 13), (0, 8, 14, 15)]) :: wsL_runScript_r1) := goodIn_r _ [1434, 162, 163, 1435, 1436, 1437, 2, 1438, 190, 191, 192, 193, 44, 49, 18, 17, 1439, 50, 24, 1440, 1441, 1442, 43, 1443, 115] (by decide +kernel) (by decide +kernel)
set_option maxRecDepth 20000 in
theorem ggL_law_L_runScript_q1 : GoodIn wsL_law wsL_runScript_r2 := goodIn_r _ [120, 114, 1444, 1445, 1446, 1447, 117, 119, 1448, 118, 121, 1449, 1450, 1451, 1452, 1453, 1454, 1221, 473, 1222, 1455, 1456, 1457, 1458] (by decide +kernel) (by decide +kernel)
set_option maxRecDepth 20000 in
theorem ggL_law_L_runScript_q2 : GoodIn wsL_law wsL_runScript_r3 := goodIn_r _ [113, 1459, 1460, 1461, 1294, 1462, 1463, 1464, 1465, 1466, 1467, 1468, 1469, 1470, 1471, 1472, 1473, 1474, 1475, 1476, 1477, 1478, 1479, 1249] (by decide +kernel) (by decide +kernel)
set_option maxRecDepth 20000 in
theorem ggL_law_L_runScript_q3 : GoodIn wsL_law wsL_runScript_r4 := goodIn_r _ [1480, 1481, 1349, 1350, 1296, 1351, 1352, 1299, 1353, 1482, 1483, 136, 1484, 1345, 1346, 1347, 1289, 1290, 1291, 1348, 1485, 1409, 1410, 1285] (by decide +kernel) (by decide +kernel)
set_option maxRecDepth 20000 in
theorem ggL_law_L_runScript_q4 : GoodIn wsL_law wsL_runScript_r5 := goodIn_r _ [1309, 1310, 1486, 1487, 1488, 1489, 1490, 1491, 1492, 1493, 1494, 1495, 1496, 1497, 1498, 1499, 1500, 1501, 168, 169, 170, 16, 171, 55] (by decide +kernel) (by decide +kernel)
set_option maxRecDepth 20000 in
theorem ggL_law_L_runScript_q5 : GoodIn wsL_law wsL_runScript_r6 := goodIn_r _ [56, 58, 59, 60, 61, 62, 63, 65, 66, 67, 68, 69, 70, 71, 72, 73, 1502, 1503, 1504, 1505, 1506, 1507, 1508, 1509] (by decide +kernel) (by decide +kernel)
set_option maxRecDepth 20000 in
theorem ggL_law_L_runScript_q6 : GoodIn wsL_law wsL_runScript_r7 := goodIn_r _ [32, 1510, 1511, 1512, 1513, 2, 1515, 1516, 172, 173, 174, 31, 175, 92, 176, 177, 178, 179, 180, 252, 253, 254, 255, 93] (by decide +kernel) (by decide +kernel)
set_option maxRecDepth 20000 in
theorem ggL_law_L_runScript_q7 : GoodIn wsL_law wsL_runScript_r8 := goodIn_r _ [256, 257, 258, 259, 260, 261, 262, 263, 264, 265, 266, 27, 267, 85, 87, 268, 86, 269, 270, 271, 272, 273, 274, 275] (by decide +kernel) (by decide +kernel)
set_option maxRecDepth 20000 in
theorem ggL_law_L_runScript_q8 : GoodIn wsL_law wsL_runScript_r9 := goodIn_r _ [276, 277, 278, 279, 280, 281, 282, 283, 284, 285, 286, 287, 288, 289, 290, 291, 292, 293, 294, 295, 296, 297, 298, 299] (by decide +kernel) (by decide +kernel)
set_option maxRecDepth 20000 in
theorem ggL_law_L_runScript_q9 : GoodIn wsL_law wsL_runScript_r10 := goodIn_r _ [300, 301, 302, 303, 304, 305, 306, 307, 308, 381, 382, 383, 384, 400, 401, 402, 403, 404, 405, 406, 407, 408, 409, 425] (by decide +kernel) (by decide +kernel)
set_option maxRecDepth 20000 in
theorem ggL_law_L_runScript_q10 : GoodIn wsL_law wsL_runScript_r11 := goodIn_r _ [426, 427, 428, 429, 430, 431, 447, 448, 449, 450, 451, 467, 468, 469, 470, 471, 472, 474, 475, 476, 477, 478, 479, 480] (by decide +kernel) (by decide +kernel)
set_option maxRecDepth 20000 in
theorem ggL_law_L_runScript_q11 : GoodIn wsL_law wsL_runScript_r12 := goodIn_r _ [481, 482, 483, 484, 485, 486, 487, 488, 489, 490, 491, 492, 493, 494, 495, 496, 497, 498, 499, 500, 501, 502, 503, 504] (by decide +kernel) (by decide +kernel)
set_option maxRecDepth 20000 in
theorem ggL_law_L_runScript_q12 : GoodIn wsL_law wsL_runScript_r13 := goodIn_r _ [505, 506, 507, 508, 509, 548, 549, 550, 551, 552, 568, 569, 570, 571, 572, 588, 589, 590, 591, 608, 609, 610, 611, 612] (by decide +kernel) (by decide +kernel)
set_option maxRecDepth 20000 in
theorem ggL_law_L_runScript_q13 : GoodIn wsL_law wsL_runScript_r14 := goodIn_r _ [613, 614, 615, 616, 617, 198, 199, 200, 23, 201, 81, 80, 79, 202] (by decide +kernel) (by decide +kernel)
set_option maxRecDepth 20000 in
theorem ggL_law_L_runScript_q14 : GoodIn wsL_law wsJ00 := goodIn_r _ [1713, 1714, 1715, 1716] (by decide +kernel) (by decide +kernel)
set_option maxRecDepth 20000 in
theorem ggL_law_L_runScript : GoodIn wsL_law wsL_runScript := goodIn_ca (goodIn_ca (goodIn_ca ((goodIn_ca (goodIn_ca (goodIn_ca (goodIn_ca (goodIn_ca (goodIn_ca (goodIn_ca (goodIn_ca (ggL_law_L_runScript_q0) (goodIn_app (ggL_law_L_runScript_q1) (goodIn_app (ggL_law_L_runScript_q2) (goodIn_app (ggL_law_L_runScript_q3) (goodIn_app (ggL_law_L_runScript_q4) (goodIn_app (ggL_law_L_runScript_q5) (goodIn_app (ggL_law_L_runScript_q6) (goodIn_app (ggL_law_L_runScript_q7) (goodIn_app (ggL_law_L_runScript_q8) (goodIn_app (ggL_law_L_runScript_q9) (goodIn_app (ggL_law_L_runScript_q10) (goodIn_app (ggL_law_L_runScript_q11) (goodIn_app (ggL_law_L_runScript_q12) (ggL_law_L_runScript_q13)))))))))))))) (ggL_law_X10_init_q7)) (ggL_law_X10_init_q13)) (ggL_law_L_runScript_q14)) (ggL_law_X10_init_q6)) (ggL_law_X10_init_q10)) (ggL_law_X10_init_q9)) (ggL_law_X10_init_q8))) (goodIn_sub (fun _ h => List.mem_append_left _ (List.mem_append_left _ (List.mem_append_left _ (List.mem_append_left _ (List.mem_append_left _ (List.mem_append_left _ (List.mem_append_left _ (List.mem_append_right _ h)))))))) (by decide +kernel))) (goodIn_sub (fun _ h => List.mem_append_left _ (List.mem_append_left _ (List.mem_append_left _ (List.mem_append_left _ (List.mem_append_left _ (List.mem_append_right _ h)))))) (by decide +kernel))) (goodIn_sub (fun _ h => List.mem_append_left _ (List.mem_append_left _ (List.mem_append_left _ (List.mem_append_left _ (List.mem_append_right _ h))))) (by decide +kernel))
set_option maxRecDepth 20000 in
theorem gL_law_L_runScript : GoodIn wsL_law (va_wsS RL 356 yL_runScript wsL_runScript) := goodIn_app (goodIn_of _ (by decide +kernel)) ggL_law_L_runScript
set_option maxRecDepth 20000 in
theorem ggL_law_X11_runScript_q0 : GoodIn wsL_law ((.code yX11_runScript cX11_runScript 5 (some .int)) :: wsX11_runScript_r1) := goodIn_r _ [1520, 1521, 1522, 1431, 151, 225, 152, 1523, 1524, 1525, 5, 1526, 156, 1527, 1528, 1529, 1530, 150, 1531, 1532, 1533, 1534, 1535, 1536, 1537] (by decide +kernel) (by decide +kernel)
set_option maxRecDepth 20000 in
theorem ggL_law_X11_runScript_q1 : GoodIn wsL_law wsX11_runScript_r2 := goodIn_r _ [1538, 1539, 1540, 1541, 1542, 1543, 1544, 1545, 1546, 327, 328, 329, 1547, 1548, 1549, 1550, 1551, 1552, 1553, 1554, 1555, 1556, 1557, 1558] (by decide +kernel) (by decide +kernel)
set_option maxRecDepth 20000 in
theorem ggL_law_X11_runScript_q2 : GoodIn wsL_law wsX11_runScript_r3 := goodIn_r _ [221, 222, 223, 224, 207, 208, 209, 210, 146, 147, 211, 212, 213, 1559, 1560, 1561, 1562, 214, 215, 216, 217, 218, 219, 220] (by decide +kernel) (by decide +kernel)
set_option maxRecDepth 20000 in
theorem ggL_law_X11_runScript_q3 : GoodIn wsL_law wsX11_runScript_r4 := goodIn_r _ [226, 227, 228, 229, 230, 231, 232, 233, 313, 314, 315, 316, 317, 318, 155, 154, 319, 320, 321, 322, 323, 324, 325, 326] (by decide +kernel) (by decide +kernel)
set_option maxRecDepth 20000 in
theorem ggL_law_X11_runScript_q4 : GoodIn wsL_law wsX11_runScript_r5 := goodIn_r _ [330, 331, 332, 333, 334, 335, 336, 337, 338, 339, 340, 341, 342, 343, 344, 345, 346, 347, 348, 349, 350, 351, 352, 353] (by decide +kernel) (by decide +kernel)
set_option maxRecDepth 20000 in
theorem ggL_law_X11_runScript_q5 : GoodIn wsL_law wsX11_runScript_r6 := goodIn_r _ [354, 355, 356, 357, 358, 359, 360, 361, 389, 390, 391, 392, 414, 415, 416, 417, 436, 437, 438, 439, 456, 457, 458, 459] (by decide +kernel) (by decide +kernel)
set_option maxRecDepth 20000 in
theorem ggL_law_X11_runScript_q6 : GoodIn wsL_law wsX11_runScript_r7 := goodIn_r _ [514, 515, 516, 517, 518, 519, 520, 521, 522, 523, 524, 525, 526, 527, 528, 529, 530, 531, 532, 533, 534, 535, 536, 537] (by decide +kernel) (by decide +kernel)
set_option maxRecDepth 20000 in
theorem ggL_law_X11_runScript_q7 : GoodIn wsL_law wsX11_runScript_r8 := goodIn_r _ [538, 539, 540, 557, 558, 559, 560, 577, 578, 579, 580, 596, 597, 598, 599, 600, 622, 623, 624, 625, 626, 627, 628, 629] (by decide +kernel) (by decide +kernel)
set_option maxRecDepth 20000 in
theorem ggL_law_X11_runScript_q8 : GoodIn wsL_law wsX11_runScript_r9 := goodIn_r _ [234, 235, 236, 237, 238, 148] (by decide +kernel) (by decide +kernel)
set_option maxRecDepth 20000 in
theorem ggL_law_X11_runScript : GoodIn wsL_law wsX11_runScript := goodIn_ca (goodIn_ca ((goodIn_ca (goodIn_ca (ggL_law_X11_runScript_q0) (goodIn_app (ggL_law_X11_runScript_q1) (goodIn_app (ggL_law_X11_runScript_q2) (goodIn_app (ggL_law_X11_runScript_q3) (goodIn_app (ggL_law_X11_runScript_q4) (goodIn_app (ggL_law_X11_runScript_q5) (goodIn_app (ggL_law_X11_runScript_q6) (goodIn_app (ggL_law_X11_runScript_q7) (ggL_law_X11_runScript_q8))))))))) (ggL_law_X11_init_q1))) (goodIn_sub (fun _ h => List.mem_append_left _ (List.mem_append_left _ (List.mem_append_left _ (List.mem_append_left _ (List.mem_append_left _ (List.mem_append_left _ (List.mem_append_left _ (List.mem_append_right _ h)))))))) (by decide +kernel))) (goodIn_sub (fun _ h => List.mem_append_left _ (List.mem_append_right _ h)) (by decide +kernel))
set_option maxRecDepth 20000 in
theorem gL_law_X11_runScript : GoodIn wsL_law (wsV RL 359 RX11 yX11_runScript wsX11_runScript) := goodIn_app (goodIn_of _ (by decide +kernel)) ggL_law_X11_runScript
set_option maxRecDepth 20000 in
theorem ggL_law_L_errorPosition_q0 : GoodIn wsL_law ((.codeWith yL_errorPosition cL_errorPosition 3 (some .int) [(0, 8, 11, 31)]) :: [.classLink RL 31 "java/util/NoSuchElementException", .methodLink RL 165 yX10_errorPosition, .instanceMethod yX10_errorPosition, .selects RX10 yX10_errorPosition yX10_errorPosition, .initialized RX10, .code yX10_errorPosition cX10_errorPosition 1 (some .int), .classLink RX10 144 "java/util/NoSuchElementException", .initialized "java/util/NoSuchElementException", .fieldLink RX10 79 "PlanetWorkshop" "wrongPosition" "I"]) := goodIn_r _ [1565, 376, 1566, 1567, 1568, 2, 1569, 196, 197, 49] (by decide +kernel) (by decide +kernel)
set_option maxRecDepth 20000 in
theorem ggL_law_L_errorPosition : GoodIn wsL_law wsL_errorPosition := goodIn_ca (goodIn_ca ((goodIn_ca (ggL_law_L_errorPosition_q0) (ggL_law_X10_init_q7))) (goodIn_sub (fun _ h => List.mem_append_left _ (List.mem_append_left _ (List.mem_append_left _ (List.mem_append_left _ (List.mem_append_left _ (List.mem_append_left _ (List.mem_append_left _ (List.mem_append_right _ h)))))))) (by decide +kernel))) (goodIn_sub (fun _ h => List.mem_append_left _ (List.mem_append_left _ (List.mem_append_right _ h))) (by decide +kernel))
set_option maxRecDepth 20000 in
theorem gL_law_L_errorPosition : GoodIn wsL_law (va_wsS RL 360 yL_errorPosition wsL_errorPosition) := goodIn_app (goodIn_of _ (by decide +kernel)) ggL_law_L_errorPosition
set_option maxRecDepth 20000 in
theorem ggL_law_X11_errorPosition_q0 : GoodIn wsL_law ((.code yX11_errorPosition cX11_errorPosition 1 (some .int)) :: [.fieldLink RX11 26 "PlanetWorkshopModel" "errorAt" "I", .methodLink RX11 95 yX11_fails, .instanceMethod yX11_fails, .selects RX11 yX11_fails yX11_fails, .initialized RX11, .code yX11_fails cX11_fails 2 (some .int), .fieldLink RX11 49 "PlanetWorkshopModel" "thrown" "I", .methodLink RX11 98 yX11_done, .instanceMethod yX11_done, .selects RX11 yX11_done yX11_done, .code yX11_done cX11_done 2 (some .int)]) := goodIn_r _ [1573, 151, 221, 222, 223, 5, 224, 225, 230, 231, 232, 233] (by decide +kernel) (by decide +kernel)
set_option maxRecDepth 20000 in
theorem ggL_law_X11_errorPosition : GoodIn wsL_law wsX11_errorPosition := (goodIn_ca (ggL_law_X11_errorPosition_q0) (ggL_law_X11_init_q1))
set_option maxRecDepth 20000 in
theorem gL_law_X11_errorPosition : GoodIn wsL_law (wsV RL 362 RX11 yX11_errorPosition wsX11_errorPosition) := goodIn_app (goodIn_of _ (by decide +kernel)) ggL_law_X11_errorPosition
set_option maxRecDepth 20000 in
theorem ggL_law_L_failedCommand_q0 : GoodIn wsL_law ((.codeWith yL_failedCommand cL_failedCommand 3 (some .int) [(0, 8, 11, 31)]) :: [.classLink RL 31 "java/util/NoSuchElementException", .methodLink RL 168 yX10_failedCommand, .instanceMethod yX10_failedCommand, .selects RX10 yX10_failedCommand yX10_failedCommand, .initialized RX10, .code yX10_failedCommand cX10_failedCommand 1 (some .int), .classLink RX10 144 "java/util/NoSuchElementException", .initialized "java/util/NoSuchElementException", .fieldLink RX10 83 "PlanetWorkshop" "wrongCommand" "I"]) := goodIn_r _ [1576, 376, 1577, 1578, 1579, 2, 1580, 196, 197, 50] (by decide +kernel) (by decide +kernel)
set_option maxRecDepth 20000 in
theorem ggL_law_L_failedCommand : GoodIn wsL_law wsL_failedCommand := goodIn_ca (goodIn_ca ((goodIn_ca (ggL_law_L_failedCommand_q0) (ggL_law_X10_init_q7))) (goodIn_sub (fun _ h => List.mem_append_left _ (List.mem_append_left _ (List.mem_append_left _ (List.mem_append_left _ (List.mem_append_left _ (List.mem_append_left _ (List.mem_append_left _ (List.mem_append_right _ h)))))))) (by decide +kernel))) (goodIn_sub (fun _ h => List.mem_append_left _ (List.mem_append_left _ (List.mem_append_right _ h))) (by decide +kernel))
set_option maxRecDepth 20000 in
theorem gL_law_L_failedCommand : GoodIn wsL_law (va_wsS RL 363 yL_failedCommand wsL_failedCommand) := goodIn_app (goodIn_of _ (by decide +kernel)) ggL_law_L_failedCommand
set_option maxRecDepth 20000 in
theorem ggL_law_X11_failedCommand_q0 : GoodIn wsL_law ((.code yX11_failedCommand cX11_failedCommand 1 (some .int)) :: [.fieldLink RX11 30 "PlanetWorkshopModel" "failedAt" "I", .methodLink RX11 95 yX11_fails, .instanceMethod yX11_fails, .selects RX11 yX11_fails yX11_fails, .initialized RX11, .code yX11_fails cX11_fails 2 (some .int), .fieldLink RX11 49 "PlanetWorkshopModel" "thrown" "I", .methodLink RX11 98 yX11_done, .instanceMethod yX11_done, .selects RX11 yX11_done yX11_done, .code yX11_done cX11_done 2 (some .int)]) := goodIn_r _ [1584, 152, 221, 222, 223, 5, 224, 225, 230, 231, 232, 233] (by decide +kernel) (by decide +kernel)
set_option maxRecDepth 20000 in
theorem ggL_law_X11_failedCommand : GoodIn wsL_law wsX11_failedCommand := (goodIn_ca (ggL_law_X11_failedCommand_q0) (ggL_law_X11_init_q1))
set_option maxRecDepth 20000 in
theorem gL_law_X11_failedCommand : GoodIn wsL_law (wsV RL 365 RX11 yX11_failedCommand wsX11_failedCommand) := goodIn_app (goodIn_of _ (by decide +kernel)) ggL_law_X11_failedCommand
set_option maxRecDepth 20000 in
theorem ggL_law_L_undo_q0 : GoodIn wsL_law ((.codeWith yL_undo cL_undo 3 (some .int) [(0, 8, 11, 31)]) :: wsL_undo_r1) := goodIn_r _ [1587, 376, 1588, 1589, 1590, 2, 1591, 196, 197, 24, 1592, 17, 1593, 1594, 1595, 23, 1596, 81, 79, 80, 202, 169, 170, 16, 171] (by decide +kernel) (by decide +kernel)
set_option maxRecDepth 20000 in
theorem ggL_law_L_undo_q1 : GoodIn wsL_law wsL_undo_r2 := goodIn_r _ [55, 56, 58, 59, 60, 61, 62, 63, 65, 66, 67, 68, 69, 70, 71, 72, 73] (by decide +kernel) (by decide +kernel)
set_option maxRecDepth 20000 in
theorem ggL_law_L_undo : GoodIn wsL_law wsL_undo := goodIn_ca (goodIn_ca ((goodIn_ca (goodIn_ca (goodIn_ca (goodIn_ca (ggL_law_L_undo_q0) (ggL_law_L_undo_q1)) (ggL_law_X10_init_q7)) (ggL_law_X10_init_q8)) (ggL_law_X10_init_q6))) (goodIn_sub (fun _ h => List.mem_append_left _ (List.mem_append_left _ (List.mem_append_left _ (List.mem_append_left _ (List.mem_append_left _ (List.mem_append_left _ (List.mem_append_left _ (List.mem_append_right _ h)))))))) (by decide +kernel))) (goodIn_sub (fun _ h => List.mem_append_left _ (List.mem_append_left _ (List.mem_append_right _ h))) (by decide +kernel))
set_option maxRecDepth 20000 in
theorem gL_law_L_undo : GoodIn wsL_law (va_wsS RL 366 yL_undo wsL_undo) := goodIn_app (goodIn_of _ (by decide +kernel)) ggL_law_L_undo
set_option maxRecDepth 20000 in
theorem ggL_law_X11_undo_q0 : GoodIn wsL_law ((.code yX11_undo cX11_undo 1 (some .int)) :: [.fieldLink RX11 58 "PlanetWorkshopModel" "changes" "I", .fieldLink RX11 16 "PlanetWorkshopModel" "history" "[J", .fieldLink RX11 7 "PlanetWorkshopModel" "g" "[J", .methodLink RX11 95 yX11_fails, .instanceMethod yX11_fails, .selects RX11 yX11_fails yX11_fails, .initialized RX11, .code yX11_fails cX11_fails 2 (some .int), .fieldLink RX11 49 "PlanetWorkshopModel" "thrown" "I", .methodLink RX11 54 yX11_copy, .static yX11_copy, .code yX11_copy cX11_copy 5 none, .methodLink RX11 98 yX11_done, .instanceMethod yX11_done, .selects RX11 yX11_done yX11_done, .code yX11_done cX11_done 2 (some .int)]) := goodIn_r _ [1600, 238, 148, 146, 221, 222, 223, 5, 224, 225, 211, 212, 213, 230, 231, 232, 233] (by decide +kernel) (by decide +kernel)
set_option maxRecDepth 20000 in
theorem ggL_law_X11_undo : GoodIn wsL_law wsX11_undo := goodIn_ca ((goodIn_ca (ggL_law_X11_undo_q0) (ggL_law_X11_init_q1))) (goodIn_sub (fun _ h => List.mem_append_left _ (List.mem_append_left _ (List.mem_append_left _ (List.mem_append_left _ (List.mem_append_left _ (List.mem_append_left _ (List.mem_append_left _ (List.mem_append_right _ h)))))))) (by decide +kernel))
set_option maxRecDepth 20000 in
theorem gL_law_X11_undo : GoodIn wsL_law (wsV RL 368 RX11 yX11_undo wsX11_undo) := goodIn_app (goodIn_of _ (by decide +kernel)) ggL_law_X11_undo
set_option maxRecDepth 20000 in
theorem ggL_law_X10_save_q0 : GoodIn wsL_law ((.code yX10_save cX10_save 1 (some .int)) :: wsX10_save_r1) := goodIn_r _ [1604, 19, 17, 20, 634, 168, 169, 170, 16, 171, 55, 56, 58, 59, 60, 61, 62, 63, 65, 66, 67, 68, 69, 70, 71] (by decide +kernel) (by decide +kernel)
set_option maxRecDepth 20000 in
theorem ggL_law_X10_save_q1 : GoodIn wsL_law wsX10_save_r2 := goodIn_r _ [72, 73] (by decide +kernel) (by decide +kernel)
set_option maxRecDepth 20000 in
theorem ggL_law_X10_save : GoodIn wsL_law wsX10_save := goodIn_ca ((goodIn_ca (goodIn_ca (goodIn_ca (ggL_law_X10_save_q0) (ggL_law_X10_save_q1)) (ggL_law_X10_init_q7)) (ggL_law_X10_init_q6))) (goodIn_sub (fun _ h => List.mem_append_left _ (List.mem_append_left _ (List.mem_append_left _ (List.mem_append_left _ (List.mem_append_left _ (List.mem_append_left _ (List.mem_append_left _ (List.mem_append_right _ h)))))))) (by decide +kernel))
set_option maxRecDepth 20000 in
theorem gL_law_X10_save : GoodIn wsL_law (wsV RL 369 RX10 yX10_save wsX10_save) := goodIn_app (goodIn_of _ (by decide +kernel)) ggL_law_X10_save
set_option maxRecDepth 20000 in
theorem ggL_law_X11_save_q0 : GoodIn wsL_law ((.code yX11_save cX11_save 1 (some .int)) :: [.fieldLink RX11 7 "PlanetWorkshopModel" "g" "[J", .fieldLink RX11 19 "PlanetWorkshopModel" "savedState" "[J", .fieldLink RX11 269 "PlanetWorkshopModel" "hasSaved" "Z", .methodLink RX11 54 yX11_copy, .static yX11_copy, .initialized RX11, .code yX11_copy cX11_copy 5 none, .methodLink RX11 61 yX11_at, .instanceMethod yX11_at, .selects RX11 yX11_at yX11_at, .code yX11_at cX11_at 2 (some .int), .methodLink RX11 98 yX11_done, .instanceMethod yX11_done, .selects RX11 yX11_done yX11_done, .code yX11_done cX11_done 2 (some .int), .fieldLink RX11 49 "PlanetWorkshopModel" "thrown" "I"]) := goodIn_r _ [1608, 146, 149, 1609, 211, 212, 5, 213, 226, 227, 228, 229, 230, 231, 232, 233, 225] (by decide +kernel) (by decide +kernel)
set_option maxRecDepth 20000 in
theorem ggL_law_X11_save : GoodIn wsL_law wsX11_save := goodIn_ca ((goodIn_ca (ggL_law_X11_save_q0) (ggL_law_X11_init_q1))) (goodIn_sub (fun _ h => List.mem_append_left _ (List.mem_append_left _ (List.mem_append_left _ (List.mem_append_left _ (List.mem_append_left _ (List.mem_append_left _ (List.mem_append_left _ (List.mem_append_right _ h)))))))) (by decide +kernel))
set_option maxRecDepth 20000 in
theorem gL_law_X11_save : GoodIn wsL_law (wsV RL 372 RX11 yX11_save wsX11_save) := goodIn_app (goodIn_of _ (by decide +kernel)) ggL_law_X11_save
set_option maxRecDepth 20000 in
theorem ggL_law_L_restore_q0 : GoodIn wsL_law ((.codeWith yL_restore cL_restore 3 (some .int) [(0, 8, 11, 15)]) :: wsL_restore_r1) := goodIn_r _ [1612, 163, 1613, 1614, 1615, 2, 1616, 192, 193, 20, 17, 19, 24, 634, 168, 169, 170, 16, 171, 55, 56, 58, 59, 60, 61] (by decide +kernel) (by decide +kernel)
set_option maxRecDepth 20000 in
theorem ggL_law_L_restore_q1 : GoodIn wsL_law wsL_restore_r2 := goodIn_r _ [62, 63, 65, 66, 67, 68, 69, 70, 71, 72, 73, 1617, 1618, 1619, 23, 1620, 81] (by decide +kernel) (by decide +kernel)
set_option maxRecDepth 20000 in
theorem ggL_law_L_restore : GoodIn wsL_law wsL_restore := goodIn_ca (goodIn_ca ((goodIn_ca (goodIn_ca (goodIn_ca (goodIn_ca (ggL_law_L_restore_q0) (ggL_law_L_restore_q1)) (ggL_law_X10_init_q7)) (ggL_law_X10_init_q6)) (ggL_law_X10_init_q8))) (goodIn_sub (fun _ h => List.mem_append_left _ (List.mem_append_left _ (List.mem_append_left _ (List.mem_append_left _ (List.mem_append_left _ (List.mem_append_left _ (List.mem_append_left _ (List.mem_append_right _ h)))))))) (by decide +kernel))) (goodIn_sub (fun _ h => List.mem_append_left _ (List.mem_append_left _ (List.mem_append_left _ (List.mem_append_left _ (List.mem_append_right _ h))))) (by decide +kernel))
set_option maxRecDepth 20000 in
theorem gL_law_L_restore : GoodIn wsL_law (va_wsS RL 373 yL_restore wsL_restore) := goodIn_app (goodIn_of _ (by decide +kernel)) ggL_law_L_restore
set_option maxRecDepth 20000 in
theorem ggL_law_X11_restore_q0 : GoodIn wsL_law ((.code yX11_restore cX11_restore 1 (some .int)) :: [.fieldLink RX11 269 "PlanetWorkshopModel" "hasSaved" "Z", .fieldLink RX11 19 "PlanetWorkshopModel" "savedState" "[J", .fieldLink RX11 7 "PlanetWorkshopModel" "g" "[J", .fieldLink RX11 58 "PlanetWorkshopModel" "changes" "I", .methodLink RX11 95 yX11_fails, .instanceMethod yX11_fails, .selects RX11 yX11_fails yX11_fails, .initialized RX11, .code yX11_fails cX11_fails 2 (some .int), .fieldLink RX11 49 "PlanetWorkshopModel" "thrown" "I", .methodLink RX11 54 yX11_copy, .static yX11_copy, .code yX11_copy cX11_copy 5 none, .methodLink RX11 61 yX11_at, .instanceMethod yX11_at, .selects RX11 yX11_at yX11_at, .code yX11_at cX11_at 2 (some .int), .methodLink RX11 98 yX11_done, .instanceMethod yX11_done, .selects RX11 yX11_done yX11_done, .code yX11_done cX11_done 2 (some .int)]) := goodIn_r _ [1624, 1609, 149, 146, 238, 221, 222, 223, 5, 224, 225, 211, 212, 213, 226, 227, 228, 229, 230, 231, 232, 233] (by decide +kernel) (by decide +kernel)
set_option maxRecDepth 20000 in
theorem ggL_law_X11_restore : GoodIn wsL_law wsX11_restore := goodIn_ca ((goodIn_ca (ggL_law_X11_restore_q0) (ggL_law_X11_init_q1))) (goodIn_sub (fun _ h => List.mem_append_left _ (List.mem_append_left _ (List.mem_append_left _ (List.mem_append_left _ (List.mem_append_left _ (List.mem_append_left _ (List.mem_append_left _ (List.mem_append_right _ h)))))))) (by decide +kernel))
set_option maxRecDepth 20000 in
theorem gL_law_X11_restore : GoodIn wsL_law (wsV RL 375 RX11 yX11_restore wsX11_restore) := goodIn_app (goodIn_of _ (by decide +kernel)) ggL_law_X11_restore
