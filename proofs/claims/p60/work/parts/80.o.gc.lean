set_option maxRecDepth 20000 in
theorem ggL_law_X10_angle : GoodIn wsL_lawQ wsX10_angle := goodIn_ca (goodIn_ca ((goodIn_ca (goodIn_ca (ggL_law_X10_angle_q0) (ggL_law_L_build_q20)) (ggL_law_L_build_q21))) (goodIn_sub (fun _ h => List.mem_append_left _ (List.mem_append_left _ (List.mem_append_left _ (List.mem_append_left _ (List.mem_append_left _ (List.mem_append_left _ (List.mem_append_left _ (List.mem_append_right _ h)))))))) (by decide +kernel))) (goodIn_sub (fun _ h => List.mem_append_left _ (List.mem_append_left _ (List.mem_append_left _ (List.mem_append_left _ (List.mem_append_left _ (List.mem_append_right _ h)))))) (by decide +kernel))
set_option maxRecDepth 20000 in
theorem gL_law_X10_angle : GoodIn wsL_lawQ (wsV RL 139 RX10 yX10_angle wsX10_angle) := goodIn_app (goodIn_of _ (by decide +kernel)) ggL_law_X10_angle
set_option maxRecDepth 20000 in
theorem ggL_law_X10_addPlanet_q0 : GoodIn wsL_lawQ ((.code yX10_addPlanet cX10_addPlanet 2 (some .int)) :: wsX10_addPlanet_r1) := goodIn_r _ [375, 27, 26, 41, 165, 166, 167, 25, 168, 62, 64, 66, 67, 68, 69, 70, 71, 73, 74, 75, 76, 77, 78, 79, 80] (by decide +kernel) (by decide +kernel)
set_option maxRecDepth 20000 in
theorem ggL_law_X10_addPlanet_q1 : GoodIn wsL_lawQ wsX10_addPlanet_r2 := goodIn_r _ [81, 376, 377, 378, 40, 379, 100, 380, 381, 212, 213, 214, 215, 382, 383, 384, 385, 178, 179, 180, 2, 181, 33, 182] (by decide +kernel) (by decide +kernel)
set_option maxRecDepth 20000 in
theorem ggL_law_X10_addPlanet_q2 : GoodIn wsL_lawQ wsX10_addPlanet_r3 := goodIn_r _ [183, 184, 185, 186, 187, 188, 189, 190, 191, 192, 193, 194, 195, 196, 197, 32, 198, 89, 88, 87, 199] (by decide +kernel) (by decide +kernel)
set_option maxRecDepth 20000 in
theorem ggL_law_X10_addPlanet : GoodIn wsL_lawQ wsX10_addPlanet := goodIn_ca (goodIn_ca (goodIn_ca (goodIn_ca (goodIn_ca (goodIn_ca ((goodIn_ca (goodIn_ca (goodIn_ca (goodIn_ca (goodIn_ca (ggL_law_X10_addPlanet_q0) (goodIn_app (ggL_law_X10_addPlanet_q1) (ggL_law_X10_addPlanet_q2))) (ggL_law_L_build_q20)) (ggL_law_L_build_q21)) (ggL_law_L_build_q24)) (ggL_law_L_build_q22))) (goodIn_sub (fun _ h => List.mem_append_left _ (List.mem_append_left _ (List.mem_append_left _ (List.mem_append_left _ (List.mem_append_left _ (List.mem_append_left _ (List.mem_append_left _ (List.mem_append_right _ h)))))))) (by decide +kernel))) (goodIn_sub (fun _ h => List.mem_append_left _ (List.mem_append_left _ (List.mem_append_left _ (List.mem_append_left _ (List.mem_append_left _ (List.mem_append_right _ h)))))) (by decide +kernel))) (goodIn_sub (fun _ h => List.mem_append_left _ (List.mem_append_left _ (List.mem_append_left _ (List.mem_append_left _ (List.mem_append_right _ h))))) (by decide +kernel))) (goodIn_sub (fun _ h => List.mem_append_left _ (List.mem_append_left _ (List.mem_append_left _ (List.mem_append_right _ h)))) (by decide +kernel))) (goodIn_sub (fun _ h => List.mem_append_left _ (List.mem_append_left _ (List.mem_append_right _ h))) (by decide +kernel))) (goodIn_sub (fun _ h => List.mem_append_left _ (List.mem_append_right _ h)) (by decide +kernel))
set_option maxRecDepth 20000 in
theorem gL_law_X10_addPlanet : GoodIn wsL_lawQ (wsV RL 76 RX10 yX10_addPlanet wsX10_addPlanet) := goodIn_app (goodIn_of _ (by decide +kernel)) ggL_law_X10_addPlanet
set_option maxRecDepth 20000 in
theorem ggL_law_X10_areInLine_q0 : GoodIn wsL_lawQ ((.code yX10_areInLine cX10_areInLine 3 (some .boolean)) :: [.classLink RX10 231 "java/lang/IllegalArgumentException", .initialized "java/lang/IllegalArgumentException", .fieldLink RX10 12 "PlanetWorkshop" "now" "LPlanetWorkshop$State;", .fieldLink RX10 172 "PlanetWorkshop$State" "angles" "[J", .fieldLink RX10 228 "PlanetWorkshop$State" "carriers" "[I", .methodLink RX10 225 yX10_checkPlanet, .instanceMethod yX10_checkPlanet, .selects RX10 yX10_checkPlanet yX10_checkPlanet, .initialized RX10, .code yX10_checkPlanet cX10_checkPlanet 2 none, .classLink RX10 311 "java/lang/IndexOutOfBoundsException", .initialized "java/lang/IndexOutOfBoundsException", .methodLink RX10 355 yX7_isPlanet, .instanceMethod yX7_isPlanet, .selects RX7 yX7_isPlanet yX7_isPlanet, .initialized RX7, .code yX7_isPlanet cX7_isPlanet 2 (some .boolean), .fieldLink RX7 52 "PlanetWorkshop$State" "planets" "I"]) := goodIn_r _ [800, 187, 188, 26, 523, 552, 553, 554, 555, 2, 556, 185, 186, 557, 558, 559, 25, 560, 77] (by decide +kernel) (by decide +kernel)
set_option maxRecDepth 20000 in
theorem ggL_law_X10_areInLine : GoodIn wsL_lawQ wsX10_areInLine := goodIn_ca (goodIn_ca (goodIn_ca ((goodIn_ca (goodIn_ca (ggL_law_X10_areInLine_q0) (ggL_law_L_build_q20)) (ggL_law_L_build_q21))) (goodIn_sub (fun _ h => List.mem_append_left _ (List.mem_append_left _ (List.mem_append_left _ (List.mem_append_left _ (List.mem_append_right _ h))))) (by decide +kernel))) (goodIn_sub (fun _ h => List.mem_append_left _ (List.mem_append_left _ (List.mem_append_left _ (List.mem_append_left _ (List.mem_append_left _ (List.mem_append_left _ (List.mem_append_left _ (List.mem_append_right _ h)))))))) (by decide +kernel))) (goodIn_sub (fun _ h => List.mem_append_left _ (List.mem_append_left _ (List.mem_append_left _ (List.mem_append_left _ (List.mem_append_left _ (List.mem_append_right _ h)))))) (by decide +kernel))
set_option maxRecDepth 20000 in
theorem gL_law_X10_areInLine : GoodIn wsL_lawQ (wsV RL 246 RX10 yX10_areInLine wsX10_areInLine) := goodIn_app (goodIn_of _ (by decide +kernel)) ggL_law_X10_areInLine
set_option maxRecDepth 20000 in
theorem ggL_law_X10_nextEclipse_q0 : GoodIn wsL_lawQ ((.code yX10_nextEclipse cX10_nextEclipse 4 (some .int)) :: wsX10_nextEclipse_r1) := goodIn_r _ [804, 45, 805, 732, 733, 44, 734, 106, 107, 730, 735, 558, 559, 25, 560, 77, 736, 213, 214, 215, 75, 737, 217, 218, 36] (by decide +kernel) (by decide +kernel)
set_option maxRecDepth 20000 in
theorem ggL_law_X10_nextEclipse_q1 : GoodIn wsL_lawQ wsX10_nextEclipse_r2 := goodIn_r _ [219, 93, 95, 220, 94, 221, 222, 223, 224, 225, 226, 227, 228, 229, 73, 230, 231, 232, 233, 62, 234, 235, 236, 237] (by decide +kernel) (by decide +kernel)
set_option maxRecDepth 20000 in
theorem ggL_law_X10_nextEclipse_q2 : GoodIn wsL_lawQ wsX10_nextEclipse_r3 := goodIn_r _ [238, 239, 240, 241, 738, 247, 248, 249, 182, 183, 2, 184, 185, 186, 187, 188, 189, 190, 191, 192, 193, 194, 806, 740] (by decide +kernel) (by decide +kernel)
set_option maxRecDepth 20000 in
theorem ggL_law_X10_nextEclipse_q3 : GoodIn wsL_lawQ wsX10_nextEclipse_r4 := goodIn_r _ [741, 742, 743, 744, 745, 746, 747, 344, 345, 346, 347, 348, 748, 470, 471, 472, 341, 317, 342, 473, 749, 750, 751, 752] (by decide +kernel) (by decide +kernel)
set_option maxRecDepth 20000 in
theorem ggL_law_X10_nextEclipse_q4 : GoodIn wsL_lawQ wsX10_nextEclipse_r5 := goodIn_r _ [753, 754, 755, 756, 450, 451, 452] (by decide +kernel) (by decide +kernel)
set_option maxRecDepth 20000 in
theorem ggL_law_X10_nextEclipse : GoodIn wsL_lawQ wsX10_nextEclipse := goodIn_ca (goodIn_ca (goodIn_ca (goodIn_ca (goodIn_ca (goodIn_ca ((goodIn_ca (goodIn_ca (goodIn_ca (goodIn_ca (goodIn_ca (ggL_law_X10_nextEclipse_q0) (goodIn_app (ggL_law_X10_nextEclipse_q1) (goodIn_app (ggL_law_X10_nextEclipse_q2) (goodIn_app (ggL_law_X10_nextEclipse_q3) (ggL_law_X10_nextEclipse_q4))))) (ggL_law_L_build_q20)) (ggL_law_L_build_q25)) (ggL_law_L_build_q21)) (ggL_law_L_build_q23))) (goodIn_sub (fun _ h => List.mem_append_left _ (List.mem_append_left _ (List.mem_append_left _ (List.mem_append_left _ (List.mem_append_left _ (List.mem_append_left _ (List.mem_append_left _ (List.mem_append_right _ h)))))))) (by decide +kernel))) (goodIn_sub (fun _ h => List.mem_append_left _ (List.mem_append_left _ (List.mem_append_left _ (List.mem_append_left _ (List.mem_append_left _ (List.mem_append_right _ h)))))) (by decide +kernel))) (goodIn_sub (fun _ h => List.mem_append_left _ (List.mem_append_left _ (List.mem_append_left _ (List.mem_append_left _ (List.mem_append_right _ h))))) (by decide +kernel))) (goodIn_sub (fun _ h => List.mem_append_left _ (List.mem_append_left _ (List.mem_append_left _ (List.mem_append_right _ h)))) (by decide +kernel))) (goodIn_sub (fun _ h => List.mem_append_left _ (List.mem_append_left _ (List.mem_append_right _ h))) (by decide +kernel))) (goodIn_sub (fun _ h => List.mem_append_left _ (List.mem_append_right _ h)) (by decide +kernel))
set_option maxRecDepth 20000 in
theorem gL_law_X10_nextEclipse : GoodIn wsL_lawQ (wsV RL 117 RX10 yX10_nextEclipse wsX10_nextEclipse) := goodIn_app (goodIn_of _ (by decide +kernel)) ggL_law_X10_nextEclipse
set_option maxRecDepth 20000 in
theorem ggL_law_X10_nextEclipseByTurns_q0 : GoodIn wsL_lawQ ((.code yX10_nextEclipseByTurns cX10_nextEclipseByTurns 4 (some .int)) :: wsX10_nextEclipseByTurns_r1) := goodIn_r _ [810, 45, 805, 732, 733, 44, 734, 106, 107, 730, 735, 558, 559, 25, 560, 77, 736, 213, 214, 215, 75, 737, 217, 218, 36] (by decide +kernel) (by decide +kernel)
set_option maxRecDepth 20000 in
theorem ggL_law_X10_nextEclipseByTurns_q1 : GoodIn wsL_lawQ wsX10_nextEclipseByTurns_r2 := goodIn_r _ [219, 93, 95, 220, 94, 221, 222, 223, 224, 225, 226, 227, 228, 229, 73, 230, 231, 232, 233, 62, 234, 235, 236, 237] (by decide +kernel) (by decide +kernel)
set_option maxRecDepth 20000 in
theorem ggL_law_X10_nextEclipseByTurns_q2 : GoodIn wsL_lawQ wsX10_nextEclipseByTurns_r3 := goodIn_r _ [238, 239, 240, 241, 738, 247, 248, 249, 182, 183, 2, 184, 185, 186, 187, 188, 189, 190, 191, 192, 193, 194, 811, 758] (by decide +kernel) (by decide +kernel)
set_option maxRecDepth 20000 in
theorem ggL_law_X10_nextEclipseByTurns_q3 : GoodIn wsL_lawQ wsX10_nextEclipseByTurns_r4 := goodIn_r _ [759, 760, 745, 743, 744, 747, 344, 345, 346, 347, 348, 450, 451, 452] (by decide +kernel) (by decide +kernel)
set_option maxRecDepth 20000 in
theorem ggL_law_X10_nextEclipseByTurns : GoodIn wsL_lawQ wsX10_nextEclipseByTurns := goodIn_ca (goodIn_ca (goodIn_ca (goodIn_ca (goodIn_ca (goodIn_ca ((goodIn_ca (goodIn_ca (goodIn_ca (goodIn_ca (goodIn_ca (ggL_law_X10_nextEclipseByTurns_q0) (goodIn_app (ggL_law_X10_nextEclipseByTurns_q1) (goodIn_app (ggL_law_X10_nextEclipseByTurns_q2) (ggL_law_X10_nextEclipseByTurns_q3)))) (ggL_law_L_build_q20)) (ggL_law_L_build_q25)) (ggL_law_L_build_q21)) (ggL_law_L_build_q23))) (goodIn_sub (fun _ h => List.mem_append_left _ (List.mem_append_left _ (List.mem_append_left _ (List.mem_append_left _ (List.mem_append_left _ (List.mem_append_left _ (List.mem_append_left _ (List.mem_append_right _ h)))))))) (by decide +kernel))) (goodIn_sub (fun _ h => List.mem_append_left _ (List.mem_append_left _ (List.mem_append_left _ (List.mem_append_left _ (List.mem_append_left _ (List.mem_append_right _ h)))))) (by decide +kernel))) (goodIn_sub (fun _ h => List.mem_append_left _ (List.mem_append_left _ (List.mem_append_left _ (List.mem_append_left _ (List.mem_append_right _ h))))) (by decide +kernel))) (goodIn_sub (fun _ h => List.mem_append_left _ (List.mem_append_left _ (List.mem_append_left _ (List.mem_append_right _ h)))) (by decide +kernel))) (goodIn_sub (fun _ h => List.mem_append_left _ (List.mem_append_left _ (List.mem_append_right _ h))) (by decide +kernel))) (goodIn_sub (fun _ h => List.mem_append_left _ (List.mem_append_right _ h)) (by decide +kernel))
set_option maxRecDepth 20000 in
theorem gL_law_X10_nextEclipseByTurns : GoodIn wsL_lawQ (wsV RL 121 RX10 yX10_nextEclipseByTurns wsX10_nextEclipseByTurns) := goodIn_app (goodIn_of _ (by decide +kernel)) ggL_law_X10_nextEclipseByTurns
set_option maxRecDepth 20000 in
theorem ggL_law_L_eclipse_q0 : GoodIn wsL_lawQ ((.codeWith yL_eclipse cL_eclipse 6 (some .int) [(0, 23, 24, 107), (0, 23, 28, 109), (0, 23, 33, 111), (0, 23, 38, 115)]) :: wsL_eclipse_r1) := goodIn_r _ [814, 156, 157, 158, 160, 801, 802, 803, 2, 804, 45, 805, 732, 733, 44, 734, 106, 107, 730, 735, 558, 559, 25, 560, 77] (by decide +kernel) (by decide +kernel)
set_option maxRecDepth 20000 in
theorem ggL_law_L_eclipse_q1 : GoodIn wsL_lawQ wsL_eclipse_r2 := goodIn_r _ [736, 213, 214, 215, 75, 737, 217, 218, 36, 219, 93, 95, 220, 94, 221, 222, 223, 224, 225, 226, 227, 228, 229, 73] (by decide +kernel) (by decide +kernel)
set_option maxRecDepth 20000 in
theorem ggL_law_L_eclipse_q2 : GoodIn wsL_lawQ wsL_eclipse_r3 := goodIn_r _ [230, 231, 232, 233, 62, 234, 235, 236, 237, 238, 239, 240, 241, 738, 247, 248, 249, 182, 183, 184, 185, 186, 187, 188] (by decide +kernel) (by decide +kernel)
set_option maxRecDepth 20000 in
theorem ggL_law_L_eclipse_q3 : GoodIn wsL_lawQ wsL_eclipse_r4 := goodIn_r _ [189, 190, 191, 192, 193, 194, 806, 740, 741, 742, 743, 744, 745, 746, 747, 344, 345, 346, 347, 348, 748, 470, 471, 472] (by decide +kernel) (by decide +kernel)
set_option maxRecDepth 20000 in
theorem ggL_law_L_eclipse_q4 : GoodIn wsL_lawQ wsL_eclipse_r5 := goodIn_r _ [341, 317, 342, 473, 749, 750, 751, 752, 753, 754, 755, 756, 450, 451, 452, 807, 808, 809, 810, 811, 758, 759, 760] (by decide +kernel) (by decide +kernel)
set_option maxRecDepth 20000 in
theorem ggL_law_L_eclipse : GoodIn wsL_lawQ wsL_eclipse := goodIn_ca (goodIn_ca (goodIn_ca (goodIn_ca (goodIn_ca (goodIn_ca ((goodIn_ca (goodIn_ca (goodIn_ca (goodIn_ca (goodIn_ca (ggL_law_L_eclipse_q0) (goodIn_app (ggL_law_L_eclipse_q1) (goodIn_app (ggL_law_L_eclipse_q2) (goodIn_app (ggL_law_L_eclipse_q3) (ggL_law_L_eclipse_q4))))) (ggL_law_L_build_q20)) (ggL_law_L_build_q25)) (ggL_law_L_build_q21)) (ggL_law_L_build_q23))) (goodIn_sub (fun _ h => List.mem_append_left _ (List.mem_append_left _ (List.mem_append_left _ (List.mem_append_left _ (List.mem_append_left _ (List.mem_append_left _ (List.mem_append_left _ (List.mem_append_right _ h)))))))) (by decide +kernel))) (goodIn_sub (fun _ h => List.mem_append_left _ (List.mem_append_left _ (List.mem_append_left _ (List.mem_append_left _ (List.mem_append_left _ (List.mem_append_right _ h)))))) (by decide +kernel))) (goodIn_sub (fun _ h => List.mem_append_left _ (List.mem_append_left _ (List.mem_append_left _ (List.mem_append_left _ (List.mem_append_right _ h))))) (by decide +kernel))) (goodIn_sub (fun _ h => List.mem_append_left _ (List.mem_append_left _ (List.mem_append_left _ (List.mem_append_right _ h)))) (by decide +kernel))) (goodIn_sub (fun _ h => List.mem_append_left _ (List.mem_append_left _ (List.mem_append_right _ h))) (by decide +kernel))) (goodIn_sub (fun _ h => List.mem_append_left _ (List.mem_append_right _ h)) (by decide +kernel))
set_option maxRecDepth 20000 in
theorem gL_law_L_eclipse : GoodIn wsL_lawQ (va_wsS RL 250 yL_eclipse wsL_eclipse) := goodIn_app (goodIn_of _ (by decide +kernel)) ggL_law_L_eclipse
set_option maxRecDepth 20000 in
theorem ggL_law_X10_fewestPairs_q0 : GoodIn wsL_lawQ ((.code yX10_fewestPairs cX10_fewestPairs 3 (some .int)) :: [.fieldLink RX10 61 "PlanetWorkshop" "ratios" "LPlanetWorkshop$Ratios;", .methodLink RX10 253 yX10_checkRatio, .static yX10_checkRatio, .initialized RX10, .code yX10_checkRatio cX10_checkRatio 2 none, .classLink RX10 231 "java/lang/IllegalArgumentException", .initialized "java/lang/IllegalArgumentException", .methodLink RX10 256 yX5_byTrying, .instanceMethod yX5_byTrying, .selects RX5 yX5_byTrying yX5_byTrying, .initialized RX5, .code yX5_byTrying cX5_byTrying 5 (some .int), .fieldLink RX5 28 "PlanetWorkshop$Ratios" "state" "LPlanetWorkshop$State;", .fieldLink RX5 32 "PlanetWorkshop$State" "gears" "I", .fieldLink RX5 37 "PlanetWorkshop$State" "teeth" "[I", .methodLink RX5 40 yX5_hasSecondPair, .instanceMethod yX5_hasSecondPair, .selects RX5 yX5_hasSecondPair yX5_hasSecondPair, .code yX5_hasSecondPair cX5_hasSecondPair 10 (some .boolean), .methodLink RX10 244 yX10_found, .static yX10_found, .code yX10_found cX10_found 1 (some .int), .classLink RX10 144 "java/util/NoSuchElementException", .initialized "java/util/NoSuchElementException"]) := goodIn_r _ [436, 49, 437, 438, 2, 439, 187, 188, 440, 441, 442, 48, 443, 117, 444, 445, 446, 447, 448, 449, 450, 451, 452, 193, 194] (by decide +kernel) (by decide +kernel)
set_option maxRecDepth 20000 in
theorem ggL_law_X10_fewestPairs : GoodIn wsL_lawQ wsX10_fewestPairs := goodIn_ca (goodIn_ca (goodIn_ca ((goodIn_ca (goodIn_ca (goodIn_ca (ggL_law_X10_fewestPairs_q0) (ggL_law_L_build_q20)) (ggL_law_L_build_q26)) (ggL_law_L_build_q21))) (goodIn_sub (fun _ h => List.mem_append_left _ (List.mem_append_left _ (List.mem_append_left _ (List.mem_append_left _ (List.mem_append_right _ h))))) (by decide +kernel))) (goodIn_sub (fun _ h => List.mem_append_left _ (List.mem_append_left _ (List.mem_append_left _ (List.mem_append_left _ (List.mem_append_left _ (List.mem_append_left _ (List.mem_append_left _ (List.mem_append_right _ h)))))))) (by decide +kernel))) (goodIn_sub (fun _ h => List.mem_append_left _ (List.mem_append_right _ h)) (by decide +kernel))
set_option maxRecDepth 20000 in
theorem gL_law_X10_fewestPairs : GoodIn wsL_lawQ (wsV RL 98 RX10 yX10_fewestPairs wsX10_fewestPairs) := goodIn_app (goodIn_of _ (by decide +kernel)) ggL_law_X10_fewestPairs
set_option maxRecDepth 20000 in
theorem ggL_law_X10_fewestPairsByTable_q0 : GoodIn wsL_lawQ ((.code yX10_fewestPairsByTable cX10_fewestPairsByTable 3 (some .int)) :: wsX10_fewestPairsByTable_r1) := goodIn_r _ [456, 49, 437, 438, 2, 439, 187, 188, 457, 458, 459, 48, 460, 116, 113, 112, 114, 115, 461, 462, 463, 464, 117, 444, 465] (by decide +kernel) (by decide +kernel)
set_option maxRecDepth 20000 in
theorem ggL_law_X10_fewestPairsByTable_q1 : GoodIn wsL_lawQ wsX10_fewestPairsByTable_r2 := goodIn_r _ [466, 467, 468, 445, 469, 470, 236, 471, 472, 341, 317, 342, 473, 344, 345, 346, 347, 240, 348, 474, 235, 237, 238, 239] (by decide +kernel) (by decide +kernel)
set_option maxRecDepth 20000 in
theorem ggL_law_X10_fewestPairsByTable_q2 : GoodIn wsL_lawQ wsX10_fewestPairsByTable_r3 := goodIn_r _ [241, 475, 476, 477, 478, 450, 451, 452, 193, 194] (by decide +kernel) (by decide +kernel)
set_option maxRecDepth 20000 in
theorem ggL_law_X10_fewestPairsByTable : GoodIn wsL_lawQ wsX10_fewestPairsByTable := goodIn_ca (goodIn_ca (goodIn_ca ((goodIn_ca (goodIn_ca (goodIn_ca (goodIn_ca (ggL_law_X10_fewestPairsByTable_q0) (goodIn_app (ggL_law_X10_fewestPairsByTable_q1) (ggL_law_X10_fewestPairsByTable_q2))) (ggL_law_L_build_q20)) (ggL_law_L_build_q26)) (ggL_law_L_build_q21))) (goodIn_sub (fun _ h => List.mem_append_left _ (List.mem_append_left _ (List.mem_append_left _ (List.mem_append_left _ (List.mem_append_right _ h))))) (by decide +kernel))) (goodIn_sub (fun _ h => List.mem_append_left _ (List.mem_append_left _ (List.mem_append_left _ (List.mem_append_left _ (List.mem_append_left _ (List.mem_append_left _ (List.mem_append_left _ (List.mem_append_right _ h)))))))) (by decide +kernel))) (goodIn_sub (fun _ h => List.mem_append_left _ (List.mem_append_right _ h)) (by decide +kernel))
set_option maxRecDepth 20000 in
theorem gL_law_X10_fewestPairsByTable : GoodIn wsL_lawQ (wsV RL 101 RX10 yX10_fewestPairsByTable wsX10_fewestPairsByTable) := goodIn_app (goodIn_of _ (by decide +kernel)) ggL_law_X10_fewestPairsByTable
set_option maxRecDepth 20000 in
theorem ggL_law_X10_woundTotal_q0 : GoodIn wsL_lawQ ((.code yX10_woundTotal cX10_woundTotal 1 (some .int)) :: [.fieldLink RX10 12 "PlanetWorkshop" "now" "LPlanetWorkshop$State;", .fieldLink RX10 262 "PlanetWorkshop$State" "wound" "I"]) := goodIn_r _ [507, 26, 508] (by decide +kernel) (by decide +kernel)
set_option maxRecDepth 20000 in
theorem ggL_law_X10_woundTotal : GoodIn wsL_lawQ wsX10_woundTotal := (goodIn_ca (goodIn_ca (ggL_law_X10_woundTotal_q0) (ggL_law_L_build_q20)) (ggL_law_L_build_q21))
set_option maxRecDepth 20000 in
theorem gL_law_X10_woundTotal : GoodIn wsL_lawQ (wsV RL 130 RX10 yX10_woundTotal wsX10_woundTotal) := goodIn_app (goodIn_of _ (by decide +kernel)) ggL_law_X10_woundTotal
set_option maxRecDepth 20000 in
theorem ggL_law_X10_tensionByAccounts_q0 : GoodIn wsL_lawQ ((.code yX10_tensionByAccounts cX10_tensionByAccounts 1 (some .int)) :: [.fieldLink RX10 12 "PlanetWorkshop" "now" "LPlanetWorkshop$State;", .fieldLink RX10 262 "PlanetWorkshop$State" "wound" "I", .fieldLink RX10 269 "PlanetWorkshop$State" "taken" "I"]) := goodIn_r _ [517, 26, 508, 518] (by decide +kernel) (by decide +kernel)
set_option maxRecDepth 20000 in
theorem ggL_law_X10_tensionByAccounts : GoodIn wsL_lawQ wsX10_tensionByAccounts := (goodIn_ca (goodIn_ca (ggL_law_X10_tensionByAccounts_q0) (ggL_law_L_build_q20)) (ggL_law_L_build_q21))
set_option maxRecDepth 20000 in
theorem gL_law_X10_tensionByAccounts : GoodIn wsL_lawQ (wsV RL 136 RX10 yX10_tensionByAccounts wsX10_tensionByAccounts) := goodIn_app (goodIn_of _ (by decide +kernel)) ggL_law_X10_tensionByAccounts
set_option maxRecDepth 20000 in
theorem ggL_law_X10_releaseTotal_q0 : GoodIn wsL_lawQ ((.code yX10_releaseTotal cX10_releaseTotal 1 (some .int)) :: [.fieldLink RX10 12 "PlanetWorkshop" "now" "LPlanetWorkshop$State;", .fieldLink RX10 272 "PlanetWorkshop$State" "releases" "I"]) := goodIn_r _ [512, 26, 513] (by decide +kernel) (by decide +kernel)
set_option maxRecDepth 20000 in
theorem ggL_law_X10_releaseTotal : GoodIn wsL_lawQ wsX10_releaseTotal := (goodIn_ca (goodIn_ca (ggL_law_X10_releaseTotal_q0) (ggL_law_L_build_q20)) (ggL_law_L_build_q21))
set_option maxRecDepth 20000 in
theorem gL_law_X10_releaseTotal : GoodIn wsL_lawQ (wsV RL 133 RX10 yX10_releaseTotal wsX10_releaseTotal) := goodIn_app (goodIn_of _ (by decide +kernel)) ggL_law_X10_releaseTotal
set_option maxRecDepth 20000 in
theorem ggL_law_X10_meanTeeth_q0 : GoodIn wsL_lawQ ((.code yX10_meanTeeth cX10_meanTeeth 1 (some .double)) :: [.classLink RX10 275 "java/lang/ArithmeticException", .initialized "java/lang/ArithmeticException", .fieldLink RX10 12 "PlanetWorkshop" "now" "LPlanetWorkshop$State;", .fieldLink RX10 129 "PlanetWorkshop$State" "gears" "I", .methodLink RX10 278 yX7_sumOfTeeth, .instanceMethod yX7_sumOfTeeth, .selects RX7 yX7_sumOfTeeth yX7_sumOfTeeth, .initialized RX7, .code yX7_sumOfTeeth cX7_sumOfTeeth 3 (some .int), .fieldLink RX7 45 "PlanetWorkshop$State" "gears" "I", .fieldLink RX7 9 "PlanetWorkshop$State" "teeth" "[I"]) := goodIn_r _ [818, 819, 820, 26, 491, 821, 822, 823, 25, 824, 75, 62] (by decide +kernel) (by decide +kernel)
set_option maxRecDepth 20000 in
theorem ggL_law_X10_meanTeeth : GoodIn wsL_lawQ wsX10_meanTeeth := goodIn_ca (goodIn_ca ((goodIn_ca (goodIn_ca (ggL_law_X10_meanTeeth_q0) (ggL_law_L_build_q20)) (ggL_law_L_build_q21))) (goodIn_sub (fun _ h => List.mem_append_right _ h) (by decide +kernel))) (goodIn_sub (fun _ h => List.mem_append_left _ (List.mem_append_left _ (List.mem_append_left _ (List.mem_append_left _ (List.mem_append_left _ (List.mem_append_left _ (List.mem_append_left _ (List.mem_append_right _ h)))))))) (by decide +kernel))
set_option maxRecDepth 20000 in
theorem gL_law_X10_meanTeeth : GoodIn wsL_lawQ (wsV RL 254 RX10 yX10_meanTeeth wsX10_meanTeeth) := goodIn_app (goodIn_of _ (by decide +kernel)) ggL_law_X10_meanTeeth
set_option maxRecDepth 20000 in
theorem ggL_law_X10_dryShare_q0 : GoodIn wsL_lawQ ((.code yX10_dryShare cX10_dryShare 1 (some .float)) :: [.classLink RX10 275 "java/lang/ArithmeticException", .initialized "java/lang/ArithmeticException", .fieldLink RX10 12 "PlanetWorkshop" "now" "LPlanetWorkshop$State;", .fieldLink RX10 129 "PlanetWorkshop$State" "gears" "I", .methodLink RX10 281 yX7_dryGears, .instanceMethod yX7_dryGears, .selects RX7 yX7_dryGears yX7_dryGears, .initialized RX7, .code yX7_dryGears cX7_dryGears 3 (some .int), .fieldLink RX7 45 "PlanetWorkshop$State" "gears" "I", .fieldLink RX7 19 "PlanetWorkshop$State" "oiled" "[Z"]) := goodIn_r _ [828, 819, 820, 26, 491, 829, 830, 831, 25, 832, 75, 66] (by decide +kernel) (by decide +kernel)
set_option maxRecDepth 20000 in
theorem ggL_law_X10_dryShare : GoodIn wsL_lawQ wsX10_dryShare := goodIn_ca (goodIn_ca ((goodIn_ca (goodIn_ca (ggL_law_X10_dryShare_q0) (ggL_law_L_build_q20)) (ggL_law_L_build_q21))) (goodIn_sub (fun _ h => List.mem_append_right _ h) (by decide +kernel))) (goodIn_sub (fun _ h => List.mem_append_left _ (List.mem_append_left _ (List.mem_append_left _ (List.mem_append_left _ (List.mem_append_left _ (List.mem_append_left _ (List.mem_append_left _ (List.mem_append_right _ h)))))))) (by decide +kernel))
set_option maxRecDepth 20000 in
theorem gL_law_X10_dryShare : GoodIn wsL_lawQ (wsV RL 260 RX10 yX10_dryShare wsX10_dryShare) := goodIn_app (goodIn_of _ (by decide +kernel)) ggL_law_X10_dryShare
set_option maxRecDepth 20000 in
theorem ggL_law_X10_renderGear_q0 : GoodIn wsL_lawQ ((.code yX10_renderGear cX10_renderGear 2 (some .int)) :: wsX10_renderGear_r1) := goodIn_r _ [836, 55, 26, 528, 418, 533, 398, 413, 837, 403, 404, 405, 2, 406, 185, 186, 407, 213, 214, 25, 215, 75, 838, 839, 840] (by decide +kernel) (by decide +kernel)
set_option maxRecDepth 20000 in
theorem ggL_law_X10_renderGear_q1 : GoodIn wsL_lawQ wsX10_renderGear_r2 := goodIn_r _ [10, 841, 842, 843, 844, 845, 135, 846, 847, 848, 849, 850, 140, 851, 852, 853, 854, 855, 856, 141, 857, 858, 859, 860] (by decide +kernel) (by decide +kernel)
set_option maxRecDepth 20000 in
theorem ggL_law_X10_renderGear_q2 : GoodIn wsL_lawQ wsX10_renderGear_r3 := goodIn_r _ [861, 862, 863, 864, 865, 866, 867, 641, 317, 642, 868, 869, 870, 871, 872, 873, 874, 875, 876, 877, 878, 879, 880, 881] (by decide +kernel) (by decide +kernel)
set_option maxRecDepth 20000 in
theorem ggL_law_X10_renderGear_q3 : GoodIn wsL_lawQ wsX10_renderGear_r4 := goodIn_r _ [139, 882, 316, 318, 883, 884, 885, 886, 887, 888, 889, 890, 891, 138, 892, 893, 586, 894, 895, 896, 897, 898, 899, 900] (by decide +kernel) (by decide +kernel)
set_option maxRecDepth 20000 in
theorem ggL_law_X10_renderGear_q4 : GoodIn wsL_lawQ wsX10_renderGear_r5 := goodIn_r _ [901, 9, 902, 903, 904, 905, 906, 144, 907, 908, 909, 910, 911, 912, 913, 914, 915, 916, 917, 918, 919, 920, 921, 922] (by decide +kernel) (by decide +kernel)
set_option maxRecDepth 20000 in
theorem ggL_law_X10_renderGear_q5 : GoodIn wsL_lawQ wsX10_renderGear_r6 := goodIn_r _ [923, 924, 925, 926, 927, 928, 609, 929, 930, 931, 602, 603, 604, 932, 933, 567, 934, 591, 935, 936, 594, 937, 938, 939] (by decide +kernel) (by decide +kernel)
set_option maxRecDepth 20000 in
theorem ggL_law_X10_renderGear_q6 : GoodIn wsL_lawQ wsX10_renderGear_r7 := goodIn_r _ [940, 941, 942, 943, 944, 945, 610, 611, 946, 947, 948, 949, 950, 951, 952, 953, 954, 955, 956, 957, 958, 959, 960, 961] (by decide +kernel) (by decide +kernel)
set_option maxRecDepth 20000 in
theorem ggL_law_X10_renderGear_q7 : GoodIn wsL_lawQ wsX10_renderGear_r8 := goodIn_r _ [142, 143, 145, 146, 147, 148, 149, 962, 963, 964, 965, 966, 967, 968, 969, 970, 971, 972, 973, 974, 975, 976, 977, 978] (by decide +kernel) (by decide +kernel)
set_option maxRecDepth 20000 in
theorem ggL_law_X10_renderGear_q8 : GoodIn wsL_lawQ wsX10_renderGear_r9 := goodIn_r _ [979, 599, 600, 601, 605, 589, 590, 592, 593, 595, 408, 251, 252, 253, 69, 980, 981, 982, 983, 984, 985, 986, 987] (by decide +kernel) (by decide +kernel)
set_option maxRecDepth 20000 in
theorem ggL_law_X10_renderGear_q9 : GoodIn wsL_lawQ wsJx7c7330 := goodIn_r _ [1163, 1164, 1165, 1166, 1167, 1168] (by decide +kernel) (by decide +kernel)
set_option maxRecDepth 20000 in
theorem ggL_law_X10_renderGear_q10 : GoodIn wsL_lawQ wsJx000600 := goodIn_r _ [1169, 1170, 1171, 1172, 1173, 1174] (by decide +kernel) (by decide +kernel)
set_option maxRecDepth 20000 in
theorem ggL_law_X10_renderGear : GoodIn wsL_lawQ wsX10_renderGear := goodIn_ca (goodIn_ca ((goodIn_ca (goodIn_ca (goodIn_ca (goodIn_ca (goodIn_ca (goodIn_ca (ggL_law_X10_renderGear_q0) (goodIn_app (ggL_law_X10_renderGear_q1) (goodIn_app (ggL_law_X10_renderGear_q2) (goodIn_app (ggL_law_X10_renderGear_q3) (goodIn_app (ggL_law_X10_renderGear_q4) (goodIn_app (ggL_law_X10_renderGear_q5) (goodIn_app (ggL_law_X10_renderGear_q6) (goodIn_app (ggL_law_X10_renderGear_q7) (ggL_law_X10_renderGear_q8))))))))) (ggL_law_L_build_q20)) (ggL_law_L_build_q21)) (ggL_law_X10_renderGear_q9)) (ggL_law_L_build_q28)) (ggL_law_X10_renderGear_q10))) (goodIn_sub (fun _ h => List.mem_append_left _ (List.mem_append_left _ (List.mem_append_left _ (List.mem_append_left _ (List.mem_append_left _ (List.mem_append_left _ (List.mem_append_left _ (List.mem_append_right _ h)))))))) (by decide +kernel))) (goodIn_sub (fun _ h => List.mem_append_left _ (List.mem_append_left _ (List.mem_append_left _ (List.mem_append_left _ (List.mem_append_left _ (List.mem_append_right _ h)))))) (by decide +kernel))
set_option maxRecDepth 20000 in
theorem gL_law_X10_renderGear : GoodIn wsL_lawQ (wsV RL 265 RX10 yX10_renderGear wsX10_renderGear) := goodIn_app (goodIn_of _ (by decide +kernel)) ggL_law_X10_renderGear
set_option maxRecDepth 20000 in
theorem ggL_law_J4_init_da8c8 : GoodIn wsL_lawQ wsJ4_init_da8c8 := goodIn_r _ [132, 133, 134, 135, 136, 137, 21, 22, 138, 139, 140, 141, 142, 143, 144, 145, 146, 147, 148, 149, 1114, 1115, 1116, 1117] (by decide +kernel) (by decide +kernel)
set_option maxRecDepth 20000 in
theorem gL_law_J4_init_da8c8 : GoodIn wsL_lawQ (wsJ4_init_da8c8) := ggL_law_J4_init_da8c8
set_option maxRecDepth 20000 in
theorem ggL_law_J4_append_15ec4_q0 : GoodIn wsL_lawQ ((.code yJ4_append_15ec4 cJ4_append_15ec4 2 (some (.object "java/lang/StringBuilder"))) :: wsJ4_append_15ec4_r1) := goodIn_r _ [992, 993, 994, 844, 995, 135, 996, 850, 997, 998, 999, 1000, 1001, 140, 852, 853, 854, 855, 856, 141, 857, 858, 859, 860, 861] (by decide +kernel) (by decide +kernel)
set_option maxRecDepth 20000 in
theorem ggL_law_J4_append_15ec4_q1 : GoodIn wsL_lawQ wsJ4_append_15ec4_r2 := goodIn_r _ [862, 863, 864, 865, 866, 867, 641, 317, 642, 868, 869, 870, 871, 872, 873, 874, 875, 876, 877, 878, 879, 880, 881, 139] (by decide +kernel) (by decide +kernel)
set_option maxRecDepth 20000 in
theorem ggL_law_J4_append_15ec4_q2 : GoodIn wsL_lawQ wsJ4_append_15ec4_r3 := goodIn_r _ [882, 316, 318, 883, 884, 885, 886, 887, 888, 889, 890, 891, 138, 1002, 1003, 144, 1004, 609, 929, 930, 931, 602, 603, 604] (by decide +kernel) (by decide +kernel)
set_option maxRecDepth 20000 in
theorem ggL_law_J4_append_15ec4_q3 : GoodIn wsL_lawQ wsJ4_append_15ec4_r4 := goodIn_r _ [932, 933, 567, 934, 591, 935, 936, 594, 937, 943, 944, 945, 610, 611, 1005, 565, 566, 568, 569, 570, 571, 572, 573, 574] (by decide +kernel) (by decide +kernel)
set_option maxRecDepth 20000 in
theorem ggL_law_J4_append_15ec4_q4 : GoodIn wsL_lawQ wsJ4_append_15ec4_r5 := goodIn_r _ [575, 1006, 1007, 1008, 1009, 1010, 1011, 1012, 1013, 1014, 1015, 1016, 957, 958, 959, 960, 961, 142, 143, 145, 146, 147, 148, 149] (by decide +kernel) (by decide +kernel)
set_option maxRecDepth 20000 in
theorem ggL_law_J4_append_15ec4_q5 : GoodIn wsL_lawQ wsJ4_append_15ec4_r6 := goodIn_r _ [962, 963, 586, 964, 965, 966, 967, 968, 969, 970, 971, 972, 973, 974, 975, 976, 1017, 1018, 1019, 1020, 1021, 1022] (by decide +kernel) (by decide +kernel)
set_option maxRecDepth 20000 in
theorem ggL_law_J4_append_15ec4 : GoodIn wsL_lawQ wsJ4_append_15ec4 := (goodIn_ca (goodIn_ca (goodIn_ca (ggL_law_J4_append_15ec4_q0) (goodIn_app (ggL_law_J4_append_15ec4_q1) (goodIn_app (ggL_law_J4_append_15ec4_q2) (goodIn_app (ggL_law_J4_append_15ec4_q3) (goodIn_app (ggL_law_J4_append_15ec4_q4) (ggL_law_J4_append_15ec4_q5)))))) (ggL_law_L_build_q28)) (ggL_law_L_put_q3))
set_option maxRecDepth 20000 in
theorem gL_law_J4_append_15ec4 : GoodIn wsL_lawQ (wsV RL 273 RJ4 yJ4_append_15ec4 wsJ4_append_15ec4) := goodIn_app (goodIn_of _ (by decide +kernel)) ggL_law_J4_append_15ec4
set_option maxRecDepth 20000 in
theorem ggL_law_J4_append_bf812_q0 : GoodIn wsL_lawQ ((.code yJ4_append_bf812 cJ4_append_bf812 2 (some (.object "java/lang/StringBuilder"))) :: wsJ4_append_bf812_r1) := goodIn_r _ [912, 913, 914, 844, 915, 135, 916, 850, 140, 917, 918, 919, 920, 852, 853, 854, 855, 856, 141, 857, 858, 859, 860, 861, 862] (by decide +kernel) (by decide +kernel)
set_option maxRecDepth 20000 in
theorem ggL_law_J4_append_bf812_q1 : GoodIn wsL_lawQ wsJ4_append_bf812_r2 := goodIn_r _ [863, 864, 865, 866, 867, 641, 317, 642, 868, 869, 870, 871, 872, 873, 874, 875, 876, 877, 878, 879, 880, 881, 139, 882] (by decide +kernel) (by decide +kernel)
set_option maxRecDepth 20000 in
theorem ggL_law_J4_append_bf812_q2 : GoodIn wsL_lawQ wsJ4_append_bf812_r3 := goodIn_r _ [316, 318, 883, 884, 885, 886, 887, 888, 889, 890, 891, 138, 921, 922, 923, 924, 925, 926, 927, 144, 928, 609, 929, 930] (by decide +kernel) (by decide +kernel)
set_option maxRecDepth 20000 in
theorem ggL_law_J4_append_bf812_q3 : GoodIn wsL_lawQ wsJ4_append_bf812_r4 := goodIn_r _ [931, 602, 603, 604, 932, 933, 567, 934, 591, 935, 936, 594, 937, 938, 939, 940, 941, 942, 943, 944, 945, 610, 611] (by decide +kernel) (by decide +kernel)
set_option maxRecDepth 20000 in
theorem ggL_law_J4_append_bf812 : GoodIn wsL_lawQ wsJ4_append_bf812 := (goodIn_ca (goodIn_ca (ggL_law_J4_append_bf812_q0) (goodIn_app (ggL_law_J4_append_bf812_q1) (goodIn_app (ggL_law_J4_append_bf812_q2) (ggL_law_J4_append_bf812_q3)))) (ggL_law_L_build_q28))
set_option maxRecDepth 20000 in
theorem gL_law_J4_append_bf812 : GoodIn wsL_lawQ (wsV RL 277 RJ4 yJ4_append_bf812 wsJ4_append_bf812) := goodIn_app (goodIn_of _ (by decide +kernel)) ggL_law_J4_append_bf812
set_option maxRecDepth 20000 in
theorem ggL_law_J4_toString_0e30d_q0 : GoodIn wsL_lawQ ((.code yJ4_toString_0e30d cJ4_toString_0e30d 1 (some (.object "java/lang/String"))) :: wsJ4_toString_0e30d_r1) := goodIn_r _ [1027, 1028, 1029, 567, 1030, 1031, 1032, 1033, 1034, 1035, 1036, 21, 22, 575, 569, 574, 1037, 1038, 1039, 1040, 1041, 135, 1042, 140, 1043] (by decide +kernel) (by decide +kernel)
set_option maxRecDepth 20000 in
theorem ggL_law_J4_toString_0e30d_q1 : GoodIn wsL_lawQ wsJ4_toString_0e30d_r2 := goodIn_r _ [985, 1044, 1045, 981, 10, 983, 984, 844, 986, 987, 850, 1046, 888, 889, 890, 891, 138, 141, 1047, 1048, 874, 1049, 876, 877] (by decide +kernel) (by decide +kernel)
set_option maxRecDepth 20000 in
theorem ggL_law_J4_toString_0e30d_q2 : GoodIn wsL_lawQ wsJ4_toString_0e30d_r3 := goodIn_r _ [878, 879, 880, 881, 1050, 1051, 1052, 139, 882, 316, 317, 318, 883, 884, 885, 886, 1053, 1054, 1055, 901, 9, 1056, 1057, 144] (by decide +kernel) (by decide +kernel)
set_option maxRecDepth 20000 in
theorem ggL_law_J4_toString_0e30d_q3 : GoodIn wsL_lawQ wsJ4_toString_0e30d_r4 := goodIn_r _ [1058, 1059, 1060, 1061, 968, 969, 970, 602, 603, 604, 971, 972, 973, 591, 974, 975, 594, 976, 606, 607, 608, 609, 610, 611] (by decide +kernel) (by decide +kernel)
set_option maxRecDepth 20000 in
theorem ggL_law_J4_toString_0e30d_q4 : GoodIn wsL_lawQ wsJ4_toString_0e30d_r5 := goodIn_r _ [146, 147, 148, 149, 1062, 1063, 1064, 1065] (by decide +kernel) (by decide +kernel)
set_option maxRecDepth 20000 in
theorem ggL_law_J4_toString_0e30d : GoodIn wsL_lawQ wsJ4_toString_0e30d := (goodIn_ca (goodIn_ca (goodIn_ca (ggL_law_J4_toString_0e30d_q0) (goodIn_app (ggL_law_J4_toString_0e30d_q1) (goodIn_app (ggL_law_J4_toString_0e30d_q2) (goodIn_app (ggL_law_J4_toString_0e30d_q3) (ggL_law_J4_toString_0e30d_q4))))) (ggL_law_L_put_q3)) (ggL_law_L_build_q28))
set_option maxRecDepth 20000 in
theorem gL_law_J4_toString_0e30d : GoodIn wsL_lawQ (wsV RL 282 RJ4 yJ4_toString_0e30d wsJ4_toString_0e30d) := goodIn_app (goodIn_of _ (by decide +kernel)) ggL_law_J4_toString_0e30d
set_option maxRecDepth 20000 in
theorem ggL_law_L_isText_q0 : GoodIn wsL_lawQ ((.code yL_isText cL_isText 4 (some .boolean)) :: wsL_isText_r1) := goodIn_r _ [1068, 564, 565, 566, 567, 568, 569, 570, 571, 572, 573, 574, 575, 1069, 1070, 1071, 2, 1072, 185, 186, 55, 980, 981, 982, 10] (by decide +kernel) (by decide +kernel)
set_option maxRecDepth 20000 in
theorem ggL_law_L_isText_q1 : GoodIn wsL_lawQ wsL_isText_r2 := goodIn_r _ [983, 984, 985, 844, 986, 135, 987, 850, 1073, 1074, 1075, 1076, 1077, 1078, 1079, 1080, 141, 140, 1081, 316, 317, 318, 1082, 589] (by decide +kernel) (by decide +kernel)
set_option maxRecDepth 20000 in
theorem ggL_law_L_isText_q2 : GoodIn wsL_lawQ wsL_isText_r3 := goodIn_r _ [590, 591, 592, 593, 594, 595, 1083, 607, 144, 608, 609, 610, 611, 602, 603, 604, 576, 577, 578, 579, 580, 581, 582, 583] (by decide +kernel) (by decide +kernel)
set_option maxRecDepth 20000 in
theorem ggL_law_L_isText_q3 : GoodIn wsL_lawQ wsL_isText_r4 := goodIn_r _ [584, 585, 586, 587, 588, 596, 597, 598, 599, 600, 601, 605, 606] (by decide +kernel) (by decide +kernel)
set_option maxRecDepth 20000 in
theorem ggL_law_L_isText : GoodIn wsL_lawQ wsL_isText := goodIn_ca ((goodIn_ca (goodIn_ca (goodIn_ca (goodIn_ca (ggL_law_L_isText_q0) (goodIn_app (ggL_law_L_isText_q1) (goodIn_app (ggL_law_L_isText_q2) (ggL_law_L_isText_q3)))) (ggL_law_L_put_q3)) (ggL_law_L_build_q20)) (ggL_law_L_build_q28))) (goodIn_sub (fun _ h => List.mem_append_left _ (List.mem_append_left _ (List.mem_append_left _ (List.mem_append_left _ (List.mem_append_left _ (List.mem_append_right _ h)))))) (by decide +kernel))
set_option maxRecDepth 20000 in
theorem gL_law_L_isText : GoodIn wsL_lawQ (va_wsS RL 286 yL_isText wsL_isText) := goodIn_app (goodIn_of _ (by decide +kernel)) ggL_law_L_isText
set_option maxRecDepth 20000 in
theorem ggL_law_X10_renderTrain_q0 : GoodIn wsL_lawQ ((.code yX10_renderTrain cX10_renderTrain 3 (some .int)) :: wsX10_renderTrain_r1) := goodIn_r _ [1087, 37, 26, 55, 491, 403, 404, 405, 2, 406, 185, 186, 407, 213, 214, 25, 215, 75, 431, 217, 218, 36, 219, 93, 95] (by decide +kernel) (by decide +kernel)
set_option maxRecDepth 20000 in
theorem ggL_law_X10_renderTrain_q1 : GoodIn wsL_lawQ wsX10_renderTrain_r2 := goodIn_r _ [220, 94, 221, 222, 223, 224, 225, 226, 227, 228, 229, 73, 230, 231, 232, 233, 62, 234, 235, 236, 237, 238, 239, 240] (by decide +kernel) (by decide +kernel)
set_option maxRecDepth 20000 in
theorem ggL_law_X10_renderTrain_q2 : GoodIn wsL_lawQ wsX10_renderTrain_r3 := goodIn_r _ [241, 838, 839, 840, 10, 841, 842, 843, 844, 845, 135, 846, 847, 848, 849, 850, 140, 851, 852, 853, 854, 855, 856, 141] (by decide +kernel) (by decide +kernel)
set_option maxRecDepth 20000 in
theorem ggL_law_X10_renderTrain_q3 : GoodIn wsL_lawQ wsX10_renderTrain_r4 := goodIn_r _ [857, 858, 859, 860, 861, 862, 863, 864, 865, 866, 867, 641, 317, 642, 868, 869, 870, 871, 872, 873, 874, 875, 876, 877] (by decide +kernel) (by decide +kernel)
set_option maxRecDepth 20000 in
theorem ggL_law_X10_renderTrain_q4 : GoodIn wsL_lawQ wsX10_renderTrain_r5 := goodIn_r _ [878, 879, 880, 881, 139, 882, 316, 318, 883, 884, 885, 886, 887, 888, 889, 890, 891, 138, 892, 893, 586, 894, 895, 896] (by decide +kernel) (by decide +kernel)
set_option maxRecDepth 20000 in
theorem ggL_law_X10_renderTrain_q5 : GoodIn wsL_lawQ wsX10_renderTrain_r6 := goodIn_r _ [897, 898, 899, 900, 901, 9, 902, 903, 904, 905, 906, 144, 907, 908, 783, 247, 248, 249, 980, 981, 982, 983, 984, 985] (by decide +kernel) (by decide +kernel)
set_option maxRecDepth 20000 in
theorem ggL_law_X10_renderTrain_q6 : GoodIn wsL_lawQ wsX10_renderTrain_r7 := goodIn_r _ [986, 987, 946, 947, 948, 949, 950, 951, 952, 953, 954, 955, 956, 957, 958, 959, 960, 961, 142, 143, 145, 146, 147, 148] (by decide +kernel) (by decide +kernel)
set_option maxRecDepth 20000 in
theorem ggL_law_X10_renderTrain_q7 : GoodIn wsL_lawQ wsX10_renderTrain_r8 := goodIn_r _ [149, 962, 963, 964, 965, 966, 967, 968, 969, 970, 602, 603, 604, 971, 972, 567, 973, 591, 974, 975, 594, 976, 943, 944] (by decide +kernel) (by decide +kernel)
set_option maxRecDepth 20000 in
theorem ggL_law_X10_renderTrain_q8 : GoodIn wsL_lawQ wsX10_renderTrain_r9 := goodIn_r _ [945, 609, 610, 611, 977, 978, 979, 599, 600, 601, 605, 589, 590, 592, 593, 595, 909, 910, 911, 912, 913, 914, 915, 916] (by decide +kernel) (by decide +kernel)
set_option maxRecDepth 20000 in
theorem ggL_law_X10_renderTrain_q9 : GoodIn wsL_lawQ wsX10_renderTrain_r10 := goodIn_r _ [917, 918, 919, 920, 921, 922, 923, 924, 925, 926, 927, 928, 929, 930, 931, 932, 933, 934, 935, 936, 937, 938, 939, 940] (by decide +kernel) (by decide +kernel)
set_option maxRecDepth 20000 in
theorem ggL_law_X10_renderTrain_q10 : GoodIn wsL_lawQ wsX10_renderTrain_r11 := goodIn_r _ [941, 942, 1088, 383, 384, 385, 77, 74] (by decide +kernel) (by decide +kernel)
set_option maxRecDepth 20000 in
theorem ggL_law_X10_renderTrain : GoodIn wsL_lawQ wsX10_renderTrain := goodIn_ca (goodIn_ca ((goodIn_ca (goodIn_ca (goodIn_ca (goodIn_ca (goodIn_ca (goodIn_ca (goodIn_ca (ggL_law_X10_renderTrain_q0) (goodIn_app (ggL_law_X10_renderTrain_q1) (goodIn_app (ggL_law_X10_renderTrain_q2) (goodIn_app (ggL_law_X10_renderTrain_q3) (goodIn_app (ggL_law_X10_renderTrain_q4) (goodIn_app (ggL_law_X10_renderTrain_q5) (goodIn_app (ggL_law_X10_renderTrain_q6) (goodIn_app (ggL_law_X10_renderTrain_q7) (goodIn_app (ggL_law_X10_renderTrain_q8) (goodIn_app (ggL_law_X10_renderTrain_q9) (ggL_law_X10_renderTrain_q10))))))))))) (ggL_law_L_build_q20)) (ggL_law_L_build_q21)) (ggL_law_L_build_q23)) (ggL_law_X10_renderGear_q9)) (ggL_law_L_build_q28)) (ggL_law_X10_renderGear_q10))) (goodIn_sub (fun _ h => List.mem_append_left _ (List.mem_append_left _ (List.mem_append_left _ (List.mem_append_left _ (List.mem_append_left _ (List.mem_append_right _ h)))))) (by decide +kernel))) (goodIn_sub (fun _ h => List.mem_append_left _ (List.mem_append_left _ (List.mem_append_left _ (List.mem_append_left _ (List.mem_append_left _ (List.mem_append_left _ (List.mem_append_left _ (List.mem_append_right _ h)))))))) (by decide +kernel))
set_option maxRecDepth 20000 in
theorem gL_law_X10_renderTrain : GoodIn wsL_lawQ (wsV RL 292 RX10 yX10_renderTrain wsX10_renderTrain) := goodIn_app (goodIn_of _ (by decide +kernel)) ggL_law_X10_renderTrain
set_option maxRecDepth 20000 in
theorem ggL_law_X10_isDry_q0 : GoodIn wsL_lawQ ((.code yX10_isDry cX10_isDry 2 (some .boolean)) :: [.fieldLink RX10 12 "PlanetWorkshop" "now" "LPlanetWorkshop$State;", .fieldLink RX10 211 "PlanetWorkshop$State" "oiled" "[Z", .methodLink RX10 132 yX10_checkGear, .instanceMethod yX10_checkGear, .selects RX10 yX10_checkGear yX10_checkGear, .initialized RX10, .code yX10_checkGear cX10_checkGear 2 none, .classLink RX10 311 "java/lang/IndexOutOfBoundsException", .initialized "java/lang/IndexOutOfBoundsException", .methodLink RX10 352 yX7_isGear, .instanceMethod yX7_isGear, .selects RX7 yX7_isGear yX7_isGear, .initialized RX7, .code yX7_isGear cX7_isGear 2 (some .boolean), .fieldLink RX7 45 "PlanetWorkshop$State" "gears" "I"]) := goodIn_r _ [537, 26, 418, 403, 404, 405, 2, 406, 185, 186, 407, 213, 214, 25, 215, 75] (by decide +kernel) (by decide +kernel)
set_option maxRecDepth 20000 in
theorem ggL_law_X10_isDry : GoodIn wsL_lawQ wsX10_isDry := goodIn_ca (goodIn_ca ((goodIn_ca (goodIn_ca (ggL_law_X10_isDry_q0) (ggL_law_L_build_q20)) (ggL_law_L_build_q21))) (goodIn_sub (fun _ h => List.mem_append_left _ (List.mem_append_left _ (List.mem_append_left _ (List.mem_append_left _ (List.mem_append_left _ (List.mem_append_left _ (List.mem_append_left _ (List.mem_append_right _ h)))))))) (by decide +kernel))) (goodIn_sub (fun _ h => List.mem_append_left _ (List.mem_append_left _ (List.mem_append_left _ (List.mem_append_left _ (List.mem_append_left _ (List.mem_append_right _ h)))))) (by decide +kernel))
set_option maxRecDepth 20000 in
theorem gL_law_X10_isDry : GoodIn wsL_lawQ (wsV RL 149 RX10 yX10_isDry wsX10_isDry) := goodIn_app (goodIn_of _ (by decide +kernel)) ggL_law_X10_isDry
set_option maxRecDepth 20000 in
theorem ggL_law_X10_areInTrain_q0 : GoodIn wsL_lawQ ((.code yX10_areInTrain cX10_areInTrain 3 (some .boolean)) :: wsX10_areInTrain_r1) := goodIn_r _ [1092, 37, 26, 403, 404, 405, 2, 406, 185, 186, 407, 213, 214, 25, 215, 75, 431, 217, 218, 36, 219, 93, 95, 220, 94] (by decide +kernel) (by decide +kernel)
set_option maxRecDepth 20000 in
theorem ggL_law_X10_areInTrain_q1 : GoodIn wsL_lawQ wsX10_areInTrain_r2 := goodIn_r _ [221, 222, 223, 224, 225, 226, 227, 228, 229, 73, 230, 231, 232, 233, 62, 234, 235, 236, 237, 238, 239, 240, 241, 783] (by decide +kernel) (by decide +kernel)
set_option maxRecDepth 20000 in
theorem ggL_law_X10_areInTrain_q2 : GoodIn wsL_lawQ wsX10_areInTrain_r3 := goodIn_r _ [247, 248, 249] (by decide +kernel) (by decide +kernel)
set_option maxRecDepth 20000 in
theorem ggL_law_X10_areInTrain : GoodIn wsL_lawQ wsX10_areInTrain := goodIn_ca (goodIn_ca ((goodIn_ca (goodIn_ca (goodIn_ca (goodIn_ca (ggL_law_X10_areInTrain_q0) (goodIn_app (ggL_law_X10_areInTrain_q1) (ggL_law_X10_areInTrain_q2))) (ggL_law_L_build_q20)) (ggL_law_L_build_q21)) (ggL_law_L_build_q23))) (goodIn_sub (fun _ h => List.mem_append_left _ (List.mem_append_left _ (List.mem_append_left _ (List.mem_append_left _ (List.mem_append_left _ (List.mem_append_right _ h)))))) (by decide +kernel))) (goodIn_sub (fun _ h => List.mem_append_left _ (List.mem_append_left _ (List.mem_append_left _ (List.mem_append_left _ (List.mem_append_left _ (List.mem_append_left _ (List.mem_append_left _ (List.mem_append_right _ h)))))))) (by decide +kernel))
set_option maxRecDepth 20000 in
theorem gL_law_X10_areInTrain : GoodIn wsL_lawQ (wsV RL 297 RX10 yX10_areInTrain wsX10_areInTrain) := goodIn_app (goodIn_of _ (by decide +kernel)) ggL_law_X10_areInTrain
set_option maxRecDepth 20000 in
theorem ggL_law_X10_restore_q0 : GoodIn wsL_lawQ ((.code yX10_restore cX10_restore 1 (some .int)) :: wsX10_restore_r1) := goodIn_r _ [1096, 189, 190, 29, 26, 28, 33, 491, 165, 166, 167, 25, 168, 62, 64, 66, 67, 68, 69, 70, 71, 73, 74, 75, 76] (by decide +kernel) (by decide +kernel)
set_option maxRecDepth 20000 in
theorem ggL_law_X10_restore_q1 : GoodIn wsL_lawQ wsX10_restore_r2 := goodIn_r _ [77, 78, 79, 80, 81, 1097, 1098, 1099, 32, 1100, 89] (by decide +kernel) (by decide +kernel)
set_option maxRecDepth 20000 in
theorem ggL_law_X10_restore : GoodIn wsL_lawQ wsX10_restore := goodIn_ca (goodIn_ca ((goodIn_ca (goodIn_ca (goodIn_ca (goodIn_ca (ggL_law_X10_restore_q0) (ggL_law_X10_restore_q1)) (ggL_law_L_build_q20)) (ggL_law_L_build_q21)) (ggL_law_L_build_q22))) (goodIn_sub (fun _ h => List.mem_append_left _ (List.mem_append_left _ (List.mem_append_left _ (List.mem_append_right _ h)))) (by decide +kernel))) (goodIn_sub (fun _ h => List.mem_append_left _ (List.mem_append_left _ (List.mem_append_left _ (List.mem_append_left _ (List.mem_append_left _ (List.mem_append_left _ (List.mem_append_left _ (List.mem_append_right _ h)))))))) (by decide +kernel))
set_option maxRecDepth 20000 in
theorem gL_law_X10_restore : GoodIn wsL_lawQ (wsV RL 302 RX10 yX10_restore wsX10_restore) := goodIn_app (goodIn_of _ (by decide +kernel)) ggL_law_X10_restore
