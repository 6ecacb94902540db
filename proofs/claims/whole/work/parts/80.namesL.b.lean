set_option maxRecDepth 20000 in
theorem ggL_type_X10_type : GoodIn wsL_type wsX10_type := sorry
set_option maxRecDepth 20000 in
theorem gL_type_X10_type : GoodIn wsL_type (wsV RL 157 RX10 yX10_type wsX10_type) := sorry
theorem dL_type_0 : decode cL_type 0 = .ok (.aload_n 2, 1) := sorry
theorem dL_type_1 : decode cL_type 1 = .ok (.iconst 0, 1) := sorry
theorem dL_type_2 : decode cL_type 2 = .ok (.aload_n 0, 1) := sorry
theorem dL_type_3 : decode cL_type 3 = .ok (.iload_n 1, 1) := sorry
theorem dL_type_4 : decode cL_type 4 = .ok (.invokevirtual 157, 3) := sorry
theorem dL_type_7 : decode cL_type 7 = .ok (.i2l, 1) := sorry
theorem dL_type_8 : decode cL_type 8 = .ok (.lastore, 1) := sorry
theorem dL_type_9 : decode cL_type 9 = .ok (.goto 9, 3) := sorry
theorem dL_type_12 : decode cL_type 12 = .ok (.astore_n 3, 1) := sorry
theorem dL_type_13 : decode cL_type 13 = .ok (.iconst 1, 1) := sorry
theorem dL_type_14 : decode cL_type 14 = .ok (.ireturn, 1) := sorry
theorem dL_type_15 : decode cL_type 15 = .ok (.astore_n 3, 1) := sorry
theorem dL_type_16 : decode cL_type 16 = .ok (.iconst 2, 1) := sorry
theorem dL_type_17 : decode cL_type 17 = .ok (.ireturn, 1) := sorry
theorem dL_type_18 : decode cL_type 18 = .ok (.iconst 0, 1) := sorry
theorem dL_type_19 : decode cL_type 19 = .ok (.ireturn, 1) := sorry
set_option maxRecDepth 20000 in
theorem ggL_runScript_X10_runScript : GoodIn wsL_runScript wsX10_runScript := sorry
set_option maxRecDepth 20000 in
theorem gL_runScript_X10_runScript : GoodIn wsL_runScript (wsV RL 161 RX10 yX10_runScript wsX10_runScript) := sorry
theorem dL_runScript_0 : decode cL_runScript 0 = .ok (.aload_n 1, 1) := sorry
theorem dL_runScript_1 : decode cL_runScript 1 = .ok (.iconst 0, 1) := sorry
theorem dL_runScript_2 : decode cL_runScript 2 = .ok (.aload_n 0, 1) := sorry
theorem dL_runScript_3 : decode cL_runScript 3 = .ok (.invokevirtual 161, 3) := sorry
theorem dL_runScript_6 : decode cL_runScript 6 = .ok (.i2l, 1) := sorry
theorem dL_runScript_7 : decode cL_runScript 7 = .ok (.lastore, 1) := sorry
theorem dL_runScript_8 : decode cL_runScript 8 = .ok (.goto 9, 3) := sorry
theorem dL_runScript_11 : decode cL_runScript 11 = .ok (.astore_n 2, 1) := sorry
theorem dL_runScript_12 : decode cL_runScript 12 = .ok (.iconst 1, 1) := sorry
theorem dL_runScript_13 : decode cL_runScript 13 = .ok (.ireturn, 1) := sorry
theorem dL_runScript_14 : decode cL_runScript 14 = .ok (.astore_n 2, 1) := sorry
theorem dL_runScript_15 : decode cL_runScript 15 = .ok (.iconst 2, 1) := sorry
theorem dL_runScript_16 : decode cL_runScript 16 = .ok (.ireturn, 1) := sorry
theorem dL_runScript_17 : decode cL_runScript 17 = .ok (.iconst 0, 1) := sorry
theorem dL_runScript_18 : decode cL_runScript 18 = .ok (.ireturn, 1) := sorry
set_option maxRecDepth 20000 in
theorem ggL_errorPosition_X10_errorPosition : GoodIn wsL_errorPosition wsX10_errorPosition := sorry
set_option maxRecDepth 20000 in
theorem gL_errorPosition_X10_errorPosition : GoodIn wsL_errorPosition (wsV RL 165 RX10 yX10_errorPosition wsX10_errorPosition) := sorry
theorem dL_errorPosition_0 : decode cL_errorPosition 0 = .ok (.aload_n 1, 1) := sorry
theorem dL_errorPosition_1 : decode cL_errorPosition 1 = .ok (.iconst 0, 1) := sorry
theorem dL_errorPosition_2 : decode cL_errorPosition 2 = .ok (.aload_n 0, 1) := sorry
theorem dL_errorPosition_3 : decode cL_errorPosition 3 = .ok (.invokevirtual 165, 3) := sorry
theorem dL_errorPosition_6 : decode cL_errorPosition 6 = .ok (.i2l, 1) := sorry
theorem dL_errorPosition_7 : decode cL_errorPosition 7 = .ok (.lastore, 1) := sorry
theorem dL_errorPosition_8 : decode cL_errorPosition 8 = .ok (.goto 6, 3) := sorry
theorem dL_errorPosition_11 : decode cL_errorPosition 11 = .ok (.astore_n 2, 1) := sorry
theorem dL_errorPosition_12 : decode cL_errorPosition 12 = .ok (.iconst 1, 1) := sorry
theorem dL_errorPosition_13 : decode cL_errorPosition 13 = .ok (.ireturn, 1) := sorry
theorem dL_errorPosition_14 : decode cL_errorPosition 14 = .ok (.iconst 0, 1) := sorry
theorem dL_errorPosition_15 : decode cL_errorPosition 15 = .ok (.ireturn, 1) := sorry
set_option maxRecDepth 20000 in
theorem ggL_failedCommand_X10_failedCommand : GoodIn wsL_failedCommand wsX10_failedCommand := sorry
set_option maxRecDepth 20000 in
theorem gL_failedCommand_X10_failedCommand : GoodIn wsL_failedCommand (wsV RL 168 RX10 yX10_failedCommand wsX10_failedCommand) := sorry
theorem dL_failedCommand_0 : decode cL_failedCommand 0 = .ok (.aload_n 1, 1) := sorry
theorem dL_failedCommand_1 : decode cL_failedCommand 1 = .ok (.iconst 0, 1) := sorry
theorem dL_failedCommand_2 : decode cL_failedCommand 2 = .ok (.aload_n 0, 1) := sorry
theorem dL_failedCommand_3 : decode cL_failedCommand 3 = .ok (.invokevirtual 168, 3) := sorry
theorem dL_failedCommand_6 : decode cL_failedCommand 6 = .ok (.i2l, 1) := sorry
theorem dL_failedCommand_7 : decode cL_failedCommand 7 = .ok (.lastore, 1) := sorry
theorem dL_failedCommand_8 : decode cL_failedCommand 8 = .ok (.goto 6, 3) := sorry
theorem dL_failedCommand_11 : decode cL_failedCommand 11 = .ok (.astore_n 2, 1) := sorry
theorem dL_failedCommand_12 : decode cL_failedCommand 12 = .ok (.iconst 1, 1) := sorry
theorem dL_failedCommand_13 : decode cL_failedCommand 13 = .ok (.ireturn, 1) := sorry
theorem dL_failedCommand_14 : decode cL_failedCommand 14 = .ok (.iconst 0, 1) := sorry
theorem dL_failedCommand_15 : decode cL_failedCommand 15 = .ok (.ireturn, 1) := sorry
set_option maxRecDepth 20000 in
theorem ggL_undo_X10_undo : GoodIn wsL_undo wsX10_undo := sorry
set_option maxRecDepth 20000 in
theorem gL_undo_X10_undo : GoodIn wsL_undo (wsV RL 171 RX10 yX10_undo wsX10_undo) := sorry
theorem dL_undo_0 : decode cL_undo 0 = .ok (.aload_n 1, 1) := sorry
theorem dL_undo_1 : decode cL_undo 1 = .ok (.iconst 0, 1) := sorry
theorem dL_undo_2 : decode cL_undo 2 = .ok (.aload_n 0, 1) := sorry
theorem dL_undo_3 : decode cL_undo 3 = .ok (.invokevirtual 171, 3) := sorry
theorem dL_undo_6 : decode cL_undo 6 = .ok (.i2l, 1) := sorry
theorem dL_undo_7 : decode cL_undo 7 = .ok (.lastore, 1) := sorry
theorem dL_undo_8 : decode cL_undo 8 = .ok (.goto 6, 3) := sorry
theorem dL_undo_11 : decode cL_undo 11 = .ok (.astore_n 2, 1) := sorry
theorem dL_undo_12 : decode cL_undo 12 = .ok (.iconst 1, 1) := sorry
theorem dL_undo_13 : decode cL_undo 13 = .ok (.ireturn, 1) := sorry
theorem dL_undo_14 : decode cL_undo 14 = .ok (.iconst 0, 1) := sorry
theorem dL_undo_15 : decode cL_undo 15 = .ok (.ireturn, 1) := sorry
set_option maxRecDepth 20000 in
theorem ggL_restore_X10_restore : GoodIn wsL_restore wsX10_restore := sorry
set_option maxRecDepth 20000 in
theorem gL_restore_X10_restore : GoodIn wsL_restore (wsV RL 174 RX10 yX10_restore wsX10_restore) := sorry
theorem dL_restore_0 : decode cL_restore 0 = .ok (.aload_n 1, 1) := sorry
theorem dL_restore_1 : decode cL_restore 1 = .ok (.iconst 0, 1) := sorry
theorem dL_restore_2 : decode cL_restore 2 = .ok (.aload_n 0, 1) := sorry
theorem dL_restore_3 : decode cL_restore 3 = .ok (.invokevirtual 174, 3) := sorry
theorem dL_restore_6 : decode cL_restore 6 = .ok (.i2l, 1) := sorry
theorem dL_restore_7 : decode cL_restore 7 = .ok (.lastore, 1) := sorry
theorem dL_restore_8 : decode cL_restore 8 = .ok (.goto 6, 3) := sorry
theorem dL_restore_11 : decode cL_restore 11 = .ok (.astore_n 2, 1) := sorry
theorem dL_restore_12 : decode cL_restore 12 = .ok (.iconst 1, 1) := sorry
theorem dL_restore_13 : decode cL_restore 13 = .ok (.ireturn, 1) := sorry
theorem dL_restore_14 : decode cL_restore 14 = .ok (.iconst 0, 1) := sorry
theorem dL_restore_15 : decode cL_restore 15 = .ok (.ireturn, 1) := sorry
set_option maxRecDepth 20000 in
theorem ggL_law_X10_init : GoodIn wsL_law wsX10_init := sorry
set_option maxRecDepth 20000 in
theorem gL_law_X10_init : GoodIn wsL_law (wsX10_init) := sorry
set_option maxRecDepth 20000 in
theorem ggL_law_X11_init : GoodIn wsL_law wsX11_init := sorry
set_option maxRecDepth 20000 in
theorem gL_law_X11_init : GoodIn wsL_law (wsX11_init) := sorry
set_option maxRecDepth 20000 in
theorem ggL_law_L_addGear : GoodIn wsL_law wsL_addGear := sorry
set_option maxRecDepth 20000 in
theorem gL_law_L_addGear : GoodIn wsL_law (va_wsS RL 181 yL_addGear wsL_addGear) := sorry
set_option maxRecDepth 20000 in
theorem ggL_law_X11_addGear : GoodIn wsL_law wsX11_addGear := sorry
set_option maxRecDepth 20000 in
theorem gL_law_X11_addGear : GoodIn wsL_law (wsV RL 186 RX11 yX11_addGear wsX11_addGear) := sorry
set_option maxRecDepth 20000 in
theorem ggL_law_X11_thrown : GoodIn wsL_law wsX11_thrown := sorry
set_option maxRecDepth 20000 in
theorem gL_law_X11_thrown : GoodIn wsL_law (wsV RL 187 RX11 yX11_thrown wsX11_thrown) := sorry
set_option maxRecDepth 20000 in
theorem ggL_law_L_mesh : GoodIn wsL_law wsL_mesh := sorry
set_option maxRecDepth 20000 in
theorem gL_law_L_mesh : GoodIn wsL_law (va_wsS RL 190 yL_mesh wsL_mesh) := sorry
set_option maxRecDepth 20000 in
theorem ggL_law_X11_mesh : GoodIn wsL_law wsX11_mesh := sorry
set_option maxRecDepth 20000 in
theorem gL_law_X11_mesh : GoodIn wsL_law (wsV RL 193 RX11 yX11_mesh wsX11_mesh) := sorry
set_option maxRecDepth 20000 in
theorem ggL_law_L_shareAxle : GoodIn wsL_law wsL_shareAxle := sorry
set_option maxRecDepth 20000 in
theorem gL_law_L_shareAxle : GoodIn wsL_law (va_wsS RL 194 yL_shareAxle wsL_shareAxle) := sorry
set_option maxRecDepth 20000 in
theorem ggL_law_X11_shareAxle : GoodIn wsL_law wsX11_shareAxle := sorry
set_option maxRecDepth 20000 in
theorem gL_law_X11_shareAxle : GoodIn wsL_law (wsV RL 196 RX11 yX11_shareAxle wsX11_shareAxle) := sorry
set_option maxRecDepth 20000 in
theorem ggL_law_L_separate : GoodIn wsL_law wsL_separate := sorry
set_option maxRecDepth 20000 in
theorem gL_law_L_separate : GoodIn wsL_law (va_wsS RL 197 yL_separate wsL_separate) := sorry
set_option maxRecDepth 20000 in
theorem ggL_law_X11_separate : GoodIn wsL_law wsX11_separate := sorry
set_option maxRecDepth 20000 in
theorem gL_law_X11_separate : GoodIn wsL_law (wsV RL 199 RX11 yX11_separate wsX11_separate) := sorry
set_option maxRecDepth 20000 in
theorem ggL_law_L_setSpring : GoodIn wsL_law wsL_setSpring := sorry
set_option maxRecDepth 20000 in
theorem gL_law_L_setSpring : GoodIn wsL_law (va_wsS RL 200 yL_setSpring wsL_setSpring) := sorry
set_option maxRecDepth 20000 in
theorem ggL_law_X11_setSpring : GoodIn wsL_law wsX11_setSpring := sorry
set_option maxRecDepth 20000 in
theorem gL_law_X11_setSpring : GoodIn wsL_law (wsV RL 202 RX11 yX11_setSpring wsX11_setSpring) := sorry
set_option maxRecDepth 20000 in
theorem ggL_law_L_wind : GoodIn wsL_law wsL_wind := sorry
set_option maxRecDepth 20000 in
theorem gL_law_L_wind : GoodIn wsL_law (va_wsS RL 203 yL_wind wsL_wind) := sorry
set_option maxRecDepth 20000 in
theorem ggL_law_X11_wind : GoodIn wsL_law wsX11_wind := sorry
set_option maxRecDepth 20000 in
theorem gL_law_X11_wind : GoodIn wsL_law (wsV RL 205 RX11 yX11_wind wsX11_wind) := sorry
set_option maxRecDepth 20000 in
theorem ggL_law_L_reverse : GoodIn wsL_law wsL_reverse := sorry
set_option maxRecDepth 20000 in
theorem gL_law_L_reverse : GoodIn wsL_law (va_wsS RL 206 yL_reverse wsL_reverse) := sorry
set_option maxRecDepth 20000 in
theorem ggL_law_X11_reverse : GoodIn wsL_law wsX11_reverse := sorry
set_option maxRecDepth 20000 in
theorem gL_law_X11_reverse : GoodIn wsL_law (wsV RL 208 RX11 yX11_reverse wsX11_reverse) := sorry
set_option maxRecDepth 20000 in
theorem ggL_law_L_release : GoodIn wsL_law wsL_release := sorry
set_option maxRecDepth 20000 in
theorem gL_law_L_release : GoodIn wsL_law (va_wsS RL 209 yL_release wsL_release) := sorry
set_option maxRecDepth 20000 in
theorem ggL_law_X11_release : GoodIn wsL_law wsX11_release := sorry
set_option maxRecDepth 20000 in
theorem gL_law_X11_release : GoodIn wsL_law (wsV RL 211 RX11 yX11_release wsX11_release) := sorry
set_option maxRecDepth 20000 in
theorem ggL_law_L_setRatchet : GoodIn wsL_law wsL_setRatchet := sorry
set_option maxRecDepth 20000 in
theorem gL_law_L_setRatchet : GoodIn wsL_law (va_wsS RL 212 yL_setRatchet wsL_setRatchet) := sorry
set_option maxRecDepth 20000 in
theorem ggL_law_X11_setRatchet : GoodIn wsL_law wsX11_setRatchet := sorry
set_option maxRecDepth 20000 in
theorem gL_law_X11_setRatchet : GoodIn wsL_law (wsV RL 215 RX11 yX11_setRatchet wsX11_setRatchet) := sorry
set_option maxRecDepth 20000 in
theorem ggL_law_L_oil : GoodIn wsL_law wsL_oil := sorry
set_option maxRecDepth 20000 in
theorem gL_law_L_oil : GoodIn wsL_law (va_wsS RL 216 yL_oil wsL_oil) := sorry
set_option maxRecDepth 20000 in
theorem ggL_law_X11_oil : GoodIn wsL_law wsX11_oil := sorry
set_option maxRecDepth 20000 in
theorem gL_law_X11_oil : GoodIn wsL_law (wsV RL 218 RX11 yX11_oil wsX11_oil) := sorry
set_option maxRecDepth 20000 in
theorem ggL_law_L_buyOil : GoodIn wsL_law wsL_buyOil := sorry
set_option maxRecDepth 20000 in
theorem gL_law_L_buyOil : GoodIn wsL_law (va_wsS RL 219 yL_buyOil wsL_buyOil) := sorry
set_option maxRecDepth 20000 in
theorem ggL_law_X11_buyOil : GoodIn wsL_law wsX11_buyOil := sorry
set_option maxRecDepth 20000 in
theorem gL_law_X11_buyOil : GoodIn wsL_law (wsV RL 221 RX11 yX11_buyOil wsX11_buyOil) := sorry
set_option maxRecDepth 20000 in
theorem ggL_law_L_addPlanet : GoodIn wsL_law wsL_addPlanet := sorry
set_option maxRecDepth 20000 in
theorem gL_law_L_addPlanet : GoodIn wsL_law (va_wsS RL 222 yL_addPlanet wsL_addPlanet) := sorry
set_option maxRecDepth 20000 in
theorem ggL_law_X11_addPlanet : GoodIn wsL_law wsX11_addPlanet := sorry
set_option maxRecDepth 20000 in
theorem gL_law_X11_addPlanet : GoodIn wsL_law (wsV RL 224 RX11 yX11_addPlanet wsX11_addPlanet) := sorry
set_option maxRecDepth 20000 in
theorem ggL_law_X10_gearCount : GoodIn wsL_law wsX10_gearCount := sorry
set_option maxRecDepth 20000 in
theorem gL_law_X10_gearCount : GoodIn wsL_law (wsV RL 225 RX10 yX10_gearCount wsX10_gearCount) := sorry
set_option maxRecDepth 20000 in
theorem ggL_law_X11_gearCount : GoodIn wsL_law wsX11_gearCount := sorry
set_option maxRecDepth 20000 in
theorem gL_law_X11_gearCount : GoodIn wsL_law (wsV RL 228 RX11 yX11_gearCount wsX11_gearCount) := sorry
set_option maxRecDepth 20000 in
theorem ggL_law_L_teeth : GoodIn wsL_law wsL_teeth := sorry
set_option maxRecDepth 20000 in
theorem gL_law_L_teeth : GoodIn wsL_law (va_wsS RL 229 yL_teeth wsL_teeth) := sorry
set_option maxRecDepth 20000 in
theorem ggL_law_X11_teeth : GoodIn wsL_law wsX11_teeth := sorry
set_option maxRecDepth 20000 in
theorem gL_law_X11_teeth : GoodIn wsL_law (wsV RL 231 RX11 yX11_teeth wsX11_teeth) := sorry
set_option maxRecDepth 20000 in
theorem ggL_law_L_joint : GoodIn wsL_law wsL_joint := sorry
set_option maxRecDepth 20000 in
theorem gL_law_L_joint : GoodIn wsL_law (va_wsS RL 232 yL_joint wsL_joint) := sorry
set_option maxRecDepth 20000 in
theorem ggL_law_X11_joint : GoodIn wsL_law wsX11_joint := sorry
set_option maxRecDepth 20000 in
theorem gL_law_X11_joint : GoodIn wsL_law (wsV RL 234 RX11 yX11_joint wsX11_joint) := sorry
set_option maxRecDepth 20000 in
theorem ggL_law_X10_jointCount : GoodIn wsL_law wsX10_jointCount := sorry
set_option maxRecDepth 20000 in
theorem gL_law_X10_jointCount : GoodIn wsL_law (wsV RL 235 RX10 yX10_jointCount wsX10_jointCount) := sorry
set_option maxRecDepth 20000 in
theorem ggL_law_X11_jointCount : GoodIn wsL_law wsX11_jointCount := sorry
set_option maxRecDepth 20000 in
theorem gL_law_X11_jointCount : GoodIn wsL_law (wsV RL 238 RX11 yX11_jointCount wsX11_jointCount) := sorry
