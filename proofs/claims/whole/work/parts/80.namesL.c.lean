set_option maxRecDepth 20000 in
theorem ggL_law_L_trainSize : GoodIn wsL_law wsL_trainSize := sorry
set_option maxRecDepth 20000 in
theorem gL_law_L_trainSize : GoodIn wsL_law (va_wsS RL 239 yL_trainSize wsL_trainSize) := sorry
set_option maxRecDepth 20000 in
theorem ggL_law_X11_trainSize : GoodIn wsL_law wsX11_trainSize := sorry
set_option maxRecDepth 20000 in
theorem gL_law_X11_trainSize : GoodIn wsL_law (wsV RL 241 RX11 yX11_trainSize wsX11_trainSize) := sorry
set_option maxRecDepth 20000 in
theorem ggL_law_L_areInTrain : GoodIn wsL_law wsL_areInTrain := sorry
set_option maxRecDepth 20000 in
theorem gL_law_L_areInTrain : GoodIn wsL_law (va_wsS RL 242 yL_areInTrain wsL_areInTrain) := sorry
set_option maxRecDepth 20000 in
theorem ggL_law_X11_areInTrain : GoodIn wsL_law wsX11_areInTrain := sorry
set_option maxRecDepth 20000 in
theorem gL_law_X11_areInTrain : GoodIn wsL_law (wsV RL 244 RX11 yX11_areInTrain wsX11_areInTrain) := sorry
set_option maxRecDepth 20000 in
theorem ggL_law_L_unitsPerTurn : GoodIn wsL_law wsL_unitsPerTurn := sorry
set_option maxRecDepth 20000 in
theorem gL_law_L_unitsPerTurn : GoodIn wsL_law (va_wsS RL 245 yL_unitsPerTurn wsL_unitsPerTurn) := sorry
set_option maxRecDepth 20000 in
theorem ggL_law_X11_unitsPerTurn : GoodIn wsL_law wsX11_unitsPerTurn := sorry
set_option maxRecDepth 20000 in
theorem gL_law_X11_unitsPerTurn : GoodIn wsL_law (wsV RL 247 RX11 yX11_unitsPerTurn wsX11_unitsPerTurn) := sorry
set_option maxRecDepth 20000 in
theorem ggL_law_L_unitsPerTurnByLowest : GoodIn wsL_law wsL_unitsPerTurnByLowest := sorry
set_option maxRecDepth 20000 in
theorem gL_law_L_unitsPerTurnByLowest : GoodIn wsL_law (va_wsS RL 248 yL_unitsPerTurnByLowest wsL_unitsPerTurnByLowest) := sorry
set_option maxRecDepth 20000 in
theorem ggL_law_X11_unitsPerTurnByLowest : GoodIn wsL_law wsX11_unitsPerTurnByLowest := sorry
set_option maxRecDepth 20000 in
theorem gL_law_X11_unitsPerTurnByLowest : GoodIn wsL_law (wsV RL 250 RX11 yX11_unitsPerTurnByLowest wsX11_unitsPerTurnByLowest) := sorry
set_option maxRecDepth 20000 in
theorem ggL_law_L_angle : GoodIn wsL_law wsL_angle := sorry
set_option maxRecDepth 20000 in
theorem gL_law_L_angle : GoodIn wsL_law (va_wsS RL 251 yL_angle wsL_angle) := sorry
set_option maxRecDepth 20000 in
theorem ggL_law_X11_angle : GoodIn wsL_law wsX11_angle := sorry
set_option maxRecDepth 20000 in
theorem gL_law_X11_angle : GoodIn wsL_law (wsV RL 253 RX11 yX11_angle wsX11_angle) := sorry
set_option maxRecDepth 20000 in
theorem ggL_law_L_anglePart : GoodIn wsL_law wsL_anglePart := sorry
set_option maxRecDepth 20000 in
theorem gL_law_L_anglePart : GoodIn wsL_law (va_wsS RL 254 yL_anglePart wsL_anglePart) := sorry
set_option maxRecDepth 20000 in
theorem ggL_law_X11_anglePart : GoodIn wsL_law wsX11_anglePart := sorry
set_option maxRecDepth 20000 in
theorem gL_law_X11_anglePart : GoodIn wsL_law (wsV RL 257 RX11 yX11_anglePart wsX11_anglePart) := sorry
set_option maxRecDepth 20000 in
theorem ggL_law_L_tension : GoodIn wsL_law wsL_tension := sorry
set_option maxRecDepth 20000 in
theorem gL_law_L_tension : GoodIn wsL_law (va_wsS RL 258 yL_tension wsL_tension) := sorry
set_option maxRecDepth 20000 in
theorem ggL_law_X11_tension : GoodIn wsL_law wsX11_tension := sorry
set_option maxRecDepth 20000 in
theorem gL_law_X11_tension : GoodIn wsL_law (wsV RL 260 RX11 yX11_tension wsX11_tension) := sorry
set_option maxRecDepth 20000 in
theorem ggL_law_L_springSize : GoodIn wsL_law wsL_springSize := sorry
set_option maxRecDepth 20000 in
theorem gL_law_L_springSize : GoodIn wsL_law (va_wsS RL 261 yL_springSize wsL_springSize) := sorry
set_option maxRecDepth 20000 in
theorem ggL_law_X11_springSize : GoodIn wsL_law wsX11_springSize := sorry
set_option maxRecDepth 20000 in
theorem gL_law_X11_springSize : GoodIn wsL_law (wsV RL 263 RX11 yX11_springSize wsX11_springSize) := sorry
set_option maxRecDepth 20000 in
theorem ggL_law_L_springOf : GoodIn wsL_law wsL_springOf := sorry
set_option maxRecDepth 20000 in
theorem gL_law_L_springOf : GoodIn wsL_law (va_wsS RL 264 yL_springOf wsL_springOf) := sorry
set_option maxRecDepth 20000 in
theorem ggL_law_X11_springOf : GoodIn wsL_law wsX11_springOf := sorry
set_option maxRecDepth 20000 in
theorem gL_law_X11_springOf : GoodIn wsL_law (wsV RL 266 RX11 yX11_springOf wsX11_springOf) := sorry
set_option maxRecDepth 20000 in
theorem ggL_law_L_friction : GoodIn wsL_law wsL_friction := sorry
set_option maxRecDepth 20000 in
theorem gL_law_L_friction : GoodIn wsL_law (va_wsS RL 267 yL_friction wsL_friction) := sorry
set_option maxRecDepth 20000 in
theorem ggL_law_X11_friction : GoodIn wsL_law wsX11_friction := sorry
set_option maxRecDepth 20000 in
theorem gL_law_X11_friction : GoodIn wsL_law (wsV RL 269 RX11 yX11_friction wsX11_friction) := sorry
set_option maxRecDepth 20000 in
theorem ggL_law_L_turnsLeft : GoodIn wsL_law wsL_turnsLeft := sorry
set_option maxRecDepth 20000 in
theorem gL_law_L_turnsLeft : GoodIn wsL_law (va_wsS RL 270 yL_turnsLeft wsL_turnsLeft) := sorry
set_option maxRecDepth 20000 in
theorem ggL_law_X11_turnsLeft : GoodIn wsL_law wsX11_turnsLeft := sorry
set_option maxRecDepth 20000 in
theorem gL_law_X11_turnsLeft : GoodIn wsL_law (wsV RL 272 RX11 yX11_turnsLeft wsX11_turnsLeft) := sorry
set_option maxRecDepth 20000 in
theorem ggL_law_L_canRelease : GoodIn wsL_law wsL_canRelease := sorry
set_option maxRecDepth 20000 in
theorem gL_law_L_canRelease : GoodIn wsL_law (va_wsS RL 273 yL_canRelease wsL_canRelease) := sorry
set_option maxRecDepth 20000 in
theorem ggL_law_X11_canRelease : GoodIn wsL_law wsX11_canRelease := sorry
set_option maxRecDepth 20000 in
theorem gL_law_X11_canRelease : GoodIn wsL_law (wsV RL 275 RX11 yX11_canRelease wsX11_canRelease) := sorry
set_option maxRecDepth 20000 in
theorem ggL_law_L_hasRatchet : GoodIn wsL_law wsL_hasRatchet := sorry
set_option maxRecDepth 20000 in
theorem gL_law_L_hasRatchet : GoodIn wsL_law (va_wsS RL 276 yL_hasRatchet wsL_hasRatchet) := sorry
set_option maxRecDepth 20000 in
theorem ggL_law_X11_hasRatchet : GoodIn wsL_law wsX11_hasRatchet := sorry
set_option maxRecDepth 20000 in
theorem gL_law_X11_hasRatchet : GoodIn wsL_law (wsV RL 278 RX11 yX11_hasRatchet wsX11_hasRatchet) := sorry
set_option maxRecDepth 20000 in
theorem ggL_law_L_isDry : GoodIn wsL_law wsL_isDry := sorry
set_option maxRecDepth 20000 in
theorem gL_law_L_isDry : GoodIn wsL_law (va_wsS RL 279 yL_isDry wsL_isDry) := sorry
set_option maxRecDepth 20000 in
theorem ggL_law_X11_isDry : GoodIn wsL_law wsX11_isDry := sorry
set_option maxRecDepth 20000 in
theorem gL_law_X11_isDry : GoodIn wsL_law (wsV RL 281 RX11 yX11_isDry wsX11_isDry) := sorry
set_option maxRecDepth 20000 in
theorem ggL_law_L_wear : GoodIn wsL_law wsL_wear := sorry
set_option maxRecDepth 20000 in
theorem gL_law_L_wear : GoodIn wsL_law (va_wsS RL 282 yL_wear wsL_wear) := sorry
set_option maxRecDepth 20000 in
theorem ggL_law_X11_wear : GoodIn wsL_law wsX11_wear := sorry
set_option maxRecDepth 20000 in
theorem gL_law_X11_wear : GoodIn wsL_law (wsV RL 284 RX11 yX11_wear wsX11_wear) := sorry
set_option maxRecDepth 20000 in
theorem ggL_law_X10_drops : GoodIn wsL_law wsX10_drops := sorry
set_option maxRecDepth 20000 in
theorem gL_law_X10_drops : GoodIn wsL_law (wsV RL 285 RX10 yX10_drops wsX10_drops) := sorry
set_option maxRecDepth 20000 in
theorem ggL_law_X11_drops : GoodIn wsL_law wsX11_drops := sorry
set_option maxRecDepth 20000 in
theorem gL_law_X11_drops : GoodIn wsL_law (wsV RL 288 RX11 yX11_drops wsX11_drops) := sorry
set_option maxRecDepth 20000 in
theorem ggL_law_X10_planetCount : GoodIn wsL_law wsX10_planetCount := sorry
set_option maxRecDepth 20000 in
theorem gL_law_X10_planetCount : GoodIn wsL_law (wsV RL 289 RX10 yX10_planetCount wsX10_planetCount) := sorry
set_option maxRecDepth 20000 in
theorem ggL_law_X11_planetCount : GoodIn wsL_law wsX11_planetCount := sorry
set_option maxRecDepth 20000 in
theorem gL_law_X11_planetCount : GoodIn wsL_law (wsV RL 292 RX11 yX11_planetCount wsX11_planetCount) := sorry
set_option maxRecDepth 20000 in
theorem ggL_law_L_gearOf : GoodIn wsL_law wsL_gearOf := sorry
set_option maxRecDepth 20000 in
theorem gL_law_L_gearOf : GoodIn wsL_law (va_wsS RL 293 yL_gearOf wsL_gearOf) := sorry
set_option maxRecDepth 20000 in
theorem ggL_law_X11_gearOf : GoodIn wsL_law wsX11_gearOf := sorry
set_option maxRecDepth 20000 in
theorem gL_law_X11_gearOf : GoodIn wsL_law (wsV RL 295 RX11 yX11_gearOf wsX11_gearOf) := sorry
set_option maxRecDepth 20000 in
theorem ggL_law_L_areInLine : GoodIn wsL_law wsL_areInLine := sorry
set_option maxRecDepth 20000 in
theorem gL_law_L_areInLine : GoodIn wsL_law (va_wsS RL 296 yL_areInLine wsL_areInLine) := sorry
set_option maxRecDepth 20000 in
theorem ggL_law_X11_areInLine : GoodIn wsL_law wsX11_areInLine := sorry
set_option maxRecDepth 20000 in
theorem gL_law_X11_areInLine : GoodIn wsL_law (wsV RL 298 RX11 yX11_areInLine wsX11_areInLine) := sorry
set_option maxRecDepth 20000 in
theorem ggL_law_L_nextEclipse : GoodIn wsL_law wsL_nextEclipse := sorry
set_option maxRecDepth 20000 in
theorem gL_law_L_nextEclipse : GoodIn wsL_law (va_wsS RL 299 yL_nextEclipse wsL_nextEclipse) := sorry
set_option maxRecDepth 20000 in
theorem ggL_law_X11_nextEclipse : GoodIn wsL_law wsX11_nextEclipse := sorry
set_option maxRecDepth 20000 in
theorem gL_law_X11_nextEclipse : GoodIn wsL_law (wsV RL 302 RX11 yX11_nextEclipse wsX11_nextEclipse) := sorry
set_option maxRecDepth 20000 in
theorem ggL_law_L_nextEclipseByTurns : GoodIn wsL_law wsL_nextEclipseByTurns := sorry
set_option maxRecDepth 20000 in
theorem gL_law_L_nextEclipseByTurns : GoodIn wsL_law (va_wsS RL 303 yL_nextEclipseByTurns wsL_nextEclipseByTurns) := sorry
