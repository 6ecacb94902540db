set_option maxRecDepth 20000 in
theorem ggL_law_X11_nextEclipseByTurns : GoodIn wsL_law wsX11_nextEclipseByTurns := sorry
set_option maxRecDepth 20000 in
theorem gL_law_X11_nextEclipseByTurns : GoodIn wsL_law (wsV RL 305 RX11 yX11_nextEclipseByTurns wsX11_nextEclipseByTurns) := sorry
set_option maxRecDepth 20000 in
theorem ggL_law_L_planetByAngle : GoodIn wsL_law wsL_planetByAngle := sorry
set_option maxRecDepth 20000 in
theorem gL_law_L_planetByAngle : GoodIn wsL_law (va_wsS RL 306 yL_planetByAngle wsL_planetByAngle) := sorry
set_option maxRecDepth 20000 in
theorem ggL_law_X11_planetByAngle : GoodIn wsL_law wsX11_planetByAngle := sorry
set_option maxRecDepth 20000 in
theorem gL_law_X11_planetByAngle : GoodIn wsL_law (wsV RL 308 RX11 yX11_planetByAngle wsX11_planetByAngle) := sorry
set_option maxRecDepth 20000 in
theorem ggL_law_L_fewestPairs : GoodIn wsL_law wsL_fewestPairs := sorry
set_option maxRecDepth 20000 in
theorem gL_law_L_fewestPairs : GoodIn wsL_law (va_wsS RL 309 yL_fewestPairs wsL_fewestPairs) := sorry
set_option maxRecDepth 20000 in
theorem ggL_law_X11_fewestPairs : GoodIn wsL_law wsX11_fewestPairs := sorry
set_option maxRecDepth 20000 in
theorem gL_law_X11_fewestPairs : GoodIn wsL_law (wsV RL 311 RX11 yX11_fewestPairs wsX11_fewestPairs) := sorry
set_option maxRecDepth 20000 in
theorem ggL_law_L_fewestPairsByTable : GoodIn wsL_law wsL_fewestPairsByTable := sorry
set_option maxRecDepth 20000 in
theorem gL_law_L_fewestPairsByTable : GoodIn wsL_law (va_wsS RL 312 yL_fewestPairsByTable wsL_fewestPairsByTable) := sorry
set_option maxRecDepth 20000 in
theorem ggL_law_X11_fewestPairsByTable : GoodIn wsL_law wsX11_fewestPairsByTable := sorry
set_option maxRecDepth 20000 in
theorem gL_law_X11_fewestPairsByTable : GoodIn wsL_law (wsV RL 314 RX11 yX11_fewestPairsByTable wsX11_fewestPairsByTable) := sorry
set_option maxRecDepth 20000 in
theorem ggL_law_X10_woundTotal : GoodIn wsL_law wsX10_woundTotal := sorry
set_option maxRecDepth 20000 in
theorem gL_law_X10_woundTotal : GoodIn wsL_law (wsV RL 315 RX10 yX10_woundTotal wsX10_woundTotal) := sorry
set_option maxRecDepth 20000 in
theorem ggL_law_X11_woundTotal : GoodIn wsL_law wsX11_woundTotal := sorry
set_option maxRecDepth 20000 in
theorem gL_law_X11_woundTotal : GoodIn wsL_law (wsV RL 318 RX11 yX11_woundTotal wsX11_woundTotal) := sorry
set_option maxRecDepth 20000 in
theorem ggL_law_X10_tensionTotal : GoodIn wsL_law wsX10_tensionTotal := sorry
set_option maxRecDepth 20000 in
theorem gL_law_X10_tensionTotal : GoodIn wsL_law (wsV RL 319 RX10 yX10_tensionTotal wsX10_tensionTotal) := sorry
set_option maxRecDepth 20000 in
theorem ggL_law_X11_tensionTotal : GoodIn wsL_law wsX11_tensionTotal := sorry
set_option maxRecDepth 20000 in
theorem gL_law_X11_tensionTotal : GoodIn wsL_law (wsV RL 322 RX11 yX11_tensionTotal wsX11_tensionTotal) := sorry
set_option maxRecDepth 20000 in
theorem ggL_law_X10_tensionByAccounts : GoodIn wsL_law wsX10_tensionByAccounts := sorry
set_option maxRecDepth 20000 in
theorem gL_law_X10_tensionByAccounts : GoodIn wsL_law (wsV RL 323 RX10 yX10_tensionByAccounts wsX10_tensionByAccounts) := sorry
set_option maxRecDepth 20000 in
theorem ggL_law_X11_tensionByAccounts : GoodIn wsL_law wsX11_tensionByAccounts := sorry
set_option maxRecDepth 20000 in
theorem gL_law_X11_tensionByAccounts : GoodIn wsL_law (wsV RL 326 RX11 yX11_tensionByAccounts wsX11_tensionByAccounts) := sorry
set_option maxRecDepth 20000 in
theorem ggL_law_X10_releaseTotal : GoodIn wsL_law wsX10_releaseTotal := sorry
set_option maxRecDepth 20000 in
theorem gL_law_X10_releaseTotal : GoodIn wsL_law (wsV RL 327 RX10 yX10_releaseTotal wsX10_releaseTotal) := sorry
set_option maxRecDepth 20000 in
theorem ggL_law_X11_releaseTotal : GoodIn wsL_law wsX11_releaseTotal := sorry
set_option maxRecDepth 20000 in
theorem gL_law_X11_releaseTotal : GoodIn wsL_law (wsV RL 330 RX11 yX11_releaseTotal wsX11_releaseTotal) := sorry
set_option maxRecDepth 20000 in
theorem ggL_law_L_meanTeeth : GoodIn wsL_law wsL_meanTeeth := sorry
set_option maxRecDepth 20000 in
theorem gL_law_L_meanTeeth : GoodIn wsL_law (va_wsS RL 331 yL_meanTeeth wsL_meanTeeth) := sorry
set_option maxRecDepth 20000 in
theorem ggL_law_X11_meanTeeth : GoodIn wsL_law wsX11_meanTeeth := sorry
set_option maxRecDepth 20000 in
theorem gL_law_X11_meanTeeth : GoodIn wsL_law (wsV RL 334 RX11 yX11_meanTeeth wsX11_meanTeeth) := sorry
set_option maxRecDepth 20000 in
theorem ggL_law_L_dryShare : GoodIn wsL_law wsL_dryShare := sorry
set_option maxRecDepth 20000 in
theorem gL_law_L_dryShare : GoodIn wsL_law (va_wsS RL 335 yL_dryShare wsL_dryShare) := sorry
set_option maxRecDepth 20000 in
theorem ggL_law_X11_dryShare : GoodIn wsL_law wsX11_dryShare := sorry
set_option maxRecDepth 20000 in
theorem gL_law_X11_dryShare : GoodIn wsL_law (wsV RL 337 RX11 yX11_dryShare wsX11_dryShare) := sorry
set_option maxRecDepth 20000 in
theorem ggL_law_X10_isConsistent : GoodIn wsL_law wsX10_isConsistent := sorry
set_option maxRecDepth 20000 in
theorem gL_law_X10_isConsistent : GoodIn wsL_law (wsV RL 338 RX10 yX10_isConsistent wsX10_isConsistent) := sorry
set_option maxRecDepth 20000 in
theorem ggL_law_X11_isConsistent : GoodIn wsL_law wsX11_isConsistent := sorry
set_option maxRecDepth 20000 in
theorem gL_law_X11_isConsistent : GoodIn wsL_law (wsV RL 342 RX11 yX11_isConsistent wsX11_isConsistent) := sorry
set_option maxRecDepth 20000 in
theorem ggL_law_L_renderGear : GoodIn wsL_law wsL_renderGear := sorry
set_option maxRecDepth 20000 in
theorem gL_law_L_renderGear : GoodIn wsL_law (va_wsS RL 343 yL_renderGear wsL_renderGear) := sorry
set_option maxRecDepth 20000 in
theorem ggL_law_X11_renderGear : GoodIn wsL_law wsX11_renderGear := sorry
set_option maxRecDepth 20000 in
theorem gL_law_X11_renderGear : GoodIn wsL_law (wsV RL 345 RX11 yX11_renderGear wsX11_renderGear) := sorry
set_option maxRecDepth 20000 in
theorem ggL_law_L_renderTrain : GoodIn wsL_law wsL_renderTrain := sorry
set_option maxRecDepth 20000 in
theorem gL_law_L_renderTrain : GoodIn wsL_law (va_wsS RL 346 yL_renderTrain wsL_renderTrain) := sorry
set_option maxRecDepth 20000 in
theorem ggL_law_X11_renderTrain : GoodIn wsL_law wsX11_renderTrain := sorry
set_option maxRecDepth 20000 in
theorem gL_law_X11_renderTrain : GoodIn wsL_law (wsV RL 348 RX11 yX11_renderTrain wsX11_renderTrain) := sorry
set_option maxRecDepth 20000 in
theorem ggL_law_L_outputAt : GoodIn wsL_law wsL_outputAt := sorry
set_option maxRecDepth 20000 in
theorem gL_law_L_outputAt : GoodIn wsL_law (va_wsS RL 349 yL_outputAt wsL_outputAt) := sorry
set_option maxRecDepth 20000 in
theorem ggL_law_X11_outputAt : GoodIn wsL_law wsX11_outputAt := sorry
set_option maxRecDepth 20000 in
theorem gL_law_X11_outputAt : GoodIn wsL_law (wsV RL 351 RX11 yX11_outputAt wsX11_outputAt) := sorry
set_option maxRecDepth 20000 in
theorem ggL_law_L_type : GoodIn wsL_law wsL_type := sorry
set_option maxRecDepth 20000 in
theorem gL_law_L_type : GoodIn wsL_law (va_wsS RL 352 yL_type wsL_type) := sorry
set_option maxRecDepth 20000 in
theorem ggL_law_X11_type : GoodIn wsL_law wsX11_type := sorry
set_option maxRecDepth 20000 in
theorem gL_law_X11_type : GoodIn wsL_law (wsV RL 355 RX11 yX11_type wsX11_type) := sorry
set_option maxRecDepth 20000 in
theorem ggL_law_L_runScript : GoodIn wsL_law wsL_runScript := sorry
set_option maxRecDepth 20000 in
theorem gL_law_L_runScript : GoodIn wsL_law (va_wsS RL 356 yL_runScript wsL_runScript) := sorry
set_option maxRecDepth 20000 in
theorem ggL_law_X11_runScript : GoodIn wsL_law wsX11_runScript := sorry
set_option maxRecDepth 20000 in
theorem gL_law_X11_runScript : GoodIn wsL_law (wsV RL 359 RX11 yX11_runScript wsX11_runScript) := sorry
set_option maxRecDepth 20000 in
theorem ggL_law_L_errorPosition : GoodIn wsL_law wsL_errorPosition := sorry
set_option maxRecDepth 20000 in
theorem gL_law_L_errorPosition : GoodIn wsL_law (va_wsS RL 360 yL_errorPosition wsL_errorPosition) := sorry
set_option maxRecDepth 20000 in
theorem ggL_law_X11_errorPosition : GoodIn wsL_law wsX11_errorPosition := sorry
set_option maxRecDepth 20000 in
theorem gL_law_X11_errorPosition : GoodIn wsL_law (wsV RL 362 RX11 yX11_errorPosition wsX11_errorPosition) := sorry
set_option maxRecDepth 20000 in
theorem ggL_law_L_failedCommand : GoodIn wsL_law wsL_failedCommand := sorry
set_option maxRecDepth 20000 in
theorem gL_law_L_failedCommand : GoodIn wsL_law (va_wsS RL 363 yL_failedCommand wsL_failedCommand) := sorry
set_option maxRecDepth 20000 in
theorem ggL_law_X11_failedCommand : GoodIn wsL_law wsX11_failedCommand := sorry
set_option maxRecDepth 20000 in
theorem gL_law_X11_failedCommand : GoodIn wsL_law (wsV RL 365 RX11 yX11_failedCommand wsX11_failedCommand) := sorry
set_option maxRecDepth 20000 in
theorem ggL_law_L_undo : GoodIn wsL_law wsL_undo := sorry
set_option maxRecDepth 20000 in
theorem gL_law_L_undo : GoodIn wsL_law (va_wsS RL 366 yL_undo wsL_undo) := sorry
set_option maxRecDepth 20000 in
theorem ggL_law_X11_undo : GoodIn wsL_law wsX11_undo := sorry
set_option maxRecDepth 20000 in
theorem gL_law_X11_undo : GoodIn wsL_law (wsV RL 368 RX11 yX11_undo wsX11_undo) := sorry
set_option maxRecDepth 20000 in
theorem ggL_law_X10_save : GoodIn wsL_law wsX10_save := sorry
set_option maxRecDepth 20000 in
theorem gL_law_X10_save : GoodIn wsL_law (wsV RL 369 RX10 yX10_save wsX10_save) := sorry
set_option maxRecDepth 20000 in
theorem ggL_law_X11_save : GoodIn wsL_law wsX11_save := sorry
set_option maxRecDepth 20000 in
theorem gL_law_X11_save : GoodIn wsL_law (wsV RL 372 RX11 yX11_save wsX11_save) := sorry
set_option maxRecDepth 20000 in
theorem ggL_law_L_restore : GoodIn wsL_law wsL_restore := sorry
set_option maxRecDepth 20000 in
theorem gL_law_L_restore : GoodIn wsL_law (va_wsS RL 373 yL_restore wsL_restore) := sorry
set_option maxRecDepth 20000 in
theorem ggL_law_X11_restore : GoodIn wsL_law wsX11_restore := sorry
set_option maxRecDepth 20000 in
theorem gL_law_X11_restore : GoodIn wsL_law (wsV RL 375 RX11 yX11_restore wsX11_restore) := sorry
