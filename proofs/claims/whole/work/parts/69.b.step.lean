/-! EVERY TURN of the law -/
theorem turn_c {c : Prop} [Decidable c] {A B : Option Wd} (h1 : ∃ w1, A = some w1 ∧ Inv w1) (h2 : ∃ w1, B = some w1 ∧ Inv w1) : ∃ w1, (if c then A else B) = some w1 ∧ Inv w1 := by
  split
  · exact h1
  · exact h2
theorem hstep {w : Wd} (h : Inv w) (y x1 x2 x3 : Int32) : ∃ w1, f_turn w y x1 x2 x3 = some w1 ∧ Inv w1 := by
  unfold f_turn
  refine turn_c (lw_gear h x1 x2 x3) ?_
  refine turn_c (lw_mesh h x1 x2 x3) ?_
  refine turn_c (lw_axle h x1 x2 x3) ?_
  refine turn_c (lw_cut h x1 x2 x3) ?_
  refine turn_c (lw_spring h x1 x2 x3) ?_
  refine turn_c (lw_wind h x1 x2 x3) ?_
  refine turn_c (lw_rev h x1 x2 x3) ?_
  refine turn_c (lw_rel h x1 x2 x3) ?_
  refine turn_c (lw_setRatchet h x1 x2 x3) ?_
  refine turn_c (lw_oil h x1 x2 x3) ?_
  refine turn_c (lw_buy h x1 x2 x3) ?_
  refine turn_c (lw_plan h x1 x2 x3) ?_
  refine turn_c (lq_gearCount h x1 x2 x3) ?_
  refine turn_c (lq_teeth h x1 x2 x3) ?_
  refine turn_c (lq_joint h x1 x2 x3) ?_
  refine turn_c (lq_jointCount h x1 x2 x3) ?_
  refine turn_c (lq_trainSize h x1 x2 x3) ?_
  refine turn_c (lq_areInTrain h x1 x2 x3) ?_
  refine turn_c (lq_unitsPerTurn h x1 x2 x3) ?_
  refine turn_c (lq_unitsPerTurnByLowest h x1 x2 x3) ?_
  refine turn_c (lq_angle h x1 x2 x3) ?_
  refine turn_c (lq_anglePart h x1 x2 x3) ?_
  refine turn_c (lq_tension h x1 x2 x3) ?_
  refine turn_c (lq_springSize h x1 x2 x3) ?_
  refine turn_c (lq_springOf h x1 x2 x3) ?_
  refine turn_c (lq_friction h x1 x2 x3) ?_
  refine turn_c (lq_turnsLeft h x1 x2 x3) ?_
  refine turn_c (lq_canRelease h x1 x2 x3) ?_
  refine turn_c (lq_hasRatchet h x1 x2 x3) ?_
  refine turn_c (lq_isDry h x1 x2 x3) ?_
  refine turn_c (lq_wear h x1 x2 x3) ?_
  refine turn_c (lq_drops h x1 x2 x3) ?_
  refine turn_c (lq_planetCount h x1 x2 x3) ?_
  refine turn_c (lq_gearOf h x1 x2 x3) ?_
  refine turn_c (lq_areInLine h x1 x2 x3) ?_
  refine turn_c (lq_nextEclipse h x1 x2 x3) ?_
  refine turn_c (lq_nextEclipseByTurns h x1 x2 x3) ?_
  refine turn_c (lq_planetByAngle h x1 x2 x3) ?_
  refine turn_c (lq_fewestPairs h x1 x2 x3) ?_
  refine turn_c (lq_fewestPairsByTable h x1 x2 x3) ?_
  refine turn_c (lq_woundTotal h x1 x2 x3) ?_
  refine turn_c (lq_tensionTotal h x1 x2 x3) ?_
  refine turn_c (lq_tensionByAccounts h x1 x2 x3) ?_
  refine turn_c (lq_releaseTotal h x1 x2 x3) ?_
  refine turn_c (lq_meanTeeth h x1 x2 x3) ?_
  refine turn_c (lq_dryShare h x1 x2 x3) ?_
  refine turn_c (lq_isConsistent h x1 x2 x3) ?_
  refine turn_c (lw_renderGear h x1 x2 x3) ?_
  refine turn_c (lw_renderTrain h x1 x2 x3) ?_
  refine turn_c (lq_outputAt h x1 x2 x3) ?_
  refine turn_c (lw_type h x1 x2 x3) ?_
  refine turn_c (lw_runScript h x1 x2 x3) ?_
  refine turn_c (lq_errorPosition h x1 x2 x3) ?_
  refine turn_c (lq_failedCommand h x1 x2 x3) ?_
  refine turn_c (lw_undo h x1 x2 x3) ?_
  refine turn_c (lw_save h x1 x2 x3) ?_
  refine turn_c (lw_restore h x1 x2 x3) ?_
  exact ⟨w, rfl, h⟩
