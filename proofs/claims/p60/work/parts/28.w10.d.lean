set_option maxHeartbeats 4000000 in
set_option maxRecDepth 100000 in
theorem c_X10_buyOil (l : Launch) (G : GG) (hst : l.stackTraces = false) {w : Wd} {x1 : Int32} {z0 : (Nat ⊕ Int32)} {w1 : Wd} (hF : f_X10_buyOil w x1 = some (z0, w1)) : vx_Met l yX10_buyOil wsX10_buyOil ({ frames := 8, cells := 1, slots := 6, locals := 131 } : Room) (va_Pc [.ref (gAd G 0), .int x1] (Rel G w)) (amR G oI z0 w1) (amX G z0 w1) 1 6 (gA G) := by
  refine am_metX (own := RX10) (cc := cX10_buyOil) (maxL := 2) (ret := (some .int)) (by decide +kernel) rfl rfl (Nat.le_of_ble_eq_true rfl) ?_
  intro p e s m args below meth c ab H locs ls X hr htb hh hl
  have hx := X.1.1; have hb := X.1.2.1; have hml := X.1.2.2.1; have hown := X.1.2.2.2.1; have hts := X.1.2.2.2.2
  have hl : lv_has ls 2 [(0, .ref (gAd G 0)), (1, .int x1)] := hl
  have hwRX10 : ∀ z ∈ u_ws RX10 TX10 13, z ∈ wsX10_buyOil := by decide +kernel
  unfold f_X10_buyOil at hF
  refine lv_aload_n hx hb dX10_buyOil_0 rfl (lv_at hl 0 rfl) ?_
  refine am_getR X hh 0 11 1 12 (by decide) rfl rfl (by decide) hwRX10 (show Cond.fieldLink RX10 16 "PlanetWorkshop" "before" "LPlanetWorkshop$State;" ∈ wsX10_buyOil by decide +kernel) rfl dX10_buyOil_1 ?_
  refine lv_aload_n hx hb dX10_buyOil_4 rfl (lv_at hl 0 rfl) ?_
  refine am_getR X hh 0 11 0 1 (by decide) rfl rfl (by decide) hwRX10 (show Cond.fieldLink RX10 12 "PlanetWorkshop" "now" "LPlanetWorkshop$State;" ∈ wsX10_buyOil by decide +kernel) rfl dX10_buyOil_5 ?_
  obtain ⟨w3, hk1, hF⟩ := am_bind hF
  refine am_call X hh (va_runV (As := [.ref (gAd G 1)]) (rest := []) X.1 (c_X7_copyFrom l G st_12 st_1 hk1) (cwV 1 hts gX10_buyOil_X7_copyFrom rfl rfl rfl (by decide +kernel) ⟨Nat.le_of_ble_eq_true rfl, Nat.le_of_ble_eq_true rfl⟩) (am_preV X hh 12 9 (by decide) rfl rfl) rfl rfl hl.1 rfl (lv_room (Nat.le_of_ble_eq_true rfl)) dX10_buyOil_8 ⟨Nat.le_of_ble_eq_true rfl, Nat.le_of_ble_eq_true rfl⟩) (fun ab H locs hh => ?_)
  refine lv_aload_n hx hb dX10_buyOil_11 rfl (lv_at hl 0 rfl) ?_
  refine lv_aload_n hx hb dX10_buyOil_12 rfl (lv_at hl 0 rfl) ?_
  refine am_getR X hh 0 11 6 127 (by decide) rfl rfl (by decide) hwRX10 (show Cond.fieldLink RX10 45 "PlanetWorkshop" "changes" "LPlanetWorkshop$Changes;" ∈ wsX10_buyOil by decide +kernel) rfl dX10_buyOil_13 ?_
  refine lv_iload_n hx hb dX10_buyOil_16 rfl (lv_at hl 1 rfl) ?_
  obtain ⟨⟨r5, w6⟩, hk4, hF⟩ := am_bind hF
  have hF := am_u2 hF
  refine am_call X hh (va_runV (As := [.int x1]) (rest := [.ref (gAd G 0)]) X.1 (c_X1_addDrops l G hk4) (cwV 1 hts gX10_buyOil_X1_addDrops rfl rfl rfl (by decide +kernel) ⟨Nat.le_of_ble_eq_true rfl, Nat.le_of_ble_eq_true rfl⟩) (am_preV X hh 127 4 (by decide) rfl rfl) rfl rfl hl.1 rfl (lv_room (Nat.le_of_ble_eq_true rfl)) dX10_buyOil_17 ⟨Nat.le_of_ble_eq_true rfl, Nat.le_of_ble_eq_true rfl⟩) (fun ab H locs hh => ?_)
  obtain ⟨⟨z11, w10⟩, hk8, hF⟩ := am_bind hF
  have hF := am_u2 hF
  refine am_callX X hh (vx_runV (As := [.int r5]) (rest := []) X.1 (c_X10_settle l G hst hk8) (cwV 1 hts gX10_buyOil_X10_settle rfl rfl rfl (by decide +kernel) ⟨Nat.le_of_ble_eq_true rfl, Nat.le_of_ble_eq_true rfl⟩) (am_preV X hh 0 11 (by decide) rfl rfl) rfl rfl hl.1 rfl (lv_room (Nat.le_of_ble_eq_true rfl)) dX10_buyOil_20 ⟨Nat.le_of_ble_eq_true rfl, Nat.le_of_ble_eq_true rfl⟩) (fun k ab H locs ce q hz hh hce hcv hcl => ?_) (fun r9 ab H locs hz hh => ?_)
  · subst hz
    have hF := am_zl hF
    exact am_out X htb hh (am_zw hF).1 (am_zw hF).2 hce hcv hcl (Nat.le_of_ble_eq_true rfl) (Nat.le_of_ble_eq_true rfl)
  · subst hz
    have hF := am_zr hF
    exact vx_ret (am_iret X hr hh (fun t ht => am_qwX (mk := oI) hF ht) (Nat.le_of_ble_eq_true rfl) (Nat.le_of_ble_eq_true rfl) dX10_buyOil_23)
set_option maxHeartbeats 4000000 in
set_option maxRecDepth 100000 in
theorem c_X10_addPlanet (l : Launch) (G : GG) (hst : l.stackTraces = false) {w : Wd} {x1 : Int32} {z0 : (Nat ⊕ Int32)} {w1 : Wd} (hF : f_X10_addPlanet w x1 = some (z0, w1)) : vx_Met l yX10_addPlanet wsX10_addPlanet ({ frames := 8, cells := 1, slots := 6, locals := 131 } : Room) (va_Pc [.ref (gAd G 0), .int x1] (Rel G w)) (amR G oI z0 w1) (amX G z0 w1) 1 6 (gA G) := by
  refine am_metX (own := RX10) (cc := cX10_addPlanet) (maxL := 2) (ret := (some .int)) (by decide +kernel) rfl rfl (Nat.le_of_ble_eq_true rfl) ?_
  intro p e s m args below meth c ab H locs ls X hr htb hh hl
  have hx := X.1.1; have hb := X.1.2.1; have hml := X.1.2.2.1; have hown := X.1.2.2.2.1; have hts := X.1.2.2.2.2
  have hl : lv_has ls 2 [(0, .ref (gAd G 0)), (1, .int x1)] := hl
  have hwRX10 : ∀ z ∈ u_ws RX10 TX10 13, z ∈ wsX10_addPlanet := by decide +kernel
  unfold f_X10_addPlanet at hF
  refine lv_aload_n hx hb dX10_addPlanet_0 rfl (lv_at hl 0 rfl) ?_
  refine am_getR X hh 0 11 1 12 (by decide) rfl rfl (by decide) hwRX10 (show Cond.fieldLink RX10 16 "PlanetWorkshop" "before" "LPlanetWorkshop$State;" ∈ wsX10_addPlanet by decide +kernel) rfl dX10_addPlanet_1 ?_
  refine lv_aload_n hx hb dX10_addPlanet_4 rfl (lv_at hl 0 rfl) ?_
  refine am_getR X hh 0 11 0 1 (by decide) rfl rfl (by decide) hwRX10 (show Cond.fieldLink RX10 12 "PlanetWorkshop" "now" "LPlanetWorkshop$State;" ∈ wsX10_addPlanet by decide +kernel) rfl dX10_addPlanet_5 ?_
  obtain ⟨w3, hk1, hF⟩ := am_bind hF
  refine am_call X hh (va_runV (As := [.ref (gAd G 1)]) (rest := []) X.1 (c_X7_copyFrom l G st_12 st_1 hk1) (cwV 1 hts gX10_addPlanet_X7_copyFrom rfl rfl rfl (by decide +kernel) ⟨Nat.le_of_ble_eq_true rfl, Nat.le_of_ble_eq_true rfl⟩) (am_preV X hh 12 9 (by decide) rfl rfl) rfl rfl hl.1 rfl (lv_room (Nat.le_of_ble_eq_true rfl)) dX10_addPlanet_8 ⟨Nat.le_of_ble_eq_true rfl, Nat.le_of_ble_eq_true rfl⟩) (fun ab H locs hh => ?_)
  refine lv_aload_n hx hb dX10_addPlanet_11 rfl (lv_at hl 0 rfl) ?_
  refine lv_aload_n hx hb dX10_addPlanet_12 rfl (lv_at hl 0 rfl) ?_
  refine am_getR X hh 0 11 6 127 (by decide) rfl rfl (by decide) hwRX10 (show Cond.fieldLink RX10 45 "PlanetWorkshop" "changes" "LPlanetWorkshop$Changes;" ∈ wsX10_addPlanet by decide +kernel) rfl dX10_addPlanet_13 ?_
  refine lv_iload_n hx hb dX10_addPlanet_16 rfl (lv_at hl 1 rfl) ?_
  obtain ⟨⟨r5, w6⟩, hk4, hF⟩ := am_bind hF
  have hF := am_u2 hF
  refine am_call X hh (va_runV (As := [.int x1]) (rest := [.ref (gAd G 0)]) X.1 (c_X1_putPlanet l G hk4) (cwV 1 hts gX10_addPlanet_X1_putPlanet rfl rfl rfl (by decide +kernel) ⟨Nat.le_of_ble_eq_true rfl, Nat.le_of_ble_eq_true rfl⟩) (am_preV X hh 127 4 (by decide) rfl rfl) rfl rfl hl.1 rfl (lv_room (Nat.le_of_ble_eq_true rfl)) dX10_addPlanet_17 ⟨Nat.le_of_ble_eq_true rfl, Nat.le_of_ble_eq_true rfl⟩) (fun ab H locs hh => ?_)
  obtain ⟨⟨z11, w10⟩, hk8, hF⟩ := am_bind hF
  have hF := am_u2 hF
  refine am_callX X hh (vx_runV (As := [.int r5]) (rest := []) X.1 (c_X10_settle l G hst hk8) (cwV 1 hts gX10_addPlanet_X10_settle rfl rfl rfl (by decide +kernel) ⟨Nat.le_of_ble_eq_true rfl, Nat.le_of_ble_eq_true rfl⟩) (am_preV X hh 0 11 (by decide) rfl rfl) rfl rfl hl.1 rfl (lv_room (Nat.le_of_ble_eq_true rfl)) dX10_addPlanet_20 ⟨Nat.le_of_ble_eq_true rfl, Nat.le_of_ble_eq_true rfl⟩) (fun k ab H locs ce q hz hh hce hcv hcl => ?_) (fun r9 ab H locs hz hh => ?_)
  · subst hz
    have hF := am_zl hF
    exact am_out X htb hh (am_zw hF).1 (am_zw hF).2 hce hcv hcl (Nat.le_of_ble_eq_true rfl) (Nat.le_of_ble_eq_true rfl)
  · subst hz
    have hF := am_zr hF
    exact vx_ret (am_iret X hr hh (fun t ht => am_qwX (mk := oI) hF ht) (Nat.le_of_ble_eq_true rfl) (Nat.le_of_ble_eq_true rfl) dX10_addPlanet_23)
set_option maxHeartbeats 4000000 in
set_option maxRecDepth 100000 in
theorem c_X10_unitsPerTurn (l : Launch) (G : GG) (hst : l.stackTraces = false) {w : Wd} {x1 : Int32} {x2 : Int32} {z0 : (Nat ⊕ Int64)} {w1 : Wd} (hF : f_X10_unitsPerTurn w x1 x2 = some (z0, w1)) : vx_Met l yX10_unitsPerTurn wsX10_unitsPerTurn ({ frames := 8, cells := 3, slots := 18, locals := 133 } : Room) (va_Pc [.ref (gAd G 0), .int x1, .int x2] (Rel G w)) (amR G oL z0 w1) (amX G z0 w1) 3 18 (gA G) := by
  refine am_metX (own := RX10) (cc := cX10_unitsPerTurn) (maxL := 3) (ret := (some .long)) (by decide +kernel) rfl rfl (Nat.le_of_ble_eq_true rfl) ?_
  intro p e s m args below meth c ab H locs ls X hr htb hh hl
  have hx := X.1.1; have hb := X.1.2.1; have hml := X.1.2.2.1; have hown := X.1.2.2.2.1; have hts := X.1.2.2.2.2
  have hl : lv_has ls 3 [(0, .ref (gAd G 0)), (1, .int x1), (2, .int x2)] := hl
  unfold f_X10_unitsPerTurn at hF
  refine lv_aload_n hx hb dX10_unitsPerTurn_0 rfl (lv_at hl 0 rfl) ?_
  refine lv_iload_n hx hb dX10_unitsPerTurn_1 rfl (lv_at hl 1 rfl) ?_
  refine lv_iload_n hx hb dX10_unitsPerTurn_2 rfl (lv_at hl 2 rfl) ?_
  obtain ⟨⟨z4, w3⟩, hk1, hF⟩ := am_bind hF
  have hF := am_u2 hF
  refine am_callX X hh (vx_runV (As := [.int x1, .int x2]) (rest := []) X.1 (c_X10_checkSameTrain l G hst hk1) (cwV 2 hts gX10_unitsPerTurn_X10_checkSameTrain rfl rfl rfl (by decide +kernel) ⟨Nat.le_of_ble_eq_true rfl, Nat.le_of_ble_eq_true rfl⟩) (am_preV X hh 0 11 (by decide) rfl rfl) rfl rfl hl.1 rfl (lv_room (Nat.le_of_ble_eq_true rfl)) dX10_unitsPerTurn_3 ⟨Nat.le_of_ble_eq_true rfl, Nat.le_of_ble_eq_true rfl⟩) (fun k ab H locs ce q hz hh hce hcv hcl => ?_) (fun r2 ab H locs hz hh => ?_)
  · subst hz
    have hF := am_zl hF
    exact am_out X htb hh (am_zw hF).1 (am_zw hF).2 hce hcv hcl (Nat.le_of_ble_eq_true rfl) (Nat.le_of_ble_eq_true rfl)
  · subst hz
    have hF := am_zr hF
    refine lv_aload_n hx hb dX10_unitsPerTurn_6 rfl (lv_at hl 0 rfl) ?_
    refine lv_iload_n hx hb dX10_unitsPerTurn_7 rfl (lv_at hl 1 rfl) ?_
    refine lv_iload_n hx hb dX10_unitsPerTurn_8 rfl (lv_at hl 2 rfl) ?_
    obtain ⟨⟨r6, w7⟩, hk5, hF⟩ := am_bind hF
    have hF := am_u2 hF
    refine am_call X hh (va_runV (As := [.int x1, .int x2]) (rest := []) X.1 (c_X10_unitsByChain l G hk5) (cwV 2 hts gX10_unitsPerTurn_X10_unitsByChain rfl rfl rfl (by decide +kernel) ⟨Nat.le_of_ble_eq_true rfl, Nat.le_of_ble_eq_true rfl⟩) (am_preV X hh 0 11 (by decide) rfl rfl) rfl rfl hl.1 rfl (lv_room (Nat.le_of_ble_eq_true rfl)) dX10_unitsPerTurn_9 ⟨Nat.le_of_ble_eq_true rfl, Nat.le_of_ble_eq_true rfl⟩) (fun ab H locs hh => ?_)
    exact vx_ret (am_lret X hr hh (fun t ht => am_qwX (mk := oL) hF ht) (Nat.le_of_ble_eq_true rfl) (Nat.le_of_ble_eq_true rfl) dX10_unitsPerTurn_12)
set_option maxHeartbeats 4000000 in
set_option maxRecDepth 100000 in
theorem c_X10_unitsPerTurnByLowest (l : Launch) (G : GG) (hst : l.stackTraces = false) {w : Wd} {x1 : Int32} {x2 : Int32} {z0 : (Nat ⊕ Int64)} {w1 : Wd} (hF : f_X10_unitsPerTurnByLowest w x1 x2 = some (z0, w1)) : vx_Met l yX10_unitsPerTurnByLowest wsX10_unitsPerTurnByLowest ({ frames := 8, cells := 3, slots := 18, locals := 133 } : Room) (va_Pc [.ref (gAd G 0), .int x1, .int x2] (Rel G w)) (amR G oL z0 w1) (amX G z0 w1) 3 18 (gA G) := by
  refine am_metX (own := RX10) (cc := cX10_unitsPerTurnByLowest) (maxL := 3) (ret := (some .long)) (by decide +kernel) rfl rfl (Nat.le_of_ble_eq_true rfl) ?_
  intro p e s m args below meth c ab H locs ls X hr htb hh hl
  have hx := X.1.1; have hb := X.1.2.1; have hml := X.1.2.2.1; have hown := X.1.2.2.2.1; have hts := X.1.2.2.2.2
  have hl : lv_has ls 3 [(0, .ref (gAd G 0)), (1, .int x1), (2, .int x2)] := hl
  unfold f_X10_unitsPerTurnByLowest at hF
  refine lv_aload_n hx hb dX10_unitsPerTurnByLowest_0 rfl (lv_at hl 0 rfl) ?_
  refine lv_iload_n hx hb dX10_unitsPerTurnByLowest_1 rfl (lv_at hl 1 rfl) ?_
  refine lv_iload_n hx hb dX10_unitsPerTurnByLowest_2 rfl (lv_at hl 2 rfl) ?_
  obtain ⟨⟨z4, w3⟩, hk1, hF⟩ := am_bind hF
  have hF := am_u2 hF
  refine am_callX X hh (vx_runV (As := [.int x1, .int x2]) (rest := []) X.1 (c_X10_checkSameTrain l G hst hk1) (cwV 2 hts gX10_unitsPerTurnByLowest_X10_checkSameTrain rfl rfl rfl (by decide +kernel) ⟨Nat.le_of_ble_eq_true rfl, Nat.le_of_ble_eq_true rfl⟩) (am_preV X hh 0 11 (by decide) rfl rfl) rfl rfl hl.1 rfl (lv_room (Nat.le_of_ble_eq_true rfl)) dX10_unitsPerTurnByLowest_3 ⟨Nat.le_of_ble_eq_true rfl, Nat.le_of_ble_eq_true rfl⟩) (fun k ab H locs ce q hz hh hce hcv hcl => ?_) (fun r2 ab H locs hz hh => ?_)
  · subst hz
    have hF := am_zl hF
    exact am_out X htb hh (am_zw hF).1 (am_zw hF).2 hce hcv hcl (Nat.le_of_ble_eq_true rfl) (Nat.le_of_ble_eq_true rfl)
  · subst hz
    have hF := am_zr hF
    refine lv_aload_n hx hb dX10_unitsPerTurnByLowest_6 rfl (lv_at hl 0 rfl) ?_
    refine lv_iload_n hx hb dX10_unitsPerTurnByLowest_7 rfl (lv_at hl 1 rfl) ?_
    refine lv_iload_n hx hb dX10_unitsPerTurnByLowest_8 rfl (lv_at hl 2 rfl) ?_
    obtain ⟨⟨r6, w7⟩, hk5, hF⟩ := am_bind hF
    have hF := am_u2 hF
    refine am_call X hh (va_runV (As := [.int x1, .int x2]) (rest := []) X.1 (c_X10_unitsByLowest l G hk5) (cwV 2 hts gX10_unitsPerTurnByLowest_X10_unitsByLowest rfl rfl rfl (by decide +kernel) ⟨Nat.le_of_ble_eq_true rfl, Nat.le_of_ble_eq_true rfl⟩) (am_preV X hh 0 11 (by decide) rfl rfl) rfl rfl hl.1 rfl (lv_room (Nat.le_of_ble_eq_true rfl)) dX10_unitsPerTurnByLowest_9 ⟨Nat.le_of_ble_eq_true rfl, Nat.le_of_ble_eq_true rfl⟩) (fun ab H locs hh => ?_)
    exact vx_ret (am_lret X hr hh (fun t ht => am_qwX (mk := oL) hF ht) (Nat.le_of_ble_eq_true rfl) (Nat.le_of_ble_eq_true rfl) dX10_unitsPerTurnByLowest_12)
set_option maxHeartbeats 4000000 in
set_option maxRecDepth 100000 in
theorem c_X10_nextEclipse (l : Launch) (G : GG) (hst : l.stackTraces = false) {w : Wd} {x1 : Int32} {x2 : Int32} {x3 : Int32} {z0 : (Nat ⊕ Int32)} {w1 : Wd} (hF : f_X10_nextEclipse w x1 x2 x3 = some (z0, w1)) : vx_Met l yX10_nextEclipse wsX10_nextEclipse ({ frames := 7, cells := 2, slots := 12, locals := 134 } : Room) (va_Pc [.ref (gAd G 0), .int x1, .int x2, .int x3] (Rel G w)) (amR G oI z0 w1) (amX G z0 w1) 2 12 (gA G) := by
  refine am_metX (own := RX10) (cc := cX10_nextEclipse) (maxL := 4) (ret := (some .int)) (by decide +kernel) rfl rfl (Nat.le_of_ble_eq_true rfl) ?_
  intro p e s m args below meth c ab H locs ls X hr htb hh hl
  have hx := X.1.1; have hb := X.1.2.1; have hml := X.1.2.2.1; have hown := X.1.2.2.2.1; have hts := X.1.2.2.2.2
  have hl : lv_has ls 4 [(0, .ref (gAd G 0)), (1, .int x1), (2, .int x2), (3, .int x3)] := hl
  have hwRX10 : ∀ z ∈ u_ws RX10 TX10 13, z ∈ wsX10_nextEclipse := by decide +kernel
  unfold f_X10_nextEclipse at hF
  refine lv_aload_n hx hb dX10_nextEclipse_0 rfl (lv_at hl 0 rfl) ?_
  refine am_getR X hh 0 11 7 128 (by decide) rfl rfl (by decide) hwRX10 (show Cond.fieldLink RX10 52 "PlanetWorkshop" "eclipses" "LPlanetWorkshop$Eclipses;" ∈ wsX10_nextEclipse by decide +kernel) rfl dX10_nextEclipse_1 ?_
  refine lv_iload_n hx hb dX10_nextEclipse_4 rfl (lv_at hl 1 rfl) ?_
  refine lv_iload_n hx hb dX10_nextEclipse_5 rfl (lv_at hl 2 rfl) ?_
  refine lv_iload_n hx hb dX10_nextEclipse_6 rfl (lv_at hl 3 rfl) ?_
  obtain ⟨⟨r2, w3⟩, hk1, hF⟩ := am_bind hF
  have hF := am_u2 hF
  refine am_call X hh (va_runV (As := [.int x1, .int x2, .int x3]) (rest := []) X.1 (c_X2_judge l G hk1) (cwV 3 hts gX10_nextEclipse_X2_judge rfl rfl rfl (by decide +kernel) ⟨Nat.le_of_ble_eq_true rfl, Nat.le_of_ble_eq_true rfl⟩) (am_preV X hh 128 5 (by decide) rfl rfl) rfl rfl hl.1 rfl (lv_room (Nat.le_of_ble_eq_true rfl)) dX10_nextEclipse_7 ⟨Nat.le_of_ble_eq_true rfl, Nat.le_of_ble_eq_true rfl⟩) (fun ab H locs hh => ?_)
  obtain ⟨z7, hk5, hF⟩ := am_bind hF
  refine am_callX X hh (vx_runS (As := [.int r2]) (rest := []) X.1 (c_X10_refuse l G hst hk5) (va_cwS 1 hts gX10_nextEclipse_X10_refuse rfl rfl rfl (by decide +kernel) ⟨Nat.le_of_ble_eq_true rfl, Nat.le_of_ble_eq_true rfl⟩) (am_preS X hh) rfl rfl hl.1 rfl (lv_room (Nat.le_of_ble_eq_true rfl)) dX10_nextEclipse_10 ⟨Nat.le_of_ble_eq_true rfl, Nat.le_of_ble_eq_true rfl⟩) (fun k ab H locs ce q hz hh hce hcv hcl => ?_) (fun r6 ab H locs hz hh => ?_)
  · subst hz
    have hF := am_zl hF
    exact am_out X htb hh (am_zw hF).1 (am_zw hF).2 hce hcv hcl (Nat.le_of_ble_eq_true rfl) (Nat.le_of_ble_eq_true rfl)
  · subst hz
    have hF := am_zr hF
    refine lv_aload_n hx hb dX10_nextEclipse_13 rfl (lv_at hl 0 rfl) ?_
    refine am_getR X hh 0 11 7 128 (by decide) rfl rfl (by decide) hwRX10 (show Cond.fieldLink RX10 52 "PlanetWorkshop" "eclipses" "LPlanetWorkshop$Eclipses;" ∈ wsX10_nextEclipse by decide +kernel) rfl dX10_nextEclipse_14 ?_
    refine lv_iload_n hx hb dX10_nextEclipse_17 rfl (lv_at hl 1 rfl) ?_
    refine lv_iload_n hx hb dX10_nextEclipse_18 rfl (lv_at hl 2 rfl) ?_
    refine lv_iload_n hx hb dX10_nextEclipse_19 rfl (lv_at hl 3 rfl) ?_
    obtain ⟨⟨r9, w10⟩, hk8, hF⟩ := am_bind hF
    have hF := am_u2 hF
    refine am_call X hh (va_runV (As := [.int x1, .int x2, .int x3]) (rest := []) X.1 (c_X2_bySolving l G hk8) (cwV 3 hts gX10_nextEclipse_X2_bySolving rfl rfl rfl (by decide +kernel) ⟨Nat.le_of_ble_eq_true rfl, Nat.le_of_ble_eq_true rfl⟩) (am_preV X hh 128 5 (by decide) rfl rfl) rfl rfl hl.1 rfl (lv_room (Nat.le_of_ble_eq_true rfl)) dX10_nextEclipse_20 ⟨Nat.le_of_ble_eq_true rfl, Nat.le_of_ble_eq_true rfl⟩) (fun ab H locs hh => ?_)
    obtain ⟨z14, hk12, hF⟩ := am_bind hF
    refine am_callX X hh (vx_runS (As := [.int r9]) (rest := []) X.1 (c_X10_found l G hst hk12) (va_cwS 1 hts gX10_nextEclipse_X10_found rfl rfl rfl (by decide +kernel) ⟨Nat.le_of_ble_eq_true rfl, Nat.le_of_ble_eq_true rfl⟩) (am_preS X hh) rfl rfl hl.1 rfl (lv_room (Nat.le_of_ble_eq_true rfl)) dX10_nextEclipse_23 ⟨Nat.le_of_ble_eq_true rfl, Nat.le_of_ble_eq_true rfl⟩) (fun k ab H locs ce q hz hh hce hcv hcl => ?_) (fun r13 ab H locs hz hh => ?_)
    · subst hz
      have hF := am_zl hF
      exact am_out X htb hh (am_zw hF).1 (am_zw hF).2 hce hcv hcl (Nat.le_of_ble_eq_true rfl) (Nat.le_of_ble_eq_true rfl)
    · subst hz
      have hF := am_zr hF
      exact vx_ret (am_iret X hr hh (fun t ht => am_qwX (mk := oI) hF ht) (Nat.le_of_ble_eq_true rfl) (Nat.le_of_ble_eq_true rfl) dX10_nextEclipse_26)
set_option maxHeartbeats 4000000 in
set_option maxRecDepth 100000 in
theorem c_X10_nextEclipseByTurns (l : Launch) (G : GG) (hst : l.stackTraces = false) {w : Wd} {x1 : Int32} {x2 : Int32} {x3 : Int32} {z0 : (Nat ⊕ Int32)} {w1 : Wd} (hF : f_X10_nextEclipseByTurns w x1 x2 x3 = some (z0, w1)) : vx_Met l yX10_nextEclipseByTurns wsX10_nextEclipseByTurns ({ frames := 7, cells := 2, slots := 12, locals := 129 } : Room) (va_Pc [.ref (gAd G 0), .int x1, .int x2, .int x3] (Rel G w)) (amR G oI z0 w1) (amX G z0 w1) 2 12 (gA G) := by
  refine am_metX (own := RX10) (cc := cX10_nextEclipseByTurns) (maxL := 4) (ret := (some .int)) (by decide +kernel) rfl rfl (Nat.le_of_ble_eq_true rfl) ?_
  intro p e s m args below meth c ab H locs ls X hr htb hh hl
  have hx := X.1.1; have hb := X.1.2.1; have hml := X.1.2.2.1; have hown := X.1.2.2.2.1; have hts := X.1.2.2.2.2
  have hl : lv_has ls 4 [(0, .ref (gAd G 0)), (1, .int x1), (2, .int x2), (3, .int x3)] := hl
  have hwRX10 : ∀ z ∈ u_ws RX10 TX10 13, z ∈ wsX10_nextEclipseByTurns := by decide +kernel
  unfold f_X10_nextEclipseByTurns at hF
  refine lv_aload_n hx hb dX10_nextEclipseByTurns_0 rfl (lv_at hl 0 rfl) ?_
  refine am_getR X hh 0 11 7 128 (by decide) rfl rfl (by decide) hwRX10 (show Cond.fieldLink RX10 52 "PlanetWorkshop" "eclipses" "LPlanetWorkshop$Eclipses;" ∈ wsX10_nextEclipseByTurns by decide +kernel) rfl dX10_nextEclipseByTurns_1 ?_
  refine lv_iload_n hx hb dX10_nextEclipseByTurns_4 rfl (lv_at hl 1 rfl) ?_
  refine lv_iload_n hx hb dX10_nextEclipseByTurns_5 rfl (lv_at hl 2 rfl) ?_
  refine lv_iload_n hx hb dX10_nextEclipseByTurns_6 rfl (lv_at hl 3 rfl) ?_
  obtain ⟨⟨r2, w3⟩, hk1, hF⟩ := am_bind hF
  have hF := am_u2 hF
  refine am_call X hh (va_runV (As := [.int x1, .int x2, .int x3]) (rest := []) X.1 (c_X2_judge l G hk1) (cwV 3 hts gX10_nextEclipseByTurns_X2_judge rfl rfl rfl (by decide +kernel) ⟨Nat.le_of_ble_eq_true rfl, Nat.le_of_ble_eq_true rfl⟩) (am_preV X hh 128 5 (by decide) rfl rfl) rfl rfl hl.1 rfl (lv_room (Nat.le_of_ble_eq_true rfl)) dX10_nextEclipseByTurns_7 ⟨Nat.le_of_ble_eq_true rfl, Nat.le_of_ble_eq_true rfl⟩) (fun ab H locs hh => ?_)
  obtain ⟨z7, hk5, hF⟩ := am_bind hF
  refine am_callX X hh (vx_runS (As := [.int r2]) (rest := []) X.1 (c_X10_refuse l G hst hk5) (va_cwS 1 hts gX10_nextEclipseByTurns_X10_refuse rfl rfl rfl (by decide +kernel) ⟨Nat.le_of_ble_eq_true rfl, Nat.le_of_ble_eq_true rfl⟩) (am_preS X hh) rfl rfl hl.1 rfl (lv_room (Nat.le_of_ble_eq_true rfl)) dX10_nextEclipseByTurns_10 ⟨Nat.le_of_ble_eq_true rfl, Nat.le_of_ble_eq_true rfl⟩) (fun k ab H locs ce q hz hh hce hcv hcl => ?_) (fun r6 ab H locs hz hh => ?_)
  · subst hz
    have hF := am_zl hF
    exact am_out X htb hh (am_zw hF).1 (am_zw hF).2 hce hcv hcl (Nat.le_of_ble_eq_true rfl) (Nat.le_of_ble_eq_true rfl)
  · subst hz
    have hF := am_zr hF
    refine lv_aload_n hx hb dX10_nextEclipseByTurns_13 rfl (lv_at hl 0 rfl) ?_
    refine am_getR X hh 0 11 7 128 (by decide) rfl rfl (by decide) hwRX10 (show Cond.fieldLink RX10 52 "PlanetWorkshop" "eclipses" "LPlanetWorkshop$Eclipses;" ∈ wsX10_nextEclipseByTurns by decide +kernel) rfl dX10_nextEclipseByTurns_14 ?_
    refine lv_iload_n hx hb dX10_nextEclipseByTurns_17 rfl (lv_at hl 1 rfl) ?_
    refine lv_iload_n hx hb dX10_nextEclipseByTurns_18 rfl (lv_at hl 2 rfl) ?_
    refine lv_iload_n hx hb dX10_nextEclipseByTurns_19 rfl (lv_at hl 3 rfl) ?_
    obtain ⟨⟨r9, w10⟩, hk8, hF⟩ := am_bind hF
    have hF := am_u2 hF
    refine am_call X hh (va_runV (As := [.int x1, .int x2, .int x3]) (rest := []) X.1 (c_X2_byTurning l G hk8) (cwV 3 hts gX10_nextEclipseByTurns_X2_byTurning rfl rfl rfl (by decide +kernel) ⟨Nat.le_of_ble_eq_true rfl, Nat.le_of_ble_eq_true rfl⟩) (am_preV X hh 128 5 (by decide) rfl rfl) rfl rfl hl.1 rfl (lv_room (Nat.le_of_ble_eq_true rfl)) dX10_nextEclipseByTurns_20 ⟨Nat.le_of_ble_eq_true rfl, Nat.le_of_ble_eq_true rfl⟩) (fun ab H locs hh => ?_)
    obtain ⟨z14, hk12, hF⟩ := am_bind hF
    refine am_callX X hh (vx_runS (As := [.int r9]) (rest := []) X.1 (c_X10_found l G hst hk12) (va_cwS 1 hts gX10_nextEclipseByTurns_X10_found rfl rfl rfl (by decide +kernel) ⟨Nat.le_of_ble_eq_true rfl, Nat.le_of_ble_eq_true rfl⟩) (am_preS X hh) rfl rfl hl.1 rfl (lv_room (Nat.le_of_ble_eq_true rfl)) dX10_nextEclipseByTurns_23 ⟨Nat.le_of_ble_eq_true rfl, Nat.le_of_ble_eq_true rfl⟩) (fun k ab H locs ce q hz hh hce hcv hcl => ?_) (fun r13 ab H locs hz hh => ?_)
    · subst hz
      have hF := am_zl hF
      exact am_out X htb hh (am_zw hF).1 (am_zw hF).2 hce hcv hcl (Nat.le_of_ble_eq_true rfl) (Nat.le_of_ble_eq_true rfl)
    · subst hz
      have hF := am_zr hF
      exact vx_ret (am_iret X hr hh (fun t ht => am_qwX (mk := oI) hF ht) (Nat.le_of_ble_eq_true rfl) (Nat.le_of_ble_eq_true rfl) dX10_nextEclipseByTurns_26)
set_option maxHeartbeats 4000000 in
set_option maxRecDepth 100000 in
theorem c_X10_release (l : Launch) (G : GG) (hst : l.stackTraces = false) {w : Wd} {x1 : Int32} {x2 : Int32} {z0 : (Nat ⊕ Int32)} {w1 : Wd} (hF : f_X10_release w x1 x2 = some (z0, w1)) : vx_Met l yX10_release wsX10_release ({ frames := 8, cells := 1, slots := 6, locals := 131 } : Room) (va_Pc [.ref (gAd G 0), .int x1, .int x2] (Rel G w)) (amR G oI z0 w1) (amX G z0 w1) 1 6 (gA G) := by
  refine am_metX (own := RX10) (cc := cX10_release) (maxL := 3) (ret := (some .int)) (by decide +kernel) rfl rfl (Nat.le_of_ble_eq_true rfl) ?_
  intro p e s m args below meth c ab H locs ls X hr htb hh hl
  have hx := X.1.1; have hb := X.1.2.1; have hml := X.1.2.2.1; have hown := X.1.2.2.2.1; have hts := X.1.2.2.2.2
  have hl : lv_has ls 3 [(0, .ref (gAd G 0)), (1, .int x1), (2, .int x2)] := hl
  have hwRX10 : ∀ z ∈ u_ws RX10 TX10 13, z ∈ wsX10_release := by decide +kernel
  unfold f_X10_release at hF
  refine lv_aload_n hx hb dX10_release_0 rfl (lv_at hl 0 rfl) ?_
  refine am_getR X hh 0 11 1 12 (by decide) rfl rfl (by decide) hwRX10 (show Cond.fieldLink RX10 16 "PlanetWorkshop" "before" "LPlanetWorkshop$State;" ∈ wsX10_release by decide +kernel) rfl dX10_release_1 ?_
  refine lv_aload_n hx hb dX10_release_4 rfl (lv_at hl 0 rfl) ?_
  refine am_getR X hh 0 11 0 1 (by decide) rfl rfl (by decide) hwRX10 (show Cond.fieldLink RX10 12 "PlanetWorkshop" "now" "LPlanetWorkshop$State;" ∈ wsX10_release by decide +kernel) rfl dX10_release_5 ?_
  obtain ⟨w3, hk1, hF⟩ := am_bind hF
  refine am_call X hh (va_runV (As := [.ref (gAd G 1)]) (rest := []) X.1 (c_X7_copyFrom l G st_12 st_1 hk1) (cwV 1 hts gX10_release_X7_copyFrom rfl rfl rfl (by decide +kernel) ⟨Nat.le_of_ble_eq_true rfl, Nat.le_of_ble_eq_true rfl⟩) (am_preV X hh 12 9 (by decide) rfl rfl) rfl rfl hl.1 rfl (lv_room (Nat.le_of_ble_eq_true rfl)) dX10_release_8 ⟨Nat.le_of_ble_eq_true rfl, Nat.le_of_ble_eq_true rfl⟩) (fun ab H locs hh => ?_)
  refine lv_aload_n hx hb dX10_release_11 rfl (lv_at hl 0 rfl) ?_
  refine lv_aload_n hx hb dX10_release_12 rfl (lv_at hl 0 rfl) ?_
  refine am_getR X hh 0 11 6 127 (by decide) rfl rfl (by decide) hwRX10 (show Cond.fieldLink RX10 45 "PlanetWorkshop" "changes" "LPlanetWorkshop$Changes;" ∈ wsX10_release by decide +kernel) rfl dX10_release_13 ?_
  refine lv_iload_n hx hb dX10_release_16 rfl (lv_at hl 1 rfl) ?_
  refine lv_iload_n hx hb dX10_release_17 rfl (lv_at hl 2 rfl) ?_
  obtain ⟨⟨r5, w6⟩, hk4, hF⟩ := am_bind hF
  have hF := am_u2 hF
  refine am_call X hh (va_runV (As := [.int x1, .int x2]) (rest := [.ref (gAd G 0)]) X.1 (c_X1_letGo l G hk4) (cwV 2 hts gX10_release_X1_letGo rfl rfl rfl (by decide +kernel) ⟨Nat.le_of_ble_eq_true rfl, Nat.le_of_ble_eq_true rfl⟩) (am_preV X hh 127 4 (by decide) rfl rfl) rfl rfl hl.1 rfl (lv_room (Nat.le_of_ble_eq_true rfl)) dX10_release_18 ⟨Nat.le_of_ble_eq_true rfl, Nat.le_of_ble_eq_true rfl⟩) (fun ab H locs hh => ?_)
  obtain ⟨⟨z11, w10⟩, hk8, hF⟩ := am_bind hF
  have hF := am_u2 hF
  refine am_callX X hh (vx_runV (As := [.int r5]) (rest := []) X.1 (c_X10_settle l G hst hk8) (cwV 1 hts gX10_release_X10_settle rfl rfl rfl (by decide +kernel) ⟨Nat.le_of_ble_eq_true rfl, Nat.le_of_ble_eq_true rfl⟩) (am_preV X hh 0 11 (by decide) rfl rfl) rfl rfl hl.1 rfl (lv_room (Nat.le_of_ble_eq_true rfl)) dX10_release_21 ⟨Nat.le_of_ble_eq_true rfl, Nat.le_of_ble_eq_true rfl⟩) (fun k ab H locs ce q hz hh hce hcv hcl => ?_) (fun r9 ab H locs hz hh => ?_)
  · subst hz
    have hF := am_zl hF
    exact am_out X htb hh (am_zw hF).1 (am_zw hF).2 hce hcv hcl (Nat.le_of_ble_eq_true rfl) (Nat.le_of_ble_eq_true rfl)
  · subst hz
    have hF := am_zr hF
    exact vx_ret (am_iret X hr hh (fun t ht => am_qwX (mk := oI) hF ht) (Nat.le_of_ble_eq_true rfl) (Nat.le_of_ble_eq_true rfl) dX10_release_24)
set_option maxHeartbeats 4000000 in
set_option maxRecDepth 100000 in
theorem c_X10_fewestPairsByTable (l : Launch) (G : GG) (hst : l.stackTraces = false) {w : Wd} {x1 : Int32} {x2 : Int32} {z0 : (Nat ⊕ Int32)} {w1 : Wd} (hF : f_X10_fewestPairsByTable w x1 x2 = some (z0, w1)) : vx_Met l yX10_fewestPairsByTable wsX10_fewestPairsByTable ({ frames := 7, cells := 2, slots := 12, locals := 149 } : Room) (va_Pc [.ref (gAd G 0), .int x1, .int x2] (Rel G w)) (amR G oI z0 w1) (amX G z0 w1) 2 12 (gA G) := by
  refine am_metX (own := RX10) (cc := cX10_fewestPairsByTable) (maxL := 3) (ret := (some .int)) (by decide +kernel) rfl rfl (Nat.le_of_ble_eq_true rfl) ?_
  intro p e s m args below meth c ab H locs ls X hr htb hh hl
  have hx := X.1.1; have hb := X.1.2.1; have hml := X.1.2.2.1; have hown := X.1.2.2.2.1; have hts := X.1.2.2.2.2
  have hl : lv_has ls 3 [(0, .ref (gAd G 0)), (1, .int x1), (2, .int x2)] := hl
  have hwRX10 : ∀ z ∈ u_ws RX10 TX10 13, z ∈ wsX10_fewestPairsByTable := by decide +kernel
  unfold f_X10_fewestPairsByTable at hF
  refine lv_iload_n hx hb dX10_fewestPairsByTable_0 rfl (lv_at hl 1 rfl) ?_
  refine lv_iload_n hx hb dX10_fewestPairsByTable_1 rfl (lv_at hl 2 rfl) ?_
  obtain ⟨z3, hk1, hF⟩ := am_bind hF
  refine am_callX X hh (vx_runS (As := [.int x1, .int x2]) (rest := []) X.1 (c_X10_checkRatio l G hst hk1) (va_cwS 2 hts gX10_fewestPairsByTable_X10_checkRatio rfl rfl rfl (by decide +kernel) ⟨Nat.le_of_ble_eq_true rfl, Nat.le_of_ble_eq_true rfl⟩) (am_preS X hh) rfl rfl hl.1 rfl (lv_room (Nat.le_of_ble_eq_true rfl)) dX10_fewestPairsByTable_2 ⟨Nat.le_of_ble_eq_true rfl, Nat.le_of_ble_eq_true rfl⟩) (fun k ab H locs ce q hz hh hce hcv hcl => ?_) (fun r2 ab H locs hz hh => ?_)
  · subst hz
    have hF := am_zl hF
    exact am_out X htb hh (am_zw hF).1 (am_zw hF).2 hce hcv hcl (Nat.le_of_ble_eq_true rfl) (Nat.le_of_ble_eq_true rfl)
  · subst hz
    have hF := am_zr hF
    refine lv_aload_n hx hb dX10_fewestPairsByTable_5 rfl (lv_at hl 0 rfl) ?_
    refine am_getR X hh 0 11 8 129 (by decide) rfl rfl (by decide) hwRX10 (show Cond.fieldLink RX10 61 "PlanetWorkshop" "ratios" "LPlanetWorkshop$Ratios;" ∈ wsX10_fewestPairsByTable by decide +kernel) rfl dX10_fewestPairsByTable_6 ?_
    refine lv_iload_n hx hb dX10_fewestPairsByTable_9 rfl (lv_at hl 1 rfl) ?_
    refine lv_iload_n hx hb dX10_fewestPairsByTable_10 rfl (lv_at hl 2 rfl) ?_
    obtain ⟨⟨r5, w6⟩, hk4, hF⟩ := am_bind hF
    have hF := am_u2 hF
    refine am_call X hh (va_runV (As := [.int x1, .int x2]) (rest := []) X.1 (c_X5_byTable l G hk4) (cwV 2 hts gX10_fewestPairsByTable_X5_byTable rfl rfl rfl (by decide +kernel) ⟨Nat.le_of_ble_eq_true rfl, Nat.le_of_ble_eq_true rfl⟩) (am_preV X hh 129 7 (by decide) rfl rfl) rfl rfl hl.1 rfl (lv_room (Nat.le_of_ble_eq_true rfl)) dX10_fewestPairsByTable_11 ⟨Nat.le_of_ble_eq_true rfl, Nat.le_of_ble_eq_true rfl⟩) (fun ab H locs hh => ?_)
    obtain ⟨z10, hk8, hF⟩ := am_bind hF
    refine am_callX X hh (vx_runS (As := [.int r5]) (rest := []) X.1 (c_X10_found l G hst hk8) (va_cwS 1 hts gX10_fewestPairsByTable_X10_found rfl rfl rfl (by decide +kernel) ⟨Nat.le_of_ble_eq_true rfl, Nat.le_of_ble_eq_true rfl⟩) (am_preS X hh) rfl rfl hl.1 rfl (lv_room (Nat.le_of_ble_eq_true rfl)) dX10_fewestPairsByTable_14 ⟨Nat.le_of_ble_eq_true rfl, Nat.le_of_ble_eq_true rfl⟩) (fun k ab H locs ce q hz hh hce hcv hcl => ?_) (fun r9 ab H locs hz hh => ?_)
    · subst hz
      have hF := am_zl hF
      exact am_out X htb hh (am_zw hF).1 (am_zw hF).2 hce hcv hcl (Nat.le_of_ble_eq_true rfl) (Nat.le_of_ble_eq_true rfl)
    · subst hz
      have hF := am_zr hF
      exact vx_ret (am_iret X hr hh (fun t ht => am_qwX (mk := oI) hF ht) (Nat.le_of_ble_eq_true rfl) (Nat.le_of_ble_eq_true rfl) dX10_fewestPairsByTable_17)
set_option maxHeartbeats 4000000 in
set_option maxRecDepth 100000 in
theorem c_X10_isConsistent (l : Launch) (G : GG) {w : Wd} {r0 : Int32} {w1 : Wd} (hF : f_X10_isConsistent w = some (r0, w1)) : Met l yX10_isConsistent wsX10_isConsistent ({ frames := 7, cells := 0, slots := 0, locals := 170 } : Room) (va_Pc [.ref (gAd G 0)] (Rel G w)) (amQ G (oI r0) w1) 0 0 (gA G) := by
  refine am_met (own := RX10) (cc := cX10_isConsistent) (maxL := 1) (ret := (some .boolean)) (by decide +kernel) rfl rfl (Nat.le_of_ble_eq_true rfl) ?_
  intro p e s m args below meth c ab H locs ls X hr hh hl
  have hx := X.1.1; have hb := X.1.2.1; have hml := X.1.2.2.1; have hown := X.1.2.2.2.1; have hts := X.1.2.2.2.2
  have hl : lv_has ls 1 [(0, .ref (gAd G 0))] := hl
  have hwRX10 : ∀ z ∈ u_ws RX10 TX10 13, z ∈ wsX10_isConsistent := by decide +kernel
  have hwRX7 : ∀ z ∈ u_ws RX7 TX7 17, z ∈ wsX10_isConsistent := by decide +kernel
  unfold f_X10_isConsistent at hF
  refine lv_aload_n hx hb dX10_isConsistent_0 rfl (lv_at hl 0 rfl) ?_
  obtain ⟨⟨r2, w3⟩, hk1, hF⟩ := am_bind hF
  have hF := am_u2 hF
  refine am_call X hh (va_runV (As := []) (rest := []) X.1 (c_X10_unitsAgree l G hk1) (cwV 0 hts gX10_isConsistent_X10_unitsAgree rfl rfl rfl (by decide +kernel) ⟨Nat.le_of_ble_eq_true rfl, Nat.le_of_ble_eq_true rfl⟩) (am_preV X hh 0 11 (by decide) rfl rfl) rfl rfl hl.1 rfl (lv_room (Nat.le_of_ble_eq_true rfl)) dX10_isConsistent_1 ⟨Nat.le_of_ble_eq_true rfl, Nat.le_of_ble_eq_true rfl⟩) (fun ab H locs hh => ?_)
  refine lv_if_eq (tgt := 56) hx hb dX10_isConsistent_4 (by decide) (fun hc5 => ?_) (fun hc5 => ?_)
  · have hF := am_pos hc5 hF
    refine lv_iconst (v := (0 : Int32)) hx hb dX10_isConsistent_56 (by decide) ?_
    exact am_zret (v' := (0 : Int32)) X hr rfl hh (fun t ht => am_qw (mk := oI) hF ht) (Nat.le_of_ble_eq_true rfl) (Nat.le_of_ble_eq_true rfl) dX10_isConsistent_57
  · have hF := am_neg hc5 hF
    refine lv_aload_n hx hb dX10_isConsistent_7 rfl (lv_at hl 0 rfl) ?_
    refine am_getR X hh 0 11 7 128 (by decide) rfl rfl (by decide) hwRX10 (show Cond.fieldLink RX10 52 "PlanetWorkshop" "eclipses" "LPlanetWorkshop$Eclipses;" ∈ wsX10_isConsistent by decide +kernel) rfl dX10_isConsistent_8 ?_
    obtain ⟨⟨r7, w8⟩, hk6, hF⟩ := am_bind hF
    have hF := am_u2 hF
    refine am_call X hh (va_runV (As := []) (rest := []) X.1 (c_X2_bothWaysAgree l G hk6) (cwV 0 hts gX10_isConsistent_X2_bothWaysAgree rfl rfl rfl (by decide +kernel) ⟨Nat.le_of_ble_eq_true rfl, Nat.le_of_ble_eq_true rfl⟩) (am_preV X hh 128 5 (by decide) rfl rfl) rfl rfl hl.1 rfl (lv_room (Nat.le_of_ble_eq_true rfl)) dX10_isConsistent_11 ⟨Nat.le_of_ble_eq_true rfl, Nat.le_of_ble_eq_true rfl⟩) (fun ab H locs hh => ?_)
    refine lv_if_eq (tgt := 56) hx hb dX10_isConsistent_14 (by decide) (fun hc10 => ?_) (fun hc10 => ?_)
    · have hF := am_pos hc10 hF
      refine lv_iconst (v := (0 : Int32)) hx hb dX10_isConsistent_56 (by decide) ?_
      exact am_zret (v' := (0 : Int32)) X hr rfl hh (fun t ht => am_qw (mk := oI) hF ht) (Nat.le_of_ble_eq_true rfl) (Nat.le_of_ble_eq_true rfl) dX10_isConsistent_57
    · have hF := am_neg hc10 hF
      refine lv_aload_n hx hb dX10_isConsistent_17 rfl (lv_at hl 0 rfl) ?_
      refine am_getR X hh 0 11 8 129 (by decide) rfl rfl (by decide) hwRX10 (show Cond.fieldLink RX10 61 "PlanetWorkshop" "ratios" "LPlanetWorkshop$Ratios;" ∈ wsX10_isConsistent by decide +kernel) rfl dX10_isConsistent_18 ?_
      obtain ⟨⟨r12, w13⟩, hk11, hF⟩ := am_bind hF
      have hF := am_u2 hF
      refine am_call X hh (va_runV (As := []) (rest := []) X.1 (c_X5_bothWaysAgree l G hk11) (cwV 0 hts gX10_isConsistent_X5_bothWaysAgree rfl rfl rfl (by decide +kernel) ⟨Nat.le_of_ble_eq_true rfl, Nat.le_of_ble_eq_true rfl⟩) (am_preV X hh 129 7 (by decide) rfl rfl) rfl rfl hl.1 rfl (lv_room (Nat.le_of_ble_eq_true rfl)) dX10_isConsistent_21 ⟨Nat.le_of_ble_eq_true rfl, Nat.le_of_ble_eq_true rfl⟩) (fun ab H locs hh => ?_)
      refine lv_if_eq (tgt := 56) hx hb dX10_isConsistent_24 (by decide) (fun hc15 => ?_) (fun hc15 => ?_)
      · have hF := am_pos hc15 hF
        refine lv_iconst (v := (0 : Int32)) hx hb dX10_isConsistent_56 (by decide) ?_
        exact am_zret (v' := (0 : Int32)) X hr rfl hh (fun t ht => am_qw (mk := oI) hF ht) (Nat.le_of_ble_eq_true rfl) (Nat.le_of_ble_eq_true rfl) dX10_isConsistent_57
      · have hF := am_neg hc15 hF
        refine lv_aload_n hx hb dX10_isConsistent_27 rfl (lv_at hl 0 rfl) ?_
        refine am_getR X hh 0 11 0 1 (by decide) rfl rfl (by decide) hwRX10 (show Cond.fieldLink RX10 12 "PlanetWorkshop" "now" "LPlanetWorkshop$State;" ∈ wsX10_isConsistent by decide +kernel) rfl dX10_isConsistent_28 ?_
        obtain ⟨r17, hk16, hF⟩ := am_bind hF
        refine am_call X hh (va_runV (As := []) (rest := []) X.1 (c_X7_sumOfTensions l G hk16) (cwV 0 hts gX10_isConsistent_X7_sumOfTensions rfl rfl rfl (by decide +kernel) ⟨Nat.le_of_ble_eq_true rfl, Nat.le_of_ble_eq_true rfl⟩) (am_preV X hh 1 9 (by decide) rfl rfl) rfl rfl hl.1 rfl (lv_room (Nat.le_of_ble_eq_true rfl)) dX10_isConsistent_31 ⟨Nat.le_of_ble_eq_true rfl, Nat.le_of_ble_eq_true rfl⟩) (fun ab H locs hh => ?_)
        refine lv_aload_n hx hb dX10_isConsistent_34 rfl (lv_at hl 0 rfl) ?_
        refine am_getR X hh 0 11 0 1 (by decide) rfl rfl (by decide) hwRX10 (show Cond.fieldLink RX10 12 "PlanetWorkshop" "now" "LPlanetWorkshop$State;" ∈ wsX10_isConsistent by decide +kernel) rfl dX10_isConsistent_35 ?_
        refine am_getI X hh 1 9 14 (by decide) rfl rfl (by decide) hwRX7 (show Cond.fieldLink RX10 262 "PlanetWorkshop$State" "wound" "I" ∈ wsX10_isConsistent by decide +kernel) rfl dX10_isConsistent_38 ?_
        refine lv_aload_n hx hb dX10_isConsistent_41 rfl (lv_at hl 0 rfl) ?_
        refine am_getR X hh 0 11 0 1 (by decide) rfl rfl (by decide) hwRX10 (show Cond.fieldLink RX10 12 "PlanetWorkshop" "now" "LPlanetWorkshop$State;" ∈ wsX10_isConsistent by decide +kernel) rfl dX10_isConsistent_42 ?_
        refine am_getI X hh 1 9 15 (by decide) rfl rfl (by decide) hwRX7 (show Cond.fieldLink RX10 269 "PlanetWorkshop$State" "taken" "I" ∈ wsX10_isConsistent by decide +kernel) rfl dX10_isConsistent_45 ?_
        refine lv_isub hx hb dX10_isConsistent_48 ?_
        refine lv_icmp_ne (tgt := 56) hx hb dX10_isConsistent_49 (by decide) (fun hc18 => ?_) (fun hc18 => ?_)
        · have hF := am_neg hc18 hF
          refine lv_iconst (v := (0 : Int32)) hx hb dX10_isConsistent_56 (by decide) ?_
          exact am_zret (v' := (0 : Int32)) X hr rfl hh (fun t ht => am_qw (mk := oI) hF ht) (Nat.le_of_ble_eq_true rfl) (Nat.le_of_ble_eq_true rfl) dX10_isConsistent_57
        · have hF := am_pos hc18 hF
          refine lv_iconst (v := (1 : Int32)) hx hb dX10_isConsistent_52 (by decide) ?_
          refine lv_goto (tgt := 57) hx hb dX10_isConsistent_53 (by decide) ?_
          exact am_zret (v' := (1 : Int32)) X hr rfl hh (fun t ht => am_qw (mk := oI) hF ht) (Nat.le_of_ble_eq_true rfl) (Nat.le_of_ble_eq_true rfl) dX10_isConsistent_57
set_option maxHeartbeats 4000000 in
set_option maxRecDepth 100000 in
theorem c_X10_carryOut (l : Launch) (G : GG) {w : Wd} {x1 : Int32} {r0 : Int32} {w1 : Wd} (hF : f_X10_carryOut w x1 = some (r0, w1)) : Met l yX10_carryOut wsX10_carryOut ({ frames := 5, cells := 0, slots := 0, locals := 125 } : Room) (va_Pc [.ref (gAd G 0), .int x1] (Rel G w)) (amQ G (oI r0) w1) 0 0 (gA G) := by
  refine am_met (own := RX10) (cc := cX10_carryOut) (maxL := 5) (ret := (some .int)) (by decide +kernel) rfl rfl (Nat.le_of_ble_eq_true rfl) ?_
  intro p e s m args below meth c ab H locs ls X hr hh hl
  have hx := X.1.1; have hb := X.1.2.1; have hml := X.1.2.2.1; have hown := X.1.2.2.2.1; have hts := X.1.2.2.2.2
  have hl : lv_has ls 5 [(0, .ref (gAd G 0)), (1, .int x1)] := hl
  have hwRX10 : ∀ z ∈ u_ws RX10 TX10 13, z ∈ wsX10_carryOut := by decide +kernel
  have hwRX6 : ∀ z ∈ u_ws RX6 TX6 8, z ∈ wsX10_carryOut := by decide +kernel
  unfold f_X10_carryOut at hF
  refine lv_aload_n hx hb dX10_carryOut_0 rfl (lv_at hl 0 rfl) ?_
  refine am_getR X hh 0 11 9 134 (by decide) rfl rfl (by decide) hwRX10 (show Cond.fieldLink RX10 68 "PlanetWorkshop" "script" "LPlanetWorkshop$Script;" ∈ wsX10_carryOut by decide +kernel) rfl dX10_carryOut_1 ?_
  refine am_getR X hh 134 8 3 136 (by decide) rfl rfl (by decide) hwRX6 (show Cond.fieldLink RX10 367 "PlanetWorkshop$Script" "verbs" "[LPlanetWorkshop$Verb;" ∈ wsX10_carryOut by decide +kernel) rfl dX10_carryOut_4 ?_
  refine lv_iload_n hx hb dX10_carryOut_7 rfl (lv_at hl 1 rfl) ?_
  obtain ⟨hq1, hF⟩ := am_ifR hF
  refine am_aldv X hh 136 (by decide) rfl hq1 dX10_carryOut_8 ?_
  refine lv_astore_nQ (lv' := [(2, va_rf ((gV w (x1).toNatClampNeg).map (gVb G))), (0, .ref (gAd G 0)), (1, .int x1)]) hx hb dX10_carryOut_9 rfl hl (by decide) rfl (fun ls hl => ?_)
  refine lv_aload_n hx hb dX10_carryOut_10 rfl (lv_at hl 1 rfl) ?_
  refine am_getR X hh 0 11 9 134 (by decide) rfl rfl (by decide) hwRX10 (show Cond.fieldLink RX10 68 "PlanetWorkshop" "script" "LPlanetWorkshop$Script;" ∈ wsX10_carryOut by decide +kernel) rfl dX10_carryOut_11 ?_
  refine am_getR X hh 134 8 4 137 (by decide) rfl rfl (by decide) hwRX6 (show Cond.fieldLink RX10 371 "PlanetWorkshop$Script" "firsts" "[I" ∈ wsX10_carryOut by decide +kernel) rfl dX10_carryOut_14 ?_
  refine lv_iload_n hx hb dX10_carryOut_17 rfl (lv_at hl 2 rfl) ?_
  obtain ⟨hq2, hF⟩ := am_ifR hF
  refine am_iald X hh 137 (by decide) rfl hq2 dX10_carryOut_18 ?_
  refine lv_istore_n (lv' := [(3, .int (gI w 137 (x1).toNatClampNeg)), (2, va_rf ((gV w (x1).toNatClampNeg).map (gVb G))), (0, .ref (gAd G 0)), (1, .int x1)]) hx hb dX10_carryOut_19 rfl hl (by decide) (by cases gV w (x1).toNatClampNeg <;> rfl) (fun ls hl => ?_)
  refine lv_aload_n hx hb dX10_carryOut_20 rfl (lv_at hl 2 rfl) ?_
  refine am_getR X hh 0 11 9 134 (by decide) rfl rfl (by decide) hwRX10 (show Cond.fieldLink RX10 68 "PlanetWorkshop" "script" "LPlanetWorkshop$Script;" ∈ wsX10_carryOut by decide +kernel) rfl dX10_carryOut_21 ?_
  refine am_getR X hh 134 8 5 138 (by decide) rfl rfl (by decide) hwRX6 (show Cond.fieldLink RX10 374 "PlanetWorkshop$Script" "seconds" "[I" ∈ wsX10_carryOut by decide +kernel) rfl dX10_carryOut_24 ?_
  refine lv_iload_n hx hb dX10_carryOut_27 rfl (lv_at hl 3 rfl) ?_
  obtain ⟨hq3, hF⟩ := am_ifR hF
  refine am_iald X hh 138 (by decide) rfl hq3 dX10_carryOut_28 ?_
  refine lv_istore (lv' := [(4, .int (gI w 138 (x1).toNatClampNeg)), (3, .int (gI w 137 (x1).toNatClampNeg)), (2, va_rf ((gV w (x1).toNatClampNeg).map (gVb G))), (0, .ref (gAd G 0)), (1, .int x1)]) hx hb dX10_carryOut_29 hl (by decide) rfl (fun ls hl => ?_)
  refine lv_aload_nQ hx hb dX10_carryOut_31 rfl (lv_at hl 2 rfl) ?_
  rcases am_opt hF with ⟨ho5, hF⟩ | ⟨k4, ho5, hF⟩
  · rw [ho5] at hl ⊢
    refine lv_ifnonnullN hx hb dX10_carryOut_32 ?_
    refine lv_bipush (v := (-3 : Int32)) hx hb dX10_carryOut_35 (by decide) ?_
    exact am_iret X hr hh (fun t ht => am_qw (mk := oI) hF ht) (Nat.le_of_ble_eq_true rfl) (Nat.le_of_ble_eq_true rfl) dX10_carryOut_37
  · rw [ho5] at hl ⊢
    refine lv_ifnonnull (tgt := 38) hx hb dX10_carryOut_32 (by decide) ?_
    obtain ⟨hb6, hF⟩ := am_if hF
    refine va_gets hx hb X.2.2.1.1.2.2.2.2.1 hh.2.2 hown (hts _ (show Cond.fieldLink RX10 377 "PlanetWorkshop$1" "$SwitchMap$PlanetWorkshop$Verb" "[I"  ∈ wsX10_carryOut by decide +kernel)) (fun _ h9 => h9) dX10_carryOut_38 ?_
    refine lv_aload_n hx hb dX10_carryOut_41 rfl (lv_at hl 2 rfl) ?_
    refine am_callF X hh (am_runO X hh hb6 (show Cond.methodLink RX10 382 ORD ∈ wsX10_carryOut by decide +kernel) (show Cond.sameMethod "PlanetWorkshop$Verb" "java/lang/Enum" "ordinal" "()I" ∈ wsX10_carryOut by decide +kernel) (show Cond.selects RX9 ORD yJx29ce0_ordinal_8abf5 ∈ wsX10_carryOut by decide +kernel) (show Cond.instanceMethod yJx29ce0_ordinal_8abf5 ∈ wsX10_carryOut by decide +kernel) (show Cond.code yJx29ce0_ordinal_8abf5 cJx29ce0_ordinal_8abf5 1 (some .int) ∈ wsX10_carryOut by decide +kernel) (show Cond.fieldLink RJx29ce0 7 "java/lang/Enum" "ordinal" "I" ∈ wsX10_carryOut by decide +kernel) (Nat.le_of_ble_eq_true rfl) (Nat.le_of_ble_eq_true rfl) hl.1 (lv_room (Nat.le_of_ble_eq_true rfl)) dX10_carryOut_42 ⟨Nat.le_of_ble_eq_true rfl, Nat.le_of_ble_eq_true rfl⟩) (fun H locs hh => ?_)
    obtain ⟨hq7, hF⟩ := am_ifR hF
    refine va_ti hx hb X.2.2.1.1.2.2.2.2.2.1 hh.2.2 hq7 rfl dX10_carryOut_45 ?_
    by_cases hs8 : (nI (((nI k4)).toNatClampNeg + 1)) = (1 : Int32)
    · have hF := am_pos hs8 hF
      refine am_tableIn (k := 0) (tgt := 112) hx hb dX10_carryOut_46 hs8 (by decide) rfl (by decide) ?_
      refine lv_aload_n hx hb dX10_carryOut_112 rfl (lv_at hl 3 rfl) ?_
      refine am_getR X hh 0 11 6 127 (by decide) rfl rfl (by decide) hwRX10 (show Cond.fieldLink RX10 45 "PlanetWorkshop" "changes" "LPlanetWorkshop$Changes;" ∈ wsX10_carryOut by decide +kernel) rfl dX10_carryOut_113 ?_
      refine lv_iload_n hx hb dX10_carryOut_116 rfl (lv_at hl 1 rfl) ?_
      obtain ⟨⟨r10, w11⟩, hk9, hF⟩ := am_bind hF
      have hF := am_u2 hF
      refine am_call X hh (va_runV (As := [.int (gI w 137 (x1).toNatClampNeg)]) (rest := []) X.1 (c_X1_putGear l G hk9) (cwV 1 hts gX10_carryOut_X1_putGear rfl rfl rfl (by decide +kernel) ⟨Nat.le_of_ble_eq_true rfl, Nat.le_of_ble_eq_true rfl⟩) (am_preV X hh 127 4 (by decide) rfl rfl) rfl rfl hl.1 rfl (lv_room (Nat.le_of_ble_eq_true rfl)) dX10_carryOut_117 ⟨Nat.le_of_ble_eq_true rfl, Nat.le_of_ble_eq_true rfl⟩) (fun ab H locs hh => ?_)
      exact am_iret X hr hh (fun t ht => am_qw (mk := oI) hF ht) (Nat.le_of_ble_eq_true rfl) (Nat.le_of_ble_eq_true rfl) dX10_carryOut_120
    · have hF := am_neg hs8 hF
      by_cases hs13 : (nI (((nI k4)).toNatClampNeg + 1)) = (2 : Int32)
      · have hF := am_pos hs13 hF
        refine am_tableIn (k := 1) (tgt := 121) hx hb dX10_carryOut_46 hs13 (by decide) rfl (by decide) ?_
        refine lv_aload_n hx hb dX10_carryOut_121 rfl (lv_at hl 3 rfl) ?_
        refine am_getR X hh 0 11 6 127 (by decide) rfl rfl (by decide) hwRX10 (show Cond.fieldLink RX10 45 "PlanetWorkshop" "changes" "LPlanetWorkshop$Changes;" ∈ wsX10_carryOut by decide +kernel) rfl dX10_carryOut_122 ?_
        refine lv_iload_n hx hb dX10_carryOut_125 rfl (lv_at hl 1 rfl) ?_
        refine lv_iload hx hb dX10_carryOut_126 (lv_at hl 0 rfl) ?_
        refine lv_bipush (v := (109 : Int32)) hx hb dX10_carryOut_128 (by decide) ?_
        obtain ⟨⟨r15, w16⟩, hk14, hF⟩ := am_bind hF
        have hF := am_u2 hF
        refine am_call X hh (va_runV (As := [.int (gI w 137 (x1).toNatClampNeg), .int (gI w 138 (x1).toNatClampNeg), .int (109 : Int32)]) (rest := []) X.1 (c_X1_join l G hk14) (cwV 3 hts gX10_carryOut_X1_join rfl rfl rfl (by decide +kernel) ⟨Nat.le_of_ble_eq_true rfl, Nat.le_of_ble_eq_true rfl⟩) (am_preV X hh 127 4 (by decide) rfl rfl) rfl rfl hl.1 rfl (lv_room (Nat.le_of_ble_eq_true rfl)) dX10_carryOut_130 ⟨Nat.le_of_ble_eq_true rfl, Nat.le_of_ble_eq_true rfl⟩) (fun ab H locs hh => ?_)
        exact am_iret X hr hh (fun t ht => am_qw (mk := oI) hF ht) (Nat.le_of_ble_eq_true rfl) (Nat.le_of_ble_eq_true rfl) dX10_carryOut_133
      · have hF := am_neg hs13 hF
        by_cases hs18 : (nI (((nI k4)).toNatClampNeg + 1)) = (3 : Int32)
        · have hF := am_pos hs18 hF
          refine am_tableIn (k := 2) (tgt := 134) hx hb dX10_carryOut_46 hs18 (by decide) rfl (by decide) ?_
          refine lv_aload_n hx hb dX10_carryOut_134 rfl (lv_at hl 3 rfl) ?_
          refine am_getR X hh 0 11 6 127 (by decide) rfl rfl (by decide) hwRX10 (show Cond.fieldLink RX10 45 "PlanetWorkshop" "changes" "LPlanetWorkshop$Changes;" ∈ wsX10_carryOut by decide +kernel) rfl dX10_carryOut_135 ?_
          refine lv_iload_n hx hb dX10_carryOut_138 rfl (lv_at hl 1 rfl) ?_
          refine lv_iload hx hb dX10_carryOut_139 (lv_at hl 0 rfl) ?_
          refine lv_bipush (v := (97 : Int32)) hx hb dX10_carryOut_141 (by decide) ?_
          obtain ⟨⟨r20, w21⟩, hk19, hF⟩ := am_bind hF
          have hF := am_u2 hF
          refine am_call X hh (va_runV (As := [.int (gI w 137 (x1).toNatClampNeg), .int (gI w 138 (x1).toNatClampNeg), .int (97 : Int32)]) (rest := []) X.1 (c_X1_join l G hk19) (cwV 3 hts gX10_carryOut_X1_join rfl rfl rfl (by decide +kernel) ⟨Nat.le_of_ble_eq_true rfl, Nat.le_of_ble_eq_true rfl⟩) (am_preV X hh 127 4 (by decide) rfl rfl) rfl rfl hl.1 rfl (lv_room (Nat.le_of_ble_eq_true rfl)) dX10_carryOut_143 ⟨Nat.le_of_ble_eq_true rfl, Nat.le_of_ble_eq_true rfl⟩) (fun ab H locs hh => ?_)
          exact am_iret X hr hh (fun t ht => am_qw (mk := oI) hF ht) (Nat.le_of_ble_eq_true rfl) (Nat.le_of_ble_eq_true rfl) dX10_carryOut_146
        · have hF := am_neg hs18 hF
          by_cases hs23 : (nI (((nI k4)).toNatClampNeg + 1)) = (4 : Int32)
          · have hF := am_pos hs23 hF
            refine am_tableIn (k := 3) (tgt := 147) hx hb dX10_carryOut_46 hs23 (by decide) rfl (by decide) ?_
            refine lv_aload_n hx hb dX10_carryOut_147 rfl (lv_at hl 3 rfl) ?_
            refine am_getR X hh 0 11 6 127 (by decide) rfl rfl (by decide) hwRX10 (show Cond.fieldLink RX10 45 "PlanetWorkshop" "changes" "LPlanetWorkshop$Changes;" ∈ wsX10_carryOut by decide +kernel) rfl dX10_carryOut_148 ?_
            refine lv_iload_n hx hb dX10_carryOut_151 rfl (lv_at hl 1 rfl) ?_
            refine lv_iload hx hb dX10_carryOut_152 (lv_at hl 0 rfl) ?_
            obtain ⟨⟨r25, w26⟩, hk24, hF⟩ := am_bind hF
            have hF := am_u2 hF
            refine am_call X hh (va_runV (As := [.int (gI w 137 (x1).toNatClampNeg), .int (gI w 138 (x1).toNatClampNeg)]) (rest := []) X.1 (c_X1_cut l G hk24) (cwV 2 hts gX10_carryOut_X1_cut rfl rfl rfl (by decide +kernel) ⟨Nat.le_of_ble_eq_true rfl, Nat.le_of_ble_eq_true rfl⟩) (am_preV X hh 127 4 (by decide) rfl rfl) rfl rfl hl.1 rfl (lv_room (Nat.le_of_ble_eq_true rfl)) dX10_carryOut_154 ⟨Nat.le_of_ble_eq_true rfl, Nat.le_of_ble_eq_true rfl⟩) (fun ab H locs hh => ?_)
            exact am_iret X hr hh (fun t ht => am_qw (mk := oI) hF ht) (Nat.le_of_ble_eq_true rfl) (Nat.le_of_ble_eq_true rfl) dX10_carryOut_157
          · have hF := am_neg hs23 hF
            by_cases hs28 : (nI (((nI k4)).toNatClampNeg + 1)) = (5 : Int32)
            · have hF := am_pos hs28 hF
              refine am_tableIn (k := 4) (tgt := 158) hx hb dX10_carryOut_46 hs28 (by decide) rfl (by decide) ?_
              refine lv_aload_n hx hb dX10_carryOut_158 rfl (lv_at hl 3 rfl) ?_
              refine am_getR X hh 0 11 6 127 (by decide) rfl rfl (by decide) hwRX10 (show Cond.fieldLink RX10 45 "PlanetWorkshop" "changes" "LPlanetWorkshop$Changes;" ∈ wsX10_carryOut by decide +kernel) rfl dX10_carryOut_159 ?_
              refine lv_iload_n hx hb dX10_carryOut_162 rfl (lv_at hl 1 rfl) ?_
              refine lv_iload hx hb dX10_carryOut_163 (lv_at hl 0 rfl) ?_
              obtain ⟨⟨r30, w31⟩, hk29, hF⟩ := am_bind hF
              have hF := am_u2 hF
              refine am_call X hh (va_runV (As := [.int (gI w 137 (x1).toNatClampNeg), .int (gI w 138 (x1).toNatClampNeg)]) (rest := []) X.1 (c_X1_putSpring l G hk29) (cwV 2 hts gX10_carryOut_X1_putSpring rfl rfl rfl (by decide +kernel) ⟨Nat.le_of_ble_eq_true rfl, Nat.le_of_ble_eq_true rfl⟩) (am_preV X hh 127 4 (by decide) rfl rfl) rfl rfl hl.1 rfl (lv_room (Nat.le_of_ble_eq_true rfl)) dX10_carryOut_165 ⟨Nat.le_of_ble_eq_true rfl, Nat.le_of_ble_eq_true rfl⟩) (fun ab H locs hh => ?_)
              exact am_iret X hr hh (fun t ht => am_qw (mk := oI) hF ht) (Nat.le_of_ble_eq_true rfl) (Nat.le_of_ble_eq_true rfl) dX10_carryOut_168
            · have hF := am_neg hs28 hF
              by_cases hs33 : (nI (((nI k4)).toNatClampNeg + 1)) = (6 : Int32)
              · have hF := am_pos hs33 hF
                refine am_tableIn (k := 5) (tgt := 169) hx hb dX10_carryOut_46 hs33 (by decide) rfl (by decide) ?_
                refine lv_aload_n hx hb dX10_carryOut_169 rfl (lv_at hl 3 rfl) ?_
                refine am_getR X hh 0 11 6 127 (by decide) rfl rfl (by decide) hwRX10 (show Cond.fieldLink RX10 45 "PlanetWorkshop" "changes" "LPlanetWorkshop$Changes;" ∈ wsX10_carryOut by decide +kernel) rfl dX10_carryOut_170 ?_
                refine lv_iload_n hx hb dX10_carryOut_173 rfl (lv_at hl 1 rfl) ?_
                refine lv_iload hx hb dX10_carryOut_174 (lv_at hl 0 rfl) ?_
                obtain ⟨⟨r35, w36⟩, hk34, hF⟩ := am_bind hF
                have hF := am_u2 hF
                refine am_call X hh (va_runV (As := [.int (gI w 137 (x1).toNatClampNeg), .int (gI w 138 (x1).toNatClampNeg)]) (rest := []) X.1 (c_X1_tighten l G hk34) (cwV 2 hts gX10_carryOut_X1_tighten rfl rfl rfl (by decide +kernel) ⟨Nat.le_of_ble_eq_true rfl, Nat.le_of_ble_eq_true rfl⟩) (am_preV X hh 127 4 (by decide) rfl rfl) rfl rfl hl.1 rfl (lv_room (Nat.le_of_ble_eq_true rfl)) dX10_carryOut_176 ⟨Nat.le_of_ble_eq_true rfl, Nat.le_of_ble_eq_true rfl⟩) (fun ab H locs hh => ?_)
                exact am_iret X hr hh (fun t ht => am_qw (mk := oI) hF ht) (Nat.le_of_ble_eq_true rfl) (Nat.le_of_ble_eq_true rfl) dX10_carryOut_179
              · have hF := am_neg hs33 hF
                by_cases hs38 : (nI (((nI k4)).toNatClampNeg + 1)) = (7 : Int32)
                · have hF := am_pos hs38 hF
                  refine am_tableIn (k := 6) (tgt := 180) hx hb dX10_carryOut_46 hs38 (by decide) rfl (by decide) ?_
                  refine lv_aload_n hx hb dX10_carryOut_180 rfl (lv_at hl 3 rfl) ?_
                  refine am_getR X hh 0 11 6 127 (by decide) rfl rfl (by decide) hwRX10 (show Cond.fieldLink RX10 45 "PlanetWorkshop" "changes" "LPlanetWorkshop$Changes;" ∈ wsX10_carryOut by decide +kernel) rfl dX10_carryOut_181 ?_
                  refine lv_iload_n hx hb dX10_carryOut_184 rfl (lv_at hl 1 rfl) ?_
                  obtain ⟨⟨r40, w41⟩, hk39, hF⟩ := am_bind hF
                  have hF := am_u2 hF
                  refine am_call X hh (va_runV (As := [.int (gI w 137 (x1).toNatClampNeg)]) (rest := []) X.1 (c_X1_turnRound l G hk39) (cwV 1 hts gX10_carryOut_X1_turnRound rfl rfl rfl (by decide +kernel) ⟨Nat.le_of_ble_eq_true rfl, Nat.le_of_ble_eq_true rfl⟩) (am_preV X hh 127 4 (by decide) rfl rfl) rfl rfl hl.1 rfl (lv_room (Nat.le_of_ble_eq_true rfl)) dX10_carryOut_185 ⟨Nat.le_of_ble_eq_true rfl, Nat.le_of_ble_eq_true rfl⟩) (fun ab H locs hh => ?_)
                  exact am_iret X hr hh (fun t ht => am_qw (mk := oI) hF ht) (Nat.le_of_ble_eq_true rfl) (Nat.le_of_ble_eq_true rfl) dX10_carryOut_188
                · have hF := am_neg hs38 hF
                  by_cases hs43 : (nI (((nI k4)).toNatClampNeg + 1)) = (8 : Int32)
                  · have hF := am_pos hs43 hF
                    refine am_tableIn (k := 7) (tgt := 189) hx hb dX10_carryOut_46 hs43 (by decide) rfl (by decide) ?_
                    refine lv_aload_n hx hb dX10_carryOut_189 rfl (lv_at hl 3 rfl) ?_
                    refine am_getR X hh 0 11 6 127 (by decide) rfl rfl (by decide) hwRX10 (show Cond.fieldLink RX10 45 "PlanetWorkshop" "changes" "LPlanetWorkshop$Changes;" ∈ wsX10_carryOut by decide +kernel) rfl dX10_carryOut_190 ?_
                    refine lv_iload_n hx hb dX10_carryOut_193 rfl (lv_at hl 1 rfl) ?_
                    refine lv_iload hx hb dX10_carryOut_194 (lv_at hl 0 rfl) ?_
                    obtain ⟨⟨r45, w46⟩, hk44, hF⟩ := am_bind hF
                    have hF := am_u2 hF
                    refine am_call X hh (va_runV (As := [.int (gI w 137 (x1).toNatClampNeg), .int (gI w 138 (x1).toNatClampNeg)]) (rest := []) X.1 (c_X1_letGo l G hk44) (cwV 2 hts gX10_carryOut_X1_letGo rfl rfl rfl (by decide +kernel) ⟨Nat.le_of_ble_eq_true rfl, Nat.le_of_ble_eq_true rfl⟩) (am_preV X hh 127 4 (by decide) rfl rfl) rfl rfl hl.1 rfl (lv_room (Nat.le_of_ble_eq_true rfl)) dX10_carryOut_196 ⟨Nat.le_of_ble_eq_true rfl, Nat.le_of_ble_eq_true rfl⟩) (fun ab H locs hh => ?_)
                    exact am_iret X hr hh (fun t ht => am_qw (mk := oI) hF ht) (Nat.le_of_ble_eq_true rfl) (Nat.le_of_ble_eq_true rfl) dX10_carryOut_199
                  · have hF := am_neg hs43 hF
                    by_cases hs48 : (nI (((nI k4)).toNatClampNeg + 1)) = (9 : Int32)
                    · have hF := am_pos hs48 hF
                      refine am_tableIn (k := 8) (tgt := 200) hx hb dX10_carryOut_46 hs48 (by decide) rfl (by decide) ?_
                      refine lv_aload_n hx hb dX10_carryOut_200 rfl (lv_at hl 3 rfl) ?_
                      refine am_getR X hh 0 11 6 127 (by decide) rfl rfl (by decide) hwRX10 (show Cond.fieldLink RX10 45 "PlanetWorkshop" "changes" "LPlanetWorkshop$Changes;" ∈ wsX10_carryOut by decide +kernel) rfl dX10_carryOut_201 ?_
                      refine lv_iload_n hx hb dX10_carryOut_204 rfl (lv_at hl 1 rfl) ?_
                      refine lv_iconst (v := (1 : Int32)) hx hb dX10_carryOut_205 (by decide) ?_
                      obtain ⟨⟨r50, w51⟩, hk49, hF⟩ := am_bind hF
                      have hF := am_u2 hF
                      refine am_call X hh (va_runV (As := [.int (gI w 137 (x1).toNatClampNeg), .int (1 : Int32)]) (rest := []) X.1 (c_X1_putRatchet l G hk49) (cwV 2 hts gX10_carryOut_X1_putRatchet rfl rfl rfl (by decide +kernel) ⟨Nat.le_of_ble_eq_true rfl, Nat.le_of_ble_eq_true rfl⟩) (am_preV X hh 127 4 (by decide) rfl rfl) rfl rfl hl.1 rfl (lv_room (Nat.le_of_ble_eq_true rfl)) dX10_carryOut_206 ⟨Nat.le_of_ble_eq_true rfl, Nat.le_of_ble_eq_true rfl⟩) (fun ab H locs hh => ?_)
                      exact am_iret X hr hh (fun t ht => am_qw (mk := oI) hF ht) (Nat.le_of_ble_eq_true rfl) (Nat.le_of_ble_eq_true rfl) dX10_carryOut_209
                    · have hF := am_neg hs48 hF
                      by_cases hs53 : (nI (((nI k4)).toNatClampNeg + 1)) = (10 : Int32)
                      · have hF := am_pos hs53 hF
                        refine am_tableIn (k := 9) (tgt := 210) hx hb dX10_carryOut_46 hs53 (by decide) rfl (by decide) ?_
                        refine lv_aload_n hx hb dX10_carryOut_210 rfl (lv_at hl 3 rfl) ?_
                        refine am_getR X hh 0 11 6 127 (by decide) rfl rfl (by decide) hwRX10 (show Cond.fieldLink RX10 45 "PlanetWorkshop" "changes" "LPlanetWorkshop$Changes;" ∈ wsX10_carryOut by decide +kernel) rfl dX10_carryOut_211 ?_
                        refine lv_iload_n hx hb dX10_carryOut_214 rfl (lv_at hl 1 rfl) ?_
                        refine lv_iconst (v := (0 : Int32)) hx hb dX10_carryOut_215 (by decide) ?_
                        obtain ⟨⟨r55, w56⟩, hk54, hF⟩ := am_bind hF
                        have hF := am_u2 hF
                        refine am_call X hh (va_runV (As := [.int (gI w 137 (x1).toNatClampNeg), .int (0 : Int32)]) (rest := []) X.1 (c_X1_putRatchet l G hk54) (cwV 2 hts gX10_carryOut_X1_putRatchet rfl rfl rfl (by decide +kernel) ⟨Nat.le_of_ble_eq_true rfl, Nat.le_of_ble_eq_true rfl⟩) (am_preV X hh 127 4 (by decide) rfl rfl) rfl rfl hl.1 rfl (lv_room (Nat.le_of_ble_eq_true rfl)) dX10_carryOut_216 ⟨Nat.le_of_ble_eq_true rfl, Nat.le_of_ble_eq_true rfl⟩) (fun ab H locs hh => ?_)
                        exact am_iret X hr hh (fun t ht => am_qw (mk := oI) hF ht) (Nat.le_of_ble_eq_true rfl) (Nat.le_of_ble_eq_true rfl) dX10_carryOut_219
                      · have hF := am_neg hs53 hF
                        by_cases hs58 : (nI (((nI k4)).toNatClampNeg + 1)) = (11 : Int32)
                        · have hF := am_pos hs58 hF
                          refine am_tableIn (k := 10) (tgt := 220) hx hb dX10_carryOut_46 hs58 (by decide) rfl (by decide) ?_
                          refine lv_aload_n hx hb dX10_carryOut_220 rfl (lv_at hl 3 rfl) ?_
                          refine am_getR X hh 0 11 6 127 (by decide) rfl rfl (by decide) hwRX10 (show Cond.fieldLink RX10 45 "PlanetWorkshop" "changes" "LPlanetWorkshop$Changes;" ∈ wsX10_carryOut by decide +kernel) rfl dX10_carryOut_221 ?_
                          refine lv_iload_n hx hb dX10_carryOut_224 rfl (lv_at hl 1 rfl) ?_
                          obtain ⟨⟨r60, w61⟩, hk59, hF⟩ := am_bind hF
                          have hF := am_u2 hF
                          refine am_call X hh (va_runV (As := [.int (gI w 137 (x1).toNatClampNeg)]) (rest := []) X.1 (c_X1_putOil l G hk59) (cwV 1 hts gX10_carryOut_X1_putOil rfl rfl rfl (by decide +kernel) ⟨Nat.le_of_ble_eq_true rfl, Nat.le_of_ble_eq_true rfl⟩) (am_preV X hh 127 4 (by decide) rfl rfl) rfl rfl hl.1 rfl (lv_room (Nat.le_of_ble_eq_true rfl)) dX10_carryOut_225 ⟨Nat.le_of_ble_eq_true rfl, Nat.le_of_ble_eq_true rfl⟩) (fun ab H locs hh => ?_)
                          exact am_iret X hr hh (fun t ht => am_qw (mk := oI) hF ht) (Nat.le_of_ble_eq_true rfl) (Nat.le_of_ble_eq_true rfl) dX10_carryOut_228
                        · have hF := am_neg hs58 hF
                          by_cases hs63 : (nI (((nI k4)).toNatClampNeg + 1)) = (12 : Int32)
                          · have hF := am_pos hs63 hF
                            refine am_tableIn (k := 11) (tgt := 229) hx hb dX10_carryOut_46 hs63 (by decide) rfl (by decide) ?_
                            refine lv_aload_n hx hb dX10_carryOut_229 rfl (lv_at hl 3 rfl) ?_
                            refine am_getR X hh 0 11 6 127 (by decide) rfl rfl (by decide) hwRX10 (show Cond.fieldLink RX10 45 "PlanetWorkshop" "changes" "LPlanetWorkshop$Changes;" ∈ wsX10_carryOut by decide +kernel) rfl dX10_carryOut_230 ?_
                            refine lv_iload_n hx hb dX10_carryOut_233 rfl (lv_at hl 1 rfl) ?_
                            obtain ⟨⟨r65, w66⟩, hk64, hF⟩ := am_bind hF
                            have hF := am_u2 hF
                            refine am_call X hh (va_runV (As := [.int (gI w 137 (x1).toNatClampNeg)]) (rest := []) X.1 (c_X1_addDrops l G hk64) (cwV 1 hts gX10_carryOut_X1_addDrops rfl rfl rfl (by decide +kernel) ⟨Nat.le_of_ble_eq_true rfl, Nat.le_of_ble_eq_true rfl⟩) (am_preV X hh 127 4 (by decide) rfl rfl) rfl rfl hl.1 rfl (lv_room (Nat.le_of_ble_eq_true rfl)) dX10_carryOut_234 ⟨Nat.le_of_ble_eq_true rfl, Nat.le_of_ble_eq_true rfl⟩) (fun ab H locs hh => ?_)
                            exact am_iret X hr hh (fun t ht => am_qw (mk := oI) hF ht) (Nat.le_of_ble_eq_true rfl) (Nat.le_of_ble_eq_true rfl) dX10_carryOut_237
                          · have hF := am_neg hs63 hF
                            by_cases hs68 : (nI (((nI k4)).toNatClampNeg + 1)) = (13 : Int32)
                            · have hF := am_pos hs68 hF
                              refine am_tableIn (k := 12) (tgt := 238) hx hb dX10_carryOut_46 hs68 (by decide) rfl (by decide) ?_
                              refine lv_aload_n hx hb dX10_carryOut_238 rfl (lv_at hl 3 rfl) ?_
                              refine am_getR X hh 0 11 6 127 (by decide) rfl rfl (by decide) hwRX10 (show Cond.fieldLink RX10 45 "PlanetWorkshop" "changes" "LPlanetWorkshop$Changes;" ∈ wsX10_carryOut by decide +kernel) rfl dX10_carryOut_239 ?_
                              refine lv_iload_n hx hb dX10_carryOut_242 rfl (lv_at hl 1 rfl) ?_
                              obtain ⟨⟨r70, w71⟩, hk69, hF⟩ := am_bind hF
                              have hF := am_u2 hF
                              refine am_call X hh (va_runV (As := [.int (gI w 137 (x1).toNatClampNeg)]) (rest := []) X.1 (c_X1_putPlanet l G hk69) (cwV 1 hts gX10_carryOut_X1_putPlanet rfl rfl rfl (by decide +kernel) ⟨Nat.le_of_ble_eq_true rfl, Nat.le_of_ble_eq_true rfl⟩) (am_preV X hh 127 4 (by decide) rfl rfl) rfl rfl hl.1 rfl (lv_room (Nat.le_of_ble_eq_true rfl)) dX10_carryOut_243 ⟨Nat.le_of_ble_eq_true rfl, Nat.le_of_ble_eq_true rfl⟩) (fun ab H locs hh => ?_)
                              exact am_iret X hr hh (fun t ht => am_qw (mk := oI) hF ht) (Nat.le_of_ble_eq_true rfl) (Nat.le_of_ble_eq_true rfl) dX10_carryOut_246
                            · have hF := am_neg hs68 hF
                              refine am_tableD (keys := [(1 : Int32), (2 : Int32), (3 : Int32), (4 : Int32), (5 : Int32), (6 : Int32), (7 : Int32), (8 : Int32), (9 : Int32), (10 : Int32), (11 : Int32), (12 : Int32), (13 : Int32)]) (tgt := 247) hx hb dX10_carryOut_46 (List.forall_mem_cons.mpr ⟨hs8, List.forall_mem_cons.mpr ⟨hs13, List.forall_mem_cons.mpr ⟨hs18, List.forall_mem_cons.mpr ⟨hs23, List.forall_mem_cons.mpr ⟨hs28, List.forall_mem_cons.mpr ⟨hs33, List.forall_mem_cons.mpr ⟨hs38, List.forall_mem_cons.mpr ⟨hs43, List.forall_mem_cons.mpr ⟨hs48, List.forall_mem_cons.mpr ⟨hs53, List.forall_mem_cons.mpr ⟨hs58, List.forall_mem_cons.mpr ⟨hs63, List.forall_mem_cons.mpr ⟨hs68, List.forall_mem_nil _⟩⟩⟩⟩⟩⟩⟩⟩⟩⟩⟩⟩⟩) (by decide +kernel) (by decide) (by decide) ?_
                              refine lv_bipush (v := (-3 : Int32)) hx hb dX10_carryOut_247 (by decide) ?_
                              exact am_iret X hr hh (fun t ht => am_qw (mk := oI) hF ht) (Nat.le_of_ble_eq_true rfl) (Nat.le_of_ble_eq_true rfl) dX10_carryOut_249
set_option maxHeartbeats 4000000 in
set_option maxRecDepth 100000 in
theorem c_X10_runScript (l : Launch) (G : GG) (hst : l.stackTraces = false) {w : Wd} {z0 : (Nat ⊕ Int32)} {w1 : Wd} (hF : f_X10_runScript w = some (z0, w1)) : vx_Met l yX10_runScript wsX10_runScript ({ frames := 8, cells := 1, slots := 6, locals := 178 } : Room) (va_Pc [.ref (gAd G 0)] (Rel G w)) (amR G oI z0 w1) (amX G z0 w1) 1 6 (gA G) := by
  refine am_metX (own := RX10) (cc := cX10_runScript) (maxL := 3) (ret := (some .int)) (by decide +kernel) rfl rfl (Nat.le_of_ble_eq_true rfl) ?_
  intro p e s m args below meth c ab H locs ls X hr htb hh hl
  have hx := X.1.1; have hb := X.1.2.1; have hml := X.1.2.2.1; have hown := X.1.2.2.2.1; have hts := X.1.2.2.2.2
  have hl : lv_has ls 3 [(0, .ref (gAd G 0))] := hl
  have hwRX10 : ∀ z ∈ u_ws RX10 TX10 13, z ∈ wsX10_runScript := by decide +kernel
  have hwRX6 : ∀ z ∈ u_ws RX6 TX6 8, z ∈ wsX10_runScript := by decide +kernel
  unfold f_X10_runScript at hF
  refine lv_aload_n hx hb dX10_runScript_0 rfl (lv_at hl 0 rfl) ?_
  refine am_getR X hh 0 11 9 134 (by decide) rfl rfl (by decide) hwRX10 (show Cond.fieldLink RX10 68 "PlanetWorkshop" "script" "LPlanetWorkshop$Script;" ∈ wsX10_runScript by decide +kernel) rfl dX10_runScript_1 ?_
  obtain ⟨⟨r2, w3⟩, hk1, hF⟩ := am_bind hF
  have hF := am_u2 hF
  refine am_call X hh (va_runV (As := []) (rest := []) X.1 (c_X6_parse l G hk1) (cwV 0 hts gX10_runScript_X6_parse rfl rfl rfl (by decide +kernel) ⟨Nat.le_of_ble_eq_true rfl, Nat.le_of_ble_eq_true rfl⟩) (am_preV X hh 134 8 (by decide) rfl rfl) rfl rfl hl.1 rfl (lv_room (Nat.le_of_ble_eq_true rfl)) dX10_runScript_4 ⟨Nat.le_of_ble_eq_true rfl, Nat.le_of_ble_eq_true rfl⟩) (fun ab H locs hh => ?_)
  refine lv_istore_n (lv' := [(1, .int r2), (0, .ref (gAd G 0))]) hx hb dX10_runScript_7 rfl hl (by decide) rfl (fun ls hl => ?_)
  refine lv_aload_n hx hb dX10_runScript_8 rfl (lv_at hl 1 rfl) ?_
  refine am_getR X hh 0 11 9 134 (by decide) rfl rfl (by decide) hwRX10 (show Cond.fieldLink RX10 68 "PlanetWorkshop" "script" "LPlanetWorkshop$Script;" ∈ wsX10_runScript by decide +kernel) rfl dX10_runScript_9 ?_
  obtain ⟨w7, hk5, hF⟩ := am_bind hF
  refine am_call X hh (va_runV (As := []) (rest := []) X.1 (c_X6_empty l G hk5) (cwV 0 hts gX10_runScript_X6_empty rfl rfl rfl (by decide +kernel) ⟨Nat.le_of_ble_eq_true rfl, Nat.le_of_ble_eq_true rfl⟩) (am_preV X hh 134 8 (by decide) rfl rfl) rfl rfl hl.1 rfl (lv_room (Nat.le_of_ble_eq_true rfl)) dX10_runScript_12 ⟨Nat.le_of_ble_eq_true rfl, Nat.le_of_ble_eq_true rfl⟩) (fun ab H locs hh => ?_)
  refine lv_iload_n hx hb dX10_runScript_15 rfl (lv_at hl 0 rfl) ?_
  refine lv_iconst (v := (-1 : Int32)) hx hb dX10_runScript_16 (by decide) ?_
  refine lv_icmp_eq (tgt := 33) hx hb dX10_runScript_17 (by decide) (fun hc8 => ?_) (fun hc8 => ?_)
  · have hF := am_pos hc8 hF
    refine lv_aload_n hx hb dX10_runScript_33 rfl (lv_at hl 1 rfl) ?_
    refine am_getR X hh 0 11 1 12 (by decide) rfl rfl (by decide) hwRX10 (show Cond.fieldLink RX10 16 "PlanetWorkshop" "before" "LPlanetWorkshop$State;" ∈ wsX10_runScript by decide +kernel) rfl dX10_runScript_34 ?_
    refine lv_aload_n hx hb dX10_runScript_37 rfl (lv_at hl 1 rfl) ?_
    refine am_getR X hh 0 11 0 1 (by decide) rfl rfl (by decide) hwRX10 (show Cond.fieldLink RX10 12 "PlanetWorkshop" "now" "LPlanetWorkshop$State;" ∈ wsX10_runScript by decide +kernel) rfl dX10_runScript_38 ?_
    obtain ⟨w11, hk9, hF⟩ := am_bind hF
    refine am_call X hh (va_runV (As := [.ref (gAd G 1)]) (rest := []) X.1 (c_X7_copyFrom l G st_12 st_1 hk9) (cwV 1 hts gX10_runScript_X7_copyFrom rfl rfl rfl (by decide +kernel) ⟨Nat.le_of_ble_eq_true rfl, Nat.le_of_ble_eq_true rfl⟩) (am_preV X hh 12 9 (by decide) rfl rfl) rfl rfl hl.1 rfl (lv_room (Nat.le_of_ble_eq_true rfl)) dX10_runScript_41 ⟨Nat.le_of_ble_eq_true rfl, Nat.le_of_ble_eq_true rfl⟩) (fun ab H locs hh => ?_)
    refine lv_iconst (v := (0 : Int32)) hx hb dX10_runScript_44 (by decide) ?_
    refine lv_istore_n (lv' := [(2, .int (0 : Int32)), (1, .int r2), (0, .ref (gAd G 0))]) hx hb dX10_runScript_45 rfl hl (by decide) rfl (fun ls hl => ?_)
    have hlp46 : ∀ (n : Nat) (y12 : Int32) (w13 : Wd) (ab : Nat) (H : Heap) (locs : List Loc) (ls : Array Slot) (z : (Int32 × Wd) ⊕ ((Nat ⊕ Int32) × Wd)), p_X10_runScript_46 n y12 w13 = some z → AH G s.heap w13 ab H locs → lv_has ls 3 [(2, .int y12), (1, .int r2), (0, .ref (gAd G 0))] → (∀ (y12 : Int32) (w13 : Wd) (ab : Nat) (H : Heap) (locs : List Loc) (ls : Array Slot), z = .inl (y12, w13) → AH G s.heap w13 ab H locs → lv_has ls 3 [(2, .int y12), (1, .int r2), (0, .ref (gAd G 0))] → W p l e ({ frames := 8, cells := 1, slots := 6, locals := 178 } : Room) s m args below meth c H locs 0 0 (vx_MQ below (amR G oI z0 w1) (amX G z0 w1) args s 1 6 (gA G)) (F0 m 95 ls [])) → (∀ r, z = .inr r → some r = some (z0, w1)) → W p l e ({ frames := 8, cells := 1, slots := 6, locals := 178 } : Room) s m args below meth c H locs 0 0 (vx_MQ below (amR G oI z0 w1) (amX G z0 w1) args s 1 6 (gA G)) (F0 m 46 ls []) := by
      intro n
      induction n with
      | zero =>
        intro y12 w13 ab H locs ls z hF
        unfold p_X10_runScript_46 at hF
        cases hF
      | succ n ih =>
        intro y12 w13 ab H locs ls z hF hh hl kE kR
        unfold p_X10_runScript_46 at hF
        refine lv_iload_n hx hb dX10_runScript_46 rfl (lv_at hl 0 rfl) ?_
        refine lv_aload_n hx hb dX10_runScript_47 rfl (lv_at hl 2 rfl) ?_
        refine am_getR X hh 0 11 9 134 (by decide) rfl rfl (by decide) hwRX10 (show Cond.fieldLink RX10 68 "PlanetWorkshop" "script" "LPlanetWorkshop$Script;" ∈ wsX10_runScript by decide +kernel) rfl dX10_runScript_48 ?_
        refine am_getI X hh 134 8 6 (by decide) rfl rfl (by decide) hwRX6 (show Cond.fieldLink RX10 333 "PlanetWorkshop$Script" "commands" "I" ∈ wsX10_runScript by decide +kernel) rfl dX10_runScript_51 ?_
        refine lv_icmp_ge (tgt := 95) hx hb dX10_runScript_54 (by decide) (fun hc15 => ?_) (fun hc15 => ?_)
        · have hF := am_pos hc15 hF
          exact kE y12 w13 ab H locs ls (Option.some.inj hF).symm hh (lv_sub hl [0, 1, 2] rfl)
        · have hF := am_neg hc15 hF
          refine lv_aload_n hx hb dX10_runScript_57 rfl (lv_at hl 2 rfl) ?_
          refine lv_iload_n hx hb dX10_runScript_58 rfl (lv_at hl 0 rfl) ?_
          obtain ⟨⟨r17, w18⟩, hk16, hF⟩ := am_bind hF
          have hF := am_u2 hF
          refine am_call X hh (va_runV (As := [.int y12]) (rest := []) X.1 (c_X10_carryOut l G hk16) (cwV 1 hts gX10_runScript_X10_carryOut rfl rfl rfl (by decide +kernel) ⟨Nat.le_of_ble_eq_true rfl, Nat.le_of_ble_eq_true rfl⟩) (am_preV X hh 0 11 (by decide) rfl rfl) rfl rfl hl.1 rfl (lv_room (Nat.le_of_ble_eq_true rfl)) dX10_runScript_59 ⟨Nat.le_of_ble_eq_true rfl, Nat.le_of_ble_eq_true rfl⟩) (fun ab H locs hh => ?_)
          refine lv_if_ge (tgt := 89) hx hb dX10_runScript_62 (by decide) (fun hc20 => ?_) (fun hc20 => ?_)
          · have hF := am_pos hc20 hF
            refine lv_iinc (v := (y12 + (1 : Int32))) (lv' := [(2, .int (y12 + (1 : Int32))), (1, .int r2), (0, .ref (gAd G 0))]) hx hb dX10_runScript_89 hl (k := 0) rfl rfl (by decide) rfl (fun ls hl => ?_)
            refine lv_goto (tgt := 46) hx hb dX10_runScript_92 (by decide) ?_
            exact ih (y12 + (1 : Int32)) w18 ab H locs ls _ hF hh (lv_sub hl [0, 1, 2] rfl) kE kR
          · have hF := am_neg hc20 hF
            refine lv_aload_n hx hb dX10_runScript_65 rfl (lv_at hl 2 rfl) ?_
            refine am_getR X hh 0 11 0 1 (by decide) rfl rfl (by decide) hwRX10 (show Cond.fieldLink RX10 12 "PlanetWorkshop" "now" "LPlanetWorkshop$State;" ∈ wsX10_runScript by decide +kernel) rfl dX10_runScript_66 ?_
            refine lv_aload_n hx hb dX10_runScript_69 rfl (lv_at hl 2 rfl) ?_
            refine am_getR X hh 0 11 1 12 (by decide) rfl rfl (by decide) hwRX10 (show Cond.fieldLink RX10 16 "PlanetWorkshop" "before" "LPlanetWorkshop$State;" ∈ wsX10_runScript by decide +kernel) rfl dX10_runScript_70 ?_
            obtain ⟨w23, hk21, hF⟩ := am_bind hF
            refine am_call X hh (va_runV (As := [.ref (gAd G 12)]) (rest := []) X.1 (c_X7_copyFrom l G st_1 st_12 hk21) (cwV 1 hts gX10_runScript_X7_copyFrom rfl rfl rfl (by decide +kernel) ⟨Nat.le_of_ble_eq_true rfl, Nat.le_of_ble_eq_true rfl⟩) (am_preV X hh 1 9 (by decide) rfl rfl) rfl rfl hl.1 rfl (lv_room (Nat.le_of_ble_eq_true rfl)) dX10_runScript_73 ⟨Nat.le_of_ble_eq_true rfl, Nat.le_of_ble_eq_true rfl⟩) (fun ab H locs hh => ?_)
            refine lv_aload_n hx hb dX10_runScript_76 rfl (lv_at hl 2 rfl) ?_
            refine lv_iload_n hx hb dX10_runScript_77 rfl (lv_at hl 0 rfl) ?_
            refine am_putI X hh 0 11 12 (by decide) rfl rfl (by decide) hwRX10 tyX10 tyX10_ok nmX10 (show Cond.fieldLink RX10 83 "PlanetWorkshop" "wrongCommand" "I" ∈ wsX10_runScript by decide +kernel) rfl rfl rfl rfl dX10_runScript_78 (fun H locs hh => ?_)
            obtain ⟨w24, hw24, hF⟩ := am_wl hF
            have hh := AH_eq hw24 hh
            have hF := kR _ (Option.some.inj hF).symm
            exact am_throw (k := 2) (ic := 322) X hst htb hh hl (show Cond.classLink RX10 320 "java/lang/IllegalStateException" ∈ wsX10_runScript by decide +kernel) (show Cond.initialized "java/lang/IllegalStateException" ∈ wsX10_runScript by decide +kernel) (fun q hq => List.mem_cons_of_mem _ (List.mem_append_left _ (List.mem_append_right _ hq))) (by decide +kernel) (ng_2 _ _) (ot_2 _ _) dX10_runScript_81 dX10_runScript_84 dX10_runScript_85 dX10_runScript_88 (Nat.le_of_ble_eq_true rfl) (Nat.le_of_ble_eq_true rfl) (Nat.le_of_ble_eq_true rfl) (Nat.le_of_ble_eq_true rfl) (am_zw hF).1 (am_zw hF).2 (Nat.le_of_ble_eq_true rfl) (Nat.le_of_ble_eq_true rfl)
    obtain ⟨z25, hz26, hF⟩ := am_bind hF
    refine hlp46 2000 (0 : Int32) w11 ab H locs ls z25 hz26 hh (lv_sub hl [0, 1, 2] rfl) (fun y12 w13 ab H locs ls hz hh hl => ?_) (fun r hz => ?_)
    · subst hz
      have hF := am_zl hF
      have hF := am_u2 hF
      refine lv_aload_n hx hb dX10_runScript_95 rfl (lv_at hl 2 rfl) ?_
      refine am_getR X hh 0 11 4 34 (by decide) rfl rfl (by decide) hwRX10 (show Cond.fieldLink RX10 29 "PlanetWorkshop" "history" "LPlanetWorkshop$History;" ∈ wsX10_runScript by decide +kernel) rfl dX10_runScript_96 ?_
      refine lv_aload_n hx hb dX10_runScript_99 rfl (lv_at hl 2 rfl) ?_
      refine am_getR X hh 0 11 1 12 (by decide) rfl rfl (by decide) hwRX10 (show Cond.fieldLink RX10 16 "PlanetWorkshop" "before" "LPlanetWorkshop$State;" ∈ wsX10_runScript by decide +kernel) rfl dX10_runScript_100 ?_
      obtain ⟨w29, hk27, hF⟩ := am_bind hF
      refine am_call X hh (va_runV (As := [.ref (gAd G 12)]) (rest := []) X.1 (c_X3_push l G hk27) (cwV 1 hts gX10_runScript_X3_push rfl rfl rfl (by decide +kernel) ⟨Nat.le_of_ble_eq_true rfl, Nat.le_of_ble_eq_true rfl⟩) (am_preV X hh 34 6 (by decide) rfl rfl) rfl rfl hl.1 rfl (lv_room (Nat.le_of_ble_eq_true rfl)) dX10_runScript_103 ⟨Nat.le_of_ble_eq_true rfl, Nat.le_of_ble_eq_true rfl⟩) (fun ab H locs hh => ?_)
      refine lv_aload_n hx hb dX10_runScript_106 rfl (lv_at hl 2 rfl) ?_
      refine am_getR X hh 0 11 9 134 (by decide) rfl rfl (by decide) hwRX10 (show Cond.fieldLink RX10 68 "PlanetWorkshop" "script" "LPlanetWorkshop$Script;" ∈ wsX10_runScript by decide +kernel) rfl dX10_runScript_107 ?_
      refine am_getI X hh 134 8 6 (by decide) rfl rfl (by decide) hwRX6 (show Cond.fieldLink RX10 333 "PlanetWorkshop$Script" "commands" "I" ∈ wsX10_runScript by decide +kernel) rfl dX10_runScript_110 ?_
      exact vx_ret (am_iret X hr hh (fun t ht => am_qwX (mk := oI) hF ht) (Nat.le_of_ble_eq_true rfl) (Nat.le_of_ble_eq_true rfl) dX10_runScript_113)
    · subst hz
      have hF := am_zr hF
      exact hF
  · have hF := am_neg hc8 hF
    refine lv_aload_n hx hb dX10_runScript_20 rfl (lv_at hl 1 rfl) ?_
    refine lv_iload_n hx hb dX10_runScript_21 rfl (lv_at hl 0 rfl) ?_
    refine am_putI X hh 0 11 11 (by decide) rfl rfl (by decide) hwRX10 tyX10 tyX10_ok nmX10 (show Cond.fieldLink RX10 79 "PlanetWorkshop" "wrongPosition" "I" ∈ wsX10_runScript by decide +kernel) rfl rfl rfl rfl dX10_runScript_22 (fun H locs hh => ?_)
    obtain ⟨w30, hw30, hF⟩ := am_wl hF
    have hh := AH_eq hw30 hh
    exact am_throw (k := 1) (ic := 233) X hst htb hh hl (show Cond.classLink RX10 231 "java/lang/IllegalArgumentException" ∈ wsX10_runScript by decide +kernel) (show Cond.initialized "java/lang/IllegalArgumentException" ∈ wsX10_runScript by decide +kernel) (fun q hq => List.mem_cons_of_mem _ (List.mem_append_left _ (List.mem_append_left _ (List.mem_append_right _ hq)))) (by decide +kernel) (ng_1 _ _) (ot_1 _ _) dX10_runScript_25 dX10_runScript_28 dX10_runScript_29 dX10_runScript_32 (Nat.le_of_ble_eq_true rfl) (Nat.le_of_ble_eq_true rfl) (Nat.le_of_ble_eq_true rfl) (Nat.le_of_ble_eq_true rfl) (am_zw hF).1 (am_zw hF).2 (Nat.le_of_ble_eq_true rfl) (Nat.le_of_ble_eq_true rfl)
