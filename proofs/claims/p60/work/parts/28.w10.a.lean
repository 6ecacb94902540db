set_option maxHeartbeats 4000000 in
set_option maxRecDepth 100000 in
theorem c_X10_gearCount (l : Launch) (G : GG) {w : Wd} {r0 : Int32} (hF : f_X10_gearCount w = some r0) : Met l yX10_gearCount wsX10_gearCount ({ frames := 0, cells := 0, slots := 0, locals := 0 } : Room) (va_Pc [.ref (gAd G 0)] (Rel G w)) (amQ G (oI r0) w) 0 0 (gA G) := by
  refine am_met (own := RX10) (cc := cX10_gearCount) (maxL := 1) (ret := (some .int)) (by decide +kernel) rfl rfl (Nat.le_of_ble_eq_true rfl) ?_
  intro p e s m args below meth c ab H locs ls X hr hh hl
  have hx := X.1.1; have hb := X.1.2.1; have hml := X.1.2.2.1; have hown := X.1.2.2.2.1; have hts := X.1.2.2.2.2
  have hl : lv_has ls 1 [(0, .ref (gAd G 0))] := hl
  have hwRX10 : ∀ z ∈ u_ws RX10 TX10 13, z ∈ wsX10_gearCount := by decide +kernel
  have hwRX7 : ∀ z ∈ u_ws RX7 TX7 17, z ∈ wsX10_gearCount := by decide +kernel
  unfold f_X10_gearCount at hF
  refine lv_aload_n hx hb dX10_gearCount_0 rfl (lv_at hl 0 rfl) ?_
  refine am_getR X hh 0 11 0 1 (by decide) rfl rfl (by decide) hwRX10 (show Cond.fieldLink RX10 12 "PlanetWorkshop" "now" "LPlanetWorkshop$State;" ∈ wsX10_gearCount by decide +kernel) rfl dX10_gearCount_1 ?_
  refine am_getI X hh 1 9 10 (by decide) rfl rfl (by decide) hwRX7 (show Cond.fieldLink RX10 129 "PlanetWorkshop$State" "gears" "I" ∈ wsX10_gearCount by decide +kernel) rfl dX10_gearCount_4 ?_
  exact am_iret X hr hh (fun t ht => am_qp (mk := oI) hF ht) (Nat.le_of_ble_eq_true rfl) (Nat.le_of_ble_eq_true rfl) dX10_gearCount_7
set_option maxHeartbeats 4000000 in
set_option maxRecDepth 100000 in
theorem c_X10_drops (l : Launch) (G : GG) {w : Wd} {r0 : Int32} (hF : f_X10_drops w = some r0) : Met l yX10_drops wsX10_drops ({ frames := 0, cells := 0, slots := 0, locals := 0 } : Room) (va_Pc [.ref (gAd G 0)] (Rel G w)) (amQ G (oI r0) w) 0 0 (gA G) := by
  refine am_met (own := RX10) (cc := cX10_drops) (maxL := 1) (ret := (some .int)) (by decide +kernel) rfl rfl (Nat.le_of_ble_eq_true rfl) ?_
  intro p e s m args below meth c ab H locs ls X hr hh hl
  have hx := X.1.1; have hb := X.1.2.1; have hml := X.1.2.2.1; have hown := X.1.2.2.2.1; have hts := X.1.2.2.2.2
  have hl : lv_has ls 1 [(0, .ref (gAd G 0))] := hl
  have hwRX10 : ∀ z ∈ u_ws RX10 TX10 13, z ∈ wsX10_drops := by decide +kernel
  have hwRX7 : ∀ z ∈ u_ws RX7 TX7 17, z ∈ wsX10_drops := by decide +kernel
  unfold f_X10_drops at hF
  refine lv_aload_n hx hb dX10_drops_0 rfl (lv_at hl 0 rfl) ?_
  refine am_getR X hh 0 11 0 1 (by decide) rfl rfl (by decide) hwRX10 (show Cond.fieldLink RX10 12 "PlanetWorkshop" "now" "LPlanetWorkshop$State;" ∈ wsX10_drops by decide +kernel) rfl dX10_drops_1 ?_
  refine am_getI X hh 1 9 13 (by decide) rfl rfl (by decide) hwRX7 (show Cond.fieldLink RX10 219 "PlanetWorkshop$State" "drops" "I" ∈ wsX10_drops by decide +kernel) rfl dX10_drops_4 ?_
  exact am_iret X hr hh (fun t ht => am_qp (mk := oI) hF ht) (Nat.le_of_ble_eq_true rfl) (Nat.le_of_ble_eq_true rfl) dX10_drops_7
set_option maxHeartbeats 4000000 in
set_option maxRecDepth 100000 in
theorem c_X10_planetCount (l : Launch) (G : GG) {w : Wd} {r0 : Int32} (hF : f_X10_planetCount w = some r0) : Met l yX10_planetCount wsX10_planetCount ({ frames := 0, cells := 0, slots := 0, locals := 0 } : Room) (va_Pc [.ref (gAd G 0)] (Rel G w)) (amQ G (oI r0) w) 0 0 (gA G) := by
  refine am_met (own := RX10) (cc := cX10_planetCount) (maxL := 1) (ret := (some .int)) (by decide +kernel) rfl rfl (Nat.le_of_ble_eq_true rfl) ?_
  intro p e s m args below meth c ab H locs ls X hr hh hl
  have hx := X.1.1; have hb := X.1.2.1; have hml := X.1.2.2.1; have hown := X.1.2.2.2.1; have hts := X.1.2.2.2.2
  have hl : lv_has ls 1 [(0, .ref (gAd G 0))] := hl
  have hwRX10 : ∀ z ∈ u_ws RX10 TX10 13, z ∈ wsX10_planetCount := by decide +kernel
  have hwRX7 : ∀ z ∈ u_ws RX7 TX7 17, z ∈ wsX10_planetCount := by decide +kernel
  unfold f_X10_planetCount at hF
  refine lv_aload_n hx hb dX10_planetCount_0 rfl (lv_at hl 0 rfl) ?_
  refine am_getR X hh 0 11 0 1 (by decide) rfl rfl (by decide) hwRX10 (show Cond.fieldLink RX10 12 "PlanetWorkshop" "now" "LPlanetWorkshop$State;" ∈ wsX10_planetCount by decide +kernel) rfl dX10_planetCount_1 ?_
  refine am_getI X hh 1 9 12 (by decide) rfl rfl (by decide) hwRX7 (show Cond.fieldLink RX10 222 "PlanetWorkshop$State" "planets" "I" ∈ wsX10_planetCount by decide +kernel) rfl dX10_planetCount_4 ?_
  exact am_iret X hr hh (fun t ht => am_qp (mk := oI) hF ht) (Nat.le_of_ble_eq_true rfl) (Nat.le_of_ble_eq_true rfl) dX10_planetCount_7
set_option maxHeartbeats 4000000 in
set_option maxRecDepth 100000 in
theorem c_X10_woundTotal (l : Launch) (G : GG) {w : Wd} {r0 : Int32} (hF : f_X10_woundTotal w = some r0) : Met l yX10_woundTotal wsX10_woundTotal ({ frames := 0, cells := 0, slots := 0, locals := 0 } : Room) (va_Pc [.ref (gAd G 0)] (Rel G w)) (amQ G (oI r0) w) 0 0 (gA G) := by
  refine am_met (own := RX10) (cc := cX10_woundTotal) (maxL := 1) (ret := (some .int)) (by decide +kernel) rfl rfl (Nat.le_of_ble_eq_true rfl) ?_
  intro p e s m args below meth c ab H locs ls X hr hh hl
  have hx := X.1.1; have hb := X.1.2.1; have hml := X.1.2.2.1; have hown := X.1.2.2.2.1; have hts := X.1.2.2.2.2
  have hl : lv_has ls 1 [(0, .ref (gAd G 0))] := hl
  have hwRX10 : ∀ z ∈ u_ws RX10 TX10 13, z ∈ wsX10_woundTotal := by decide +kernel
  have hwRX7 : ∀ z ∈ u_ws RX7 TX7 17, z ∈ wsX10_woundTotal := by decide +kernel
  unfold f_X10_woundTotal at hF
  refine lv_aload_n hx hb dX10_woundTotal_0 rfl (lv_at hl 0 rfl) ?_
  refine am_getR X hh 0 11 0 1 (by decide) rfl rfl (by decide) hwRX10 (show Cond.fieldLink RX10 12 "PlanetWorkshop" "now" "LPlanetWorkshop$State;" ∈ wsX10_woundTotal by decide +kernel) rfl dX10_woundTotal_1 ?_
  refine am_getI X hh 1 9 14 (by decide) rfl rfl (by decide) hwRX7 (show Cond.fieldLink RX10 262 "PlanetWorkshop$State" "wound" "I" ∈ wsX10_woundTotal by decide +kernel) rfl dX10_woundTotal_4 ?_
  exact am_iret X hr hh (fun t ht => am_qp (mk := oI) hF ht) (Nat.le_of_ble_eq_true rfl) (Nat.le_of_ble_eq_true rfl) dX10_woundTotal_7
set_option maxHeartbeats 4000000 in
set_option maxRecDepth 100000 in
theorem c_X10_tensionTotal (l : Launch) (G : GG) {w : Wd} {r0 : Int32} (hF : f_X10_tensionTotal w = some r0) : Met l yX10_tensionTotal wsX10_tensionTotal ({ frames := 1, cells := 0, slots := 0, locals := 22 } : Room) (va_Pc [.ref (gAd G 0)] (Rel G w)) (amQ G (oI r0) w) 0 0 (gA G) := by
  refine am_met (own := RX10) (cc := cX10_tensionTotal) (maxL := 1) (ret := (some .int)) (by decide +kernel) rfl rfl (Nat.le_of_ble_eq_true rfl) ?_
  intro p e s m args below meth c ab H locs ls X hr hh hl
  have hx := X.1.1; have hb := X.1.2.1; have hml := X.1.2.2.1; have hown := X.1.2.2.2.1; have hts := X.1.2.2.2.2
  have hl : lv_has ls 1 [(0, .ref (gAd G 0))] := hl
  have hwRX10 : ∀ z ∈ u_ws RX10 TX10 13, z ∈ wsX10_tensionTotal := by decide +kernel
  unfold f_X10_tensionTotal at hF
  refine lv_aload_n hx hb dX10_tensionTotal_0 rfl (lv_at hl 0 rfl) ?_
  refine am_getR X hh 0 11 0 1 (by decide) rfl rfl (by decide) hwRX10 (show Cond.fieldLink RX10 12 "PlanetWorkshop" "now" "LPlanetWorkshop$State;" ∈ wsX10_tensionTotal by decide +kernel) rfl dX10_tensionTotal_1 ?_
  obtain ⟨r2, hk1, hF⟩ := am_bind hF
  refine am_call X hh (va_runV (As := []) (rest := []) X.1 (c_X7_sumOfTensions l G hk1) (cwV 0 hts gX10_tensionTotal_X7_sumOfTensions rfl rfl rfl (by decide +kernel) ⟨Nat.le_of_ble_eq_true rfl, Nat.le_of_ble_eq_true rfl⟩) (am_preV X hh 1 9 (by decide) rfl rfl) rfl rfl hl.1 rfl (lv_room (Nat.le_of_ble_eq_true rfl)) dX10_tensionTotal_4 ⟨Nat.le_of_ble_eq_true rfl, Nat.le_of_ble_eq_true rfl⟩) (fun ab H locs hh => ?_)
  exact am_iret X hr hh (fun t ht => am_qp (mk := oI) hF ht) (Nat.le_of_ble_eq_true rfl) (Nat.le_of_ble_eq_true rfl) dX10_tensionTotal_7
set_option maxHeartbeats 4000000 in
set_option maxRecDepth 100000 in
theorem c_X10_tensionByAccounts (l : Launch) (G : GG) {w : Wd} {r0 : Int32} (hF : f_X10_tensionByAccounts w = some r0) : Met l yX10_tensionByAccounts wsX10_tensionByAccounts ({ frames := 0, cells := 0, slots := 0, locals := 0 } : Room) (va_Pc [.ref (gAd G 0)] (Rel G w)) (amQ G (oI r0) w) 0 0 (gA G) := by
  refine am_met (own := RX10) (cc := cX10_tensionByAccounts) (maxL := 1) (ret := (some .int)) (by decide +kernel) rfl rfl (Nat.le_of_ble_eq_true rfl) ?_
  intro p e s m args below meth c ab H locs ls X hr hh hl
  have hx := X.1.1; have hb := X.1.2.1; have hml := X.1.2.2.1; have hown := X.1.2.2.2.1; have hts := X.1.2.2.2.2
  have hl : lv_has ls 1 [(0, .ref (gAd G 0))] := hl
  have hwRX10 : ∀ z ∈ u_ws RX10 TX10 13, z ∈ wsX10_tensionByAccounts := by decide +kernel
  have hwRX7 : ∀ z ∈ u_ws RX7 TX7 17, z ∈ wsX10_tensionByAccounts := by decide +kernel
  unfold f_X10_tensionByAccounts at hF
  refine lv_aload_n hx hb dX10_tensionByAccounts_0 rfl (lv_at hl 0 rfl) ?_
  refine am_getR X hh 0 11 0 1 (by decide) rfl rfl (by decide) hwRX10 (show Cond.fieldLink RX10 12 "PlanetWorkshop" "now" "LPlanetWorkshop$State;" ∈ wsX10_tensionByAccounts by decide +kernel) rfl dX10_tensionByAccounts_1 ?_
  refine am_getI X hh 1 9 14 (by decide) rfl rfl (by decide) hwRX7 (show Cond.fieldLink RX10 262 "PlanetWorkshop$State" "wound" "I" ∈ wsX10_tensionByAccounts by decide +kernel) rfl dX10_tensionByAccounts_4 ?_
  refine lv_aload_n hx hb dX10_tensionByAccounts_7 rfl (lv_at hl 0 rfl) ?_
  refine am_getR X hh 0 11 0 1 (by decide) rfl rfl (by decide) hwRX10 (show Cond.fieldLink RX10 12 "PlanetWorkshop" "now" "LPlanetWorkshop$State;" ∈ wsX10_tensionByAccounts by decide +kernel) rfl dX10_tensionByAccounts_8 ?_
  refine am_getI X hh 1 9 15 (by decide) rfl rfl (by decide) hwRX7 (show Cond.fieldLink RX10 269 "PlanetWorkshop$State" "taken" "I" ∈ wsX10_tensionByAccounts by decide +kernel) rfl dX10_tensionByAccounts_11 ?_
  refine lv_isub hx hb dX10_tensionByAccounts_14 ?_
  exact am_iret X hr hh (fun t ht => am_qp (mk := oI) hF ht) (Nat.le_of_ble_eq_true rfl) (Nat.le_of_ble_eq_true rfl) dX10_tensionByAccounts_15
set_option maxHeartbeats 4000000 in
set_option maxRecDepth 100000 in
theorem c_X10_releaseTotal (l : Launch) (G : GG) {w : Wd} {r0 : Int32} (hF : f_X10_releaseTotal w = some r0) : Met l yX10_releaseTotal wsX10_releaseTotal ({ frames := 0, cells := 0, slots := 0, locals := 0 } : Room) (va_Pc [.ref (gAd G 0)] (Rel G w)) (amQ G (oI r0) w) 0 0 (gA G) := by
  refine am_met (own := RX10) (cc := cX10_releaseTotal) (maxL := 1) (ret := (some .int)) (by decide +kernel) rfl rfl (Nat.le_of_ble_eq_true rfl) ?_
  intro p e s m args below meth c ab H locs ls X hr hh hl
  have hx := X.1.1; have hb := X.1.2.1; have hml := X.1.2.2.1; have hown := X.1.2.2.2.1; have hts := X.1.2.2.2.2
  have hl : lv_has ls 1 [(0, .ref (gAd G 0))] := hl
  have hwRX10 : ∀ z ∈ u_ws RX10 TX10 13, z ∈ wsX10_releaseTotal := by decide +kernel
  have hwRX7 : ∀ z ∈ u_ws RX7 TX7 17, z ∈ wsX10_releaseTotal := by decide +kernel
  unfold f_X10_releaseTotal at hF
  refine lv_aload_n hx hb dX10_releaseTotal_0 rfl (lv_at hl 0 rfl) ?_
  refine am_getR X hh 0 11 0 1 (by decide) rfl rfl (by decide) hwRX10 (show Cond.fieldLink RX10 12 "PlanetWorkshop" "now" "LPlanetWorkshop$State;" ∈ wsX10_releaseTotal by decide +kernel) rfl dX10_releaseTotal_1 ?_
  refine am_getI X hh 1 9 16 (by decide) rfl rfl (by decide) hwRX7 (show Cond.fieldLink RX10 272 "PlanetWorkshop$State" "releases" "I" ∈ wsX10_releaseTotal by decide +kernel) rfl dX10_releaseTotal_4 ?_
  exact am_iret X hr hh (fun t ht => am_qp (mk := oI) hF ht) (Nat.le_of_ble_eq_true rfl) (Nat.le_of_ble_eq_true rfl) dX10_releaseTotal_7
set_option maxHeartbeats 4000000 in
set_option maxRecDepth 100000 in
theorem c_X10_meanTeeth (l : Launch) (G : GG) (hst : l.stackTraces = false) {w : Wd} {z0 : (Nat ⊕ UInt64)} (hF : f_X10_meanTeeth w = some z0) : vx_Met l yX10_meanTeeth wsX10_meanTeeth ({ frames := 6, cells := 1, slots := 6, locals := 90 } : Room) (va_Pc [.ref (gAd G 0)] (Rel G w)) (amR G oD z0 w) (amX G z0 w) 1 6 (gA G) := by
  refine am_metX (own := RX10) (cc := cX10_meanTeeth) (maxL := 1) (ret := (some .double)) (by decide +kernel) rfl rfl (Nat.le_of_ble_eq_true rfl) ?_
  intro p e s m args below meth c ab H locs ls X hr htb hh hl
  have hx := X.1.1; have hb := X.1.2.1; have hml := X.1.2.2.1; have hown := X.1.2.2.2.1; have hts := X.1.2.2.2.2
  have hl : lv_has ls 1 [(0, .ref (gAd G 0))] := hl
  have hwRX10 : ∀ z ∈ u_ws RX10 TX10 13, z ∈ wsX10_meanTeeth := by decide +kernel
  have hwRX7 : ∀ z ∈ u_ws RX7 TX7 17, z ∈ wsX10_meanTeeth := by decide +kernel
  unfold f_X10_meanTeeth at hF
  refine lv_aload_n hx hb dX10_meanTeeth_0 rfl (lv_at hl 0 rfl) ?_
  refine am_getR X hh 0 11 0 1 (by decide) rfl rfl (by decide) hwRX10 (show Cond.fieldLink RX10 12 "PlanetWorkshop" "now" "LPlanetWorkshop$State;" ∈ wsX10_meanTeeth by decide +kernel) rfl dX10_meanTeeth_1 ?_
  refine am_getI X hh 1 9 10 (by decide) rfl rfl (by decide) hwRX7 (show Cond.fieldLink RX10 129 "PlanetWorkshop$State" "gears" "I" ∈ wsX10_meanTeeth by decide +kernel) rfl dX10_meanTeeth_4 ?_
  refine lv_if_ne (tgt := 18) hx hb dX10_meanTeeth_7 (by decide) (fun hc1 => ?_) (fun hc1 => ?_)
  · have hF := am_neg hc1 hF
    refine lv_aload_n hx hb dX10_meanTeeth_18 rfl (lv_at hl 0 rfl) ?_
    refine am_getR X hh 0 11 0 1 (by decide) rfl rfl (by decide) hwRX10 (show Cond.fieldLink RX10 12 "PlanetWorkshop" "now" "LPlanetWorkshop$State;" ∈ wsX10_meanTeeth by decide +kernel) rfl dX10_meanTeeth_19 ?_
    obtain ⟨r3, hk2, hF⟩ := am_bind hF
    refine am_call X hh (va_runV (As := []) (rest := []) X.1 (c_X7_sumOfTeeth l G hk2) (cwV 0 hts gX10_meanTeeth_X7_sumOfTeeth rfl rfl rfl (by decide +kernel) ⟨Nat.le_of_ble_eq_true rfl, Nat.le_of_ble_eq_true rfl⟩) (am_preV X hh 1 9 (by decide) rfl rfl) rfl rfl hl.1 rfl (lv_room (Nat.le_of_ble_eq_true rfl)) dX10_meanTeeth_22 ⟨Nat.le_of_ble_eq_true rfl, Nat.le_of_ble_eq_true rfl⟩) (fun ab H locs hh => ?_)
    refine lv_i2d hx hb dX10_meanTeeth_25 ?_
    refine lv_aload_n hx hb dX10_meanTeeth_26 rfl (lv_at hl 0 rfl) ?_
    refine am_getR X hh 0 11 0 1 (by decide) rfl rfl (by decide) hwRX10 (show Cond.fieldLink RX10 12 "PlanetWorkshop" "now" "LPlanetWorkshop$State;" ∈ wsX10_meanTeeth by decide +kernel) rfl dX10_meanTeeth_27 ?_
    refine am_getI X hh 1 9 10 (by decide) rfl rfl (by decide) hwRX7 (show Cond.fieldLink RX10 129 "PlanetWorkshop$State" "gears" "I" ∈ wsX10_meanTeeth by decide +kernel) rfl dX10_meanTeeth_30 ?_
    refine lv_i2d hx hb dX10_meanTeeth_33 ?_
    obtain ⟨hq4, hF⟩ := am_ifN64 hF
    refine lv_ddiv hx hb dX10_meanTeeth_34 hq4 ?_
    exact vx_ret (am_dret X hr hh (fun t ht => am_qpX (mk := oD) hF ht) (Nat.le_of_ble_eq_true rfl) (Nat.le_of_ble_eq_true rfl) dX10_meanTeeth_35)
  · have hF := am_pos hc1 hF
    exact am_throw (k := 5) (ic := 277) X hst htb hh hl (show Cond.classLink RX10 275 "java/lang/ArithmeticException" ∈ wsX10_meanTeeth by decide +kernel) (show Cond.initialized "java/lang/ArithmeticException" ∈ wsX10_meanTeeth by decide +kernel) (fun q hq => List.mem_cons_of_mem _ (List.mem_append_left _ (List.mem_append_right _ hq))) (by decide +kernel) (ng_5 _ _) (ot_5 _ _) dX10_meanTeeth_10 dX10_meanTeeth_13 dX10_meanTeeth_14 dX10_meanTeeth_17 (Nat.le_of_ble_eq_true rfl) (Nat.le_of_ble_eq_true rfl) (Nat.le_of_ble_eq_true rfl) (Nat.le_of_ble_eq_true rfl) (am_zp hF) rfl (Nat.le_of_ble_eq_true rfl) (Nat.le_of_ble_eq_true rfl)
set_option maxHeartbeats 4000000 in
set_option maxRecDepth 100000 in
theorem c_X10_dryShare (l : Launch) (G : GG) (hst : l.stackTraces = false) {w : Wd} {z0 : (Nat ⊕ UInt32)} (hF : f_X10_dryShare w = some z0) : vx_Met l yX10_dryShare wsX10_dryShare ({ frames := 6, cells := 1, slots := 6, locals := 90 } : Room) (va_Pc [.ref (gAd G 0)] (Rel G w)) (amR G oF z0 w) (amX G z0 w) 1 6 (gA G) := by
  refine am_metX (own := RX10) (cc := cX10_dryShare) (maxL := 1) (ret := (some .float)) (by decide +kernel) rfl rfl (Nat.le_of_ble_eq_true rfl) ?_
  intro p e s m args below meth c ab H locs ls X hr htb hh hl
  have hx := X.1.1; have hb := X.1.2.1; have hml := X.1.2.2.1; have hown := X.1.2.2.2.1; have hts := X.1.2.2.2.2
  have hl : lv_has ls 1 [(0, .ref (gAd G 0))] := hl
  have hwRX10 : ∀ z ∈ u_ws RX10 TX10 13, z ∈ wsX10_dryShare := by decide +kernel
  have hwRX7 : ∀ z ∈ u_ws RX7 TX7 17, z ∈ wsX10_dryShare := by decide +kernel
  unfold f_X10_dryShare at hF
  refine lv_aload_n hx hb dX10_dryShare_0 rfl (lv_at hl 0 rfl) ?_
  refine am_getR X hh 0 11 0 1 (by decide) rfl rfl (by decide) hwRX10 (show Cond.fieldLink RX10 12 "PlanetWorkshop" "now" "LPlanetWorkshop$State;" ∈ wsX10_dryShare by decide +kernel) rfl dX10_dryShare_1 ?_
  refine am_getI X hh 1 9 10 (by decide) rfl rfl (by decide) hwRX7 (show Cond.fieldLink RX10 129 "PlanetWorkshop$State" "gears" "I" ∈ wsX10_dryShare by decide +kernel) rfl dX10_dryShare_4 ?_
  refine lv_if_ne (tgt := 18) hx hb dX10_dryShare_7 (by decide) (fun hc1 => ?_) (fun hc1 => ?_)
  · have hF := am_neg hc1 hF
    refine lv_aload_n hx hb dX10_dryShare_18 rfl (lv_at hl 0 rfl) ?_
    refine am_getR X hh 0 11 0 1 (by decide) rfl rfl (by decide) hwRX10 (show Cond.fieldLink RX10 12 "PlanetWorkshop" "now" "LPlanetWorkshop$State;" ∈ wsX10_dryShare by decide +kernel) rfl dX10_dryShare_19 ?_
    obtain ⟨r3, hk2, hF⟩ := am_bind hF
    refine am_call X hh (va_runV (As := []) (rest := []) X.1 (c_X7_dryGears l G hk2) (cwV 0 hts gX10_dryShare_X7_dryGears rfl rfl rfl (by decide +kernel) ⟨Nat.le_of_ble_eq_true rfl, Nat.le_of_ble_eq_true rfl⟩) (am_preV X hh 1 9 (by decide) rfl rfl) rfl rfl hl.1 rfl (lv_room (Nat.le_of_ble_eq_true rfl)) dX10_dryShare_22 ⟨Nat.le_of_ble_eq_true rfl, Nat.le_of_ble_eq_true rfl⟩) (fun ab H locs hh => ?_)
    refine lv_i2f hx hb dX10_dryShare_25 ?_
    refine lv_aload_n hx hb dX10_dryShare_26 rfl (lv_at hl 0 rfl) ?_
    refine am_getR X hh 0 11 0 1 (by decide) rfl rfl (by decide) hwRX10 (show Cond.fieldLink RX10 12 "PlanetWorkshop" "now" "LPlanetWorkshop$State;" ∈ wsX10_dryShare by decide +kernel) rfl dX10_dryShare_27 ?_
    refine am_getI X hh 1 9 10 (by decide) rfl rfl (by decide) hwRX7 (show Cond.fieldLink RX10 129 "PlanetWorkshop$State" "gears" "I" ∈ wsX10_dryShare by decide +kernel) rfl dX10_dryShare_30 ?_
    refine lv_i2f hx hb dX10_dryShare_33 ?_
    obtain ⟨hq4, hF⟩ := am_ifN32 hF
    refine lv_fdiv hx hb dX10_dryShare_34 hq4 ?_
    exact vx_ret (am_fret X hr hh (fun t ht => am_qpX (mk := oF) hF ht) (Nat.le_of_ble_eq_true rfl) (Nat.le_of_ble_eq_true rfl) dX10_dryShare_35)
  · have hF := am_pos hc1 hF
    exact am_throw (k := 5) (ic := 277) X hst htb hh hl (show Cond.classLink RX10 275 "java/lang/ArithmeticException" ∈ wsX10_dryShare by decide +kernel) (show Cond.initialized "java/lang/ArithmeticException" ∈ wsX10_dryShare by decide +kernel) (fun q hq => List.mem_cons_of_mem _ (List.mem_append_left _ (List.mem_append_right _ hq))) (by decide +kernel) (ng_5 _ _) (ot_5 _ _) dX10_dryShare_10 dX10_dryShare_13 dX10_dryShare_14 dX10_dryShare_17 (Nat.le_of_ble_eq_true rfl) (Nat.le_of_ble_eq_true rfl) (Nat.le_of_ble_eq_true rfl) (Nat.le_of_ble_eq_true rfl) (am_zp hF) rfl (Nat.le_of_ble_eq_true rfl) (Nat.le_of_ble_eq_true rfl)
set_option maxHeartbeats 4000000 in
set_option maxRecDepth 100000 in
theorem c_X10_outputAt (l : Launch) (G : GG) (hst : l.stackTraces = false) {w : Wd} {x1 : Int32} {z0 : (Nat ⊕ Int32)} (hF : f_X10_outputAt w x1 = some z0) : vx_Met l yX10_outputAt wsX10_outputAt ({ frames := 6, cells := 1, slots := 6, locals := 90 } : Room) (va_Pc [.ref (gAd G 0), .int x1] (Rel G w)) (amR G oI z0 w) (amX G z0 w) 1 6 (gA G) := by
  refine am_metX (own := RX10) (cc := cX10_outputAt) (maxL := 2) (ret := (some .char)) (by decide +kernel) rfl rfl (Nat.le_of_ble_eq_true rfl) ?_
  intro p e s m args below meth c ab H locs ls X hr htb hh hl
  have hx := X.1.1; have hb := X.1.2.1; have hml := X.1.2.2.1; have hown := X.1.2.2.2.1; have hts := X.1.2.2.2.2
  have hl : lv_has ls 2 [(0, .ref (gAd G 0)), (1, .int x1)] := hl
  have hwRX10 : ∀ z ∈ u_ws RX10 TX10 13, z ∈ wsX10_outputAt := by decide +kernel
  unfold f_X10_outputAt at hF
  refine lv_iload_n hx hb dX10_outputAt_0 rfl (lv_at hl 1 rfl) ?_
  refine lv_if_lt (tgt := 15) hx hb dX10_outputAt_1 (by decide) (fun hc1 => ?_) (fun hc1 => ?_)
  · have hF := am_pos hc1 hF
    exact am_throw (k := 0) (ic := 313) X hst htb hh hl (show Cond.classLink RX10 311 "java/lang/IndexOutOfBoundsException" ∈ wsX10_outputAt by decide +kernel) (show Cond.initialized "java/lang/IndexOutOfBoundsException" ∈ wsX10_outputAt by decide +kernel) (fun q hq => List.mem_cons_of_mem _ (List.mem_append_right _ hq)) (by decide +kernel) (ng_0 _ _) (ot_0 _ _) dX10_outputAt_15 dX10_outputAt_18 dX10_outputAt_19 dX10_outputAt_22 (Nat.le_of_ble_eq_true rfl) (Nat.le_of_ble_eq_true rfl) (Nat.le_of_ble_eq_true rfl) (Nat.le_of_ble_eq_true rfl) (am_zp hF) rfl (Nat.le_of_ble_eq_true rfl) (Nat.le_of_ble_eq_true rfl)
  · have hF := am_neg hc1 hF
    refine lv_iload_n hx hb dX10_outputAt_4 rfl (lv_at hl 1 rfl) ?_
    refine lv_aload_n hx hb dX10_outputAt_5 rfl (lv_at hl 0 rfl) ?_
    refine am_getR X hh 0 11 10 139 (by decide) rfl rfl (by decide) hwRX10 (show Cond.fieldLink RX10 75 "PlanetWorkshop" "output" "Ljava/lang/StringBuilder;" ∈ wsX10_outputAt by decide +kernel) rfl dX10_outputAt_6 ?_
    obtain ⟨r3, hk2, hF⟩ := am_bind hF
    refine am_call X hh (va_runV (As := []) (rest := [.int x1]) X.1 (c_J4_length_8abf5 l G hk2) (cwV 0 hts gX10_outputAt_J4_length_8abf5 rfl rfl rfl (by decide +kernel) ⟨Nat.le_of_ble_eq_true rfl, Nat.le_of_ble_eq_true rfl⟩) (am_preV X hh 139 1 (by decide) rfl rfl) rfl rfl hl.1 rfl (lv_room (Nat.le_of_ble_eq_true rfl)) dX10_outputAt_9 ⟨Nat.le_of_ble_eq_true rfl, Nat.le_of_ble_eq_true rfl⟩) (fun ab H locs hh => ?_)
    refine lv_icmp_lt (tgt := 23) hx hb dX10_outputAt_12 (by decide) (fun hc4 => ?_) (fun hc4 => ?_)
    · have hF := am_pos hc4 hF
      refine lv_aload_n hx hb dX10_outputAt_23 rfl (lv_at hl 0 rfl) ?_
      refine am_getR X hh 0 11 10 139 (by decide) rfl rfl (by decide) hwRX10 (show Cond.fieldLink RX10 75 "PlanetWorkshop" "output" "Ljava/lang/StringBuilder;" ∈ wsX10_outputAt by decide +kernel) rfl dX10_outputAt_24 ?_
      refine lv_iload_n hx hb dX10_outputAt_27 rfl (lv_at hl 1 rfl) ?_
      obtain ⟨r6, hk5, hF⟩ := am_bind hF
      refine am_call X hh (va_runV (As := [.int x1]) (rest := []) X.1 (c_J4_charAt_5068e l G hk5) (cwV 1 hts gX10_outputAt_J4_charAt_5068e rfl rfl rfl (by decide +kernel) ⟨Nat.le_of_ble_eq_true rfl, Nat.le_of_ble_eq_true rfl⟩) (am_preV X hh 139 1 (by decide) rfl rfl) rfl rfl hl.1 rfl (lv_room (Nat.le_of_ble_eq_true rfl)) dX10_outputAt_28 ⟨Nat.le_of_ble_eq_true rfl, Nat.le_of_ble_eq_true rfl⟩) (fun ab H locs hh => ?_)
      exact vx_ret (am_zret (v' := (vp_nar .char r6)) X hr (nar_c _) hh (fun t ht => am_qpX (mk := oI) hF ht) (Nat.le_of_ble_eq_true rfl) (Nat.le_of_ble_eq_true rfl) dX10_outputAt_31)
    · have hF := am_neg hc4 hF
      exact am_throw (k := 0) (ic := 313) X hst htb hh hl (show Cond.classLink RX10 311 "java/lang/IndexOutOfBoundsException" ∈ wsX10_outputAt by decide +kernel) (show Cond.initialized "java/lang/IndexOutOfBoundsException" ∈ wsX10_outputAt by decide +kernel) (fun q hq => List.mem_cons_of_mem _ (List.mem_append_right _ hq)) (by decide +kernel) (ng_0 _ _) (ot_0 _ _) dX10_outputAt_15 dX10_outputAt_18 dX10_outputAt_19 dX10_outputAt_22 (Nat.le_of_ble_eq_true rfl) (Nat.le_of_ble_eq_true rfl) (Nat.le_of_ble_eq_true rfl) (Nat.le_of_ble_eq_true rfl) (am_zp hF) rfl (Nat.le_of_ble_eq_true rfl) (Nat.le_of_ble_eq_true rfl)
set_option maxHeartbeats 4000000 in
set_option maxRecDepth 100000 in
theorem c_X10_type (l : Launch) (G : GG) (hst : l.stackTraces = false) {w : Wd} {x1 : Int32} {z0 : (Nat ⊕ Int32)} {w1 : Wd} (hF : f_X10_type w x1 = some (z0, w1)) : vx_Met l yX10_type wsX10_type ({ frames := 6, cells := 1, slots := 6, locals := 90 } : Room) (va_Pc [.ref (gAd G 0), .int x1] (Rel G w)) (amR G oI z0 w1) (amX G z0 w1) 1 6 (gA G) := by
  refine am_metX (own := RX10) (cc := cX10_type) (maxL := 2) (ret := (some .int)) (by decide +kernel) rfl rfl (Nat.le_of_ble_eq_true rfl) ?_
  intro p e s m args below meth c ab H locs ls X hr htb hh hl
  have hx := X.1.1; have hb := X.1.2.1; have hml := X.1.2.2.1; have hown := X.1.2.2.2.1; have hts := X.1.2.2.2.2
  have hl : lv_has ls 2 [(0, .ref (gAd G 0)), (1, .int x1)] := hl
  have hwRX10 : ∀ z ∈ u_ws RX10 TX10 13, z ∈ wsX10_type := by decide +kernel
  have hwRX6 : ∀ z ∈ u_ws RX6 TX6 8, z ∈ wsX10_type := by decide +kernel
  unfold f_X10_type at hF
  refine lv_iload_n hx hb dX10_type_0 rfl (lv_at hl 1 rfl) ?_
  refine lv_bipush (v := (32 : Int32)) hx hb dX10_type_1 (by decide) ?_
  refine lv_icmp_lt (tgt := 12) hx hb dX10_type_3 (by decide) (fun hc1 => ?_) (fun hc1 => ?_)
  · have hF := am_pos hc1 hF
    exact am_throw (k := 1) (ic := 233) X hst htb hh hl (show Cond.classLink RX10 231 "java/lang/IllegalArgumentException" ∈ wsX10_type by decide +kernel) (show Cond.initialized "java/lang/IllegalArgumentException" ∈ wsX10_type by decide +kernel) (fun q hq => List.mem_cons_of_mem _ (List.mem_append_left _ (List.mem_append_left _ (List.mem_append_right _ hq)))) (by decide +kernel) (ng_1 _ _) (ot_1 _ _) dX10_type_12 dX10_type_15 dX10_type_16 dX10_type_19 (Nat.le_of_ble_eq_true rfl) (Nat.le_of_ble_eq_true rfl) (Nat.le_of_ble_eq_true rfl) (Nat.le_of_ble_eq_true rfl) (am_zw hF).1 (am_zw hF).2 (Nat.le_of_ble_eq_true rfl) (Nat.le_of_ble_eq_true rfl)
  · have hF := am_neg hc1 hF
    refine lv_iload_n hx hb dX10_type_6 rfl (lv_at hl 1 rfl) ?_
    refine lv_bipush (v := (126 : Int32)) hx hb dX10_type_7 (by decide) ?_
    refine lv_icmp_le (tgt := 20) hx hb dX10_type_9 (by decide) (fun hc2 => ?_) (fun hc2 => ?_)
    · have hF := am_pos hc2 hF
      refine lv_aload_n hx hb dX10_type_20 rfl (lv_at hl 0 rfl) ?_
      refine am_getR X hh 0 11 9 134 (by decide) rfl rfl (by decide) hwRX10 (show Cond.fieldLink RX10 68 "PlanetWorkshop" "script" "LPlanetWorkshop$Script;" ∈ wsX10_type by decide +kernel) rfl dX10_type_21 ?_
      refine am_getI X hh 134 8 1 (by decide) rfl rfl (by decide) hwRX6 (show Cond.fieldLink RX10 318 "PlanetWorkshop$Script" "length" "I" ∈ wsX10_type by decide +kernel) rfl dX10_type_24 ?_
      refine lv_bipush (v := (60 : Int32)) hx hb dX10_type_27 (by decide) ?_
      refine lv_icmp_lt (tgt := 40) hx hb dX10_type_29 (by decide) (fun hc3 => ?_) (fun hc3 => ?_)
      · have hF := am_pos hc3 hF
        refine lv_aload_n hx hb dX10_type_40 rfl (lv_at hl 0 rfl) ?_
        refine am_getR X hh 0 11 9 134 (by decide) rfl rfl (by decide) hwRX10 (show Cond.fieldLink RX10 68 "PlanetWorkshop" "script" "LPlanetWorkshop$Script;" ∈ wsX10_type by decide +kernel) rfl dX10_type_41 ?_
        refine lv_iload_n hx hb dX10_type_44 rfl (lv_at hl 1 rfl) ?_
        obtain ⟨w6, hk4, hF⟩ := am_bind hF
        refine am_call X hh (va_runV (As := [.int x1]) (rest := []) X.1 (c_X6_add l G hk4) (cwV 1 hts gX10_type_X6_add rfl rfl rfl (by decide +kernel) ⟨Nat.le_of_ble_eq_true rfl, Nat.le_of_ble_eq_true rfl⟩) (am_preV X hh 134 8 (by decide) rfl rfl) rfl rfl hl.1 rfl (lv_room (Nat.le_of_ble_eq_true rfl)) dX10_type_45 ⟨Nat.le_of_ble_eq_true rfl, Nat.le_of_ble_eq_true rfl⟩) (fun ab H locs hh => ?_)
        refine lv_aload_n hx hb dX10_type_48 rfl (lv_at hl 0 rfl) ?_
        refine am_getR X hh 0 11 9 134 (by decide) rfl rfl (by decide) hwRX10 (show Cond.fieldLink RX10 68 "PlanetWorkshop" "script" "LPlanetWorkshop$Script;" ∈ wsX10_type by decide +kernel) rfl dX10_type_49 ?_
        refine am_getI X hh 134 8 1 (by decide) rfl rfl (by decide) hwRX6 (show Cond.fieldLink RX10 318 "PlanetWorkshop$Script" "length" "I" ∈ wsX10_type by decide +kernel) rfl dX10_type_52 ?_
        exact vx_ret (am_iret X hr hh (fun t ht => am_qwX (mk := oI) hF ht) (Nat.le_of_ble_eq_true rfl) (Nat.le_of_ble_eq_true rfl) dX10_type_55)
      · have hF := am_neg hc3 hF
        exact am_throw (k := 2) (ic := 322) X hst htb hh hl (show Cond.classLink RX10 320 "java/lang/IllegalStateException" ∈ wsX10_type by decide +kernel) (show Cond.initialized "java/lang/IllegalStateException" ∈ wsX10_type by decide +kernel) (fun q hq => List.mem_cons_of_mem _ (List.mem_append_left _ (List.mem_append_right _ hq))) (by decide +kernel) (ng_2 _ _) (ot_2 _ _) dX10_type_32 dX10_type_35 dX10_type_36 dX10_type_39 (Nat.le_of_ble_eq_true rfl) (Nat.le_of_ble_eq_true rfl) (Nat.le_of_ble_eq_true rfl) (Nat.le_of_ble_eq_true rfl) (am_zw hF).1 (am_zw hF).2 (Nat.le_of_ble_eq_true rfl) (Nat.le_of_ble_eq_true rfl)
    · have hF := am_neg hc2 hF
      exact am_throw (k := 1) (ic := 233) X hst htb hh hl (show Cond.classLink RX10 231 "java/lang/IllegalArgumentException" ∈ wsX10_type by decide +kernel) (show Cond.initialized "java/lang/IllegalArgumentException" ∈ wsX10_type by decide +kernel) (fun q hq => List.mem_cons_of_mem _ (List.mem_append_left _ (List.mem_append_left _ (List.mem_append_right _ hq)))) (by decide +kernel) (ng_1 _ _) (ot_1 _ _) dX10_type_12 dX10_type_15 dX10_type_16 dX10_type_19 (Nat.le_of_ble_eq_true rfl) (Nat.le_of_ble_eq_true rfl) (Nat.le_of_ble_eq_true rfl) (Nat.le_of_ble_eq_true rfl) (am_zw hF).1 (am_zw hF).2 (Nat.le_of_ble_eq_true rfl) (Nat.le_of_ble_eq_true rfl)
set_option maxHeartbeats 4000000 in
set_option maxRecDepth 100000 in
theorem c_X10_errorPosition (l : Launch) (G : GG) (hst : l.stackTraces = false) {w : Wd} {z0 : (Nat ⊕ Int32)} (hF : f_X10_errorPosition w = some z0) : vx_Met l yX10_errorPosition wsX10_errorPosition ({ frames := 6, cells := 1, slots := 6, locals := 90 } : Room) (va_Pc [.ref (gAd G 0)] (Rel G w)) (amR G oI z0 w) (amX G z0 w) 1 6 (gA G) := by
  refine am_metX (own := RX10) (cc := cX10_errorPosition) (maxL := 1) (ret := (some .int)) (by decide +kernel) rfl rfl (Nat.le_of_ble_eq_true rfl) ?_
  intro p e s m args below meth c ab H locs ls X hr htb hh hl
  have hx := X.1.1; have hb := X.1.2.1; have hml := X.1.2.2.1; have hown := X.1.2.2.2.1; have hts := X.1.2.2.2.2
  have hl : lv_has ls 1 [(0, .ref (gAd G 0))] := hl
  have hwRX10 : ∀ z ∈ u_ws RX10 TX10 13, z ∈ wsX10_errorPosition := by decide +kernel
  unfold f_X10_errorPosition at hF
  refine lv_aload_n hx hb dX10_errorPosition_0 rfl (lv_at hl 0 rfl) ?_
  refine am_getI X hh 0 11 11 (by decide) rfl rfl (by decide) hwRX10 (show Cond.fieldLink RX10 79 "PlanetWorkshop" "wrongPosition" "I" ∈ wsX10_errorPosition by decide +kernel) rfl dX10_errorPosition_1 ?_
  refine lv_iconst (v := (-1 : Int32)) hx hb dX10_errorPosition_4 (by decide) ?_
  refine lv_icmp_ne (tgt := 16) hx hb dX10_errorPosition_5 (by decide) (fun hc1 => ?_) (fun hc1 => ?_)
  · have hF := am_neg hc1 hF
    refine lv_aload_n hx hb dX10_errorPosition_16 rfl (lv_at hl 0 rfl) ?_
    refine am_getI X hh 0 11 11 (by decide) rfl rfl (by decide) hwRX10 (show Cond.fieldLink RX10 79 "PlanetWorkshop" "wrongPosition" "I" ∈ wsX10_errorPosition by decide +kernel) rfl dX10_errorPosition_17 ?_
    exact vx_ret (am_iret X hr hh (fun t ht => am_qpX (mk := oI) hF ht) (Nat.le_of_ble_eq_true rfl) (Nat.le_of_ble_eq_true rfl) dX10_errorPosition_20)
  · have hF := am_pos hc1 hF
    exact am_throw (k := 4) (ic := 146) X hst htb hh hl (show Cond.classLink RX10 144 "java/util/NoSuchElementException" ∈ wsX10_errorPosition by decide +kernel) (show Cond.initialized "java/util/NoSuchElementException" ∈ wsX10_errorPosition by decide +kernel) (fun q hq => List.mem_cons_of_mem _ (List.mem_append_right _ hq)) (by decide +kernel) (ng_4 _ _) (ot_4 _ _) dX10_errorPosition_8 dX10_errorPosition_11 dX10_errorPosition_12 dX10_errorPosition_15 (Nat.le_of_ble_eq_true rfl) (Nat.le_of_ble_eq_true rfl) (Nat.le_of_ble_eq_true rfl) (Nat.le_of_ble_eq_true rfl) (am_zp hF) rfl (Nat.le_of_ble_eq_true rfl) (Nat.le_of_ble_eq_true rfl)
set_option maxHeartbeats 4000000 in
set_option maxRecDepth 100000 in
theorem c_X10_failedCommand (l : Launch) (G : GG) (hst : l.stackTraces = false) {w : Wd} {z0 : (Nat ⊕ Int32)} (hF : f_X10_failedCommand w = some z0) : vx_Met l yX10_failedCommand wsX10_failedCommand ({ frames := 6, cells := 1, slots := 6, locals := 90 } : Room) (va_Pc [.ref (gAd G 0)] (Rel G w)) (amR G oI z0 w) (amX G z0 w) 1 6 (gA G) := by
  refine am_metX (own := RX10) (cc := cX10_failedCommand) (maxL := 1) (ret := (some .int)) (by decide +kernel) rfl rfl (Nat.le_of_ble_eq_true rfl) ?_
  intro p e s m args below meth c ab H locs ls X hr htb hh hl
  have hx := X.1.1; have hb := X.1.2.1; have hml := X.1.2.2.1; have hown := X.1.2.2.2.1; have hts := X.1.2.2.2.2
  have hl : lv_has ls 1 [(0, .ref (gAd G 0))] := hl
  have hwRX10 : ∀ z ∈ u_ws RX10 TX10 13, z ∈ wsX10_failedCommand := by decide +kernel
  unfold f_X10_failedCommand at hF
  refine lv_aload_n hx hb dX10_failedCommand_0 rfl (lv_at hl 0 rfl) ?_
  refine am_getI X hh 0 11 12 (by decide) rfl rfl (by decide) hwRX10 (show Cond.fieldLink RX10 83 "PlanetWorkshop" "wrongCommand" "I" ∈ wsX10_failedCommand by decide +kernel) rfl dX10_failedCommand_1 ?_
  refine lv_iconst (v := (-1 : Int32)) hx hb dX10_failedCommand_4 (by decide) ?_
  refine lv_icmp_ne (tgt := 16) hx hb dX10_failedCommand_5 (by decide) (fun hc1 => ?_) (fun hc1 => ?_)
  · have hF := am_neg hc1 hF
    refine lv_aload_n hx hb dX10_failedCommand_16 rfl (lv_at hl 0 rfl) ?_
    refine am_getI X hh 0 11 12 (by decide) rfl rfl (by decide) hwRX10 (show Cond.fieldLink RX10 83 "PlanetWorkshop" "wrongCommand" "I" ∈ wsX10_failedCommand by decide +kernel) rfl dX10_failedCommand_17 ?_
    exact vx_ret (am_iret X hr hh (fun t ht => am_qpX (mk := oI) hF ht) (Nat.le_of_ble_eq_true rfl) (Nat.le_of_ble_eq_true rfl) dX10_failedCommand_20)
  · have hF := am_pos hc1 hF
    exact am_throw (k := 4) (ic := 146) X hst htb hh hl (show Cond.classLink RX10 144 "java/util/NoSuchElementException" ∈ wsX10_failedCommand by decide +kernel) (show Cond.initialized "java/util/NoSuchElementException" ∈ wsX10_failedCommand by decide +kernel) (fun q hq => List.mem_cons_of_mem _ (List.mem_append_right _ hq)) (by decide +kernel) (ng_4 _ _) (ot_4 _ _) dX10_failedCommand_8 dX10_failedCommand_11 dX10_failedCommand_12 dX10_failedCommand_15 (Nat.le_of_ble_eq_true rfl) (Nat.le_of_ble_eq_true rfl) (Nat.le_of_ble_eq_true rfl) (Nat.le_of_ble_eq_true rfl) (am_zp hF) rfl (Nat.le_of_ble_eq_true rfl) (Nat.le_of_ble_eq_true rfl)
set_option maxHeartbeats 4000000 in
set_option maxRecDepth 100000 in
theorem c_X10_save (l : Launch) (G : GG) {w : Wd} {r0 : Int32} {w1 : Wd} (hF : f_X10_save w = some (r0, w1)) : Met l yX10_save wsX10_save ({ frames := 1, cells := 0, slots := 0, locals := 22 } : Room) (va_Pc [.ref (gAd G 0)] (Rel G w)) (amQ G (oI r0) w1) 0 0 (gA G) := by
  refine am_met (own := RX10) (cc := cX10_save) (maxL := 1) (ret := (some .int)) (by decide +kernel) rfl rfl (Nat.le_of_ble_eq_true rfl) ?_
  intro p e s m args below meth c ab H locs ls X hr hh hl
  have hx := X.1.1; have hb := X.1.2.1; have hml := X.1.2.2.1; have hown := X.1.2.2.2.1; have hts := X.1.2.2.2.2
  have hl : lv_has ls 1 [(0, .ref (gAd G 0))] := hl
  have hwRX10 : ∀ z ∈ u_ws RX10 TX10 13, z ∈ wsX10_save := by decide +kernel
  have hwRX7 : ∀ z ∈ u_ws RX7 TX7 17, z ∈ wsX10_save := by decide +kernel
  unfold f_X10_save at hF
  refine lv_aload_n hx hb dX10_save_0 rfl (lv_at hl 0 rfl) ?_
  refine am_getR X hh 0 11 2 23 (by decide) rfl rfl (by decide) hwRX10 (show Cond.fieldLink RX10 19 "PlanetWorkshop" "snapshot" "LPlanetWorkshop$State;" ∈ wsX10_save by decide +kernel) rfl dX10_save_1 ?_
  refine lv_aload_n hx hb dX10_save_4 rfl (lv_at hl 0 rfl) ?_
  refine am_getR X hh 0 11 0 1 (by decide) rfl rfl (by decide) hwRX10 (show Cond.fieldLink RX10 12 "PlanetWorkshop" "now" "LPlanetWorkshop$State;" ∈ wsX10_save by decide +kernel) rfl dX10_save_5 ?_
  obtain ⟨w3, hk1, hF⟩ := am_bind hF
  refine am_call X hh (va_runV (As := [.ref (gAd G 1)]) (rest := []) X.1 (c_X7_copyFrom l G st_23 st_1 hk1) (cwV 1 hts gX10_save_X7_copyFrom rfl rfl rfl (by decide +kernel) ⟨Nat.le_of_ble_eq_true rfl, Nat.le_of_ble_eq_true rfl⟩) (am_preV X hh 23 9 (by decide) rfl rfl) rfl rfl hl.1 rfl (lv_room (Nat.le_of_ble_eq_true rfl)) dX10_save_8 ⟨Nat.le_of_ble_eq_true rfl, Nat.le_of_ble_eq_true rfl⟩) (fun ab H locs hh => ?_)
  refine lv_aload_n hx hb dX10_save_11 rfl (lv_at hl 0 rfl) ?_
  refine lv_iconst (v := (1 : Int32)) hx hb dX10_save_12 (by decide) ?_
  refine am_putI X hh 0 11 3 (by decide) rfl rfl (by decide) hwRX10 tyX10 tyX10_ok nmX10 (show Cond.fieldLink RX10 22 "PlanetWorkshop" "hasSnapshot" "Z" ∈ wsX10_save by decide +kernel) rfl rfl rfl rfl dX10_save_13 (fun H locs hh => ?_)
  obtain ⟨w4, hw4, hF⟩ := am_wl hF
  have hh := AH_eq hw4 hh
  refine lv_aload_n hx hb dX10_save_16 rfl (lv_at hl 0 rfl) ?_
  refine am_getR X hh 0 11 0 1 (by decide) rfl rfl (by decide) hwRX10 (show Cond.fieldLink RX10 12 "PlanetWorkshop" "now" "LPlanetWorkshop$State;" ∈ wsX10_save by decide +kernel) rfl dX10_save_17 ?_
  refine am_getI X hh 1 9 10 (by decide) rfl rfl (by decide) hwRX7 (show Cond.fieldLink RX10 129 "PlanetWorkshop$State" "gears" "I" ∈ wsX10_save by decide +kernel) rfl dX10_save_20 ?_
  exact am_iret X hr hh (fun t ht => am_qw (mk := oI) hF ht) (Nat.le_of_ble_eq_true rfl) (Nat.le_of_ble_eq_true rfl) dX10_save_23
set_option maxHeartbeats 4000000 in
set_option maxRecDepth 100000 in
theorem c_X10_restore (l : Launch) (G : GG) (hst : l.stackTraces = false) {w : Wd} {z0 : (Nat ⊕ Int32)} {w1 : Wd} (hF : f_X10_restore w = some (z0, w1)) : vx_Met l yX10_restore wsX10_restore ({ frames := 6, cells := 1, slots := 6, locals := 90 } : Room) (va_Pc [.ref (gAd G 0)] (Rel G w)) (amR G oI z0 w1) (amX G z0 w1) 1 6 (gA G) := by
  refine am_metX (own := RX10) (cc := cX10_restore) (maxL := 1) (ret := (some .int)) (by decide +kernel) rfl rfl (Nat.le_of_ble_eq_true rfl) ?_
  intro p e s m args below meth c ab H locs ls X hr htb hh hl
  have hx := X.1.1; have hb := X.1.2.1; have hml := X.1.2.2.1; have hown := X.1.2.2.2.1; have hts := X.1.2.2.2.2
  have hl : lv_has ls 1 [(0, .ref (gAd G 0))] := hl
  have hwRX10 : ∀ z ∈ u_ws RX10 TX10 13, z ∈ wsX10_restore := by decide +kernel
  have hwRX7 : ∀ z ∈ u_ws RX7 TX7 17, z ∈ wsX10_restore := by decide +kernel
  unfold f_X10_restore at hF
  refine lv_aload_n hx hb dX10_restore_0 rfl (lv_at hl 0 rfl) ?_
  refine am_getI X hh 0 11 3 (by decide) rfl rfl (by decide) hwRX10 (show Cond.fieldLink RX10 22 "PlanetWorkshop" "hasSnapshot" "Z" ∈ wsX10_restore by decide +kernel) rfl dX10_restore_1 ?_
  refine lv_if_ne (tgt := 15) hx hb dX10_restore_4 (by decide) (fun hc1 => ?_) (fun hc1 => ?_)
  · have hF := am_neg hc1 hF
    refine lv_aload_n hx hb dX10_restore_15 rfl (lv_at hl 0 rfl) ?_
    refine am_getR X hh 0 11 0 1 (by decide) rfl rfl (by decide) hwRX10 (show Cond.fieldLink RX10 12 "PlanetWorkshop" "now" "LPlanetWorkshop$State;" ∈ wsX10_restore by decide +kernel) rfl dX10_restore_16 ?_
    refine lv_aload_n hx hb dX10_restore_19 rfl (lv_at hl 0 rfl) ?_
    refine am_getR X hh 0 11 2 23 (by decide) rfl rfl (by decide) hwRX10 (show Cond.fieldLink RX10 19 "PlanetWorkshop" "snapshot" "LPlanetWorkshop$State;" ∈ wsX10_restore by decide +kernel) rfl dX10_restore_20 ?_
    obtain ⟨w4, hk2, hF⟩ := am_bind hF
    refine am_call X hh (va_runV (As := [.ref (gAd G 23)]) (rest := []) X.1 (c_X7_copyFrom l G st_1 st_23 hk2) (cwV 1 hts gX10_restore_X7_copyFrom rfl rfl rfl (by decide +kernel) ⟨Nat.le_of_ble_eq_true rfl, Nat.le_of_ble_eq_true rfl⟩) (am_preV X hh 1 9 (by decide) rfl rfl) rfl rfl hl.1 rfl (lv_room (Nat.le_of_ble_eq_true rfl)) dX10_restore_23 ⟨Nat.le_of_ble_eq_true rfl, Nat.le_of_ble_eq_true rfl⟩) (fun ab H locs hh => ?_)
    refine lv_aload_n hx hb dX10_restore_26 rfl (lv_at hl 0 rfl) ?_
    refine am_getR X hh 0 11 4 34 (by decide) rfl rfl (by decide) hwRX10 (show Cond.fieldLink RX10 29 "PlanetWorkshop" "history" "LPlanetWorkshop$History;" ∈ wsX10_restore by decide +kernel) rfl dX10_restore_27 ?_
    obtain ⟨w7, hk5, hF⟩ := am_bind hF
    refine am_call X hh (va_runV (As := []) (rest := []) X.1 (c_X3_empty l G hk5) (cwV 0 hts gX10_restore_X3_empty rfl rfl rfl (by decide +kernel) ⟨Nat.le_of_ble_eq_true rfl, Nat.le_of_ble_eq_true rfl⟩) (am_preV X hh 34 6 (by decide) rfl rfl) rfl rfl hl.1 rfl (lv_room (Nat.le_of_ble_eq_true rfl)) dX10_restore_30 ⟨Nat.le_of_ble_eq_true rfl, Nat.le_of_ble_eq_true rfl⟩) (fun ab H locs hh => ?_)
    refine lv_aload_n hx hb dX10_restore_33 rfl (lv_at hl 0 rfl) ?_
    refine am_getR X hh 0 11 0 1 (by decide) rfl rfl (by decide) hwRX10 (show Cond.fieldLink RX10 12 "PlanetWorkshop" "now" "LPlanetWorkshop$State;" ∈ wsX10_restore by decide +kernel) rfl dX10_restore_34 ?_
    refine am_getI X hh 1 9 10 (by decide) rfl rfl (by decide) hwRX7 (show Cond.fieldLink RX10 129 "PlanetWorkshop$State" "gears" "I" ∈ wsX10_restore by decide +kernel) rfl dX10_restore_37 ?_
    exact vx_ret (am_iret X hr hh (fun t ht => am_qwX (mk := oI) hF ht) (Nat.le_of_ble_eq_true rfl) (Nat.le_of_ble_eq_true rfl) dX10_restore_40)
  · have hF := am_pos hc1 hF
    exact am_throw (k := 2) (ic := 322) X hst htb hh hl (show Cond.classLink RX10 320 "java/lang/IllegalStateException" ∈ wsX10_restore by decide +kernel) (show Cond.initialized "java/lang/IllegalStateException" ∈ wsX10_restore by decide +kernel) (fun q hq => List.mem_cons_of_mem _ (List.mem_append_left _ (List.mem_append_right _ hq))) (by decide +kernel) (ng_2 _ _) (ot_2 _ _) dX10_restore_7 dX10_restore_10 dX10_restore_11 dX10_restore_14 (Nat.le_of_ble_eq_true rfl) (Nat.le_of_ble_eq_true rfl) (Nat.le_of_ble_eq_true rfl) (Nat.le_of_ble_eq_true rfl) (am_zw hF).1 (am_zw hF).2 (Nat.le_of_ble_eq_true rfl) (Nat.le_of_ble_eq_true rfl)
set_option maxHeartbeats 4000000 in
set_option maxRecDepth 100000 in
theorem c_X10_refuse (l : Launch) (G : GG) (hst : l.stackTraces = false) {w : Wd} {x0 : Int32} {z0 : (Nat ⊕ Unit)} (hF : f_X10_refuse w x0 = some z0) : vx_Met l yX10_refuse wsX10_refuse ({ frames := 6, cells := 1, slots := 6, locals := 90 } : Room) (va_Pc [.int x0] (Rel G w)) (amR G oV z0 w) (amX G z0 w) 1 6 (gA G) := by
  refine am_metX (own := RX10) (cc := cX10_refuse) (maxL := 1) (ret := none) (by decide +kernel) rfl rfl (Nat.le_of_ble_eq_true rfl) ?_
  intro p e s m args below meth c ab H locs ls X hr htb hh hl
  have hx := X.1.1; have hb := X.1.2.1; have hml := X.1.2.2.1; have hown := X.1.2.2.2.1; have hts := X.1.2.2.2.2
  have hl : lv_has ls 1 [(0, .int x0)] := hl
  unfold f_X10_refuse at hF
  refine lv_iload_n hx hb dX10_refuse_0 rfl (lv_at hl 0 rfl) ?_
  by_cases hs1 : x0 = (-5 : Int32)
  · have hF := am_pos hs1 hF
    refine am_tableIn (k := 0) (tgt := 68) hx hb dX10_refuse_1 hs1 (by decide) rfl (by decide) ?_
    exact am_throw (k := 4) (ic := 146) X hst htb hh hl (show Cond.classLink RX10 144 "java/util/NoSuchElementException" ∈ wsX10_refuse by decide +kernel) (show Cond.initialized "java/util/NoSuchElementException" ∈ wsX10_refuse by decide +kernel) (fun q hq => List.mem_cons_of_mem _ (List.mem_append_right _ hq)) (by decide +kernel) (ng_4 _ _) (ot_4 _ _) dX10_refuse_68 dX10_refuse_71 dX10_refuse_72 dX10_refuse_75 (Nat.le_of_ble_eq_true rfl) (Nat.le_of_ble_eq_true rfl) (Nat.le_of_ble_eq_true rfl) (Nat.le_of_ble_eq_true rfl) (am_zp hF) rfl (Nat.le_of_ble_eq_true rfl) (Nat.le_of_ble_eq_true rfl)
  · have hF := am_neg hs1 hF
    by_cases hs2 : x0 = (-4 : Int32)
    · have hF := am_pos hs2 hF
      refine am_tableIn (k := 1) (tgt := 60) hx hb dX10_refuse_1 hs2 (by decide) rfl (by decide) ?_
      exact am_throw (k := 3) (ic := 351) X hst htb hh hl (show Cond.classLink RX10 349 "java/lang/UnsupportedOperationException" ∈ wsX10_refuse by decide +kernel) (show Cond.initialized "java/lang/UnsupportedOperationException" ∈ wsX10_refuse by decide +kernel) (fun q hq => List.mem_cons_of_mem _ (List.mem_append_left _ (List.mem_append_right _ hq))) (by decide +kernel) (ng_3 _ _) (ot_3 _ _) dX10_refuse_60 dX10_refuse_63 dX10_refuse_64 dX10_refuse_67 (Nat.le_of_ble_eq_true rfl) (Nat.le_of_ble_eq_true rfl) (Nat.le_of_ble_eq_true rfl) (Nat.le_of_ble_eq_true rfl) (am_zp hF) rfl (Nat.le_of_ble_eq_true rfl) (Nat.le_of_ble_eq_true rfl)
    · have hF := am_neg hs2 hF
      by_cases hs3 : x0 = (-3 : Int32)
      · have hF := am_pos hs3 hF
        refine am_tableIn (k := 2) (tgt := 52) hx hb dX10_refuse_1 hs3 (by decide) rfl (by decide) ?_
        exact am_throw (k := 2) (ic := 322) X hst htb hh hl (show Cond.classLink RX10 320 "java/lang/IllegalStateException" ∈ wsX10_refuse by decide +kernel) (show Cond.initialized "java/lang/IllegalStateException" ∈ wsX10_refuse by decide +kernel) (fun q hq => List.mem_cons_of_mem _ (List.mem_append_left _ (List.mem_append_left _ (List.mem_append_right _ hq)))) (by decide +kernel) (ng_2 _ _) (ot_2 _ _) dX10_refuse_52 dX10_refuse_55 dX10_refuse_56 dX10_refuse_59 (Nat.le_of_ble_eq_true rfl) (Nat.le_of_ble_eq_true rfl) (Nat.le_of_ble_eq_true rfl) (Nat.le_of_ble_eq_true rfl) (am_zp hF) rfl (Nat.le_of_ble_eq_true rfl) (Nat.le_of_ble_eq_true rfl)
      · have hF := am_neg hs3 hF
        by_cases hs4 : x0 = (-2 : Int32)
        · have hF := am_pos hs4 hF
          refine am_tableIn (k := 3) (tgt := 44) hx hb dX10_refuse_1 hs4 (by decide) rfl (by decide) ?_
          exact am_throw (k := 1) (ic := 233) X hst htb hh hl (show Cond.classLink RX10 231 "java/lang/IllegalArgumentException" ∈ wsX10_refuse by decide +kernel) (show Cond.initialized "java/lang/IllegalArgumentException" ∈ wsX10_refuse by decide +kernel) (fun q hq => List.mem_cons_of_mem _ (List.mem_append_left _ (List.mem_append_left _ (List.mem_append_left _ (List.mem_append_right _ hq))))) (by decide +kernel) (ng_1 _ _) (ot_1 _ _) dX10_refuse_44 dX10_refuse_47 dX10_refuse_48 dX10_refuse_51 (Nat.le_of_ble_eq_true rfl) (Nat.le_of_ble_eq_true rfl) (Nat.le_of_ble_eq_true rfl) (Nat.le_of_ble_eq_true rfl) (am_zp hF) rfl (Nat.le_of_ble_eq_true rfl) (Nat.le_of_ble_eq_true rfl)
        · have hF := am_neg hs4 hF
          by_cases hs5 : x0 = (-1 : Int32)
          · have hF := am_pos hs5 hF
            refine am_tableIn (k := 4) (tgt := 36) hx hb dX10_refuse_1 hs5 (by decide) rfl (by decide) ?_
            exact am_throw (k := 0) (ic := 313) X hst htb hh hl (show Cond.classLink RX10 311 "java/lang/IndexOutOfBoundsException" ∈ wsX10_refuse by decide +kernel) (show Cond.initialized "java/lang/IndexOutOfBoundsException" ∈ wsX10_refuse by decide +kernel) (fun q hq => List.mem_cons_of_mem _ (List.mem_append_left _ (List.mem_append_left _ (List.mem_append_left _ (List.mem_append_left _ (List.mem_append_right _ hq)))))) (by decide +kernel) (ng_0 _ _) (ot_0 _ _) dX10_refuse_36 dX10_refuse_39 dX10_refuse_40 dX10_refuse_43 (Nat.le_of_ble_eq_true rfl) (Nat.le_of_ble_eq_true rfl) (Nat.le_of_ble_eq_true rfl) (Nat.le_of_ble_eq_true rfl) (am_zp hF) rfl (Nat.le_of_ble_eq_true rfl) (Nat.le_of_ble_eq_true rfl)
          · have hF := am_neg hs5 hF
            refine am_tableD (keys := [(-5 : Int32), (-4 : Int32), (-3 : Int32), (-2 : Int32), (-1 : Int32)]) (tgt := 76) hx hb dX10_refuse_1 (List.forall_mem_cons.mpr ⟨hs1, List.forall_mem_cons.mpr ⟨hs2, List.forall_mem_cons.mpr ⟨hs3, List.forall_mem_cons.mpr ⟨hs4, List.forall_mem_cons.mpr ⟨hs5, List.forall_mem_nil _⟩⟩⟩⟩⟩) (by decide +kernel) (by decide) (by decide) ?_
            exact vx_ret (am_vret X hr hh (fun t ht => am_qpX (mk := oV) hF ht) (Nat.le_of_ble_eq_true rfl) (Nat.le_of_ble_eq_true rfl) dX10_refuse_76)
set_option maxHeartbeats 4000000 in
set_option maxRecDepth 100000 in
theorem c_X10_found (l : Launch) (G : GG) (hst : l.stackTraces = false) {w : Wd} {x0 : Int32} {z0 : (Nat ⊕ Int32)} (hF : f_X10_found w x0 = some z0) : vx_Met l yX10_found wsX10_found ({ frames := 6, cells := 1, slots := 6, locals := 90 } : Room) (va_Pc [.int x0] (Rel G w)) (amR G oI z0 w) (amX G z0 w) 1 6 (gA G) := by
  refine am_metX (own := RX10) (cc := cX10_found) (maxL := 1) (ret := (some .int)) (by decide +kernel) rfl rfl (Nat.le_of_ble_eq_true rfl) ?_
  intro p e s m args below meth c ab H locs ls X hr htb hh hl
  have hx := X.1.1; have hb := X.1.2.1; have hml := X.1.2.2.1; have hown := X.1.2.2.2.1; have hts := X.1.2.2.2.2
  have hl : lv_has ls 1 [(0, .int x0)] := hl
  unfold f_X10_found at hF
  refine lv_iload_n hx hb dX10_found_0 rfl (lv_at hl 0 rfl) ?_
  refine lv_if_ne (tgt := 12) hx hb dX10_found_1 (by decide) (fun hc1 => ?_) (fun hc1 => ?_)
  · have hF := am_neg hc1 hF
    refine lv_iload_n hx hb dX10_found_12 rfl (lv_at hl 0 rfl) ?_
    exact vx_ret (am_iret X hr hh (fun t ht => am_qpX (mk := oI) hF ht) (Nat.le_of_ble_eq_true rfl) (Nat.le_of_ble_eq_true rfl) dX10_found_13)
  · have hF := am_pos hc1 hF
    exact am_throw (k := 4) (ic := 146) X hst htb hh hl (show Cond.classLink RX10 144 "java/util/NoSuchElementException" ∈ wsX10_found by decide +kernel) (show Cond.initialized "java/util/NoSuchElementException" ∈ wsX10_found by decide +kernel) (fun q hq => List.mem_cons_of_mem _ (List.mem_append_right _ hq)) (by decide +kernel) (ng_4 _ _) (ot_4 _ _) dX10_found_4 dX10_found_7 dX10_found_8 dX10_found_11 (Nat.le_of_ble_eq_true rfl) (Nat.le_of_ble_eq_true rfl) (Nat.le_of_ble_eq_true rfl) (Nat.le_of_ble_eq_true rfl) (am_zp hF) rfl (Nat.le_of_ble_eq_true rfl) (Nat.le_of_ble_eq_true rfl)
set_option maxHeartbeats 4000000 in
set_option maxRecDepth 100000 in
theorem c_X10_checkGear (l : Launch) (G : GG) (hst : l.stackTraces = false) {w : Wd} {x1 : Int32} {z0 : (Nat ⊕ Unit)} (hF : f_X10_checkGear w x1 = some z0) : vx_Met l yX10_checkGear wsX10_checkGear ({ frames := 6, cells := 1, slots := 6, locals := 90 } : Room) (va_Pc [.ref (gAd G 0), .int x1] (Rel G w)) (amR G oV z0 w) (amX G z0 w) 1 6 (gA G) := by
  refine am_metX (own := RX10) (cc := cX10_checkGear) (maxL := 2) (ret := none) (by decide +kernel) rfl rfl (Nat.le_of_ble_eq_true rfl) ?_
  intro p e s m args below meth c ab H locs ls X hr htb hh hl
  have hx := X.1.1; have hb := X.1.2.1; have hml := X.1.2.2.1; have hown := X.1.2.2.2.1; have hts := X.1.2.2.2.2
  have hl : lv_has ls 2 [(0, .ref (gAd G 0)), (1, .int x1)] := hl
  have hwRX10 : ∀ z ∈ u_ws RX10 TX10 13, z ∈ wsX10_checkGear := by decide +kernel
  unfold f_X10_checkGear at hF
  refine lv_aload_n hx hb dX10_checkGear_0 rfl (lv_at hl 0 rfl) ?_
  refine am_getR X hh 0 11 0 1 (by decide) rfl rfl (by decide) hwRX10 (show Cond.fieldLink RX10 12 "PlanetWorkshop" "now" "LPlanetWorkshop$State;" ∈ wsX10_checkGear by decide +kernel) rfl dX10_checkGear_1 ?_
  refine lv_iload_n hx hb dX10_checkGear_4 rfl (lv_at hl 1 rfl) ?_
  obtain ⟨r2, hk1, hF⟩ := am_bind hF
  refine am_call X hh (va_runV (As := [.int x1]) (rest := []) X.1 (c_X7_isGear l G hk1) (cwV 1 hts gX10_checkGear_X7_isGear rfl rfl rfl (by decide +kernel) ⟨Nat.le_of_ble_eq_true rfl, Nat.le_of_ble_eq_true rfl⟩) (am_preV X hh 1 9 (by decide) rfl rfl) rfl rfl hl.1 rfl (lv_room (Nat.le_of_ble_eq_true rfl)) dX10_checkGear_5 ⟨Nat.le_of_ble_eq_true rfl, Nat.le_of_ble_eq_true rfl⟩) (fun ab H locs hh => ?_)
  refine lv_if_ne (tgt := 19) hx hb dX10_checkGear_8 (by decide) (fun hc3 => ?_) (fun hc3 => ?_)
  · have hF := am_neg hc3 hF
    exact vx_ret (am_vret X hr hh (fun t ht => am_qpX (mk := oV) hF ht) (Nat.le_of_ble_eq_true rfl) (Nat.le_of_ble_eq_true rfl) dX10_checkGear_19)
  · have hF := am_pos hc3 hF
    exact am_throw (k := 0) (ic := 313) X hst htb hh hl (show Cond.classLink RX10 311 "java/lang/IndexOutOfBoundsException" ∈ wsX10_checkGear by decide +kernel) (show Cond.initialized "java/lang/IndexOutOfBoundsException" ∈ wsX10_checkGear by decide +kernel) (fun q hq => List.mem_cons_of_mem _ (List.mem_append_right _ hq)) (by decide +kernel) (ng_0 _ _) (ot_0 _ _) dX10_checkGear_11 dX10_checkGear_14 dX10_checkGear_15 dX10_checkGear_18 (Nat.le_of_ble_eq_true rfl) (Nat.le_of_ble_eq_true rfl) (Nat.le_of_ble_eq_true rfl) (Nat.le_of_ble_eq_true rfl) (am_zp hF) rfl (Nat.le_of_ble_eq_true rfl) (Nat.le_of_ble_eq_true rfl)
set_option maxHeartbeats 4000000 in
set_option maxRecDepth 100000 in
theorem c_X10_checkPlanet (l : Launch) (G : GG) (hst : l.stackTraces = false) {w : Wd} {x1 : Int32} {z0 : (Nat ⊕ Unit)} (hF : f_X10_checkPlanet w x1 = some z0) : vx_Met l yX10_checkPlanet wsX10_checkPlanet ({ frames := 6, cells := 1, slots := 6, locals := 90 } : Room) (va_Pc [.ref (gAd G 0), .int x1] (Rel G w)) (amR G oV z0 w) (amX G z0 w) 1 6 (gA G) := by
  refine am_metX (own := RX10) (cc := cX10_checkPlanet) (maxL := 2) (ret := none) (by decide +kernel) rfl rfl (Nat.le_of_ble_eq_true rfl) ?_
  intro p e s m args below meth c ab H locs ls X hr htb hh hl
  have hx := X.1.1; have hb := X.1.2.1; have hml := X.1.2.2.1; have hown := X.1.2.2.2.1; have hts := X.1.2.2.2.2
  have hl : lv_has ls 2 [(0, .ref (gAd G 0)), (1, .int x1)] := hl
  have hwRX10 : ∀ z ∈ u_ws RX10 TX10 13, z ∈ wsX10_checkPlanet := by decide +kernel
  unfold f_X10_checkPlanet at hF
  refine lv_aload_n hx hb dX10_checkPlanet_0 rfl (lv_at hl 0 rfl) ?_
  refine am_getR X hh 0 11 0 1 (by decide) rfl rfl (by decide) hwRX10 (show Cond.fieldLink RX10 12 "PlanetWorkshop" "now" "LPlanetWorkshop$State;" ∈ wsX10_checkPlanet by decide +kernel) rfl dX10_checkPlanet_1 ?_
  refine lv_iload_n hx hb dX10_checkPlanet_4 rfl (lv_at hl 1 rfl) ?_
  obtain ⟨r2, hk1, hF⟩ := am_bind hF
  refine am_call X hh (va_runV (As := [.int x1]) (rest := []) X.1 (c_X7_isPlanet l G hk1) (cwV 1 hts gX10_checkPlanet_X7_isPlanet rfl rfl rfl (by decide +kernel) ⟨Nat.le_of_ble_eq_true rfl, Nat.le_of_ble_eq_true rfl⟩) (am_preV X hh 1 9 (by decide) rfl rfl) rfl rfl hl.1 rfl (lv_room (Nat.le_of_ble_eq_true rfl)) dX10_checkPlanet_5 ⟨Nat.le_of_ble_eq_true rfl, Nat.le_of_ble_eq_true rfl⟩) (fun ab H locs hh => ?_)
  refine lv_if_ne (tgt := 19) hx hb dX10_checkPlanet_8 (by decide) (fun hc3 => ?_) (fun hc3 => ?_)
  · have hF := am_neg hc3 hF
    exact vx_ret (am_vret X hr hh (fun t ht => am_qpX (mk := oV) hF ht) (Nat.le_of_ble_eq_true rfl) (Nat.le_of_ble_eq_true rfl) dX10_checkPlanet_19)
  · have hF := am_pos hc3 hF
    exact am_throw (k := 0) (ic := 313) X hst htb hh hl (show Cond.classLink RX10 311 "java/lang/IndexOutOfBoundsException" ∈ wsX10_checkPlanet by decide +kernel) (show Cond.initialized "java/lang/IndexOutOfBoundsException" ∈ wsX10_checkPlanet by decide +kernel) (fun q hq => List.mem_cons_of_mem _ (List.mem_append_right _ hq)) (by decide +kernel) (ng_0 _ _) (ot_0 _ _) dX10_checkPlanet_11 dX10_checkPlanet_14 dX10_checkPlanet_15 dX10_checkPlanet_18 (Nat.le_of_ble_eq_true rfl) (Nat.le_of_ble_eq_true rfl) (Nat.le_of_ble_eq_true rfl) (Nat.le_of_ble_eq_true rfl) (am_zp hF) rfl (Nat.le_of_ble_eq_true rfl) (Nat.le_of_ble_eq_true rfl)
set_option maxHeartbeats 4000000 in
set_option maxRecDepth 100000 in
theorem c_X10_checkSpring (l : Launch) (G : GG) (hst : l.stackTraces = false) {w : Wd} {x1 : Int32} {z0 : (Nat ⊕ Unit)} (hF : f_X10_checkSpring w x1 = some z0) : vx_Met l yX10_checkSpring wsX10_checkSpring ({ frames := 7, cells := 2, slots := 12, locals := 111 } : Room) (va_Pc [.ref (gAd G 0), .int x1] (Rel G w)) (amR G oV z0 w) (amX G z0 w) 2 12 (gA G) := by
  refine am_metX (own := RX10) (cc := cX10_checkSpring) (maxL := 2) (ret := none) (by decide +kernel) rfl rfl (Nat.le_of_ble_eq_true rfl) ?_
  intro p e s m args below meth c ab H locs ls X hr htb hh hl
  have hx := X.1.1; have hb := X.1.2.1; have hml := X.1.2.2.1; have hown := X.1.2.2.2.1; have hts := X.1.2.2.2.2
  have hl : lv_has ls 2 [(0, .ref (gAd G 0)), (1, .int x1)] := hl
  have hwRX10 : ∀ z ∈ u_ws RX10 TX10 13, z ∈ wsX10_checkSpring := by decide +kernel
  unfold f_X10_checkSpring at hF
  refine lv_aload_n hx hb dX10_checkSpring_0 rfl (lv_at hl 0 rfl) ?_
  refine lv_iload_n hx hb dX10_checkSpring_1 rfl (lv_at hl 1 rfl) ?_
  obtain ⟨z3, hk1, hF⟩ := am_bind hF
  refine am_callX X hh (vx_runV (As := [.int x1]) (rest := []) X.1 (c_X10_checkGear l G hst hk1) (cwV 1 hts gX10_checkSpring_X10_checkGear rfl rfl rfl (by decide +kernel) ⟨Nat.le_of_ble_eq_true rfl, Nat.le_of_ble_eq_true rfl⟩) (am_preV X hh 0 11 (by decide) rfl rfl) rfl rfl hl.1 rfl (lv_room (Nat.le_of_ble_eq_true rfl)) dX10_checkSpring_2 ⟨Nat.le_of_ble_eq_true rfl, Nat.le_of_ble_eq_true rfl⟩) (fun k ab H locs ce q hz hh hce hcv hcl => ?_) (fun r2 ab H locs hz hh => ?_)
  · subst hz
    have hF := am_zl hF
    exact am_out X htb hh (am_zp hF) rfl hce hcv hcl (Nat.le_of_ble_eq_true rfl) (Nat.le_of_ble_eq_true rfl)
  · subst hz
    have hF := am_zr hF
    refine lv_aload_n hx hb dX10_checkSpring_5 rfl (lv_at hl 0 rfl) ?_
    refine am_getR X hh 0 11 0 1 (by decide) rfl rfl (by decide) hwRX10 (show Cond.fieldLink RX10 12 "PlanetWorkshop" "now" "LPlanetWorkshop$State;" ∈ wsX10_checkSpring by decide +kernel) rfl dX10_checkSpring_6 ?_
    refine lv_iload_n hx hb dX10_checkSpring_9 rfl (lv_at hl 1 rfl) ?_
    obtain ⟨r5, hk4, hF⟩ := am_bind hF
    refine am_call X hh (va_runV (As := [.int x1]) (rest := []) X.1 (c_X7_hasSpring l G hk4) (cwV 1 hts gX10_checkSpring_X7_hasSpring rfl rfl rfl (by decide +kernel) ⟨Nat.le_of_ble_eq_true rfl, Nat.le_of_ble_eq_true rfl⟩) (am_preV X hh 1 9 (by decide) rfl rfl) rfl rfl hl.1 rfl (lv_room (Nat.le_of_ble_eq_true rfl)) dX10_checkSpring_10 ⟨Nat.le_of_ble_eq_true rfl, Nat.le_of_ble_eq_true rfl⟩) (fun ab H locs hh => ?_)
    refine lv_if_ne (tgt := 24) hx hb dX10_checkSpring_13 (by decide) (fun hc6 => ?_) (fun hc6 => ?_)
    · have hF := am_neg hc6 hF
      exact vx_ret (am_vret X hr hh (fun t ht => am_qpX (mk := oV) hF ht) (Nat.le_of_ble_eq_true rfl) (Nat.le_of_ble_eq_true rfl) dX10_checkSpring_24)
    · have hF := am_pos hc6 hF
      exact am_throw (k := 4) (ic := 146) X hst htb hh hl (show Cond.classLink RX10 144 "java/util/NoSuchElementException" ∈ wsX10_checkSpring by decide +kernel) (show Cond.initialized "java/util/NoSuchElementException" ∈ wsX10_checkSpring by decide +kernel) (fun q hq => List.mem_cons_of_mem _ (List.mem_append_left _ (List.mem_append_left _ (List.mem_append_right _ hq)))) (by decide +kernel) (ng_4 _ _) (ot_4 _ _) dX10_checkSpring_16 dX10_checkSpring_19 dX10_checkSpring_20 dX10_checkSpring_23 (Nat.le_of_ble_eq_true rfl) (Nat.le_of_ble_eq_true rfl) (Nat.le_of_ble_eq_true rfl) (Nat.le_of_ble_eq_true rfl) (am_zp hF) rfl (Nat.le_of_ble_eq_true rfl) (Nat.le_of_ble_eq_true rfl)
set_option maxHeartbeats 4000000 in
set_option maxRecDepth 100000 in
theorem c_X10_checkRatio (l : Launch) (G : GG) (hst : l.stackTraces = false) {w : Wd} {x0 : Int32} {x1 : Int32} {z0 : (Nat ⊕ Unit)} (hF : f_X10_checkRatio w x0 x1 = some z0) : vx_Met l yX10_checkRatio wsX10_checkRatio ({ frames := 6, cells := 1, slots := 6, locals := 90 } : Room) (va_Pc [.int x0, .int x1] (Rel G w)) (amR G oV z0 w) (amX G z0 w) 1 6 (gA G) := by
  refine am_metX (own := RX10) (cc := cX10_checkRatio) (maxL := 2) (ret := none) (by decide +kernel) rfl rfl (Nat.le_of_ble_eq_true rfl) ?_
  intro p e s m args below meth c ab H locs ls X hr htb hh hl
  have hx := X.1.1; have hb := X.1.2.1; have hml := X.1.2.2.1; have hown := X.1.2.2.2.1; have hts := X.1.2.2.2.2
  have hl : lv_has ls 2 [(0, .int x0), (1, .int x1)] := hl
  unfold f_X10_checkRatio at hF
  refine lv_iload_n hx hb dX10_checkRatio_0 rfl (lv_at hl 0 rfl) ?_
  refine lv_iconst (v := (1 : Int32)) hx hb dX10_checkRatio_1 (by decide) ?_
  refine lv_icmp_lt (tgt := 22) hx hb dX10_checkRatio_2 (by decide) (fun hc1 => ?_) (fun hc1 => ?_)
  · have hF := am_pos hc1 hF
    exact am_throw (k := 1) (ic := 233) X hst htb hh hl (show Cond.classLink RX10 231 "java/lang/IllegalArgumentException" ∈ wsX10_checkRatio by decide +kernel) (show Cond.initialized "java/lang/IllegalArgumentException" ∈ wsX10_checkRatio by decide +kernel) (fun q hq => List.mem_cons_of_mem _ (List.mem_append_right _ hq)) (by decide +kernel) (ng_1 _ _) (ot_1 _ _) dX10_checkRatio_22 dX10_checkRatio_25 dX10_checkRatio_26 dX10_checkRatio_29 (Nat.le_of_ble_eq_true rfl) (Nat.le_of_ble_eq_true rfl) (Nat.le_of_ble_eq_true rfl) (Nat.le_of_ble_eq_true rfl) (am_zp hF) rfl (Nat.le_of_ble_eq_true rfl) (Nat.le_of_ble_eq_true rfl)
  · have hF := am_neg hc1 hF
    refine lv_iload_n hx hb dX10_checkRatio_5 rfl (lv_at hl 0 rfl) ?_
    refine lv_bipush (v := (60 : Int32)) hx hb dX10_checkRatio_6 (by decide) ?_
    refine lv_icmp_gt (tgt := 22) hx hb dX10_checkRatio_8 (by decide) (fun hc2 => ?_) (fun hc2 => ?_)
    · have hF := am_pos hc2 hF
      exact am_throw (k := 1) (ic := 233) X hst htb hh hl (show Cond.classLink RX10 231 "java/lang/IllegalArgumentException" ∈ wsX10_checkRatio by decide +kernel) (show Cond.initialized "java/lang/IllegalArgumentException" ∈ wsX10_checkRatio by decide +kernel) (fun q hq => List.mem_cons_of_mem _ (List.mem_append_right _ hq)) (by decide +kernel) (ng_1 _ _) (ot_1 _ _) dX10_checkRatio_22 dX10_checkRatio_25 dX10_checkRatio_26 dX10_checkRatio_29 (Nat.le_of_ble_eq_true rfl) (Nat.le_of_ble_eq_true rfl) (Nat.le_of_ble_eq_true rfl) (Nat.le_of_ble_eq_true rfl) (am_zp hF) rfl (Nat.le_of_ble_eq_true rfl) (Nat.le_of_ble_eq_true rfl)
    · have hF := am_neg hc2 hF
      refine lv_iload_n hx hb dX10_checkRatio_11 rfl (lv_at hl 1 rfl) ?_
      refine lv_iconst (v := (1 : Int32)) hx hb dX10_checkRatio_12 (by decide) ?_
      refine lv_icmp_lt (tgt := 22) hx hb dX10_checkRatio_13 (by decide) (fun hc3 => ?_) (fun hc3 => ?_)
      · have hF := am_pos hc3 hF
        exact am_throw (k := 1) (ic := 233) X hst htb hh hl (show Cond.classLink RX10 231 "java/lang/IllegalArgumentException" ∈ wsX10_checkRatio by decide +kernel) (show Cond.initialized "java/lang/IllegalArgumentException" ∈ wsX10_checkRatio by decide +kernel) (fun q hq => List.mem_cons_of_mem _ (List.mem_append_right _ hq)) (by decide +kernel) (ng_1 _ _) (ot_1 _ _) dX10_checkRatio_22 dX10_checkRatio_25 dX10_checkRatio_26 dX10_checkRatio_29 (Nat.le_of_ble_eq_true rfl) (Nat.le_of_ble_eq_true rfl) (Nat.le_of_ble_eq_true rfl) (Nat.le_of_ble_eq_true rfl) (am_zp hF) rfl (Nat.le_of_ble_eq_true rfl) (Nat.le_of_ble_eq_true rfl)
      · have hF := am_neg hc3 hF
        refine lv_iload_n hx hb dX10_checkRatio_16 rfl (lv_at hl 1 rfl) ?_
        refine lv_bipush (v := (60 : Int32)) hx hb dX10_checkRatio_17 (by decide) ?_
        refine lv_icmp_le (tgt := 30) hx hb dX10_checkRatio_19 (by decide) (fun hc4 => ?_) (fun hc4 => ?_)
        · have hF := am_pos hc4 hF
          exact vx_ret (am_vret X hr hh (fun t ht => am_qpX (mk := oV) hF ht) (Nat.le_of_ble_eq_true rfl) (Nat.le_of_ble_eq_true rfl) dX10_checkRatio_30)
        · have hF := am_neg hc4 hF
          exact am_throw (k := 1) (ic := 233) X hst htb hh hl (show Cond.classLink RX10 231 "java/lang/IllegalArgumentException" ∈ wsX10_checkRatio by decide +kernel) (show Cond.initialized "java/lang/IllegalArgumentException" ∈ wsX10_checkRatio by decide +kernel) (fun q hq => List.mem_cons_of_mem _ (List.mem_append_right _ hq)) (by decide +kernel) (ng_1 _ _) (ot_1 _ _) dX10_checkRatio_22 dX10_checkRatio_25 dX10_checkRatio_26 dX10_checkRatio_29 (Nat.le_of_ble_eq_true rfl) (Nat.le_of_ble_eq_true rfl) (Nat.le_of_ble_eq_true rfl) (Nat.le_of_ble_eq_true rfl) (am_zp hF) rfl (Nat.le_of_ble_eq_true rfl) (Nat.le_of_ble_eq_true rfl)
set_option maxHeartbeats 4000000 in
set_option maxRecDepth 100000 in
theorem c_X10_teeth (l : Launch) (G : GG) (hst : l.stackTraces = false) {w : Wd} {x1 : Int32} {z0 : (Nat ⊕ Int32)} (hF : f_X10_teeth w x1 = some z0) : vx_Met l yX10_teeth wsX10_teeth ({ frames := 7, cells := 1, slots := 6, locals := 111 } : Room) (va_Pc [.ref (gAd G 0), .int x1] (Rel G w)) (amR G oI z0 w) (amX G z0 w) 1 6 (gA G) := by
  refine am_metX (own := RX10) (cc := cX10_teeth) (maxL := 2) (ret := (some .int)) (by decide +kernel) rfl rfl (Nat.le_of_ble_eq_true rfl) ?_
  intro p e s m args below meth c ab H locs ls X hr htb hh hl
  have hx := X.1.1; have hb := X.1.2.1; have hml := X.1.2.2.1; have hown := X.1.2.2.2.1; have hts := X.1.2.2.2.2
  have hl : lv_has ls 2 [(0, .ref (gAd G 0)), (1, .int x1)] := hl
  have hwRX10 : ∀ z ∈ u_ws RX10 TX10 13, z ∈ wsX10_teeth := by decide +kernel
  have hwRX7 : ∀ z ∈ u_ws RX7 TX7 17, z ∈ wsX10_teeth := by decide +kernel
  unfold f_X10_teeth at hF
  refine lv_aload_n hx hb dX10_teeth_0 rfl (lv_at hl 0 rfl) ?_
  refine lv_iload_n hx hb dX10_teeth_1 rfl (lv_at hl 1 rfl) ?_
  obtain ⟨z3, hk1, hF⟩ := am_bind hF
  refine am_callX X hh (vx_runV (As := [.int x1]) (rest := []) X.1 (c_X10_checkGear l G hst hk1) (cwV 1 hts gX10_teeth_X10_checkGear rfl rfl rfl (by decide +kernel) ⟨Nat.le_of_ble_eq_true rfl, Nat.le_of_ble_eq_true rfl⟩) (am_preV X hh 0 11 (by decide) rfl rfl) rfl rfl hl.1 rfl (lv_room (Nat.le_of_ble_eq_true rfl)) dX10_teeth_2 ⟨Nat.le_of_ble_eq_true rfl, Nat.le_of_ble_eq_true rfl⟩) (fun k ab H locs ce q hz hh hce hcv hcl => ?_) (fun r2 ab H locs hz hh => ?_)
  · subst hz
    have hF := am_zl hF
    exact am_out X htb hh (am_zp hF) rfl hce hcv hcl (Nat.le_of_ble_eq_true rfl) (Nat.le_of_ble_eq_true rfl)
  · subst hz
    have hF := am_zr hF
    refine lv_aload_n hx hb dX10_teeth_5 rfl (lv_at hl 0 rfl) ?_
    refine am_getR X hh 0 11 0 1 (by decide) rfl rfl (by decide) hwRX10 (show Cond.fieldLink RX10 12 "PlanetWorkshop" "now" "LPlanetWorkshop$State;" ∈ wsX10_teeth by decide +kernel) rfl dX10_teeth_6 ?_
    refine am_getR X hh 1 9 0 2 (by decide) rfl rfl (by decide) hwRX7 (show Cond.fieldLink RX10 136 "PlanetWorkshop$State" "teeth" "[I" ∈ wsX10_teeth by decide +kernel) rfl dX10_teeth_9 ?_
    refine lv_iload_n hx hb dX10_teeth_12 rfl (lv_at hl 1 rfl) ?_
    obtain ⟨hq4, hF⟩ := am_ifR hF
    refine am_iald X hh 2 (by decide) rfl hq4 dX10_teeth_13 ?_
    exact vx_ret (am_iret X hr hh (fun t ht => am_qpX (mk := oI) hF ht) (Nat.le_of_ble_eq_true rfl) (Nat.le_of_ble_eq_true rfl) dX10_teeth_14)
set_option maxHeartbeats 4000000 in
set_option maxRecDepth 100000 in
theorem c_X10_joint (l : Launch) (G : GG) (hst : l.stackTraces = false) {w : Wd} {x1 : Int32} {x2 : Int32} {z0 : (Nat ⊕ Int32)} (hF : f_X10_joint w x1 x2 = some z0) : vx_Met l yX10_joint wsX10_joint ({ frames := 7, cells := 3, slots := 18, locals := 111 } : Room) (va_Pc [.ref (gAd G 0), .int x1, .int x2] (Rel G w)) (amR G oI z0 w) (amX G z0 w) 3 18 (gA G) := by
  refine am_metX (own := RX10) (cc := cX10_joint) (maxL := 4) (ret := (some .char)) (by decide +kernel) rfl rfl (Nat.le_of_ble_eq_true rfl) ?_
  intro p e s m args below meth c ab H locs ls X hr htb hh hl
  have hx := X.1.1; have hb := X.1.2.1; have hml := X.1.2.2.1; have hown := X.1.2.2.2.1; have hts := X.1.2.2.2.2
  have hl : lv_has ls 4 [(0, .ref (gAd G 0)), (1, .int x1), (2, .int x2)] := hl
  have hwRX10 : ∀ z ∈ u_ws RX10 TX10 13, z ∈ wsX10_joint := by decide +kernel
  unfold f_X10_joint at hF
  refine lv_aload_n hx hb dX10_joint_0 rfl (lv_at hl 0 rfl) ?_
  refine lv_iload_n hx hb dX10_joint_1 rfl (lv_at hl 1 rfl) ?_
  obtain ⟨z3, hk1, hF⟩ := am_bind hF
  refine am_callX X hh (vx_runV (As := [.int x1]) (rest := []) X.1 (c_X10_checkGear l G hst hk1) (cwV 1 hts gX10_joint_X10_checkGear rfl rfl rfl (by decide +kernel) ⟨Nat.le_of_ble_eq_true rfl, Nat.le_of_ble_eq_true rfl⟩) (am_preV X hh 0 11 (by decide) rfl rfl) rfl rfl hl.1 rfl (lv_room (Nat.le_of_ble_eq_true rfl)) dX10_joint_2 ⟨Nat.le_of_ble_eq_true rfl, Nat.le_of_ble_eq_true rfl⟩) (fun k ab H locs ce q hz hh hce hcv hcl => ?_) (fun r2 ab H locs hz hh => ?_)
  · subst hz
    have hF := am_zl hF
    exact am_out X htb hh (am_zp hF) rfl hce hcv hcl (Nat.le_of_ble_eq_true rfl) (Nat.le_of_ble_eq_true rfl)
  · subst hz
    have hF := am_zr hF
    refine lv_aload_n hx hb dX10_joint_5 rfl (lv_at hl 0 rfl) ?_
    refine lv_iload_n hx hb dX10_joint_6 rfl (lv_at hl 2 rfl) ?_
    obtain ⟨z6, hk4, hF⟩ := am_bind hF
    refine am_callX X hh (vx_runV (As := [.int x2]) (rest := []) X.1 (c_X10_checkGear l G hst hk4) (cwV 1 hts gX10_joint_X10_checkGear rfl rfl rfl (by decide +kernel) ⟨Nat.le_of_ble_eq_true rfl, Nat.le_of_ble_eq_true rfl⟩) (am_preV X hh 0 11 (by decide) rfl rfl) rfl rfl hl.1 rfl (lv_room (Nat.le_of_ble_eq_true rfl)) dX10_joint_7 ⟨Nat.le_of_ble_eq_true rfl, Nat.le_of_ble_eq_true rfl⟩) (fun k ab H locs ce q hz hh hce hcv hcl => ?_) (fun r5 ab H locs hz hh => ?_)
    · subst hz
      have hF := am_zl hF
      exact am_out X htb hh (am_zp hF) rfl hce hcv hcl (Nat.le_of_ble_eq_true rfl) (Nat.le_of_ble_eq_true rfl)
    · subst hz
      have hF := am_zr hF
      refine lv_aload_n hx hb dX10_joint_10 rfl (lv_at hl 0 rfl) ?_
      refine am_getR X hh 0 11 0 1 (by decide) rfl rfl (by decide) hwRX10 (show Cond.fieldLink RX10 12 "PlanetWorkshop" "now" "LPlanetWorkshop$State;" ∈ wsX10_joint by decide +kernel) rfl dX10_joint_11 ?_
      refine lv_iload_n hx hb dX10_joint_14 rfl (lv_at hl 1 rfl) ?_
      refine lv_iload_n hx hb dX10_joint_15 rfl (lv_at hl 2 rfl) ?_
      obtain ⟨r8, hk7, hF⟩ := am_bind hF
      refine am_call X hh (va_runV (As := [.int x1, .int x2]) (rest := []) X.1 (c_X7_jointOf l G hk7) (cwV 2 hts gX10_joint_X7_jointOf rfl rfl rfl (by decide +kernel) ⟨Nat.le_of_ble_eq_true rfl, Nat.le_of_ble_eq_true rfl⟩) (am_preV X hh 1 9 (by decide) rfl rfl) rfl rfl hl.1 rfl (lv_room (Nat.le_of_ble_eq_true rfl)) dX10_joint_16 ⟨Nat.le_of_ble_eq_true rfl, Nat.le_of_ble_eq_true rfl⟩) (fun ab H locs hh => ?_)
      refine lv_istore_n (lv' := [(3, .int r8), (0, .ref (gAd G 0)), (1, .int x1), (2, .int x2)]) hx hb dX10_joint_19 rfl hl (by decide) rfl (fun ls hl => ?_)
      refine lv_iload_n hx hb dX10_joint_20 rfl (lv_at hl 0 rfl) ?_
      refine lv_if_ne (tgt := 32) hx hb dX10_joint_21 (by decide) (fun hc9 => ?_) (fun hc9 => ?_)
      · have hF := am_neg hc9 hF
        refine lv_iload_n hx hb dX10_joint_32 rfl (lv_at hl 0 rfl) ?_
        exact vx_ret (am_zret (v' := (vp_nar .char r8)) X hr (nar_c _) hh (fun t ht => am_qpX (mk := oI) hF ht) (Nat.le_of_ble_eq_true rfl) (Nat.le_of_ble_eq_true rfl) dX10_joint_33)
      · have hF := am_pos hc9 hF
        exact am_throw (k := 4) (ic := 146) X hst htb hh hl (show Cond.classLink RX10 144 "java/util/NoSuchElementException" ∈ wsX10_joint by decide +kernel) (show Cond.initialized "java/util/NoSuchElementException" ∈ wsX10_joint by decide +kernel) (fun q hq => List.mem_cons_of_mem _ (List.mem_append_left _ (List.mem_append_left _ (List.mem_append_right _ hq)))) (by decide +kernel) (ng_4 _ _) (ot_4 _ _) dX10_joint_24 dX10_joint_27 dX10_joint_28 dX10_joint_31 (Nat.le_of_ble_eq_true rfl) (Nat.le_of_ble_eq_true rfl) (Nat.le_of_ble_eq_true rfl) (Nat.le_of_ble_eq_true rfl) (am_zp hF) rfl (Nat.le_of_ble_eq_true rfl) (Nat.le_of_ble_eq_true rfl)
set_option maxHeartbeats 4000000 in
set_option maxRecDepth 100000 in
theorem c_X10_trainSize (l : Launch) (G : GG) (hst : l.stackTraces = false) {w : Wd} {x1 : Int32} {z0 : (Nat ⊕ Int32)} {w1 : Wd} (hF : f_X10_trainSize w x1 = some (z0, w1)) : vx_Met l yX10_trainSize wsX10_trainSize ({ frames := 7, cells := 1, slots := 6, locals := 111 } : Room) (va_Pc [.ref (gAd G 0), .int x1] (Rel G w)) (amR G oI z0 w1) (amX G z0 w1) 1 6 (gA G) := by
  refine am_metX (own := RX10) (cc := cX10_trainSize) (maxL := 2) (ret := (some .int)) (by decide +kernel) rfl rfl (Nat.le_of_ble_eq_true rfl) ?_
  intro p e s m args below meth c ab H locs ls X hr htb hh hl
  have hx := X.1.1; have hb := X.1.2.1; have hml := X.1.2.2.1; have hown := X.1.2.2.2.1; have hts := X.1.2.2.2.2
  have hl : lv_has ls 2 [(0, .ref (gAd G 0)), (1, .int x1)] := hl
  have hwRX10 : ∀ z ∈ u_ws RX10 TX10 13, z ∈ wsX10_trainSize := by decide +kernel
  have hwRX8 : ∀ z ∈ u_ws RX8 TX8 3, z ∈ wsX10_trainSize := by decide +kernel
  unfold f_X10_trainSize at hF
  refine lv_aload_n hx hb dX10_trainSize_0 rfl (lv_at hl 0 rfl) ?_
  refine lv_iload_n hx hb dX10_trainSize_1 rfl (lv_at hl 1 rfl) ?_
  obtain ⟨z3, hk1, hF⟩ := am_bind hF
  refine am_callX X hh (vx_runV (As := [.int x1]) (rest := []) X.1 (c_X10_checkGear l G hst hk1) (cwV 1 hts gX10_trainSize_X10_checkGear rfl rfl rfl (by decide +kernel) ⟨Nat.le_of_ble_eq_true rfl, Nat.le_of_ble_eq_true rfl⟩) (am_preV X hh 0 11 (by decide) rfl rfl) rfl rfl hl.1 rfl (lv_room (Nat.le_of_ble_eq_true rfl)) dX10_trainSize_2 ⟨Nat.le_of_ble_eq_true rfl, Nat.le_of_ble_eq_true rfl⟩) (fun k ab H locs ce q hz hh hce hcv hcl => ?_) (fun r2 ab H locs hz hh => ?_)
  · subst hz
    have hF := am_zl hF
    exact am_out X htb hh (am_zw hF).1 (am_zw hF).2 hce hcv hcl (Nat.le_of_ble_eq_true rfl) (Nat.le_of_ble_eq_true rfl)
  · subst hz
    have hF := am_zr hF
    refine lv_aload_n hx hb dX10_trainSize_5 rfl (lv_at hl 0 rfl) ?_
    refine am_getR X hh 0 11 5 124 (by decide) rfl rfl (by decide) hwRX10 (show Cond.fieldLink RX10 36 "PlanetWorkshop" "train" "LPlanetWorkshop$Train;" ∈ wsX10_trainSize by decide +kernel) rfl dX10_trainSize_6 ?_
    refine lv_aload_n hx hb dX10_trainSize_9 rfl (lv_at hl 0 rfl) ?_
    refine am_getR X hh 0 11 0 1 (by decide) rfl rfl (by decide) hwRX10 (show Cond.fieldLink RX10 12 "PlanetWorkshop" "now" "LPlanetWorkshop$State;" ∈ wsX10_trainSize by decide +kernel) rfl dX10_trainSize_10 ?_
    refine lv_iload_n hx hb dX10_trainSize_13 rfl (lv_at hl 1 rfl) ?_
    obtain ⟨w6, hk4, hF⟩ := am_bind hF
    refine am_call X hh (va_runV (As := [.ref (gAd G 1), .int x1]) (rest := []) X.1 (c_X8_trace l G hk4) (cwV 2 hts gX10_trainSize_X8_trace rfl rfl rfl (by decide +kernel) ⟨Nat.le_of_ble_eq_true rfl, Nat.le_of_ble_eq_true rfl⟩) (am_preV X hh 124 10 (by decide) rfl rfl) rfl rfl hl.1 rfl (lv_room (Nat.le_of_ble_eq_true rfl)) dX10_trainSize_14 ⟨Nat.le_of_ble_eq_true rfl, Nat.le_of_ble_eq_true rfl⟩) (fun ab H locs hh => ?_)
    refine lv_aload_n hx hb dX10_trainSize_17 rfl (lv_at hl 0 rfl) ?_
    refine am_getR X hh 0 11 5 124 (by decide) rfl rfl (by decide) hwRX10 (show Cond.fieldLink RX10 36 "PlanetWorkshop" "train" "LPlanetWorkshop$Train;" ∈ wsX10_trainSize by decide +kernel) rfl dX10_trainSize_18 ?_
    refine am_getI X hh 124 10 2 (by decide) rfl rfl (by decide) hwRX8 (show Cond.fieldLink RX10 154 "PlanetWorkshop$Train" "size" "I" ∈ wsX10_trainSize by decide +kernel) rfl dX10_trainSize_21 ?_
    exact vx_ret (am_iret X hr hh (fun t ht => am_qwX (mk := oI) hF ht) (Nat.le_of_ble_eq_true rfl) (Nat.le_of_ble_eq_true rfl) dX10_trainSize_24)
set_option maxHeartbeats 4000000 in
set_option maxRecDepth 100000 in
theorem c_X10_areInTrain (l : Launch) (G : GG) (hst : l.stackTraces = false) {w : Wd} {x1 : Int32} {x2 : Int32} {z0 : (Nat ⊕ Int32)} {w1 : Wd} (hF : f_X10_areInTrain w x1 x2 = some (z0, w1)) : vx_Met l yX10_areInTrain wsX10_areInTrain ({ frames := 7, cells := 2, slots := 12, locals := 111 } : Room) (va_Pc [.ref (gAd G 0), .int x1, .int x2] (Rel G w)) (amR G oI z0 w1) (amX G z0 w1) 2 12 (gA G) := by
  refine am_metX (own := RX10) (cc := cX10_areInTrain) (maxL := 3) (ret := (some .boolean)) (by decide +kernel) rfl rfl (Nat.le_of_ble_eq_true rfl) ?_
  intro p e s m args below meth c ab H locs ls X hr htb hh hl
  have hx := X.1.1; have hb := X.1.2.1; have hml := X.1.2.2.1; have hown := X.1.2.2.2.1; have hts := X.1.2.2.2.2
  have hl : lv_has ls 3 [(0, .ref (gAd G 0)), (1, .int x1), (2, .int x2)] := hl
  have hwRX10 : ∀ z ∈ u_ws RX10 TX10 13, z ∈ wsX10_areInTrain := by decide +kernel
  unfold f_X10_areInTrain at hF
  refine lv_aload_n hx hb dX10_areInTrain_0 rfl (lv_at hl 0 rfl) ?_
  refine lv_iload_n hx hb dX10_areInTrain_1 rfl (lv_at hl 1 rfl) ?_
  obtain ⟨z3, hk1, hF⟩ := am_bind hF
  refine am_callX X hh (vx_runV (As := [.int x1]) (rest := []) X.1 (c_X10_checkGear l G hst hk1) (cwV 1 hts gX10_areInTrain_X10_checkGear rfl rfl rfl (by decide +kernel) ⟨Nat.le_of_ble_eq_true rfl, Nat.le_of_ble_eq_true rfl⟩) (am_preV X hh 0 11 (by decide) rfl rfl) rfl rfl hl.1 rfl (lv_room (Nat.le_of_ble_eq_true rfl)) dX10_areInTrain_2 ⟨Nat.le_of_ble_eq_true rfl, Nat.le_of_ble_eq_true rfl⟩) (fun k ab H locs ce q hz hh hce hcv hcl => ?_) (fun r2 ab H locs hz hh => ?_)
  · subst hz
    have hF := am_zl hF
    exact am_out X htb hh (am_zw hF).1 (am_zw hF).2 hce hcv hcl (Nat.le_of_ble_eq_true rfl) (Nat.le_of_ble_eq_true rfl)
  · subst hz
    have hF := am_zr hF
    refine lv_aload_n hx hb dX10_areInTrain_5 rfl (lv_at hl 0 rfl) ?_
    refine lv_iload_n hx hb dX10_areInTrain_6 rfl (lv_at hl 2 rfl) ?_
    obtain ⟨z6, hk4, hF⟩ := am_bind hF
    refine am_callX X hh (vx_runV (As := [.int x2]) (rest := []) X.1 (c_X10_checkGear l G hst hk4) (cwV 1 hts gX10_areInTrain_X10_checkGear rfl rfl rfl (by decide +kernel) ⟨Nat.le_of_ble_eq_true rfl, Nat.le_of_ble_eq_true rfl⟩) (am_preV X hh 0 11 (by decide) rfl rfl) rfl rfl hl.1 rfl (lv_room (Nat.le_of_ble_eq_true rfl)) dX10_areInTrain_7 ⟨Nat.le_of_ble_eq_true rfl, Nat.le_of_ble_eq_true rfl⟩) (fun k ab H locs ce q hz hh hce hcv hcl => ?_) (fun r5 ab H locs hz hh => ?_)
    · subst hz
      have hF := am_zl hF
      exact am_out X htb hh (am_zw hF).1 (am_zw hF).2 hce hcv hcl (Nat.le_of_ble_eq_true rfl) (Nat.le_of_ble_eq_true rfl)
    · subst hz
      have hF := am_zr hF
      refine lv_aload_n hx hb dX10_areInTrain_10 rfl (lv_at hl 0 rfl) ?_
      refine am_getR X hh 0 11 5 124 (by decide) rfl rfl (by decide) hwRX10 (show Cond.fieldLink RX10 36 "PlanetWorkshop" "train" "LPlanetWorkshop$Train;" ∈ wsX10_areInTrain by decide +kernel) rfl dX10_areInTrain_11 ?_
      refine lv_aload_n hx hb dX10_areInTrain_14 rfl (lv_at hl 0 rfl) ?_
      refine am_getR X hh 0 11 0 1 (by decide) rfl rfl (by decide) hwRX10 (show Cond.fieldLink RX10 12 "PlanetWorkshop" "now" "LPlanetWorkshop$State;" ∈ wsX10_areInTrain by decide +kernel) rfl dX10_areInTrain_15 ?_
      refine lv_iload_n hx hb dX10_areInTrain_18 rfl (lv_at hl 1 rfl) ?_
      obtain ⟨w9, hk7, hF⟩ := am_bind hF
      refine am_call X hh (va_runV (As := [.ref (gAd G 1), .int x1]) (rest := []) X.1 (c_X8_trace l G hk7) (cwV 2 hts gX10_areInTrain_X8_trace rfl rfl rfl (by decide +kernel) ⟨Nat.le_of_ble_eq_true rfl, Nat.le_of_ble_eq_true rfl⟩) (am_preV X hh 124 10 (by decide) rfl rfl) rfl rfl hl.1 rfl (lv_room (Nat.le_of_ble_eq_true rfl)) dX10_areInTrain_19 ⟨Nat.le_of_ble_eq_true rfl, Nat.le_of_ble_eq_true rfl⟩) (fun ab H locs hh => ?_)
      refine lv_aload_n hx hb dX10_areInTrain_22 rfl (lv_at hl 0 rfl) ?_
      refine am_getR X hh 0 11 5 124 (by decide) rfl rfl (by decide) hwRX10 (show Cond.fieldLink RX10 36 "PlanetWorkshop" "train" "LPlanetWorkshop$Train;" ∈ wsX10_areInTrain by decide +kernel) rfl dX10_areInTrain_23 ?_
      refine lv_iload_n hx hb dX10_areInTrain_26 rfl (lv_at hl 2 rfl) ?_
      obtain ⟨r11, hk10, hF⟩ := am_bind hF
      refine am_call X hh (va_runV (As := [.int x2]) (rest := []) X.1 (c_X8_holds l G hk10) (cwV 1 hts gX10_areInTrain_X8_holds rfl rfl rfl (by decide +kernel) ⟨Nat.le_of_ble_eq_true rfl, Nat.le_of_ble_eq_true rfl⟩) (am_preV X hh 124 10 (by decide) rfl rfl) rfl rfl hl.1 rfl (lv_room (Nat.le_of_ble_eq_true rfl)) dX10_areInTrain_27 ⟨Nat.le_of_ble_eq_true rfl, Nat.le_of_ble_eq_true rfl⟩) (fun ab H locs hh => ?_)
      exact vx_ret (am_zret (v' := (vp_nar .boolean r11)) X hr (nar_z _) hh (fun t ht => am_qwX (mk := oI) hF ht) (Nat.le_of_ble_eq_true rfl) (Nat.le_of_ble_eq_true rfl) dX10_areInTrain_30)
set_option maxHeartbeats 4000000 in
set_option maxRecDepth 100000 in
theorem c_X10_angle (l : Launch) (G : GG) (hst : l.stackTraces = false) {w : Wd} {x1 : Int32} {z0 : (Nat ⊕ Int64)} (hF : f_X10_angle w x1 = some z0) : vx_Met l yX10_angle wsX10_angle ({ frames := 7, cells := 1, slots := 6, locals := 111 } : Room) (va_Pc [.ref (gAd G 0), .int x1] (Rel G w)) (amR G oL z0 w) (amX G z0 w) 1 6 (gA G) := by
  refine am_metX (own := RX10) (cc := cX10_angle) (maxL := 2) (ret := (some .long)) (by decide +kernel) rfl rfl (Nat.le_of_ble_eq_true rfl) ?_
  intro p e s m args below meth c ab H locs ls X hr htb hh hl
  have hx := X.1.1; have hb := X.1.2.1; have hml := X.1.2.2.1; have hown := X.1.2.2.2.1; have hts := X.1.2.2.2.2
  have hl : lv_has ls 2 [(0, .ref (gAd G 0)), (1, .int x1)] := hl
  have hwRX10 : ∀ z ∈ u_ws RX10 TX10 13, z ∈ wsX10_angle := by decide +kernel
  have hwRX7 : ∀ z ∈ u_ws RX7 TX7 17, z ∈ wsX10_angle := by decide +kernel
  unfold f_X10_angle at hF
  refine lv_aload_n hx hb dX10_angle_0 rfl (lv_at hl 0 rfl) ?_
  refine lv_iload_n hx hb dX10_angle_1 rfl (lv_at hl 1 rfl) ?_
  obtain ⟨z3, hk1, hF⟩ := am_bind hF
  refine am_callX X hh (vx_runV (As := [.int x1]) (rest := []) X.1 (c_X10_checkGear l G hst hk1) (cwV 1 hts gX10_angle_X10_checkGear rfl rfl rfl (by decide +kernel) ⟨Nat.le_of_ble_eq_true rfl, Nat.le_of_ble_eq_true rfl⟩) (am_preV X hh 0 11 (by decide) rfl rfl) rfl rfl hl.1 rfl (lv_room (Nat.le_of_ble_eq_true rfl)) dX10_angle_2 ⟨Nat.le_of_ble_eq_true rfl, Nat.le_of_ble_eq_true rfl⟩) (fun k ab H locs ce q hz hh hce hcv hcl => ?_) (fun r2 ab H locs hz hh => ?_)
  · subst hz
    have hF := am_zl hF
    exact am_out X htb hh (am_zp hF) rfl hce hcv hcl (Nat.le_of_ble_eq_true rfl) (Nat.le_of_ble_eq_true rfl)
  · subst hz
    have hF := am_zr hF
    refine lv_aload_n hx hb dX10_angle_5 rfl (lv_at hl 0 rfl) ?_
    refine am_getR X hh 0 11 0 1 (by decide) rfl rfl (by decide) hwRX10 (show Cond.fieldLink RX10 12 "PlanetWorkshop" "now" "LPlanetWorkshop$State;" ∈ wsX10_angle by decide +kernel) rfl dX10_angle_6 ?_
    refine am_getR X hh 1 9 1 3 (by decide) rfl rfl (by decide) hwRX7 (show Cond.fieldLink RX10 172 "PlanetWorkshop$State" "angles" "[J" ∈ wsX10_angle by decide +kernel) rfl dX10_angle_9 ?_
    refine lv_iload_n hx hb dX10_angle_12 rfl (lv_at hl 1 rfl) ?_
    obtain ⟨hq4, hF⟩ := am_ifR hF
    refine am_lald X hh 3 (by decide) rfl hq4 dX10_angle_13 ?_
    exact vx_ret (am_lret X hr hh (fun t ht => am_qpX (mk := oL) hF ht) (Nat.le_of_ble_eq_true rfl) (Nat.le_of_ble_eq_true rfl) dX10_angle_14)
set_option maxHeartbeats 4000000 in
set_option maxRecDepth 100000 in
theorem c_X10_tension (l : Launch) (G : GG) (hst : l.stackTraces = false) {w : Wd} {x1 : Int32} {z0 : (Nat ⊕ Int32)} (hF : f_X10_tension w x1 = some z0) : vx_Met l yX10_tension wsX10_tension ({ frames := 8, cells := 2, slots := 12, locals := 132 } : Room) (va_Pc [.ref (gAd G 0), .int x1] (Rel G w)) (amR G oI z0 w) (amX G z0 w) 2 12 (gA G) := by
  refine am_metX (own := RX10) (cc := cX10_tension) (maxL := 2) (ret := (some .int)) (by decide +kernel) rfl rfl (Nat.le_of_ble_eq_true rfl) ?_
  intro p e s m args below meth c ab H locs ls X hr htb hh hl
  have hx := X.1.1; have hb := X.1.2.1; have hml := X.1.2.2.1; have hown := X.1.2.2.2.1; have hts := X.1.2.2.2.2
  have hl : lv_has ls 2 [(0, .ref (gAd G 0)), (1, .int x1)] := hl
  have hwRX10 : ∀ z ∈ u_ws RX10 TX10 13, z ∈ wsX10_tension := by decide +kernel
  have hwRX7 : ∀ z ∈ u_ws RX7 TX7 17, z ∈ wsX10_tension := by decide +kernel
  unfold f_X10_tension at hF
  refine lv_aload_n hx hb dX10_tension_0 rfl (lv_at hl 0 rfl) ?_
  refine lv_iload_n hx hb dX10_tension_1 rfl (lv_at hl 1 rfl) ?_
  obtain ⟨z3, hk1, hF⟩ := am_bind hF
  refine am_callX X hh (vx_runV (As := [.int x1]) (rest := []) X.1 (c_X10_checkSpring l G hst hk1) (cwV 1 hts gX10_tension_X10_checkSpring rfl rfl rfl (by decide +kernel) ⟨Nat.le_of_ble_eq_true rfl, Nat.le_of_ble_eq_true rfl⟩) (am_preV X hh 0 11 (by decide) rfl rfl) rfl rfl hl.1 rfl (lv_room (Nat.le_of_ble_eq_true rfl)) dX10_tension_2 ⟨Nat.le_of_ble_eq_true rfl, Nat.le_of_ble_eq_true rfl⟩) (fun k ab H locs ce q hz hh hce hcv hcl => ?_) (fun r2 ab H locs hz hh => ?_)
  · subst hz
    have hF := am_zl hF
    exact am_out X htb hh (am_zp hF) rfl hce hcv hcl (Nat.le_of_ble_eq_true rfl) (Nat.le_of_ble_eq_true rfl)
  · subst hz
    have hF := am_zr hF
    refine lv_aload_n hx hb dX10_tension_5 rfl (lv_at hl 0 rfl) ?_
    refine am_getR X hh 0 11 0 1 (by decide) rfl rfl (by decide) hwRX10 (show Cond.fieldLink RX10 12 "PlanetWorkshop" "now" "LPlanetWorkshop$State;" ∈ wsX10_tension by decide +kernel) rfl dX10_tension_6 ?_
    refine am_getR X hh 1 9 6 8 (by decide) rfl rfl (by decide) hwRX7 (show Cond.fieldLink RX10 181 "PlanetWorkshop$State" "tensions" "[I" ∈ wsX10_tension by decide +kernel) rfl dX10_tension_9 ?_
    refine lv_iload_n hx hb dX10_tension_12 rfl (lv_at hl 1 rfl) ?_
    obtain ⟨hq4, hF⟩ := am_ifR hF
    refine am_iald X hh 8 (by decide) rfl hq4 dX10_tension_13 ?_
    exact vx_ret (am_iret X hr hh (fun t ht => am_qpX (mk := oI) hF ht) (Nat.le_of_ble_eq_true rfl) (Nat.le_of_ble_eq_true rfl) dX10_tension_14)
set_option maxHeartbeats 4000000 in
set_option maxRecDepth 100000 in
theorem c_X10_springSize (l : Launch) (G : GG) (hst : l.stackTraces = false) {w : Wd} {x1 : Int32} {z0 : (Nat ⊕ Int32)} (hF : f_X10_springSize w x1 = some z0) : vx_Met l yX10_springSize wsX10_springSize ({ frames := 8, cells := 2, slots := 12, locals := 132 } : Room) (va_Pc [.ref (gAd G 0), .int x1] (Rel G w)) (amR G oI z0 w) (amX G z0 w) 2 12 (gA G) := by
  refine am_metX (own := RX10) (cc := cX10_springSize) (maxL := 2) (ret := (some .int)) (by decide +kernel) rfl rfl (Nat.le_of_ble_eq_true rfl) ?_
  intro p e s m args below meth c ab H locs ls X hr htb hh hl
  have hx := X.1.1; have hb := X.1.2.1; have hml := X.1.2.2.1; have hown := X.1.2.2.2.1; have hts := X.1.2.2.2.2
  have hl : lv_has ls 2 [(0, .ref (gAd G 0)), (1, .int x1)] := hl
  have hwRX10 : ∀ z ∈ u_ws RX10 TX10 13, z ∈ wsX10_springSize := by decide +kernel
  have hwRX7 : ∀ z ∈ u_ws RX7 TX7 17, z ∈ wsX10_springSize := by decide +kernel
  unfold f_X10_springSize at hF
  refine lv_aload_n hx hb dX10_springSize_0 rfl (lv_at hl 0 rfl) ?_
  refine lv_iload_n hx hb dX10_springSize_1 rfl (lv_at hl 1 rfl) ?_
  obtain ⟨z3, hk1, hF⟩ := am_bind hF
  refine am_callX X hh (vx_runV (As := [.int x1]) (rest := []) X.1 (c_X10_checkSpring l G hst hk1) (cwV 1 hts gX10_springSize_X10_checkSpring rfl rfl rfl (by decide +kernel) ⟨Nat.le_of_ble_eq_true rfl, Nat.le_of_ble_eq_true rfl⟩) (am_preV X hh 0 11 (by decide) rfl rfl) rfl rfl hl.1 rfl (lv_room (Nat.le_of_ble_eq_true rfl)) dX10_springSize_2 ⟨Nat.le_of_ble_eq_true rfl, Nat.le_of_ble_eq_true rfl⟩) (fun k ab H locs ce q hz hh hce hcv hcl => ?_) (fun r2 ab H locs hz hh => ?_)
  · subst hz
    have hF := am_zl hF
    exact am_out X htb hh (am_zp hF) rfl hce hcv hcl (Nat.le_of_ble_eq_true rfl) (Nat.le_of_ble_eq_true rfl)
  · subst hz
    have hF := am_zr hF
    refine lv_aload_n hx hb dX10_springSize_5 rfl (lv_at hl 0 rfl) ?_
    refine am_getR X hh 0 11 0 1 (by decide) rfl rfl (by decide) hwRX10 (show Cond.fieldLink RX10 12 "PlanetWorkshop" "now" "LPlanetWorkshop$State;" ∈ wsX10_springSize by decide +kernel) rfl dX10_springSize_6 ?_
    refine am_getR X hh 1 9 5 7 (by decide) rfl rfl (by decide) hwRX7 (show Cond.fieldLink RX10 184 "PlanetWorkshop$State" "springSizes" "[I" ∈ wsX10_springSize by decide +kernel) rfl dX10_springSize_9 ?_
    refine lv_iload_n hx hb dX10_springSize_12 rfl (lv_at hl 1 rfl) ?_
    obtain ⟨hq4, hF⟩ := am_ifR hF
    refine am_iald X hh 7 (by decide) rfl hq4 dX10_springSize_13 ?_
    exact vx_ret (am_iret X hr hh (fun t ht => am_qpX (mk := oI) hF ht) (Nat.le_of_ble_eq_true rfl) (Nat.le_of_ble_eq_true rfl) dX10_springSize_14)
set_option maxHeartbeats 4000000 in
set_option maxRecDepth 100000 in
theorem c_X10_springOf (l : Launch) (G : GG) (hst : l.stackTraces = false) {w : Wd} {x1 : Int32} {z0 : (Nat ⊕ Int32)} {w1 : Wd} (hF : f_X10_springOf w x1 = some (z0, w1)) : vx_Met l yX10_springOf wsX10_springOf ({ frames := 7, cells := 2, slots := 12, locals := 111 } : Room) (va_Pc [.ref (gAd G 0), .int x1] (Rel G w)) (amR G oI z0 w1) (amX G z0 w1) 2 12 (gA G) := by
  refine am_metX (own := RX10) (cc := cX10_springOf) (maxL := 3) (ret := (some .int)) (by decide +kernel) rfl rfl (Nat.le_of_ble_eq_true rfl) ?_
  intro p e s m args below meth c ab H locs ls X hr htb hh hl
  have hx := X.1.1; have hb := X.1.2.1; have hml := X.1.2.2.1; have hown := X.1.2.2.2.1; have hts := X.1.2.2.2.2
  have hl : lv_has ls 3 [(0, .ref (gAd G 0)), (1, .int x1)] := hl
  have hwRX10 : ∀ z ∈ u_ws RX10 TX10 13, z ∈ wsX10_springOf := by decide +kernel
  unfold f_X10_springOf at hF
  refine lv_aload_n hx hb dX10_springOf_0 rfl (lv_at hl 0 rfl) ?_
  refine lv_iload_n hx hb dX10_springOf_1 rfl (lv_at hl 1 rfl) ?_
  obtain ⟨z3, hk1, hF⟩ := am_bind hF
  refine am_callX X hh (vx_runV (As := [.int x1]) (rest := []) X.1 (c_X10_checkGear l G hst hk1) (cwV 1 hts gX10_springOf_X10_checkGear rfl rfl rfl (by decide +kernel) ⟨Nat.le_of_ble_eq_true rfl, Nat.le_of_ble_eq_true rfl⟩) (am_preV X hh 0 11 (by decide) rfl rfl) rfl rfl hl.1 rfl (lv_room (Nat.le_of_ble_eq_true rfl)) dX10_springOf_2 ⟨Nat.le_of_ble_eq_true rfl, Nat.le_of_ble_eq_true rfl⟩) (fun k ab H locs ce q hz hh hce hcv hcl => ?_) (fun r2 ab H locs hz hh => ?_)
  · subst hz
    have hF := am_zl hF
    exact am_out X htb hh (am_zw hF).1 (am_zw hF).2 hce hcv hcl (Nat.le_of_ble_eq_true rfl) (Nat.le_of_ble_eq_true rfl)
  · subst hz
    have hF := am_zr hF
    refine lv_aload_n hx hb dX10_springOf_5 rfl (lv_at hl 0 rfl) ?_
    refine am_getR X hh 0 11 5 124 (by decide) rfl rfl (by decide) hwRX10 (show Cond.fieldLink RX10 36 "PlanetWorkshop" "train" "LPlanetWorkshop$Train;" ∈ wsX10_springOf by decide +kernel) rfl dX10_springOf_6 ?_
    refine lv_aload_n hx hb dX10_springOf_9 rfl (lv_at hl 0 rfl) ?_
    refine am_getR X hh 0 11 0 1 (by decide) rfl rfl (by decide) hwRX10 (show Cond.fieldLink RX10 12 "PlanetWorkshop" "now" "LPlanetWorkshop$State;" ∈ wsX10_springOf by decide +kernel) rfl dX10_springOf_10 ?_
    refine lv_iload_n hx hb dX10_springOf_13 rfl (lv_at hl 1 rfl) ?_
    obtain ⟨w6, hk4, hF⟩ := am_bind hF
    refine am_call X hh (va_runV (As := [.ref (gAd G 1), .int x1]) (rest := []) X.1 (c_X8_trace l G hk4) (cwV 2 hts gX10_springOf_X8_trace rfl rfl rfl (by decide +kernel) ⟨Nat.le_of_ble_eq_true rfl, Nat.le_of_ble_eq_true rfl⟩) (am_preV X hh 124 10 (by decide) rfl rfl) rfl rfl hl.1 rfl (lv_room (Nat.le_of_ble_eq_true rfl)) dX10_springOf_14 ⟨Nat.le_of_ble_eq_true rfl, Nat.le_of_ble_eq_true rfl⟩) (fun ab H locs hh => ?_)
    refine lv_aload_n hx hb dX10_springOf_17 rfl (lv_at hl 0 rfl) ?_
    refine am_getR X hh 0 11 5 124 (by decide) rfl rfl (by decide) hwRX10 (show Cond.fieldLink RX10 36 "PlanetWorkshop" "train" "LPlanetWorkshop$Train;" ∈ wsX10_springOf by decide +kernel) rfl dX10_springOf_18 ?_
    refine lv_aload_n hx hb dX10_springOf_21 rfl (lv_at hl 0 rfl) ?_
    refine am_getR X hh 0 11 0 1 (by decide) rfl rfl (by decide) hwRX10 (show Cond.fieldLink RX10 12 "PlanetWorkshop" "now" "LPlanetWorkshop$State;" ∈ wsX10_springOf by decide +kernel) rfl dX10_springOf_22 ?_
    obtain ⟨r8, hk7, hF⟩ := am_bind hF
    refine am_call X hh (va_runV (As := [.ref (gAd G 1)]) (rest := []) X.1 (c_X8_springGear l G hk7) (cwV 1 hts gX10_springOf_X8_springGear rfl rfl rfl (by decide +kernel) ⟨Nat.le_of_ble_eq_true rfl, Nat.le_of_ble_eq_true rfl⟩) (am_preV X hh 124 10 (by decide) rfl rfl) rfl rfl hl.1 rfl (lv_room (Nat.le_of_ble_eq_true rfl)) dX10_springOf_25 ⟨Nat.le_of_ble_eq_true rfl, Nat.le_of_ble_eq_true rfl⟩) (fun ab H locs hh => ?_)
    refine lv_istore_n (lv' := [(2, .int r8), (0, .ref (gAd G 0)), (1, .int x1)]) hx hb dX10_springOf_28 rfl hl (by decide) rfl (fun ls hl => ?_)
    refine lv_iload_n hx hb dX10_springOf_29 rfl (lv_at hl 0 rfl) ?_
    refine lv_iconst (v := (-1 : Int32)) hx hb dX10_springOf_30 (by decide) ?_
    refine lv_icmp_ne (tgt := 42) hx hb dX10_springOf_31 (by decide) (fun hc9 => ?_) (fun hc9 => ?_)
    · have hF := am_neg hc9 hF
      refine lv_iload_n hx hb dX10_springOf_42 rfl (lv_at hl 0 rfl) ?_
      exact vx_ret (am_iret X hr hh (fun t ht => am_qwX (mk := oI) hF ht) (Nat.le_of_ble_eq_true rfl) (Nat.le_of_ble_eq_true rfl) dX10_springOf_43)
    · have hF := am_pos hc9 hF
      exact am_throw (k := 4) (ic := 146) X hst htb hh hl (show Cond.classLink RX10 144 "java/util/NoSuchElementException" ∈ wsX10_springOf by decide +kernel) (show Cond.initialized "java/util/NoSuchElementException" ∈ wsX10_springOf by decide +kernel) (fun q hq => List.mem_cons_of_mem _ (List.mem_append_left _ (List.mem_append_left _ (List.mem_append_right _ hq)))) (by decide +kernel) (ng_4 _ _) (ot_4 _ _) dX10_springOf_34 dX10_springOf_37 dX10_springOf_38 dX10_springOf_41 (Nat.le_of_ble_eq_true rfl) (Nat.le_of_ble_eq_true rfl) (Nat.le_of_ble_eq_true rfl) (Nat.le_of_ble_eq_true rfl) (am_zw hF).1 (am_zw hF).2 (Nat.le_of_ble_eq_true rfl) (Nat.le_of_ble_eq_true rfl)
