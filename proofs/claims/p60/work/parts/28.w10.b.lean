set_option maxHeartbeats 4000000 in
set_option maxRecDepth 100000 in
theorem c_X10_friction (l : Launch) (G : GG) (hst : l.stackTraces = false) {w : Wd} {x1 : Int32} {z0 : (Nat ⊕ Int32)} {w1 : Wd} (hF : f_X10_friction w x1 = some (z0, w1)) : vx_Met l yX10_friction wsX10_friction ({ frames := 7, cells := 1, slots := 6, locals := 111 } : Room) (va_Pc [.ref (gAd G 0), .int x1] (Rel G w)) (amR G oI z0 w1) (amX G z0 w1) 1 6 (gA G) := by
  refine am_metX (own := RX10) (cc := cX10_friction) (maxL := 2) (ret := (some .int)) (by decide +kernel) rfl rfl (Nat.le_of_ble_eq_true rfl) ?_
  intro p e s m args below meth c ab H locs ls X hr htb hh hl
  have hx := X.1.1; have hb := X.1.2.1; have hml := X.1.2.2.1; have hown := X.1.2.2.2.1; have hts := X.1.2.2.2.2
  have hl : lv_has ls 2 [(0, .ref (gAd G 0)), (1, .int x1)] := hl
  have hwRX10 : ∀ z ∈ u_ws RX10 TX10 13, z ∈ wsX10_friction := by decide +kernel
  unfold f_X10_friction at hF
  refine lv_aload_n hx hb dX10_friction_0 rfl (lv_at hl 0 rfl) ?_
  refine lv_iload_n hx hb dX10_friction_1 rfl (lv_at hl 1 rfl) ?_
  obtain ⟨z3, hk1, hF⟩ := am_bind hF
  refine am_callX X hh (vx_runV (As := [.int x1]) (rest := []) X.1 (c_X10_checkGear l G hst hk1) (cwV 1 hts gX10_friction_X10_checkGear rfl rfl rfl (by decide +kernel) ⟨Nat.le_of_ble_eq_true rfl, Nat.le_of_ble_eq_true rfl⟩) (am_preV X hh 0 11 (by decide) rfl rfl) rfl rfl hl.1 rfl (lv_room (Nat.le_of_ble_eq_true rfl)) dX10_friction_2 ⟨Nat.le_of_ble_eq_true rfl, Nat.le_of_ble_eq_true rfl⟩) (fun k ab H locs ce q hz hh hce hcv hcl => ?_) (fun r2 ab H locs hz hh => ?_)
  · subst hz
    have hF := am_zl hF
    exact am_out X htb hh (am_zw hF).1 (am_zw hF).2 hce hcv hcl (Nat.le_of_ble_eq_true rfl) (Nat.le_of_ble_eq_true rfl)
  · subst hz
    have hF := am_zr hF
    refine lv_aload_n hx hb dX10_friction_5 rfl (lv_at hl 0 rfl) ?_
    refine am_getR X hh 0 11 5 124 (by decide) rfl rfl (by decide) hwRX10 (show Cond.fieldLink RX10 36 "PlanetWorkshop" "train" "LPlanetWorkshop$Train;" ∈ wsX10_friction by decide +kernel) rfl dX10_friction_6 ?_
    refine lv_aload_n hx hb dX10_friction_9 rfl (lv_at hl 0 rfl) ?_
    refine am_getR X hh 0 11 0 1 (by decide) rfl rfl (by decide) hwRX10 (show Cond.fieldLink RX10 12 "PlanetWorkshop" "now" "LPlanetWorkshop$State;" ∈ wsX10_friction by decide +kernel) rfl dX10_friction_10 ?_
    refine lv_iload_n hx hb dX10_friction_13 rfl (lv_at hl 1 rfl) ?_
    obtain ⟨w6, hk4, hF⟩ := am_bind hF
    refine am_call X hh (va_runV (As := [.ref (gAd G 1), .int x1]) (rest := []) X.1 (c_X8_trace l G hk4) (cwV 2 hts gX10_friction_X8_trace rfl rfl rfl (by decide +kernel) ⟨Nat.le_of_ble_eq_true rfl, Nat.le_of_ble_eq_true rfl⟩) (am_preV X hh 124 10 (by decide) rfl rfl) rfl rfl hl.1 rfl (lv_room (Nat.le_of_ble_eq_true rfl)) dX10_friction_14 ⟨Nat.le_of_ble_eq_true rfl, Nat.le_of_ble_eq_true rfl⟩) (fun ab H locs hh => ?_)
    refine lv_aload_n hx hb dX10_friction_17 rfl (lv_at hl 0 rfl) ?_
    refine am_getR X hh 0 11 5 124 (by decide) rfl rfl (by decide) hwRX10 (show Cond.fieldLink RX10 36 "PlanetWorkshop" "train" "LPlanetWorkshop$Train;" ∈ wsX10_friction by decide +kernel) rfl dX10_friction_18 ?_
    refine lv_aload_n hx hb dX10_friction_21 rfl (lv_at hl 0 rfl) ?_
    refine am_getR X hh 0 11 0 1 (by decide) rfl rfl (by decide) hwRX10 (show Cond.fieldLink RX10 12 "PlanetWorkshop" "now" "LPlanetWorkshop$State;" ∈ wsX10_friction by decide +kernel) rfl dX10_friction_22 ?_
    obtain ⟨r8, hk7, hF⟩ := am_bind hF
    refine am_call X hh (va_runV (As := [.ref (gAd G 1)]) (rest := []) X.1 (c_X8_drag l G hk7) (cwV 1 hts gX10_friction_X8_drag rfl rfl rfl (by decide +kernel) ⟨Nat.le_of_ble_eq_true rfl, Nat.le_of_ble_eq_true rfl⟩) (am_preV X hh 124 10 (by decide) rfl rfl) rfl rfl hl.1 rfl (lv_room (Nat.le_of_ble_eq_true rfl)) dX10_friction_25 ⟨Nat.le_of_ble_eq_true rfl, Nat.le_of_ble_eq_true rfl⟩) (fun ab H locs hh => ?_)
    exact vx_ret (am_iret X hr hh (fun t ht => am_qwX (mk := oI) hF ht) (Nat.le_of_ble_eq_true rfl) (Nat.le_of_ble_eq_true rfl) dX10_friction_28)
set_option maxHeartbeats 4000000 in
set_option maxRecDepth 100000 in
theorem c_X10_turnsLeft (l : Launch) (G : GG) (hst : l.stackTraces = false) {w : Wd} {x1 : Int32} {z0 : (Nat ⊕ Int32)} {w1 : Wd} (hF : f_X10_turnsLeft w x1 = some (z0, w1)) : vx_Met l yX10_turnsLeft wsX10_turnsLeft ({ frames := 8, cells := 2, slots := 12, locals := 132 } : Room) (va_Pc [.ref (gAd G 0), .int x1] (Rel G w)) (amR G oI z0 w1) (amX G z0 w1) 2 12 (gA G) := by
  refine am_metX (own := RX10) (cc := cX10_turnsLeft) (maxL := 2) (ret := (some .int)) (by decide +kernel) rfl rfl (Nat.le_of_ble_eq_true rfl) ?_
  intro p e s m args below meth c ab H locs ls X hr htb hh hl
  have hx := X.1.1; have hb := X.1.2.1; have hml := X.1.2.2.1; have hown := X.1.2.2.2.1; have hts := X.1.2.2.2.2
  have hl : lv_has ls 2 [(0, .ref (gAd G 0)), (1, .int x1)] := hl
  have hwRX10 : ∀ z ∈ u_ws RX10 TX10 13, z ∈ wsX10_turnsLeft := by decide +kernel
  have hwRX7 : ∀ z ∈ u_ws RX7 TX7 17, z ∈ wsX10_turnsLeft := by decide +kernel
  unfold f_X10_turnsLeft at hF
  refine lv_aload_n hx hb dX10_turnsLeft_0 rfl (lv_at hl 0 rfl) ?_
  refine lv_iload_n hx hb dX10_turnsLeft_1 rfl (lv_at hl 1 rfl) ?_
  obtain ⟨z3, hk1, hF⟩ := am_bind hF
  refine am_callX X hh (vx_runV (As := [.int x1]) (rest := []) X.1 (c_X10_checkSpring l G hst hk1) (cwV 1 hts gX10_turnsLeft_X10_checkSpring rfl rfl rfl (by decide +kernel) ⟨Nat.le_of_ble_eq_true rfl, Nat.le_of_ble_eq_true rfl⟩) (am_preV X hh 0 11 (by decide) rfl rfl) rfl rfl hl.1 rfl (lv_room (Nat.le_of_ble_eq_true rfl)) dX10_turnsLeft_2 ⟨Nat.le_of_ble_eq_true rfl, Nat.le_of_ble_eq_true rfl⟩) (fun k ab H locs ce q hz hh hce hcv hcl => ?_) (fun r2 ab H locs hz hh => ?_)
  · subst hz
    have hF := am_zl hF
    exact am_out X htb hh (am_zw hF).1 (am_zw hF).2 hce hcv hcl (Nat.le_of_ble_eq_true rfl) (Nat.le_of_ble_eq_true rfl)
  · subst hz
    have hF := am_zr hF
    refine lv_aload_n hx hb dX10_turnsLeft_5 rfl (lv_at hl 0 rfl) ?_
    refine am_getR X hh 0 11 5 124 (by decide) rfl rfl (by decide) hwRX10 (show Cond.fieldLink RX10 36 "PlanetWorkshop" "train" "LPlanetWorkshop$Train;" ∈ wsX10_turnsLeft by decide +kernel) rfl dX10_turnsLeft_6 ?_
    refine lv_aload_n hx hb dX10_turnsLeft_9 rfl (lv_at hl 0 rfl) ?_
    refine am_getR X hh 0 11 0 1 (by decide) rfl rfl (by decide) hwRX10 (show Cond.fieldLink RX10 12 "PlanetWorkshop" "now" "LPlanetWorkshop$State;" ∈ wsX10_turnsLeft by decide +kernel) rfl dX10_turnsLeft_10 ?_
    refine lv_iload_n hx hb dX10_turnsLeft_13 rfl (lv_at hl 1 rfl) ?_
    obtain ⟨w6, hk4, hF⟩ := am_bind hF
    refine am_call X hh (va_runV (As := [.ref (gAd G 1), .int x1]) (rest := []) X.1 (c_X8_trace l G hk4) (cwV 2 hts gX10_turnsLeft_X8_trace rfl rfl rfl (by decide +kernel) ⟨Nat.le_of_ble_eq_true rfl, Nat.le_of_ble_eq_true rfl⟩) (am_preV X hh 124 10 (by decide) rfl rfl) rfl rfl hl.1 rfl (lv_room (Nat.le_of_ble_eq_true rfl)) dX10_turnsLeft_14 ⟨Nat.le_of_ble_eq_true rfl, Nat.le_of_ble_eq_true rfl⟩) (fun ab H locs hh => ?_)
    refine lv_aload_n hx hb dX10_turnsLeft_17 rfl (lv_at hl 0 rfl) ?_
    refine am_getR X hh 0 11 0 1 (by decide) rfl rfl (by decide) hwRX10 (show Cond.fieldLink RX10 12 "PlanetWorkshop" "now" "LPlanetWorkshop$State;" ∈ wsX10_turnsLeft by decide +kernel) rfl dX10_turnsLeft_18 ?_
    refine am_getR X hh 1 9 6 8 (by decide) rfl rfl (by decide) hwRX7 (show Cond.fieldLink RX10 181 "PlanetWorkshop$State" "tensions" "[I" ∈ wsX10_turnsLeft by decide +kernel) rfl dX10_turnsLeft_21 ?_
    refine lv_iload_n hx hb dX10_turnsLeft_24 rfl (lv_at hl 1 rfl) ?_
    obtain ⟨hq7, hF⟩ := am_ifR hF
    refine am_iald X hh 8 (by decide) rfl hq7 dX10_turnsLeft_25 ?_
    refine lv_i2l hx hb dX10_turnsLeft_26 rfl ?_
    refine lv_aload_n hx hb dX10_turnsLeft_27 rfl (lv_at hl 0 rfl) ?_
    refine am_getR X hh 0 11 5 124 (by decide) rfl rfl (by decide) hwRX10 (show Cond.fieldLink RX10 36 "PlanetWorkshop" "train" "LPlanetWorkshop$Train;" ∈ wsX10_turnsLeft by decide +kernel) rfl dX10_turnsLeft_28 ?_
    refine lv_aload_n hx hb dX10_turnsLeft_31 rfl (lv_at hl 0 rfl) ?_
    refine am_getR X hh 0 11 0 1 (by decide) rfl rfl (by decide) hwRX10 (show Cond.fieldLink RX10 12 "PlanetWorkshop" "now" "LPlanetWorkshop$State;" ∈ wsX10_turnsLeft by decide +kernel) rfl dX10_turnsLeft_32 ?_
    obtain ⟨r9, hk8, hF⟩ := am_bind hF
    refine am_call X hh (va_runV (As := [.ref (gAd G 1)]) (rest := [.long (((gI w6 8 (x1).toNatClampNeg)).toInt64)]) X.1 (c_X8_drag l G hk8) (cwV 1 hts gX10_turnsLeft_X8_drag rfl rfl rfl (by decide +kernel) ⟨Nat.le_of_ble_eq_true rfl, Nat.le_of_ble_eq_true rfl⟩) (am_preV X hh 124 10 (by decide) rfl rfl) rfl rfl hl.1 rfl (lv_room (Nat.le_of_ble_eq_true rfl)) dX10_turnsLeft_35 ⟨Nat.le_of_ble_eq_true rfl, Nat.le_of_ble_eq_true rfl⟩) (fun ab H locs hh => ?_)
    refine lv_i2l hx hb dX10_turnsLeft_38 rfl ?_
    obtain ⟨r11, hk10, hF⟩ := am_bind hF
    refine am_call X hh (va_runS (As := [.long (((gI w6 8 (x1).toNatClampNeg)).toInt64), .long ((r9).toInt64)]) (rest := []) X.1 (c_X4_quotient l G hk10) (va_cwS 2 hts gX10_turnsLeft_X4_quotient rfl rfl rfl (by decide +kernel) ⟨Nat.le_of_ble_eq_true rfl, Nat.le_of_ble_eq_true rfl⟩) (am_preS X hh) rfl rfl hl.1 rfl (lv_room (Nat.le_of_ble_eq_true rfl)) dX10_turnsLeft_39 ⟨Nat.le_of_ble_eq_true rfl, Nat.le_of_ble_eq_true rfl⟩) (fun ab H locs hh => ?_)
    refine lv_l2i hx hb dX10_turnsLeft_42 rfl ?_
    exact vx_ret (am_iret X hr hh (fun t ht => am_qwX (mk := oI) hF ht) (Nat.le_of_ble_eq_true rfl) (Nat.le_of_ble_eq_true rfl) dX10_turnsLeft_43)
set_option maxHeartbeats 4000000 in
set_option maxRecDepth 100000 in
theorem c_X10_canRelease (l : Launch) (G : GG) (hst : l.stackTraces = false) {w : Wd} {x1 : Int32} {z0 : (Nat ⊕ Int32)} {w1 : Wd} (hF : f_X10_canRelease w x1 = some (z0, w1)) : vx_Met l yX10_canRelease wsX10_canRelease ({ frames := 7, cells := 1, slots := 6, locals := 111 } : Room) (va_Pc [.ref (gAd G 0), .int x1] (Rel G w)) (amR G oI z0 w1) (amX G z0 w1) 1 6 (gA G) := by
  refine am_metX (own := RX10) (cc := cX10_canRelease) (maxL := 2) (ret := (some .boolean)) (by decide +kernel) rfl rfl (Nat.le_of_ble_eq_true rfl) ?_
  intro p e s m args below meth c ab H locs ls X hr htb hh hl
  have hx := X.1.1; have hb := X.1.2.1; have hml := X.1.2.2.1; have hown := X.1.2.2.2.1; have hts := X.1.2.2.2.2
  have hl : lv_has ls 2 [(0, .ref (gAd G 0)), (1, .int x1)] := hl
  have hwRX10 : ∀ z ∈ u_ws RX10 TX10 13, z ∈ wsX10_canRelease := by decide +kernel
  unfold f_X10_canRelease at hF
  refine lv_aload_n hx hb dX10_canRelease_0 rfl (lv_at hl 0 rfl) ?_
  refine lv_iload_n hx hb dX10_canRelease_1 rfl (lv_at hl 1 rfl) ?_
  obtain ⟨z3, hk1, hF⟩ := am_bind hF
  refine am_callX X hh (vx_runV (As := [.int x1]) (rest := []) X.1 (c_X10_checkGear l G hst hk1) (cwV 1 hts gX10_canRelease_X10_checkGear rfl rfl rfl (by decide +kernel) ⟨Nat.le_of_ble_eq_true rfl, Nat.le_of_ble_eq_true rfl⟩) (am_preV X hh 0 11 (by decide) rfl rfl) rfl rfl hl.1 rfl (lv_room (Nat.le_of_ble_eq_true rfl)) dX10_canRelease_2 ⟨Nat.le_of_ble_eq_true rfl, Nat.le_of_ble_eq_true rfl⟩) (fun k ab H locs ce q hz hh hce hcv hcl => ?_) (fun r2 ab H locs hz hh => ?_)
  · subst hz
    have hF := am_zl hF
    exact am_out X htb hh (am_zw hF).1 (am_zw hF).2 hce hcv hcl (Nat.le_of_ble_eq_true rfl) (Nat.le_of_ble_eq_true rfl)
  · subst hz
    have hF := am_zr hF
    refine lv_aload_n hx hb dX10_canRelease_5 rfl (lv_at hl 0 rfl) ?_
    refine am_getR X hh 0 11 5 124 (by decide) rfl rfl (by decide) hwRX10 (show Cond.fieldLink RX10 36 "PlanetWorkshop" "train" "LPlanetWorkshop$Train;" ∈ wsX10_canRelease by decide +kernel) rfl dX10_canRelease_6 ?_
    refine lv_aload_n hx hb dX10_canRelease_9 rfl (lv_at hl 0 rfl) ?_
    refine am_getR X hh 0 11 0 1 (by decide) rfl rfl (by decide) hwRX10 (show Cond.fieldLink RX10 12 "PlanetWorkshop" "now" "LPlanetWorkshop$State;" ∈ wsX10_canRelease by decide +kernel) rfl dX10_canRelease_10 ?_
    refine lv_iload_n hx hb dX10_canRelease_13 rfl (lv_at hl 1 rfl) ?_
    obtain ⟨w6, hk4, hF⟩ := am_bind hF
    refine am_call X hh (va_runV (As := [.ref (gAd G 1), .int x1]) (rest := []) X.1 (c_X8_trace l G hk4) (cwV 2 hts gX10_canRelease_X8_trace rfl rfl rfl (by decide +kernel) ⟨Nat.le_of_ble_eq_true rfl, Nat.le_of_ble_eq_true rfl⟩) (am_preV X hh 124 10 (by decide) rfl rfl) rfl rfl hl.1 rfl (lv_room (Nat.le_of_ble_eq_true rfl)) dX10_canRelease_14 ⟨Nat.le_of_ble_eq_true rfl, Nat.le_of_ble_eq_true rfl⟩) (fun ab H locs hh => ?_)
    refine lv_aload_n hx hb dX10_canRelease_17 rfl (lv_at hl 0 rfl) ?_
    refine am_getR X hh 0 11 0 1 (by decide) rfl rfl (by decide) hwRX10 (show Cond.fieldLink RX10 12 "PlanetWorkshop" "now" "LPlanetWorkshop$State;" ∈ wsX10_canRelease by decide +kernel) rfl dX10_canRelease_18 ?_
    refine lv_iload_n hx hb dX10_canRelease_21 rfl (lv_at hl 1 rfl) ?_
    obtain ⟨r8, hk7, hF⟩ := am_bind hF
    refine am_call X hh (va_runV (As := [.int x1]) (rest := []) X.1 (c_X7_hasSpring l G hk7) (cwV 1 hts gX10_canRelease_X7_hasSpring rfl rfl rfl (by decide +kernel) ⟨Nat.le_of_ble_eq_true rfl, Nat.le_of_ble_eq_true rfl⟩) (am_preV X hh 1 9 (by decide) rfl rfl) rfl rfl hl.1 rfl (lv_room (Nat.le_of_ble_eq_true rfl)) dX10_canRelease_22 ⟨Nat.le_of_ble_eq_true rfl, Nat.le_of_ble_eq_true rfl⟩) (fun ab H locs hh => ?_)
    refine lv_if_eq (tgt := 47) hx hb dX10_canRelease_25 (by decide) (fun hc9 => ?_) (fun hc9 => ?_)
    · have hF := am_pos hc9 hF
      refine lv_iconst (v := (0 : Int32)) hx hb dX10_canRelease_47 (by decide) ?_
      exact vx_ret (am_zret (v' := (0 : Int32)) X hr rfl hh (fun t ht => am_qwX (mk := oI) hF ht) (Nat.le_of_ble_eq_true rfl) (Nat.le_of_ble_eq_true rfl) dX10_canRelease_48)
    · have hF := am_neg hc9 hF
      refine lv_aload_n hx hb dX10_canRelease_28 rfl (lv_at hl 0 rfl) ?_
      refine am_getR X hh 0 11 5 124 (by decide) rfl rfl (by decide) hwRX10 (show Cond.fieldLink RX10 36 "PlanetWorkshop" "train" "LPlanetWorkshop$Train;" ∈ wsX10_canRelease by decide +kernel) rfl dX10_canRelease_29 ?_
      refine lv_aload_n hx hb dX10_canRelease_32 rfl (lv_at hl 0 rfl) ?_
      refine am_getR X hh 0 11 0 1 (by decide) rfl rfl (by decide) hwRX10 (show Cond.fieldLink RX10 12 "PlanetWorkshop" "now" "LPlanetWorkshop$State;" ∈ wsX10_canRelease by decide +kernel) rfl dX10_canRelease_33 ?_
      refine lv_iload_n hx hb dX10_canRelease_36 rfl (lv_at hl 1 rfl) ?_
      obtain ⟨r11, hk10, hF⟩ := am_bind hF
      refine am_call X hh (va_runV (As := [.ref (gAd G 1), .int x1]) (rest := []) X.1 (c_X8_isBlocked l G hk10) (cwV 2 hts gX10_canRelease_X8_isBlocked rfl rfl rfl (by decide +kernel) ⟨Nat.le_of_ble_eq_true rfl, Nat.le_of_ble_eq_true rfl⟩) (am_preV X hh 124 10 (by decide) rfl rfl) rfl rfl hl.1 rfl (lv_room (Nat.le_of_ble_eq_true rfl)) dX10_canRelease_37 ⟨Nat.le_of_ble_eq_true rfl, Nat.le_of_ble_eq_true rfl⟩) (fun ab H locs hh => ?_)
      refine lv_if_ne (tgt := 47) hx hb dX10_canRelease_40 (by decide) (fun hc12 => ?_) (fun hc12 => ?_)
      · have hF := am_neg hc12 hF
        refine lv_iconst (v := (0 : Int32)) hx hb dX10_canRelease_47 (by decide) ?_
        exact vx_ret (am_zret (v' := (0 : Int32)) X hr rfl hh (fun t ht => am_qwX (mk := oI) hF ht) (Nat.le_of_ble_eq_true rfl) (Nat.le_of_ble_eq_true rfl) dX10_canRelease_48)
      · have hF := am_pos hc12 hF
        refine lv_iconst (v := (1 : Int32)) hx hb dX10_canRelease_43 (by decide) ?_
        refine lv_goto (tgt := 48) hx hb dX10_canRelease_44 (by decide) ?_
        exact vx_ret (am_zret (v' := (1 : Int32)) X hr rfl hh (fun t ht => am_qwX (mk := oI) hF ht) (Nat.le_of_ble_eq_true rfl) (Nat.le_of_ble_eq_true rfl) dX10_canRelease_48)
set_option maxHeartbeats 4000000 in
set_option maxRecDepth 100000 in
theorem c_X10_hasRatchet (l : Launch) (G : GG) (hst : l.stackTraces = false) {w : Wd} {x1 : Int32} {z0 : (Nat ⊕ Int32)} (hF : f_X10_hasRatchet w x1 = some z0) : vx_Met l yX10_hasRatchet wsX10_hasRatchet ({ frames := 7, cells := 1, slots := 6, locals := 111 } : Room) (va_Pc [.ref (gAd G 0), .int x1] (Rel G w)) (amR G oI z0 w) (amX G z0 w) 1 6 (gA G) := by
  refine am_metX (own := RX10) (cc := cX10_hasRatchet) (maxL := 2) (ret := (some .boolean)) (by decide +kernel) rfl rfl (Nat.le_of_ble_eq_true rfl) ?_
  intro p e s m args below meth c ab H locs ls X hr htb hh hl
  have hx := X.1.1; have hb := X.1.2.1; have hml := X.1.2.2.1; have hown := X.1.2.2.2.1; have hts := X.1.2.2.2.2
  have hl : lv_has ls 2 [(0, .ref (gAd G 0)), (1, .int x1)] := hl
  have hwRX10 : ∀ z ∈ u_ws RX10 TX10 13, z ∈ wsX10_hasRatchet := by decide +kernel
  have hwRX7 : ∀ z ∈ u_ws RX7 TX7 17, z ∈ wsX10_hasRatchet := by decide +kernel
  unfold f_X10_hasRatchet at hF
  refine lv_aload_n hx hb dX10_hasRatchet_0 rfl (lv_at hl 0 rfl) ?_
  refine lv_iload_n hx hb dX10_hasRatchet_1 rfl (lv_at hl 1 rfl) ?_
  obtain ⟨z3, hk1, hF⟩ := am_bind hF
  refine am_callX X hh (vx_runV (As := [.int x1]) (rest := []) X.1 (c_X10_checkGear l G hst hk1) (cwV 1 hts gX10_hasRatchet_X10_checkGear rfl rfl rfl (by decide +kernel) ⟨Nat.le_of_ble_eq_true rfl, Nat.le_of_ble_eq_true rfl⟩) (am_preV X hh 0 11 (by decide) rfl rfl) rfl rfl hl.1 rfl (lv_room (Nat.le_of_ble_eq_true rfl)) dX10_hasRatchet_2 ⟨Nat.le_of_ble_eq_true rfl, Nat.le_of_ble_eq_true rfl⟩) (fun k ab H locs ce q hz hh hce hcv hcl => ?_) (fun r2 ab H locs hz hh => ?_)
  · subst hz
    have hF := am_zl hF
    exact am_out X htb hh (am_zp hF) rfl hce hcv hcl (Nat.le_of_ble_eq_true rfl) (Nat.le_of_ble_eq_true rfl)
  · subst hz
    have hF := am_zr hF
    refine lv_aload_n hx hb dX10_hasRatchet_5 rfl (lv_at hl 0 rfl) ?_
    refine am_getR X hh 0 11 0 1 (by decide) rfl rfl (by decide) hwRX10 (show Cond.fieldLink RX10 12 "PlanetWorkshop" "now" "LPlanetWorkshop$State;" ∈ wsX10_hasRatchet by decide +kernel) rfl dX10_hasRatchet_6 ?_
    refine am_getR X hh 1 9 4 6 (by decide) rfl rfl (by decide) hwRX7 (show Cond.fieldLink RX10 207 "PlanetWorkshop$State" "ratchets" "[Z" ∈ wsX10_hasRatchet by decide +kernel) rfl dX10_hasRatchet_9 ?_
    refine lv_iload_n hx hb dX10_hasRatchet_12 rfl (lv_at hl 1 rfl) ?_
    obtain ⟨hq4, hF⟩ := am_ifR hF
    refine am_zald X hh 6 (by decide) rfl hq4 dX10_hasRatchet_13 ?_
    exact vx_ret (am_zret (v' := (vp_nar .boolean (gI w 6 (x1).toNatClampNeg))) X hr (nar_z _) hh (fun t ht => am_qpX (mk := oI) hF ht) (Nat.le_of_ble_eq_true rfl) (Nat.le_of_ble_eq_true rfl) dX10_hasRatchet_14)
set_option maxHeartbeats 4000000 in
set_option maxRecDepth 100000 in
theorem c_X10_isDry (l : Launch) (G : GG) (hst : l.stackTraces = false) {w : Wd} {x1 : Int32} {z0 : (Nat ⊕ Int32)} (hF : f_X10_isDry w x1 = some z0) : vx_Met l yX10_isDry wsX10_isDry ({ frames := 7, cells := 1, slots := 6, locals := 111 } : Room) (va_Pc [.ref (gAd G 0), .int x1] (Rel G w)) (amR G oI z0 w) (amX G z0 w) 1 6 (gA G) := by
  refine am_metX (own := RX10) (cc := cX10_isDry) (maxL := 2) (ret := (some .boolean)) (by decide +kernel) rfl rfl (Nat.le_of_ble_eq_true rfl) ?_
  intro p e s m args below meth c ab H locs ls X hr htb hh hl
  have hx := X.1.1; have hb := X.1.2.1; have hml := X.1.2.2.1; have hown := X.1.2.2.2.1; have hts := X.1.2.2.2.2
  have hl : lv_has ls 2 [(0, .ref (gAd G 0)), (1, .int x1)] := hl
  have hwRX10 : ∀ z ∈ u_ws RX10 TX10 13, z ∈ wsX10_isDry := by decide +kernel
  have hwRX7 : ∀ z ∈ u_ws RX7 TX7 17, z ∈ wsX10_isDry := by decide +kernel
  unfold f_X10_isDry at hF
  refine lv_aload_n hx hb dX10_isDry_0 rfl (lv_at hl 0 rfl) ?_
  refine lv_iload_n hx hb dX10_isDry_1 rfl (lv_at hl 1 rfl) ?_
  obtain ⟨z3, hk1, hF⟩ := am_bind hF
  refine am_callX X hh (vx_runV (As := [.int x1]) (rest := []) X.1 (c_X10_checkGear l G hst hk1) (cwV 1 hts gX10_isDry_X10_checkGear rfl rfl rfl (by decide +kernel) ⟨Nat.le_of_ble_eq_true rfl, Nat.le_of_ble_eq_true rfl⟩) (am_preV X hh 0 11 (by decide) rfl rfl) rfl rfl hl.1 rfl (lv_room (Nat.le_of_ble_eq_true rfl)) dX10_isDry_2 ⟨Nat.le_of_ble_eq_true rfl, Nat.le_of_ble_eq_true rfl⟩) (fun k ab H locs ce q hz hh hce hcv hcl => ?_) (fun r2 ab H locs hz hh => ?_)
  · subst hz
    have hF := am_zl hF
    exact am_out X htb hh (am_zp hF) rfl hce hcv hcl (Nat.le_of_ble_eq_true rfl) (Nat.le_of_ble_eq_true rfl)
  · subst hz
    have hF := am_zr hF
    refine lv_aload_n hx hb dX10_isDry_5 rfl (lv_at hl 0 rfl) ?_
    refine am_getR X hh 0 11 0 1 (by decide) rfl rfl (by decide) hwRX10 (show Cond.fieldLink RX10 12 "PlanetWorkshop" "now" "LPlanetWorkshop$State;" ∈ wsX10_isDry by decide +kernel) rfl dX10_isDry_6 ?_
    refine am_getR X hh 1 9 2 4 (by decide) rfl rfl (by decide) hwRX7 (show Cond.fieldLink RX10 211 "PlanetWorkshop$State" "oiled" "[Z" ∈ wsX10_isDry by decide +kernel) rfl dX10_isDry_9 ?_
    refine lv_iload_n hx hb dX10_isDry_12 rfl (lv_at hl 1 rfl) ?_
    obtain ⟨hq4, hF⟩ := am_ifR hF
    refine am_zald X hh 4 (by decide) rfl hq4 dX10_isDry_13 ?_
    refine lv_if_ne (tgt := 21) hx hb dX10_isDry_14 (by decide) (fun hc5 => ?_) (fun hc5 => ?_)
    · have hF := am_neg hc5 hF
      refine lv_iconst (v := (0 : Int32)) hx hb dX10_isDry_21 (by decide) ?_
      exact vx_ret (am_zret (v' := (0 : Int32)) X hr rfl hh (fun t ht => am_qpX (mk := oI) hF ht) (Nat.le_of_ble_eq_true rfl) (Nat.le_of_ble_eq_true rfl) dX10_isDry_22)
    · have hF := am_pos hc5 hF
      refine lv_iconst (v := (1 : Int32)) hx hb dX10_isDry_17 (by decide) ?_
      refine lv_goto (tgt := 22) hx hb dX10_isDry_18 (by decide) ?_
      exact vx_ret (am_zret (v' := (1 : Int32)) X hr rfl hh (fun t ht => am_qpX (mk := oI) hF ht) (Nat.le_of_ble_eq_true rfl) (Nat.le_of_ble_eq_true rfl) dX10_isDry_22)
set_option maxHeartbeats 4000000 in
set_option maxRecDepth 100000 in
theorem c_X10_wear (l : Launch) (G : GG) (hst : l.stackTraces = false) {w : Wd} {x1 : Int32} {z0 : (Nat ⊕ Int32)} (hF : f_X10_wear w x1 = some z0) : vx_Met l yX10_wear wsX10_wear ({ frames := 7, cells := 2, slots := 12, locals := 111 } : Room) (va_Pc [.ref (gAd G 0), .int x1] (Rel G w)) (amR G oI z0 w) (amX G z0 w) 2 12 (gA G) := by
  refine am_metX (own := RX10) (cc := cX10_wear) (maxL := 2) (ret := (some .int)) (by decide +kernel) rfl rfl (Nat.le_of_ble_eq_true rfl) ?_
  intro p e s m args below meth c ab H locs ls X hr htb hh hl
  have hx := X.1.1; have hb := X.1.2.1; have hml := X.1.2.2.1; have hown := X.1.2.2.2.1; have hts := X.1.2.2.2.2
  have hl : lv_has ls 2 [(0, .ref (gAd G 0)), (1, .int x1)] := hl
  have hwRX10 : ∀ z ∈ u_ws RX10 TX10 13, z ∈ wsX10_wear := by decide +kernel
  have hwRX7 : ∀ z ∈ u_ws RX7 TX7 17, z ∈ wsX10_wear := by decide +kernel
  unfold f_X10_wear at hF
  refine lv_aload_n hx hb dX10_wear_0 rfl (lv_at hl 0 rfl) ?_
  refine lv_iload_n hx hb dX10_wear_1 rfl (lv_at hl 1 rfl) ?_
  obtain ⟨z3, hk1, hF⟩ := am_bind hF
  refine am_callX X hh (vx_runV (As := [.int x1]) (rest := []) X.1 (c_X10_checkGear l G hst hk1) (cwV 1 hts gX10_wear_X10_checkGear rfl rfl rfl (by decide +kernel) ⟨Nat.le_of_ble_eq_true rfl, Nat.le_of_ble_eq_true rfl⟩) (am_preV X hh 0 11 (by decide) rfl rfl) rfl rfl hl.1 rfl (lv_room (Nat.le_of_ble_eq_true rfl)) dX10_wear_2 ⟨Nat.le_of_ble_eq_true rfl, Nat.le_of_ble_eq_true rfl⟩) (fun k ab H locs ce q hz hh hce hcv hcl => ?_) (fun r2 ab H locs hz hh => ?_)
  · subst hz
    have hF := am_zl hF
    exact am_out X htb hh (am_zp hF) rfl hce hcv hcl (Nat.le_of_ble_eq_true rfl) (Nat.le_of_ble_eq_true rfl)
  · subst hz
    have hF := am_zr hF
    refine lv_aload_n hx hb dX10_wear_5 rfl (lv_at hl 0 rfl) ?_
    refine am_getR X hh 0 11 0 1 (by decide) rfl rfl (by decide) hwRX10 (show Cond.fieldLink RX10 12 "PlanetWorkshop" "now" "LPlanetWorkshop$State;" ∈ wsX10_wear by decide +kernel) rfl dX10_wear_6 ?_
    refine am_getR X hh 1 9 2 4 (by decide) rfl rfl (by decide) hwRX7 (show Cond.fieldLink RX10 211 "PlanetWorkshop$State" "oiled" "[Z" ∈ wsX10_wear by decide +kernel) rfl dX10_wear_9 ?_
    refine lv_iload_n hx hb dX10_wear_12 rfl (lv_at hl 1 rfl) ?_
    obtain ⟨hq4, hF⟩ := am_ifR hF
    refine am_zald X hh 4 (by decide) rfl hq4 dX10_wear_13 ?_
    refine lv_if_ne (tgt := 25) hx hb dX10_wear_14 (by decide) (fun hc5 => ?_) (fun hc5 => ?_)
    · have hF := am_neg hc5 hF
      refine lv_aload_n hx hb dX10_wear_25 rfl (lv_at hl 0 rfl) ?_
      refine am_getR X hh 0 11 0 1 (by decide) rfl rfl (by decide) hwRX10 (show Cond.fieldLink RX10 12 "PlanetWorkshop" "now" "LPlanetWorkshop$State;" ∈ wsX10_wear by decide +kernel) rfl dX10_wear_26 ?_
      refine am_getR X hh 1 9 3 5 (by decide) rfl rfl (by decide) hwRX7 (show Cond.fieldLink RX10 214 "PlanetWorkshop$State" "wears" "[J" ∈ wsX10_wear by decide +kernel) rfl dX10_wear_29 ?_
      refine lv_iload_n hx hb dX10_wear_32 rfl (lv_at hl 1 rfl) ?_
      obtain ⟨hq6, hF⟩ := am_ifR hF
      refine am_lald X hh 5 (by decide) rfl hq6 dX10_wear_33 ?_
      refine lv_ldc2 (v := (24883200000 : Int64)) hx hb hown (hts _ (show Cond.constantLong RX10 217 (24883200000) ∈ wsX10_wear by decide +kernel)) dX10_wear_34 ?_
      obtain ⟨r8, hk7, hF⟩ := am_bind hF
      refine am_call X hh (va_runS (As := [.long (gL w 5 (x1).toNatClampNeg), .long (24883200000 : Int64)]) (rest := []) X.1 (c_X4_quotient l G hk7) (va_cwS 2 hts gX10_wear_X4_quotient rfl rfl rfl (by decide +kernel) ⟨Nat.le_of_ble_eq_true rfl, Nat.le_of_ble_eq_true rfl⟩) (am_preS X hh) rfl rfl hl.1 rfl (lv_room (Nat.le_of_ble_eq_true rfl)) dX10_wear_37 ⟨Nat.le_of_ble_eq_true rfl, Nat.le_of_ble_eq_true rfl⟩) (fun ab H locs hh => ?_)
      refine lv_l2i hx hb dX10_wear_40 rfl ?_
      exact vx_ret (am_iret X hr hh (fun t ht => am_qpX (mk := oI) hF ht) (Nat.le_of_ble_eq_true rfl) (Nat.le_of_ble_eq_true rfl) dX10_wear_41)
    · have hF := am_pos hc5 hF
      exact am_throw (k := 4) (ic := 146) X hst htb hh hl (show Cond.classLink RX10 144 "java/util/NoSuchElementException" ∈ wsX10_wear by decide +kernel) (show Cond.initialized "java/util/NoSuchElementException" ∈ wsX10_wear by decide +kernel) (fun q hq => List.mem_cons_of_mem _ (List.mem_append_left _ (List.mem_append_right _ hq))) (by decide +kernel) (ng_4 _ _) (ot_4 _ _) dX10_wear_17 dX10_wear_20 dX10_wear_21 dX10_wear_24 (Nat.le_of_ble_eq_true rfl) (Nat.le_of_ble_eq_true rfl) (Nat.le_of_ble_eq_true rfl) (Nat.le_of_ble_eq_true rfl) (am_zp hF) rfl (Nat.le_of_ble_eq_true rfl) (Nat.le_of_ble_eq_true rfl)
set_option maxHeartbeats 4000000 in
set_option maxRecDepth 100000 in
theorem c_X10_gearOf (l : Launch) (G : GG) (hst : l.stackTraces = false) {w : Wd} {x1 : Int32} {z0 : (Nat ⊕ Int32)} (hF : f_X10_gearOf w x1 = some z0) : vx_Met l yX10_gearOf wsX10_gearOf ({ frames := 7, cells := 1, slots := 6, locals := 111 } : Room) (va_Pc [.ref (gAd G 0), .int x1] (Rel G w)) (amR G oI z0 w) (amX G z0 w) 1 6 (gA G) := by
  refine am_metX (own := RX10) (cc := cX10_gearOf) (maxL := 2) (ret := (some .int)) (by decide +kernel) rfl rfl (Nat.le_of_ble_eq_true rfl) ?_
  intro p e s m args below meth c ab H locs ls X hr htb hh hl
  have hx := X.1.1; have hb := X.1.2.1; have hml := X.1.2.2.1; have hown := X.1.2.2.2.1; have hts := X.1.2.2.2.2
  have hl : lv_has ls 2 [(0, .ref (gAd G 0)), (1, .int x1)] := hl
  have hwRX10 : ∀ z ∈ u_ws RX10 TX10 13, z ∈ wsX10_gearOf := by decide +kernel
  have hwRX7 : ∀ z ∈ u_ws RX7 TX7 17, z ∈ wsX10_gearOf := by decide +kernel
  unfold f_X10_gearOf at hF
  refine lv_aload_n hx hb dX10_gearOf_0 rfl (lv_at hl 0 rfl) ?_
  refine lv_iload_n hx hb dX10_gearOf_1 rfl (lv_at hl 1 rfl) ?_
  obtain ⟨z3, hk1, hF⟩ := am_bind hF
  refine am_callX X hh (vx_runV (As := [.int x1]) (rest := []) X.1 (c_X10_checkPlanet l G hst hk1) (cwV 1 hts gX10_gearOf_X10_checkPlanet rfl rfl rfl (by decide +kernel) ⟨Nat.le_of_ble_eq_true rfl, Nat.le_of_ble_eq_true rfl⟩) (am_preV X hh 0 11 (by decide) rfl rfl) rfl rfl hl.1 rfl (lv_room (Nat.le_of_ble_eq_true rfl)) dX10_gearOf_2 ⟨Nat.le_of_ble_eq_true rfl, Nat.le_of_ble_eq_true rfl⟩) (fun k ab H locs ce q hz hh hce hcv hcl => ?_) (fun r2 ab H locs hz hh => ?_)
  · subst hz
    have hF := am_zl hF
    exact am_out X htb hh (am_zp hF) rfl hce hcv hcl (Nat.le_of_ble_eq_true rfl) (Nat.le_of_ble_eq_true rfl)
  · subst hz
    have hF := am_zr hF
    refine lv_aload_n hx hb dX10_gearOf_5 rfl (lv_at hl 0 rfl) ?_
    refine am_getR X hh 0 11 0 1 (by decide) rfl rfl (by decide) hwRX10 (show Cond.fieldLink RX10 12 "PlanetWorkshop" "now" "LPlanetWorkshop$State;" ∈ wsX10_gearOf by decide +kernel) rfl dX10_gearOf_6 ?_
    refine am_getR X hh 1 9 9 11 (by decide) rfl rfl (by decide) hwRX7 (show Cond.fieldLink RX10 228 "PlanetWorkshop$State" "carriers" "[I" ∈ wsX10_gearOf by decide +kernel) rfl dX10_gearOf_9 ?_
    refine lv_iload_n hx hb dX10_gearOf_12 rfl (lv_at hl 1 rfl) ?_
    obtain ⟨hq4, hF⟩ := am_ifR hF
    refine am_iald X hh 11 (by decide) rfl hq4 dX10_gearOf_13 ?_
    exact vx_ret (am_iret X hr hh (fun t ht => am_qpX (mk := oI) hF ht) (Nat.le_of_ble_eq_true rfl) (Nat.le_of_ble_eq_true rfl) dX10_gearOf_14)
set_option maxHeartbeats 4000000 in
set_option maxRecDepth 100000 in
theorem c_X10_areInLine (l : Launch) (G : GG) (hst : l.stackTraces = false) {w : Wd} {x1 : Int32} {x2 : Int32} {z0 : (Nat ⊕ Int32)} (hF : f_X10_areInLine w x1 x2 = some z0) : vx_Met l yX10_areInLine wsX10_areInLine ({ frames := 7, cells := 3, slots := 18, locals := 111 } : Room) (va_Pc [.ref (gAd G 0), .int x1, .int x2] (Rel G w)) (amR G oI z0 w) (amX G z0 w) 3 18 (gA G) := by
  refine am_metX (own := RX10) (cc := cX10_areInLine) (maxL := 3) (ret := (some .boolean)) (by decide +kernel) rfl rfl (Nat.le_of_ble_eq_true rfl) ?_
  intro p e s m args below meth c ab H locs ls X hr htb hh hl
  have hx := X.1.1; have hb := X.1.2.1; have hml := X.1.2.2.1; have hown := X.1.2.2.2.1; have hts := X.1.2.2.2.2
  have hl : lv_has ls 3 [(0, .ref (gAd G 0)), (1, .int x1), (2, .int x2)] := hl
  have hwRX10 : ∀ z ∈ u_ws RX10 TX10 13, z ∈ wsX10_areInLine := by decide +kernel
  have hwRX7 : ∀ z ∈ u_ws RX7 TX7 17, z ∈ wsX10_areInLine := by decide +kernel
  unfold f_X10_areInLine at hF
  refine lv_aload_n hx hb dX10_areInLine_0 rfl (lv_at hl 0 rfl) ?_
  refine lv_iload_n hx hb dX10_areInLine_1 rfl (lv_at hl 1 rfl) ?_
  obtain ⟨z3, hk1, hF⟩ := am_bind hF
  refine am_callX X hh (vx_runV (As := [.int x1]) (rest := []) X.1 (c_X10_checkPlanet l G hst hk1) (cwV 1 hts gX10_areInLine_X10_checkPlanet rfl rfl rfl (by decide +kernel) ⟨Nat.le_of_ble_eq_true rfl, Nat.le_of_ble_eq_true rfl⟩) (am_preV X hh 0 11 (by decide) rfl rfl) rfl rfl hl.1 rfl (lv_room (Nat.le_of_ble_eq_true rfl)) dX10_areInLine_2 ⟨Nat.le_of_ble_eq_true rfl, Nat.le_of_ble_eq_true rfl⟩) (fun k ab H locs ce q hz hh hce hcv hcl => ?_) (fun r2 ab H locs hz hh => ?_)
  · subst hz
    have hF := am_zl hF
    exact am_out X htb hh (am_zp hF) rfl hce hcv hcl (Nat.le_of_ble_eq_true rfl) (Nat.le_of_ble_eq_true rfl)
  · subst hz
    have hF := am_zr hF
    refine lv_aload_n hx hb dX10_areInLine_5 rfl (lv_at hl 0 rfl) ?_
    refine lv_iload_n hx hb dX10_areInLine_6 rfl (lv_at hl 2 rfl) ?_
    obtain ⟨z6, hk4, hF⟩ := am_bind hF
    refine am_callX X hh (vx_runV (As := [.int x2]) (rest := []) X.1 (c_X10_checkPlanet l G hst hk4) (cwV 1 hts gX10_areInLine_X10_checkPlanet rfl rfl rfl (by decide +kernel) ⟨Nat.le_of_ble_eq_true rfl, Nat.le_of_ble_eq_true rfl⟩) (am_preV X hh 0 11 (by decide) rfl rfl) rfl rfl hl.1 rfl (lv_room (Nat.le_of_ble_eq_true rfl)) dX10_areInLine_7 ⟨Nat.le_of_ble_eq_true rfl, Nat.le_of_ble_eq_true rfl⟩) (fun k ab H locs ce q hz hh hce hcv hcl => ?_) (fun r5 ab H locs hz hh => ?_)
    · subst hz
      have hF := am_zl hF
      exact am_out X htb hh (am_zp hF) rfl hce hcv hcl (Nat.le_of_ble_eq_true rfl) (Nat.le_of_ble_eq_true rfl)
    · subst hz
      have hF := am_zr hF
      refine lv_iload_n hx hb dX10_areInLine_10 rfl (lv_at hl 1 rfl) ?_
      refine lv_iload_n hx hb dX10_areInLine_11 rfl (lv_at hl 2 rfl) ?_
      refine lv_icmp_ne (tgt := 23) hx hb dX10_areInLine_12 (by decide) (fun hc7 => ?_) (fun hc7 => ?_)
      · have hF := am_neg hc7 hF
        refine lv_aload_n hx hb dX10_areInLine_23 rfl (lv_at hl 0 rfl) ?_
        refine am_getR X hh 0 11 0 1 (by decide) rfl rfl (by decide) hwRX10 (show Cond.fieldLink RX10 12 "PlanetWorkshop" "now" "LPlanetWorkshop$State;" ∈ wsX10_areInLine by decide +kernel) rfl dX10_areInLine_24 ?_
        refine am_getR X hh 1 9 1 3 (by decide) rfl rfl (by decide) hwRX7 (show Cond.fieldLink RX10 172 "PlanetWorkshop$State" "angles" "[J" ∈ wsX10_areInLine by decide +kernel) rfl dX10_areInLine_27 ?_
        refine lv_aload_n hx hb dX10_areInLine_30 rfl (lv_at hl 0 rfl) ?_
        refine am_getR X hh 0 11 0 1 (by decide) rfl rfl (by decide) hwRX10 (show Cond.fieldLink RX10 12 "PlanetWorkshop" "now" "LPlanetWorkshop$State;" ∈ wsX10_areInLine by decide +kernel) rfl dX10_areInLine_31 ?_
        refine am_getR X hh 1 9 9 11 (by decide) rfl rfl (by decide) hwRX7 (show Cond.fieldLink RX10 228 "PlanetWorkshop$State" "carriers" "[I" ∈ wsX10_areInLine by decide +kernel) rfl dX10_areInLine_34 ?_
        refine lv_iload_n hx hb dX10_areInLine_37 rfl (lv_at hl 1 rfl) ?_
        obtain ⟨hq8, hF⟩ := am_ifR hF
        refine am_iald X hh 11 (by decide) rfl hq8 dX10_areInLine_38 ?_
        obtain ⟨hq9, hF⟩ := am_ifR hF
        refine am_lald X hh 3 (by decide) rfl hq9 dX10_areInLine_39 ?_
        refine lv_aload_n hx hb dX10_areInLine_40 rfl (lv_at hl 0 rfl) ?_
        refine am_getR X hh 0 11 0 1 (by decide) rfl rfl (by decide) hwRX10 (show Cond.fieldLink RX10 12 "PlanetWorkshop" "now" "LPlanetWorkshop$State;" ∈ wsX10_areInLine by decide +kernel) rfl dX10_areInLine_41 ?_
        refine am_getR X hh 1 9 1 3 (by decide) rfl rfl (by decide) hwRX7 (show Cond.fieldLink RX10 172 "PlanetWorkshop$State" "angles" "[J" ∈ wsX10_areInLine by decide +kernel) rfl dX10_areInLine_44 ?_
        refine lv_aload_n hx hb dX10_areInLine_47 rfl (lv_at hl 0 rfl) ?_
        refine am_getR X hh 0 11 0 1 (by decide) rfl rfl (by decide) hwRX10 (show Cond.fieldLink RX10 12 "PlanetWorkshop" "now" "LPlanetWorkshop$State;" ∈ wsX10_areInLine by decide +kernel) rfl dX10_areInLine_48 ?_
        refine am_getR X hh 1 9 9 11 (by decide) rfl rfl (by decide) hwRX7 (show Cond.fieldLink RX10 228 "PlanetWorkshop$State" "carriers" "[I" ∈ wsX10_areInLine by decide +kernel) rfl dX10_areInLine_51 ?_
        refine lv_iload_n hx hb dX10_areInLine_54 rfl (lv_at hl 2 rfl) ?_
        obtain ⟨hq10, hF⟩ := am_ifR hF
        refine am_iald X hh 11 (by decide) rfl hq10 dX10_areInLine_55 ?_
        obtain ⟨hq11, hF⟩ := am_ifR hF
        refine am_lald X hh 3 (by decide) rfl hq11 dX10_areInLine_56 ?_
        refine am_lcmp_ne (tgt := 65) hx hb dX10_areInLine_57 dX10_areInLine_58 (by decide) (fun hc12 => ?_) (fun hc12 => ?_)
        · have hF := am_neg hc12 hF
          refine lv_iconst (v := (0 : Int32)) hx hb dX10_areInLine_65 (by decide) ?_
          exact vx_ret (am_zret (v' := (0 : Int32)) X hr rfl hh (fun t ht => am_qpX (mk := oI) hF ht) (Nat.le_of_ble_eq_true rfl) (Nat.le_of_ble_eq_true rfl) dX10_areInLine_66)
        · have hF := am_pos hc12 hF
          refine lv_iconst (v := (1 : Int32)) hx hb dX10_areInLine_61 (by decide) ?_
          refine lv_goto (tgt := 66) hx hb dX10_areInLine_62 (by decide) ?_
          exact vx_ret (am_zret (v' := (1 : Int32)) X hr rfl hh (fun t ht => am_qpX (mk := oI) hF ht) (Nat.le_of_ble_eq_true rfl) (Nat.le_of_ble_eq_true rfl) dX10_areInLine_66)
      · have hF := am_pos hc7 hF
        exact am_throw (k := 1) (ic := 233) X hst htb hh hl (show Cond.classLink RX10 231 "java/lang/IllegalArgumentException" ∈ wsX10_areInLine by decide +kernel) (show Cond.initialized "java/lang/IllegalArgumentException" ∈ wsX10_areInLine by decide +kernel) (fun q hq => List.mem_cons_of_mem _ (List.mem_append_left _ (List.mem_append_left _ (List.mem_append_right _ hq)))) (by decide +kernel) (ng_1 _ _) (ot_1 _ _) dX10_areInLine_15 dX10_areInLine_18 dX10_areInLine_19 dX10_areInLine_22 (Nat.le_of_ble_eq_true rfl) (Nat.le_of_ble_eq_true rfl) (Nat.le_of_ble_eq_true rfl) (Nat.le_of_ble_eq_true rfl) (am_zp hF) rfl (Nat.le_of_ble_eq_true rfl) (Nat.le_of_ble_eq_true rfl)
set_option maxHeartbeats 4000000 in
set_option maxRecDepth 100000 in
theorem c_X10_fewestPairs (l : Launch) (G : GG) (hst : l.stackTraces = false) {w : Wd} {x1 : Int32} {x2 : Int32} {z0 : (Nat ⊕ Int32)} (hF : f_X10_fewestPairs w x1 x2 = some z0) : vx_Met l yX10_fewestPairs wsX10_fewestPairs ({ frames := 7, cells := 2, slots := 12, locals := 111 } : Room) (va_Pc [.ref (gAd G 0), .int x1, .int x2] (Rel G w)) (amR G oI z0 w) (amX G z0 w) 2 12 (gA G) := by
  refine am_metX (own := RX10) (cc := cX10_fewestPairs) (maxL := 3) (ret := (some .int)) (by decide +kernel) rfl rfl (Nat.le_of_ble_eq_true rfl) ?_
  intro p e s m args below meth c ab H locs ls X hr htb hh hl
  have hx := X.1.1; have hb := X.1.2.1; have hml := X.1.2.2.1; have hown := X.1.2.2.2.1; have hts := X.1.2.2.2.2
  have hl : lv_has ls 3 [(0, .ref (gAd G 0)), (1, .int x1), (2, .int x2)] := hl
  have hwRX10 : ∀ z ∈ u_ws RX10 TX10 13, z ∈ wsX10_fewestPairs := by decide +kernel
  unfold f_X10_fewestPairs at hF
  refine lv_iload_n hx hb dX10_fewestPairs_0 rfl (lv_at hl 1 rfl) ?_
  refine lv_iload_n hx hb dX10_fewestPairs_1 rfl (lv_at hl 2 rfl) ?_
  obtain ⟨z3, hk1, hF⟩ := am_bind hF
  refine am_callX X hh (vx_runS (As := [.int x1, .int x2]) (rest := []) X.1 (c_X10_checkRatio l G hst hk1) (va_cwS 2 hts gX10_fewestPairs_X10_checkRatio rfl rfl rfl (by decide +kernel) ⟨Nat.le_of_ble_eq_true rfl, Nat.le_of_ble_eq_true rfl⟩) (am_preS X hh) rfl rfl hl.1 rfl (lv_room (Nat.le_of_ble_eq_true rfl)) dX10_fewestPairs_2 ⟨Nat.le_of_ble_eq_true rfl, Nat.le_of_ble_eq_true rfl⟩) (fun k ab H locs ce q hz hh hce hcv hcl => ?_) (fun r2 ab H locs hz hh => ?_)
  · subst hz
    have hF := am_zl hF
    exact am_out X htb hh (am_zp hF) rfl hce hcv hcl (Nat.le_of_ble_eq_true rfl) (Nat.le_of_ble_eq_true rfl)
  · subst hz
    have hF := am_zr hF
    refine lv_aload_n hx hb dX10_fewestPairs_5 rfl (lv_at hl 0 rfl) ?_
    refine am_getR X hh 0 11 8 129 (by decide) rfl rfl (by decide) hwRX10 (show Cond.fieldLink RX10 61 "PlanetWorkshop" "ratios" "LPlanetWorkshop$Ratios;" ∈ wsX10_fewestPairs by decide +kernel) rfl dX10_fewestPairs_6 ?_
    refine lv_iload_n hx hb dX10_fewestPairs_9 rfl (lv_at hl 1 rfl) ?_
    refine lv_iload_n hx hb dX10_fewestPairs_10 rfl (lv_at hl 2 rfl) ?_
    obtain ⟨r5, hk4, hF⟩ := am_bind hF
    refine am_call X hh (va_runV (As := [.int x1, .int x2]) (rest := []) X.1 (c_X5_byTrying l G hk4) (cwV 2 hts gX10_fewestPairs_X5_byTrying rfl rfl rfl (by decide +kernel) ⟨Nat.le_of_ble_eq_true rfl, Nat.le_of_ble_eq_true rfl⟩) (am_preV X hh 129 7 (by decide) rfl rfl) rfl rfl hl.1 rfl (lv_room (Nat.le_of_ble_eq_true rfl)) dX10_fewestPairs_11 ⟨Nat.le_of_ble_eq_true rfl, Nat.le_of_ble_eq_true rfl⟩) (fun ab H locs hh => ?_)
    obtain ⟨z8, hk6, hF⟩ := am_bind hF
    refine am_callX X hh (vx_runS (As := [.int r5]) (rest := []) X.1 (c_X10_found l G hst hk6) (va_cwS 1 hts gX10_fewestPairs_X10_found rfl rfl rfl (by decide +kernel) ⟨Nat.le_of_ble_eq_true rfl, Nat.le_of_ble_eq_true rfl⟩) (am_preS X hh) rfl rfl hl.1 rfl (lv_room (Nat.le_of_ble_eq_true rfl)) dX10_fewestPairs_14 ⟨Nat.le_of_ble_eq_true rfl, Nat.le_of_ble_eq_true rfl⟩) (fun k ab H locs ce q hz hh hce hcv hcl => ?_) (fun r7 ab H locs hz hh => ?_)
    · subst hz
      have hF := am_zl hF
      exact am_out X htb hh (am_zp hF) rfl hce hcv hcl (Nat.le_of_ble_eq_true rfl) (Nat.le_of_ble_eq_true rfl)
    · subst hz
      have hF := am_zr hF
      exact vx_ret (am_iret X hr hh (fun t ht => am_qpX (mk := oI) hF ht) (Nat.le_of_ble_eq_true rfl) (Nat.le_of_ble_eq_true rfl) dX10_fewestPairs_17)
set_option maxHeartbeats 4000000 in
set_option maxRecDepth 100000 in
theorem c_X10_renderGear (l : Launch) (G : GG) (hst : l.stackTraces = false) {w : Wd} {x1 : Int32} {z0 : (Nat ⊕ Int32)} {w1 : Wd} (hF : f_X10_renderGear w x1 = some (z0, w1)) : vx_Met l yX10_renderGear wsX10_renderGear ({ frames := 7, cells := 12, slots := 710, locals := 186 } : Room) (va_Pc [.ref (gAd G 0), .int x1] (Rel G w)) (amR G oI z0 w1) (amX G z0 w1) 12 710 (gA G) := by
  refine am_metX (own := RX10) (cc := cX10_renderGear) (maxL := 2) (ret := (some .int)) (by decide +kernel) rfl rfl (Nat.le_of_ble_eq_true rfl) ?_
  intro p e s m args below meth c ab H locs ls X hr htb hh hl
  have hx := X.1.1; have hb := X.1.2.1; have hml := X.1.2.2.1; have hown := X.1.2.2.2.1; have hts := X.1.2.2.2.2
  have hl : lv_has ls 2 [(0, .ref (gAd G 0)), (1, .int x1)] := hl
  have hwRX10 : ∀ z ∈ u_ws RX10 TX10 13, z ∈ wsX10_renderGear := by decide +kernel
  have hwRX7 : ∀ z ∈ u_ws RX7 TX7 17, z ∈ wsX10_renderGear := by decide +kernel
  unfold f_X10_renderGear at hF
  refine lv_aload_n hx hb dX10_renderGear_0 rfl (lv_at hl 0 rfl) ?_
  refine lv_iload_n hx hb dX10_renderGear_1 rfl (lv_at hl 1 rfl) ?_
  obtain ⟨z3, hk1, hF⟩ := am_bind hF
  refine am_callX X hh (vx_runV (As := [.int x1]) (rest := []) X.1 (c_X10_checkGear l G hst hk1) (cwV 1 hts gX10_renderGear_X10_checkGear rfl rfl rfl (by decide +kernel) ⟨Nat.le_of_ble_eq_true rfl, Nat.le_of_ble_eq_true rfl⟩) (am_preV X hh 0 11 (by decide) rfl rfl) rfl rfl hl.1 rfl (lv_room (Nat.le_of_ble_eq_true rfl)) dX10_renderGear_2 ⟨Nat.le_of_ble_eq_true rfl, Nat.le_of_ble_eq_true rfl⟩) (fun k ab H locs ce q hz hh hce hcv hcl => ?_) (fun r2 ab H locs hz hh => ?_)
  · subst hz
    have hF := am_zl hF
    exact am_out X htb hh (am_zw hF).1 (am_zw hF).2 hce hcv hcl (Nat.le_of_ble_eq_true rfl) (Nat.le_of_ble_eq_true rfl)
  · subst hz
    have hF := am_zr hF
    refine lv_aload_n hx hb dX10_renderGear_5 rfl (lv_at hl 0 rfl) ?_
    refine am_getR X hh 0 11 10 139 (by decide) rfl rfl (by decide) hwRX10 (show Cond.fieldLink RX10 75 "PlanetWorkshop" "output" "Ljava/lang/StringBuilder;" ∈ wsX10_renderGear by decide +kernel) rfl dX10_renderGear_6 ?_
    refine lv_iconst (v := (0 : Int32)) hx hb dX10_renderGear_9 (by decide) ?_
    obtain ⟨w6, hk4, hF⟩ := am_bind hF
    refine am_call X hh (va_runV (As := [.int (0 : Int32)]) (rest := []) X.1 (c_J4_setLength_d00df l G hk4) (cwV 1 hts gX10_renderGear_J4_setLength_d00df rfl rfl rfl (by decide +kernel) ⟨Nat.le_of_ble_eq_true rfl, Nat.le_of_ble_eq_true rfl⟩) (am_preV X hh 139 1 (by decide) rfl rfl) rfl rfl hl.1 rfl (lv_room (Nat.le_of_ble_eq_true rfl)) dX10_renderGear_10 ⟨Nat.le_of_ble_eq_true rfl, Nat.le_of_ble_eq_true rfl⟩) (fun ab H locs hh => ?_)
    refine lv_aload_n hx hb dX10_renderGear_13 rfl (lv_at hl 0 rfl) ?_
    refine am_getR X hh 0 11 10 139 (by decide) rfl rfl (by decide) hwRX10 (show Cond.fieldLink RX10 75 "PlanetWorkshop" "output" "Ljava/lang/StringBuilder;" ∈ wsX10_renderGear by decide +kernel) rfl dX10_renderGear_14 ?_
    refine lv_iload_n hx hb dX10_renderGear_17 rfl (lv_at hl 1 rfl) ?_
    obtain ⟨w9, hk7, hF⟩ := am_bind hF
    refine am_call X hh (va_runV (As := [.int x1]) (rest := []) X.1 (c_J4_append_bf812 l G hk7) (cwV 1 hts gX10_renderGear_J4_append_bf812 rfl rfl rfl (by decide +kernel) ⟨Nat.le_of_ble_eq_true rfl, Nat.le_of_ble_eq_true rfl⟩) (am_preV X hh 139 1 (by decide) rfl rfl) rfl rfl hl.1 rfl (lv_room (Nat.le_of_ble_eq_true rfl)) dX10_renderGear_18 ⟨Nat.le_of_ble_eq_true rfl, Nat.le_of_ble_eq_true rfl⟩) (fun ab H locs hh => ?_)
    refine lv_bipush (v := (58 : Int32)) hx hb dX10_renderGear_21 (by decide) ?_
    obtain ⟨w12, hk10, hF⟩ := am_bind hF
    refine am_call X hh (va_runV (As := [.int (58 : Int32)]) (rest := []) X.1 (c_J4_append_cf468 l G hk10) (cwV 1 hts gX10_renderGear_J4_append_cf468 rfl rfl rfl (by decide +kernel) ⟨Nat.le_of_ble_eq_true rfl, Nat.le_of_ble_eq_true rfl⟩) (am_preV X hh 139 1 (by decide) rfl rfl) rfl rfl hl.1 rfl (lv_room (Nat.le_of_ble_eq_true rfl)) dX10_renderGear_23 ⟨Nat.le_of_ble_eq_true rfl, Nat.le_of_ble_eq_true rfl⟩) (fun ab H locs hh => ?_)
    refine lv_aload_n hx hb dX10_renderGear_26 rfl (lv_at hl 0 rfl) ?_
    refine am_getR X hh 0 11 0 1 (by decide) rfl rfl (by decide) hwRX10 (show Cond.fieldLink RX10 12 "PlanetWorkshop" "now" "LPlanetWorkshop$State;" ∈ wsX10_renderGear by decide +kernel) rfl dX10_renderGear_27 ?_
    refine am_getR X hh 1 9 0 2 (by decide) rfl rfl (by decide) hwRX7 (show Cond.fieldLink RX10 136 "PlanetWorkshop$State" "teeth" "[I" ∈ wsX10_renderGear by decide +kernel) rfl dX10_renderGear_30 ?_
    refine lv_iload_n hx hb dX10_renderGear_33 rfl (lv_at hl 1 rfl) ?_
    obtain ⟨hq13, hF⟩ := am_ifR hF
    refine am_iald X hh 2 (by decide) rfl hq13 dX10_renderGear_34 ?_
    obtain ⟨w16, hk14, hF⟩ := am_bind hF
    refine am_call X hh (va_runV (As := [.int (gI w12 2 (x1).toNatClampNeg)]) (rest := []) X.1 (c_J4_append_bf812 l G hk14) (cwV 1 hts gX10_renderGear_J4_append_bf812 rfl rfl rfl (by decide +kernel) ⟨Nat.le_of_ble_eq_true rfl, Nat.le_of_ble_eq_true rfl⟩) (am_preV X hh 139 1 (by decide) rfl rfl) rfl rfl hl.1 rfl (lv_room (Nat.le_of_ble_eq_true rfl)) dX10_renderGear_35 ⟨Nat.le_of_ble_eq_true rfl, Nat.le_of_ble_eq_true rfl⟩) (fun ab H locs hh => ?_)
    refine lv_pop hx hb dX10_renderGear_38 rfl ?_
    refine lv_aload_n hx hb dX10_renderGear_39 rfl (lv_at hl 0 rfl) ?_
    refine am_getR X hh 0 11 0 1 (by decide) rfl rfl (by decide) hwRX10 (show Cond.fieldLink RX10 12 "PlanetWorkshop" "now" "LPlanetWorkshop$State;" ∈ wsX10_renderGear by decide +kernel) rfl dX10_renderGear_40 ?_
    refine am_getR X hh 1 9 2 4 (by decide) rfl rfl (by decide) hwRX7 (show Cond.fieldLink RX10 211 "PlanetWorkshop$State" "oiled" "[Z" ∈ wsX10_renderGear by decide +kernel) rfl dX10_renderGear_43 ?_
    refine lv_iload_n hx hb dX10_renderGear_46 rfl (lv_at hl 1 rfl) ?_
    obtain ⟨hq17, hF⟩ := am_ifR hF
    refine am_zald X hh 4 (by decide) rfl hq17 dX10_renderGear_47 ?_
    refine lv_if_ne (tgt := 61) hx hb dX10_renderGear_48 (by decide) (fun hc18 => ?_) (fun hc18 => ?_)
    · have hF := am_neg hc18 hF
      refine lv_aload_n hx hb dX10_renderGear_61 rfl (lv_at hl 0 rfl) ?_
      refine am_getR X hh 0 11 0 1 (by decide) rfl rfl (by decide) hwRX10 (show Cond.fieldLink RX10 12 "PlanetWorkshop" "now" "LPlanetWorkshop$State;" ∈ wsX10_renderGear by decide +kernel) rfl dX10_renderGear_62 ?_
      refine am_getR X hh 1 9 4 6 (by decide) rfl rfl (by decide) hwRX7 (show Cond.fieldLink RX10 207 "PlanetWorkshop$State" "ratchets" "[Z" ∈ wsX10_renderGear by decide +kernel) rfl dX10_renderGear_65 ?_
      refine lv_iload_n hx hb dX10_renderGear_68 rfl (lv_at hl 1 rfl) ?_
      obtain ⟨hq19, hF⟩ := am_ifR hF
      refine am_zald X hh 6 (by decide) rfl hq19 dX10_renderGear_69 ?_
      refine lv_if_eq (tgt := 83) hx hb dX10_renderGear_70 (by decide) (fun hc20 => ?_) (fun hc20 => ?_)
      · have hF := am_pos hc20 hF
        refine lv_aload_n hx hb dX10_renderGear_83 rfl (lv_at hl 0 rfl) ?_
        refine am_getR X hh 0 11 0 1 (by decide) rfl rfl (by decide) hwRX10 (show Cond.fieldLink RX10 12 "PlanetWorkshop" "now" "LPlanetWorkshop$State;" ∈ wsX10_renderGear by decide +kernel) rfl dX10_renderGear_84 ?_
        refine lv_iload_n hx hb dX10_renderGear_87 rfl (lv_at hl 1 rfl) ?_
        obtain ⟨r22, hk21, hF⟩ := am_bind hF
        refine am_call X hh (va_runV (As := [.int x1]) (rest := []) X.1 (c_X7_hasSpring l G hk21) (cwV 1 hts gX10_renderGear_X7_hasSpring rfl rfl rfl (by decide +kernel) ⟨Nat.le_of_ble_eq_true rfl, Nat.le_of_ble_eq_true rfl⟩) (am_preV X hh 1 9 (by decide) rfl rfl) rfl rfl hl.1 rfl (lv_room (Nat.le_of_ble_eq_true rfl)) dX10_renderGear_88 ⟨Nat.le_of_ble_eq_true rfl, Nat.le_of_ble_eq_true rfl⟩) (fun ab H locs hh => ?_)
        refine lv_if_eq (tgt := 155) hx hb dX10_renderGear_91 (by decide) (fun hc23 => ?_) (fun hc23 => ?_)
        · have hF := am_pos hc23 hF
          refine lv_aload_n hx hb dX10_renderGear_155 rfl (lv_at hl 0 rfl) ?_
          refine am_getR X hh 0 11 10 139 (by decide) rfl rfl (by decide) hwRX10 (show Cond.fieldLink RX10 75 "PlanetWorkshop" "output" "Ljava/lang/StringBuilder;" ∈ wsX10_renderGear by decide +kernel) rfl dX10_renderGear_156 ?_
          obtain ⟨r25, hk24, hF⟩ := am_bind hF
          refine am_call X hh (va_runV (As := []) (rest := []) X.1 (c_J4_length_8abf5 l G hk24) (cwV 0 hts gX10_renderGear_J4_length_8abf5 rfl rfl rfl (by decide +kernel) ⟨Nat.le_of_ble_eq_true rfl, Nat.le_of_ble_eq_true rfl⟩) (am_preV X hh 139 1 (by decide) rfl rfl) rfl rfl hl.1 rfl (lv_room (Nat.le_of_ble_eq_true rfl)) dX10_renderGear_159 ⟨Nat.le_of_ble_eq_true rfl, Nat.le_of_ble_eq_true rfl⟩) (fun ab H locs hh => ?_)
          exact vx_ret (am_iret X hr hh (fun t ht => am_qwX (mk := oI) hF ht) (Nat.le_of_ble_eq_true rfl) (Nat.le_of_ble_eq_true rfl) dX10_renderGear_162)
        · have hF := am_neg hc23 hF
          refine lv_aload_n hx hb dX10_renderGear_94 rfl (lv_at hl 0 rfl) ?_
          refine am_getR X hh 0 11 10 139 (by decide) rfl rfl (by decide) hwRX10 (show Cond.fieldLink RX10 75 "PlanetWorkshop" "output" "Ljava/lang/StringBuilder;" ∈ wsX10_renderGear by decide +kernel) rfl dX10_renderGear_95 ?_
          refine lv_bipush (v := (115 : Int32)) hx hb dX10_renderGear_98 (by decide) ?_
          obtain ⟨w28, hk26, hF⟩ := am_bind hF
          refine am_call X hh (va_runV (As := [.int (115 : Int32)]) (rest := []) X.1 (c_J4_append_cf468 l G hk26) (cwV 1 hts gX10_renderGear_J4_append_cf468 rfl rfl rfl (by decide +kernel) ⟨Nat.le_of_ble_eq_true rfl, Nat.le_of_ble_eq_true rfl⟩) (am_preV X hh 139 1 (by decide) rfl rfl) rfl rfl hl.1 rfl (lv_room (Nat.le_of_ble_eq_true rfl)) dX10_renderGear_100 ⟨Nat.le_of_ble_eq_true rfl, Nat.le_of_ble_eq_true rfl⟩) (fun ab H locs hh => ?_)
          refine lv_aload_n hx hb dX10_renderGear_103 rfl (lv_at hl 0 rfl) ?_
          refine am_getR X hh 0 11 0 1 (by decide) rfl rfl (by decide) hwRX10 (show Cond.fieldLink RX10 12 "PlanetWorkshop" "now" "LPlanetWorkshop$State;" ∈ wsX10_renderGear by decide +kernel) rfl dX10_renderGear_104 ?_
          refine am_getR X hh 1 9 6 8 (by decide) rfl rfl (by decide) hwRX7 (show Cond.fieldLink RX10 181 "PlanetWorkshop$State" "tensions" "[I" ∈ wsX10_renderGear by decide +kernel) rfl dX10_renderGear_107 ?_
          refine lv_iload_n hx hb dX10_renderGear_110 rfl (lv_at hl 1 rfl) ?_
          obtain ⟨hq29, hF⟩ := am_ifR hF
          refine am_iald X hh 8 (by decide) rfl hq29 dX10_renderGear_111 ?_
          obtain ⟨w32, hk30, hF⟩ := am_bind hF
          refine am_call X hh (va_runV (As := [.int (gI w28 8 (x1).toNatClampNeg)]) (rest := []) X.1 (c_J4_append_bf812 l G hk30) (cwV 1 hts gX10_renderGear_J4_append_bf812 rfl rfl rfl (by decide +kernel) ⟨Nat.le_of_ble_eq_true rfl, Nat.le_of_ble_eq_true rfl⟩) (am_preV X hh 139 1 (by decide) rfl rfl) rfl rfl hl.1 rfl (lv_room (Nat.le_of_ble_eq_true rfl)) dX10_renderGear_112 ⟨Nat.le_of_ble_eq_true rfl, Nat.le_of_ble_eq_true rfl⟩) (fun ab H locs hh => ?_)
          refine lv_bipush (v := (47 : Int32)) hx hb dX10_renderGear_115 (by decide) ?_
          obtain ⟨w35, hk33, hF⟩ := am_bind hF
          refine am_call X hh (va_runV (As := [.int (47 : Int32)]) (rest := []) X.1 (c_J4_append_cf468 l G hk33) (cwV 1 hts gX10_renderGear_J4_append_cf468 rfl rfl rfl (by decide +kernel) ⟨Nat.le_of_ble_eq_true rfl, Nat.le_of_ble_eq_true rfl⟩) (am_preV X hh 139 1 (by decide) rfl rfl) rfl rfl hl.1 rfl (lv_room (Nat.le_of_ble_eq_true rfl)) dX10_renderGear_117 ⟨Nat.le_of_ble_eq_true rfl, Nat.le_of_ble_eq_true rfl⟩) (fun ab H locs hh => ?_)
          refine lv_aload_n hx hb dX10_renderGear_120 rfl (lv_at hl 0 rfl) ?_
          refine am_getR X hh 0 11 0 1 (by decide) rfl rfl (by decide) hwRX10 (show Cond.fieldLink RX10 12 "PlanetWorkshop" "now" "LPlanetWorkshop$State;" ∈ wsX10_renderGear by decide +kernel) rfl dX10_renderGear_121 ?_
          refine am_getR X hh 1 9 5 7 (by decide) rfl rfl (by decide) hwRX7 (show Cond.fieldLink RX10 184 "PlanetWorkshop$State" "springSizes" "[I" ∈ wsX10_renderGear by decide +kernel) rfl dX10_renderGear_124 ?_
          refine lv_iload_n hx hb dX10_renderGear_127 rfl (lv_at hl 1 rfl) ?_
          obtain ⟨hq36, hF⟩ := am_ifR hF
          refine am_iald X hh 7 (by decide) rfl hq36 dX10_renderGear_128 ?_
          obtain ⟨w39, hk37, hF⟩ := am_bind hF
          refine am_call X hh (va_runV (As := [.int (gI w35 7 (x1).toNatClampNeg)]) (rest := []) X.1 (c_J4_append_bf812 l G hk37) (cwV 1 hts gX10_renderGear_J4_append_bf812 rfl rfl rfl (by decide +kernel) ⟨Nat.le_of_ble_eq_true rfl, Nat.le_of_ble_eq_true rfl⟩) (am_preV X hh 139 1 (by decide) rfl rfl) rfl rfl hl.1 rfl (lv_room (Nat.le_of_ble_eq_true rfl)) dX10_renderGear_129 ⟨Nat.le_of_ble_eq_true rfl, Nat.le_of_ble_eq_true rfl⟩) (fun ab H locs hh => ?_)
          refine lv_pop hx hb dX10_renderGear_132 rfl ?_
          refine lv_aload_n hx hb dX10_renderGear_133 rfl (lv_at hl 0 rfl) ?_
          refine am_getR X hh 0 11 0 1 (by decide) rfl rfl (by decide) hwRX10 (show Cond.fieldLink RX10 12 "PlanetWorkshop" "now" "LPlanetWorkshop$State;" ∈ wsX10_renderGear by decide +kernel) rfl dX10_renderGear_134 ?_
          refine am_getR X hh 1 9 7 9 (by decide) rfl rfl (by decide) hwRX7 (show Cond.fieldLink RX10 302 "PlanetWorkshop$State" "reversed" "[Z" ∈ wsX10_renderGear by decide +kernel) rfl dX10_renderGear_137 ?_
          refine lv_iload_n hx hb dX10_renderGear_140 rfl (lv_at hl 1 rfl) ?_
          obtain ⟨hq40, hF⟩ := am_ifR hF
          refine am_zald X hh 9 (by decide) rfl hq40 dX10_renderGear_141 ?_
          refine lv_if_eq (tgt := 155) hx hb dX10_renderGear_142 (by decide) (fun hc41 => ?_) (fun hc41 => ?_)
          · have hF := am_pos hc41 hF
            refine lv_aload_n hx hb dX10_renderGear_155 rfl (lv_at hl 0 rfl) ?_
            refine am_getR X hh 0 11 10 139 (by decide) rfl rfl (by decide) hwRX10 (show Cond.fieldLink RX10 75 "PlanetWorkshop" "output" "Ljava/lang/StringBuilder;" ∈ wsX10_renderGear by decide +kernel) rfl dX10_renderGear_156 ?_
            obtain ⟨r43, hk42, hF⟩ := am_bind hF
            refine am_call X hh (va_runV (As := []) (rest := []) X.1 (c_J4_length_8abf5 l G hk42) (cwV 0 hts gX10_renderGear_J4_length_8abf5 rfl rfl rfl (by decide +kernel) ⟨Nat.le_of_ble_eq_true rfl, Nat.le_of_ble_eq_true rfl⟩) (am_preV X hh 139 1 (by decide) rfl rfl) rfl rfl hl.1 rfl (lv_room (Nat.le_of_ble_eq_true rfl)) dX10_renderGear_159 ⟨Nat.le_of_ble_eq_true rfl, Nat.le_of_ble_eq_true rfl⟩) (fun ab H locs hh => ?_)
            exact vx_ret (am_iret X hr hh (fun t ht => am_qwX (mk := oI) hF ht) (Nat.le_of_ble_eq_true rfl) (Nat.le_of_ble_eq_true rfl) dX10_renderGear_162)
          · have hF := am_neg hc41 hF
            refine lv_aload_n hx hb dX10_renderGear_145 rfl (lv_at hl 0 rfl) ?_
            refine am_getR X hh 0 11 10 139 (by decide) rfl rfl (by decide) hwRX10 (show Cond.fieldLink RX10 75 "PlanetWorkshop" "output" "Ljava/lang/StringBuilder;" ∈ wsX10_renderGear by decide +kernel) rfl dX10_renderGear_146 ?_
            refine lv_bipush (v := (45 : Int32)) hx hb dX10_renderGear_149 (by decide) ?_
            obtain ⟨w46, hk44, hF⟩ := am_bind hF
            refine am_call X hh (va_runV (As := [.int (45 : Int32)]) (rest := []) X.1 (c_J4_append_cf468 l G hk44) (cwV 1 hts gX10_renderGear_J4_append_cf468 rfl rfl rfl (by decide +kernel) ⟨Nat.le_of_ble_eq_true rfl, Nat.le_of_ble_eq_true rfl⟩) (am_preV X hh 139 1 (by decide) rfl rfl) rfl rfl hl.1 rfl (lv_room (Nat.le_of_ble_eq_true rfl)) dX10_renderGear_151 ⟨Nat.le_of_ble_eq_true rfl, Nat.le_of_ble_eq_true rfl⟩) (fun ab H locs hh => ?_)
            refine lv_pop hx hb dX10_renderGear_154 rfl ?_
            refine lv_aload_n hx hb dX10_renderGear_155 rfl (lv_at hl 0 rfl) ?_
            refine am_getR X hh 0 11 10 139 (by decide) rfl rfl (by decide) hwRX10 (show Cond.fieldLink RX10 75 "PlanetWorkshop" "output" "Ljava/lang/StringBuilder;" ∈ wsX10_renderGear by decide +kernel) rfl dX10_renderGear_156 ?_
            obtain ⟨r48, hk47, hF⟩ := am_bind hF
            refine am_call X hh (va_runV (As := []) (rest := []) X.1 (c_J4_length_8abf5 l G hk47) (cwV 0 hts gX10_renderGear_J4_length_8abf5 rfl rfl rfl (by decide +kernel) ⟨Nat.le_of_ble_eq_true rfl, Nat.le_of_ble_eq_true rfl⟩) (am_preV X hh 139 1 (by decide) rfl rfl) rfl rfl hl.1 rfl (lv_room (Nat.le_of_ble_eq_true rfl)) dX10_renderGear_159 ⟨Nat.le_of_ble_eq_true rfl, Nat.le_of_ble_eq_true rfl⟩) (fun ab H locs hh => ?_)
            exact vx_ret (am_iret X hr hh (fun t ht => am_qwX (mk := oI) hF ht) (Nat.le_of_ble_eq_true rfl) (Nat.le_of_ble_eq_true rfl) dX10_renderGear_162)
      · have hF := am_neg hc20 hF
        refine lv_aload_n hx hb dX10_renderGear_73 rfl (lv_at hl 0 rfl) ?_
        refine am_getR X hh 0 11 10 139 (by decide) rfl rfl (by decide) hwRX10 (show Cond.fieldLink RX10 75 "PlanetWorkshop" "output" "Ljava/lang/StringBuilder;" ∈ wsX10_renderGear by decide +kernel) rfl dX10_renderGear_74 ?_
        refine lv_bipush (v := (114 : Int32)) hx hb dX10_renderGear_77 (by decide) ?_
        obtain ⟨w51, hk49, hF⟩ := am_bind hF
        refine am_call X hh (va_runV (As := [.int (114 : Int32)]) (rest := []) X.1 (c_J4_append_cf468 l G hk49) (cwV 1 hts gX10_renderGear_J4_append_cf468 rfl rfl rfl (by decide +kernel) ⟨Nat.le_of_ble_eq_true rfl, Nat.le_of_ble_eq_true rfl⟩) (am_preV X hh 139 1 (by decide) rfl rfl) rfl rfl hl.1 rfl (lv_room (Nat.le_of_ble_eq_true rfl)) dX10_renderGear_79 ⟨Nat.le_of_ble_eq_true rfl, Nat.le_of_ble_eq_true rfl⟩) (fun ab H locs hh => ?_)
        refine lv_pop hx hb dX10_renderGear_82 rfl ?_
        refine lv_aload_n hx hb dX10_renderGear_83 rfl (lv_at hl 0 rfl) ?_
        refine am_getR X hh 0 11 0 1 (by decide) rfl rfl (by decide) hwRX10 (show Cond.fieldLink RX10 12 "PlanetWorkshop" "now" "LPlanetWorkshop$State;" ∈ wsX10_renderGear by decide +kernel) rfl dX10_renderGear_84 ?_
        refine lv_iload_n hx hb dX10_renderGear_87 rfl (lv_at hl 1 rfl) ?_
        obtain ⟨r53, hk52, hF⟩ := am_bind hF
        refine am_call X hh (va_runV (As := [.int x1]) (rest := []) X.1 (c_X7_hasSpring l G hk52) (cwV 1 hts gX10_renderGear_X7_hasSpring rfl rfl rfl (by decide +kernel) ⟨Nat.le_of_ble_eq_true rfl, Nat.le_of_ble_eq_true rfl⟩) (am_preV X hh 1 9 (by decide) rfl rfl) rfl rfl hl.1 rfl (lv_room (Nat.le_of_ble_eq_true rfl)) dX10_renderGear_88 ⟨Nat.le_of_ble_eq_true rfl, Nat.le_of_ble_eq_true rfl⟩) (fun ab H locs hh => ?_)
        refine lv_if_eq (tgt := 155) hx hb dX10_renderGear_91 (by decide) (fun hc54 => ?_) (fun hc54 => ?_)
        · have hF := am_pos hc54 hF
          refine lv_aload_n hx hb dX10_renderGear_155 rfl (lv_at hl 0 rfl) ?_
          refine am_getR X hh 0 11 10 139 (by decide) rfl rfl (by decide) hwRX10 (show Cond.fieldLink RX10 75 "PlanetWorkshop" "output" "Ljava/lang/StringBuilder;" ∈ wsX10_renderGear by decide +kernel) rfl dX10_renderGear_156 ?_
          obtain ⟨r56, hk55, hF⟩ := am_bind hF
          refine am_call X hh (va_runV (As := []) (rest := []) X.1 (c_J4_length_8abf5 l G hk55) (cwV 0 hts gX10_renderGear_J4_length_8abf5 rfl rfl rfl (by decide +kernel) ⟨Nat.le_of_ble_eq_true rfl, Nat.le_of_ble_eq_true rfl⟩) (am_preV X hh 139 1 (by decide) rfl rfl) rfl rfl hl.1 rfl (lv_room (Nat.le_of_ble_eq_true rfl)) dX10_renderGear_159 ⟨Nat.le_of_ble_eq_true rfl, Nat.le_of_ble_eq_true rfl⟩) (fun ab H locs hh => ?_)
          exact vx_ret (am_iret X hr hh (fun t ht => am_qwX (mk := oI) hF ht) (Nat.le_of_ble_eq_true rfl) (Nat.le_of_ble_eq_true rfl) dX10_renderGear_162)
        · have hF := am_neg hc54 hF
          refine lv_aload_n hx hb dX10_renderGear_94 rfl (lv_at hl 0 rfl) ?_
          refine am_getR X hh 0 11 10 139 (by decide) rfl rfl (by decide) hwRX10 (show Cond.fieldLink RX10 75 "PlanetWorkshop" "output" "Ljava/lang/StringBuilder;" ∈ wsX10_renderGear by decide +kernel) rfl dX10_renderGear_95 ?_
          refine lv_bipush (v := (115 : Int32)) hx hb dX10_renderGear_98 (by decide) ?_
          obtain ⟨w59, hk57, hF⟩ := am_bind hF
          refine am_call X hh (va_runV (As := [.int (115 : Int32)]) (rest := []) X.1 (c_J4_append_cf468 l G hk57) (cwV 1 hts gX10_renderGear_J4_append_cf468 rfl rfl rfl (by decide +kernel) ⟨Nat.le_of_ble_eq_true rfl, Nat.le_of_ble_eq_true rfl⟩) (am_preV X hh 139 1 (by decide) rfl rfl) rfl rfl hl.1 rfl (lv_room (Nat.le_of_ble_eq_true rfl)) dX10_renderGear_100 ⟨Nat.le_of_ble_eq_true rfl, Nat.le_of_ble_eq_true rfl⟩) (fun ab H locs hh => ?_)
          refine lv_aload_n hx hb dX10_renderGear_103 rfl (lv_at hl 0 rfl) ?_
          refine am_getR X hh 0 11 0 1 (by decide) rfl rfl (by decide) hwRX10 (show Cond.fieldLink RX10 12 "PlanetWorkshop" "now" "LPlanetWorkshop$State;" ∈ wsX10_renderGear by decide +kernel) rfl dX10_renderGear_104 ?_
          refine am_getR X hh 1 9 6 8 (by decide) rfl rfl (by decide) hwRX7 (show Cond.fieldLink RX10 181 "PlanetWorkshop$State" "tensions" "[I" ∈ wsX10_renderGear by decide +kernel) rfl dX10_renderGear_107 ?_
          refine lv_iload_n hx hb dX10_renderGear_110 rfl (lv_at hl 1 rfl) ?_
          obtain ⟨hq60, hF⟩ := am_ifR hF
          refine am_iald X hh 8 (by decide) rfl hq60 dX10_renderGear_111 ?_
          obtain ⟨w63, hk61, hF⟩ := am_bind hF
          refine am_call X hh (va_runV (As := [.int (gI w59 8 (x1).toNatClampNeg)]) (rest := []) X.1 (c_J4_append_bf812 l G hk61) (cwV 1 hts gX10_renderGear_J4_append_bf812 rfl rfl rfl (by decide +kernel) ⟨Nat.le_of_ble_eq_true rfl, Nat.le_of_ble_eq_true rfl⟩) (am_preV X hh 139 1 (by decide) rfl rfl) rfl rfl hl.1 rfl (lv_room (Nat.le_of_ble_eq_true rfl)) dX10_renderGear_112 ⟨Nat.le_of_ble_eq_true rfl, Nat.le_of_ble_eq_true rfl⟩) (fun ab H locs hh => ?_)
          refine lv_bipush (v := (47 : Int32)) hx hb dX10_renderGear_115 (by decide) ?_
          obtain ⟨w66, hk64, hF⟩ := am_bind hF
          refine am_call X hh (va_runV (As := [.int (47 : Int32)]) (rest := []) X.1 (c_J4_append_cf468 l G hk64) (cwV 1 hts gX10_renderGear_J4_append_cf468 rfl rfl rfl (by decide +kernel) ⟨Nat.le_of_ble_eq_true rfl, Nat.le_of_ble_eq_true rfl⟩) (am_preV X hh 139 1 (by decide) rfl rfl) rfl rfl hl.1 rfl (lv_room (Nat.le_of_ble_eq_true rfl)) dX10_renderGear_117 ⟨Nat.le_of_ble_eq_true rfl, Nat.le_of_ble_eq_true rfl⟩) (fun ab H locs hh => ?_)
          refine lv_aload_n hx hb dX10_renderGear_120 rfl (lv_at hl 0 rfl) ?_
          refine am_getR X hh 0 11 0 1 (by decide) rfl rfl (by decide) hwRX10 (show Cond.fieldLink RX10 12 "PlanetWorkshop" "now" "LPlanetWorkshop$State;" ∈ wsX10_renderGear by decide +kernel) rfl dX10_renderGear_121 ?_
          refine am_getR X hh 1 9 5 7 (by decide) rfl rfl (by decide) hwRX7 (show Cond.fieldLink RX10 184 "PlanetWorkshop$State" "springSizes" "[I" ∈ wsX10_renderGear by decide +kernel) rfl dX10_renderGear_124 ?_
          refine lv_iload_n hx hb dX10_renderGear_127 rfl (lv_at hl 1 rfl) ?_
          obtain ⟨hq67, hF⟩ := am_ifR hF
          refine am_iald X hh 7 (by decide) rfl hq67 dX10_renderGear_128 ?_
          obtain ⟨w70, hk68, hF⟩ := am_bind hF
          refine am_call X hh (va_runV (As := [.int (gI w66 7 (x1).toNatClampNeg)]) (rest := []) X.1 (c_J4_append_bf812 l G hk68) (cwV 1 hts gX10_renderGear_J4_append_bf812 rfl rfl rfl (by decide +kernel) ⟨Nat.le_of_ble_eq_true rfl, Nat.le_of_ble_eq_true rfl⟩) (am_preV X hh 139 1 (by decide) rfl rfl) rfl rfl hl.1 rfl (lv_room (Nat.le_of_ble_eq_true rfl)) dX10_renderGear_129 ⟨Nat.le_of_ble_eq_true rfl, Nat.le_of_ble_eq_true rfl⟩) (fun ab H locs hh => ?_)
          refine lv_pop hx hb dX10_renderGear_132 rfl ?_
          refine lv_aload_n hx hb dX10_renderGear_133 rfl (lv_at hl 0 rfl) ?_
          refine am_getR X hh 0 11 0 1 (by decide) rfl rfl (by decide) hwRX10 (show Cond.fieldLink RX10 12 "PlanetWorkshop" "now" "LPlanetWorkshop$State;" ∈ wsX10_renderGear by decide +kernel) rfl dX10_renderGear_134 ?_
          refine am_getR X hh 1 9 7 9 (by decide) rfl rfl (by decide) hwRX7 (show Cond.fieldLink RX10 302 "PlanetWorkshop$State" "reversed" "[Z" ∈ wsX10_renderGear by decide +kernel) rfl dX10_renderGear_137 ?_
          refine lv_iload_n hx hb dX10_renderGear_140 rfl (lv_at hl 1 rfl) ?_
          obtain ⟨hq71, hF⟩ := am_ifR hF
          refine am_zald X hh 9 (by decide) rfl hq71 dX10_renderGear_141 ?_
          refine lv_if_eq (tgt := 155) hx hb dX10_renderGear_142 (by decide) (fun hc72 => ?_) (fun hc72 => ?_)
          · have hF := am_pos hc72 hF
            refine lv_aload_n hx hb dX10_renderGear_155 rfl (lv_at hl 0 rfl) ?_
            refine am_getR X hh 0 11 10 139 (by decide) rfl rfl (by decide) hwRX10 (show Cond.fieldLink RX10 75 "PlanetWorkshop" "output" "Ljava/lang/StringBuilder;" ∈ wsX10_renderGear by decide +kernel) rfl dX10_renderGear_156 ?_
            obtain ⟨r74, hk73, hF⟩ := am_bind hF
            refine am_call X hh (va_runV (As := []) (rest := []) X.1 (c_J4_length_8abf5 l G hk73) (cwV 0 hts gX10_renderGear_J4_length_8abf5 rfl rfl rfl (by decide +kernel) ⟨Nat.le_of_ble_eq_true rfl, Nat.le_of_ble_eq_true rfl⟩) (am_preV X hh 139 1 (by decide) rfl rfl) rfl rfl hl.1 rfl (lv_room (Nat.le_of_ble_eq_true rfl)) dX10_renderGear_159 ⟨Nat.le_of_ble_eq_true rfl, Nat.le_of_ble_eq_true rfl⟩) (fun ab H locs hh => ?_)
            exact vx_ret (am_iret X hr hh (fun t ht => am_qwX (mk := oI) hF ht) (Nat.le_of_ble_eq_true rfl) (Nat.le_of_ble_eq_true rfl) dX10_renderGear_162)
          · have hF := am_neg hc72 hF
            refine lv_aload_n hx hb dX10_renderGear_145 rfl (lv_at hl 0 rfl) ?_
            refine am_getR X hh 0 11 10 139 (by decide) rfl rfl (by decide) hwRX10 (show Cond.fieldLink RX10 75 "PlanetWorkshop" "output" "Ljava/lang/StringBuilder;" ∈ wsX10_renderGear by decide +kernel) rfl dX10_renderGear_146 ?_
            refine lv_bipush (v := (45 : Int32)) hx hb dX10_renderGear_149 (by decide) ?_
            obtain ⟨w77, hk75, hF⟩ := am_bind hF
            refine am_call X hh (va_runV (As := [.int (45 : Int32)]) (rest := []) X.1 (c_J4_append_cf468 l G hk75) (cwV 1 hts gX10_renderGear_J4_append_cf468 rfl rfl rfl (by decide +kernel) ⟨Nat.le_of_ble_eq_true rfl, Nat.le_of_ble_eq_true rfl⟩) (am_preV X hh 139 1 (by decide) rfl rfl) rfl rfl hl.1 rfl (lv_room (Nat.le_of_ble_eq_true rfl)) dX10_renderGear_151 ⟨Nat.le_of_ble_eq_true rfl, Nat.le_of_ble_eq_true rfl⟩) (fun ab H locs hh => ?_)
            refine lv_pop hx hb dX10_renderGear_154 rfl ?_
            refine lv_aload_n hx hb dX10_renderGear_155 rfl (lv_at hl 0 rfl) ?_
            refine am_getR X hh 0 11 10 139 (by decide) rfl rfl (by decide) hwRX10 (show Cond.fieldLink RX10 75 "PlanetWorkshop" "output" "Ljava/lang/StringBuilder;" ∈ wsX10_renderGear by decide +kernel) rfl dX10_renderGear_156 ?_
            obtain ⟨r79, hk78, hF⟩ := am_bind hF
            refine am_call X hh (va_runV (As := []) (rest := []) X.1 (c_J4_length_8abf5 l G hk78) (cwV 0 hts gX10_renderGear_J4_length_8abf5 rfl rfl rfl (by decide +kernel) ⟨Nat.le_of_ble_eq_true rfl, Nat.le_of_ble_eq_true rfl⟩) (am_preV X hh 139 1 (by decide) rfl rfl) rfl rfl hl.1 rfl (lv_room (Nat.le_of_ble_eq_true rfl)) dX10_renderGear_159 ⟨Nat.le_of_ble_eq_true rfl, Nat.le_of_ble_eq_true rfl⟩) (fun ab H locs hh => ?_)
            exact vx_ret (am_iret X hr hh (fun t ht => am_qwX (mk := oI) hF ht) (Nat.le_of_ble_eq_true rfl) (Nat.le_of_ble_eq_true rfl) dX10_renderGear_162)
    · have hF := am_pos hc18 hF
      refine lv_aload_n hx hb dX10_renderGear_51 rfl (lv_at hl 0 rfl) ?_
      refine am_getR X hh 0 11 10 139 (by decide) rfl rfl (by decide) hwRX10 (show Cond.fieldLink RX10 75 "PlanetWorkshop" "output" "Ljava/lang/StringBuilder;" ∈ wsX10_renderGear by decide +kernel) rfl dX10_renderGear_52 ?_
      refine lv_bipush (v := (100 : Int32)) hx hb dX10_renderGear_55 (by decide) ?_
      obtain ⟨w82, hk80, hF⟩ := am_bind hF
      refine am_call X hh (va_runV (As := [.int (100 : Int32)]) (rest := []) X.1 (c_J4_append_cf468 l G hk80) (cwV 1 hts gX10_renderGear_J4_append_cf468 rfl rfl rfl (by decide +kernel) ⟨Nat.le_of_ble_eq_true rfl, Nat.le_of_ble_eq_true rfl⟩) (am_preV X hh 139 1 (by decide) rfl rfl) rfl rfl hl.1 rfl (lv_room (Nat.le_of_ble_eq_true rfl)) dX10_renderGear_57 ⟨Nat.le_of_ble_eq_true rfl, Nat.le_of_ble_eq_true rfl⟩) (fun ab H locs hh => ?_)
      refine lv_pop hx hb dX10_renderGear_60 rfl ?_
      refine lv_aload_n hx hb dX10_renderGear_61 rfl (lv_at hl 0 rfl) ?_
      refine am_getR X hh 0 11 0 1 (by decide) rfl rfl (by decide) hwRX10 (show Cond.fieldLink RX10 12 "PlanetWorkshop" "now" "LPlanetWorkshop$State;" ∈ wsX10_renderGear by decide +kernel) rfl dX10_renderGear_62 ?_
      refine am_getR X hh 1 9 4 6 (by decide) rfl rfl (by decide) hwRX7 (show Cond.fieldLink RX10 207 "PlanetWorkshop$State" "ratchets" "[Z" ∈ wsX10_renderGear by decide +kernel) rfl dX10_renderGear_65 ?_
      refine lv_iload_n hx hb dX10_renderGear_68 rfl (lv_at hl 1 rfl) ?_
      obtain ⟨hq83, hF⟩ := am_ifR hF
      refine am_zald X hh 6 (by decide) rfl hq83 dX10_renderGear_69 ?_
      refine lv_if_eq (tgt := 83) hx hb dX10_renderGear_70 (by decide) (fun hc84 => ?_) (fun hc84 => ?_)
      · have hF := am_pos hc84 hF
        refine lv_aload_n hx hb dX10_renderGear_83 rfl (lv_at hl 0 rfl) ?_
        refine am_getR X hh 0 11 0 1 (by decide) rfl rfl (by decide) hwRX10 (show Cond.fieldLink RX10 12 "PlanetWorkshop" "now" "LPlanetWorkshop$State;" ∈ wsX10_renderGear by decide +kernel) rfl dX10_renderGear_84 ?_
        refine lv_iload_n hx hb dX10_renderGear_87 rfl (lv_at hl 1 rfl) ?_
        obtain ⟨r86, hk85, hF⟩ := am_bind hF
        refine am_call X hh (va_runV (As := [.int x1]) (rest := []) X.1 (c_X7_hasSpring l G hk85) (cwV 1 hts gX10_renderGear_X7_hasSpring rfl rfl rfl (by decide +kernel) ⟨Nat.le_of_ble_eq_true rfl, Nat.le_of_ble_eq_true rfl⟩) (am_preV X hh 1 9 (by decide) rfl rfl) rfl rfl hl.1 rfl (lv_room (Nat.le_of_ble_eq_true rfl)) dX10_renderGear_88 ⟨Nat.le_of_ble_eq_true rfl, Nat.le_of_ble_eq_true rfl⟩) (fun ab H locs hh => ?_)
        refine lv_if_eq (tgt := 155) hx hb dX10_renderGear_91 (by decide) (fun hc87 => ?_) (fun hc87 => ?_)
        · have hF := am_pos hc87 hF
          refine lv_aload_n hx hb dX10_renderGear_155 rfl (lv_at hl 0 rfl) ?_
          refine am_getR X hh 0 11 10 139 (by decide) rfl rfl (by decide) hwRX10 (show Cond.fieldLink RX10 75 "PlanetWorkshop" "output" "Ljava/lang/StringBuilder;" ∈ wsX10_renderGear by decide +kernel) rfl dX10_renderGear_156 ?_
          obtain ⟨r89, hk88, hF⟩ := am_bind hF
          refine am_call X hh (va_runV (As := []) (rest := []) X.1 (c_J4_length_8abf5 l G hk88) (cwV 0 hts gX10_renderGear_J4_length_8abf5 rfl rfl rfl (by decide +kernel) ⟨Nat.le_of_ble_eq_true rfl, Nat.le_of_ble_eq_true rfl⟩) (am_preV X hh 139 1 (by decide) rfl rfl) rfl rfl hl.1 rfl (lv_room (Nat.le_of_ble_eq_true rfl)) dX10_renderGear_159 ⟨Nat.le_of_ble_eq_true rfl, Nat.le_of_ble_eq_true rfl⟩) (fun ab H locs hh => ?_)
          exact vx_ret (am_iret X hr hh (fun t ht => am_qwX (mk := oI) hF ht) (Nat.le_of_ble_eq_true rfl) (Nat.le_of_ble_eq_true rfl) dX10_renderGear_162)
        · have hF := am_neg hc87 hF
          refine lv_aload_n hx hb dX10_renderGear_94 rfl (lv_at hl 0 rfl) ?_
          refine am_getR X hh 0 11 10 139 (by decide) rfl rfl (by decide) hwRX10 (show Cond.fieldLink RX10 75 "PlanetWorkshop" "output" "Ljava/lang/StringBuilder;" ∈ wsX10_renderGear by decide +kernel) rfl dX10_renderGear_95 ?_
          refine lv_bipush (v := (115 : Int32)) hx hb dX10_renderGear_98 (by decide) ?_
          obtain ⟨w92, hk90, hF⟩ := am_bind hF
          refine am_call X hh (va_runV (As := [.int (115 : Int32)]) (rest := []) X.1 (c_J4_append_cf468 l G hk90) (cwV 1 hts gX10_renderGear_J4_append_cf468 rfl rfl rfl (by decide +kernel) ⟨Nat.le_of_ble_eq_true rfl, Nat.le_of_ble_eq_true rfl⟩) (am_preV X hh 139 1 (by decide) rfl rfl) rfl rfl hl.1 rfl (lv_room (Nat.le_of_ble_eq_true rfl)) dX10_renderGear_100 ⟨Nat.le_of_ble_eq_true rfl, Nat.le_of_ble_eq_true rfl⟩) (fun ab H locs hh => ?_)
          refine lv_aload_n hx hb dX10_renderGear_103 rfl (lv_at hl 0 rfl) ?_
          refine am_getR X hh 0 11 0 1 (by decide) rfl rfl (by decide) hwRX10 (show Cond.fieldLink RX10 12 "PlanetWorkshop" "now" "LPlanetWorkshop$State;" ∈ wsX10_renderGear by decide +kernel) rfl dX10_renderGear_104 ?_
          refine am_getR X hh 1 9 6 8 (by decide) rfl rfl (by decide) hwRX7 (show Cond.fieldLink RX10 181 "PlanetWorkshop$State" "tensions" "[I" ∈ wsX10_renderGear by decide +kernel) rfl dX10_renderGear_107 ?_
          refine lv_iload_n hx hb dX10_renderGear_110 rfl (lv_at hl 1 rfl) ?_
          obtain ⟨hq93, hF⟩ := am_ifR hF
          refine am_iald X hh 8 (by decide) rfl hq93 dX10_renderGear_111 ?_
          obtain ⟨w96, hk94, hF⟩ := am_bind hF
          refine am_call X hh (va_runV (As := [.int (gI w92 8 (x1).toNatClampNeg)]) (rest := []) X.1 (c_J4_append_bf812 l G hk94) (cwV 1 hts gX10_renderGear_J4_append_bf812 rfl rfl rfl (by decide +kernel) ⟨Nat.le_of_ble_eq_true rfl, Nat.le_of_ble_eq_true rfl⟩) (am_preV X hh 139 1 (by decide) rfl rfl) rfl rfl hl.1 rfl (lv_room (Nat.le_of_ble_eq_true rfl)) dX10_renderGear_112 ⟨Nat.le_of_ble_eq_true rfl, Nat.le_of_ble_eq_true rfl⟩) (fun ab H locs hh => ?_)
          refine lv_bipush (v := (47 : Int32)) hx hb dX10_renderGear_115 (by decide) ?_
          obtain ⟨w99, hk97, hF⟩ := am_bind hF
          refine am_call X hh (va_runV (As := [.int (47 : Int32)]) (rest := []) X.1 (c_J4_append_cf468 l G hk97) (cwV 1 hts gX10_renderGear_J4_append_cf468 rfl rfl rfl (by decide +kernel) ⟨Nat.le_of_ble_eq_true rfl, Nat.le_of_ble_eq_true rfl⟩) (am_preV X hh 139 1 (by decide) rfl rfl) rfl rfl hl.1 rfl (lv_room (Nat.le_of_ble_eq_true rfl)) dX10_renderGear_117 ⟨Nat.le_of_ble_eq_true rfl, Nat.le_of_ble_eq_true rfl⟩) (fun ab H locs hh => ?_)
          refine lv_aload_n hx hb dX10_renderGear_120 rfl (lv_at hl 0 rfl) ?_
          refine am_getR X hh 0 11 0 1 (by decide) rfl rfl (by decide) hwRX10 (show Cond.fieldLink RX10 12 "PlanetWorkshop" "now" "LPlanetWorkshop$State;" ∈ wsX10_renderGear by decide +kernel) rfl dX10_renderGear_121 ?_
          refine am_getR X hh 1 9 5 7 (by decide) rfl rfl (by decide) hwRX7 (show Cond.fieldLink RX10 184 "PlanetWorkshop$State" "springSizes" "[I" ∈ wsX10_renderGear by decide +kernel) rfl dX10_renderGear_124 ?_
          refine lv_iload_n hx hb dX10_renderGear_127 rfl (lv_at hl 1 rfl) ?_
          obtain ⟨hq100, hF⟩ := am_ifR hF
          refine am_iald X hh 7 (by decide) rfl hq100 dX10_renderGear_128 ?_
          obtain ⟨w103, hk101, hF⟩ := am_bind hF
          refine am_call X hh (va_runV (As := [.int (gI w99 7 (x1).toNatClampNeg)]) (rest := []) X.1 (c_J4_append_bf812 l G hk101) (cwV 1 hts gX10_renderGear_J4_append_bf812 rfl rfl rfl (by decide +kernel) ⟨Nat.le_of_ble_eq_true rfl, Nat.le_of_ble_eq_true rfl⟩) (am_preV X hh 139 1 (by decide) rfl rfl) rfl rfl hl.1 rfl (lv_room (Nat.le_of_ble_eq_true rfl)) dX10_renderGear_129 ⟨Nat.le_of_ble_eq_true rfl, Nat.le_of_ble_eq_true rfl⟩) (fun ab H locs hh => ?_)
          refine lv_pop hx hb dX10_renderGear_132 rfl ?_
          refine lv_aload_n hx hb dX10_renderGear_133 rfl (lv_at hl 0 rfl) ?_
          refine am_getR X hh 0 11 0 1 (by decide) rfl rfl (by decide) hwRX10 (show Cond.fieldLink RX10 12 "PlanetWorkshop" "now" "LPlanetWorkshop$State;" ∈ wsX10_renderGear by decide +kernel) rfl dX10_renderGear_134 ?_
          refine am_getR X hh 1 9 7 9 (by decide) rfl rfl (by decide) hwRX7 (show Cond.fieldLink RX10 302 "PlanetWorkshop$State" "reversed" "[Z" ∈ wsX10_renderGear by decide +kernel) rfl dX10_renderGear_137 ?_
          refine lv_iload_n hx hb dX10_renderGear_140 rfl (lv_at hl 1 rfl) ?_
          obtain ⟨hq104, hF⟩ := am_ifR hF
          refine am_zald X hh 9 (by decide) rfl hq104 dX10_renderGear_141 ?_
          refine lv_if_eq (tgt := 155) hx hb dX10_renderGear_142 (by decide) (fun hc105 => ?_) (fun hc105 => ?_)
          · have hF := am_pos hc105 hF
            refine lv_aload_n hx hb dX10_renderGear_155 rfl (lv_at hl 0 rfl) ?_
            refine am_getR X hh 0 11 10 139 (by decide) rfl rfl (by decide) hwRX10 (show Cond.fieldLink RX10 75 "PlanetWorkshop" "output" "Ljava/lang/StringBuilder;" ∈ wsX10_renderGear by decide +kernel) rfl dX10_renderGear_156 ?_
            obtain ⟨r107, hk106, hF⟩ := am_bind hF
            refine am_call X hh (va_runV (As := []) (rest := []) X.1 (c_J4_length_8abf5 l G hk106) (cwV 0 hts gX10_renderGear_J4_length_8abf5 rfl rfl rfl (by decide +kernel) ⟨Nat.le_of_ble_eq_true rfl, Nat.le_of_ble_eq_true rfl⟩) (am_preV X hh 139 1 (by decide) rfl rfl) rfl rfl hl.1 rfl (lv_room (Nat.le_of_ble_eq_true rfl)) dX10_renderGear_159 ⟨Nat.le_of_ble_eq_true rfl, Nat.le_of_ble_eq_true rfl⟩) (fun ab H locs hh => ?_)
            exact vx_ret (am_iret X hr hh (fun t ht => am_qwX (mk := oI) hF ht) (Nat.le_of_ble_eq_true rfl) (Nat.le_of_ble_eq_true rfl) dX10_renderGear_162)
          · have hF := am_neg hc105 hF
            refine lv_aload_n hx hb dX10_renderGear_145 rfl (lv_at hl 0 rfl) ?_
            refine am_getR X hh 0 11 10 139 (by decide) rfl rfl (by decide) hwRX10 (show Cond.fieldLink RX10 75 "PlanetWorkshop" "output" "Ljava/lang/StringBuilder;" ∈ wsX10_renderGear by decide +kernel) rfl dX10_renderGear_146 ?_
            refine lv_bipush (v := (45 : Int32)) hx hb dX10_renderGear_149 (by decide) ?_
            obtain ⟨w110, hk108, hF⟩ := am_bind hF
            refine am_call X hh (va_runV (As := [.int (45 : Int32)]) (rest := []) X.1 (c_J4_append_cf468 l G hk108) (cwV 1 hts gX10_renderGear_J4_append_cf468 rfl rfl rfl (by decide +kernel) ⟨Nat.le_of_ble_eq_true rfl, Nat.le_of_ble_eq_true rfl⟩) (am_preV X hh 139 1 (by decide) rfl rfl) rfl rfl hl.1 rfl (lv_room (Nat.le_of_ble_eq_true rfl)) dX10_renderGear_151 ⟨Nat.le_of_ble_eq_true rfl, Nat.le_of_ble_eq_true rfl⟩) (fun ab H locs hh => ?_)
            refine lv_pop hx hb dX10_renderGear_154 rfl ?_
            refine lv_aload_n hx hb dX10_renderGear_155 rfl (lv_at hl 0 rfl) ?_
            refine am_getR X hh 0 11 10 139 (by decide) rfl rfl (by decide) hwRX10 (show Cond.fieldLink RX10 75 "PlanetWorkshop" "output" "Ljava/lang/StringBuilder;" ∈ wsX10_renderGear by decide +kernel) rfl dX10_renderGear_156 ?_
            obtain ⟨r112, hk111, hF⟩ := am_bind hF
            refine am_call X hh (va_runV (As := []) (rest := []) X.1 (c_J4_length_8abf5 l G hk111) (cwV 0 hts gX10_renderGear_J4_length_8abf5 rfl rfl rfl (by decide +kernel) ⟨Nat.le_of_ble_eq_true rfl, Nat.le_of_ble_eq_true rfl⟩) (am_preV X hh 139 1 (by decide) rfl rfl) rfl rfl hl.1 rfl (lv_room (Nat.le_of_ble_eq_true rfl)) dX10_renderGear_159 ⟨Nat.le_of_ble_eq_true rfl, Nat.le_of_ble_eq_true rfl⟩) (fun ab H locs hh => ?_)
            exact vx_ret (am_iret X hr hh (fun t ht => am_qwX (mk := oI) hF ht) (Nat.le_of_ble_eq_true rfl) (Nat.le_of_ble_eq_true rfl) dX10_renderGear_162)
      · have hF := am_neg hc84 hF
        refine lv_aload_n hx hb dX10_renderGear_73 rfl (lv_at hl 0 rfl) ?_
        refine am_getR X hh 0 11 10 139 (by decide) rfl rfl (by decide) hwRX10 (show Cond.fieldLink RX10 75 "PlanetWorkshop" "output" "Ljava/lang/StringBuilder;" ∈ wsX10_renderGear by decide +kernel) rfl dX10_renderGear_74 ?_
        refine lv_bipush (v := (114 : Int32)) hx hb dX10_renderGear_77 (by decide) ?_
        obtain ⟨w115, hk113, hF⟩ := am_bind hF
        refine am_call X hh (va_runV (As := [.int (114 : Int32)]) (rest := []) X.1 (c_J4_append_cf468 l G hk113) (cwV 1 hts gX10_renderGear_J4_append_cf468 rfl rfl rfl (by decide +kernel) ⟨Nat.le_of_ble_eq_true rfl, Nat.le_of_ble_eq_true rfl⟩) (am_preV X hh 139 1 (by decide) rfl rfl) rfl rfl hl.1 rfl (lv_room (Nat.le_of_ble_eq_true rfl)) dX10_renderGear_79 ⟨Nat.le_of_ble_eq_true rfl, Nat.le_of_ble_eq_true rfl⟩) (fun ab H locs hh => ?_)
        refine lv_pop hx hb dX10_renderGear_82 rfl ?_
        refine lv_aload_n hx hb dX10_renderGear_83 rfl (lv_at hl 0 rfl) ?_
        refine am_getR X hh 0 11 0 1 (by decide) rfl rfl (by decide) hwRX10 (show Cond.fieldLink RX10 12 "PlanetWorkshop" "now" "LPlanetWorkshop$State;" ∈ wsX10_renderGear by decide +kernel) rfl dX10_renderGear_84 ?_
        refine lv_iload_n hx hb dX10_renderGear_87 rfl (lv_at hl 1 rfl) ?_
        obtain ⟨r117, hk116, hF⟩ := am_bind hF
        refine am_call X hh (va_runV (As := [.int x1]) (rest := []) X.1 (c_X7_hasSpring l G hk116) (cwV 1 hts gX10_renderGear_X7_hasSpring rfl rfl rfl (by decide +kernel) ⟨Nat.le_of_ble_eq_true rfl, Nat.le_of_ble_eq_true rfl⟩) (am_preV X hh 1 9 (by decide) rfl rfl) rfl rfl hl.1 rfl (lv_room (Nat.le_of_ble_eq_true rfl)) dX10_renderGear_88 ⟨Nat.le_of_ble_eq_true rfl, Nat.le_of_ble_eq_true rfl⟩) (fun ab H locs hh => ?_)
        refine lv_if_eq (tgt := 155) hx hb dX10_renderGear_91 (by decide) (fun hc118 => ?_) (fun hc118 => ?_)
        · have hF := am_pos hc118 hF
          refine lv_aload_n hx hb dX10_renderGear_155 rfl (lv_at hl 0 rfl) ?_
          refine am_getR X hh 0 11 10 139 (by decide) rfl rfl (by decide) hwRX10 (show Cond.fieldLink RX10 75 "PlanetWorkshop" "output" "Ljava/lang/StringBuilder;" ∈ wsX10_renderGear by decide +kernel) rfl dX10_renderGear_156 ?_
          obtain ⟨r120, hk119, hF⟩ := am_bind hF
          refine am_call X hh (va_runV (As := []) (rest := []) X.1 (c_J4_length_8abf5 l G hk119) (cwV 0 hts gX10_renderGear_J4_length_8abf5 rfl rfl rfl (by decide +kernel) ⟨Nat.le_of_ble_eq_true rfl, Nat.le_of_ble_eq_true rfl⟩) (am_preV X hh 139 1 (by decide) rfl rfl) rfl rfl hl.1 rfl (lv_room (Nat.le_of_ble_eq_true rfl)) dX10_renderGear_159 ⟨Nat.le_of_ble_eq_true rfl, Nat.le_of_ble_eq_true rfl⟩) (fun ab H locs hh => ?_)
          exact vx_ret (am_iret X hr hh (fun t ht => am_qwX (mk := oI) hF ht) (Nat.le_of_ble_eq_true rfl) (Nat.le_of_ble_eq_true rfl) dX10_renderGear_162)
        · have hF := am_neg hc118 hF
          refine lv_aload_n hx hb dX10_renderGear_94 rfl (lv_at hl 0 rfl) ?_
          refine am_getR X hh 0 11 10 139 (by decide) rfl rfl (by decide) hwRX10 (show Cond.fieldLink RX10 75 "PlanetWorkshop" "output" "Ljava/lang/StringBuilder;" ∈ wsX10_renderGear by decide +kernel) rfl dX10_renderGear_95 ?_
          refine lv_bipush (v := (115 : Int32)) hx hb dX10_renderGear_98 (by decide) ?_
          obtain ⟨w123, hk121, hF⟩ := am_bind hF
          refine am_call X hh (va_runV (As := [.int (115 : Int32)]) (rest := []) X.1 (c_J4_append_cf468 l G hk121) (cwV 1 hts gX10_renderGear_J4_append_cf468 rfl rfl rfl (by decide +kernel) ⟨Nat.le_of_ble_eq_true rfl, Nat.le_of_ble_eq_true rfl⟩) (am_preV X hh 139 1 (by decide) rfl rfl) rfl rfl hl.1 rfl (lv_room (Nat.le_of_ble_eq_true rfl)) dX10_renderGear_100 ⟨Nat.le_of_ble_eq_true rfl, Nat.le_of_ble_eq_true rfl⟩) (fun ab H locs hh => ?_)
          refine lv_aload_n hx hb dX10_renderGear_103 rfl (lv_at hl 0 rfl) ?_
          refine am_getR X hh 0 11 0 1 (by decide) rfl rfl (by decide) hwRX10 (show Cond.fieldLink RX10 12 "PlanetWorkshop" "now" "LPlanetWorkshop$State;" ∈ wsX10_renderGear by decide +kernel) rfl dX10_renderGear_104 ?_
          refine am_getR X hh 1 9 6 8 (by decide) rfl rfl (by decide) hwRX7 (show Cond.fieldLink RX10 181 "PlanetWorkshop$State" "tensions" "[I" ∈ wsX10_renderGear by decide +kernel) rfl dX10_renderGear_107 ?_
          refine lv_iload_n hx hb dX10_renderGear_110 rfl (lv_at hl 1 rfl) ?_
          obtain ⟨hq124, hF⟩ := am_ifR hF
          refine am_iald X hh 8 (by decide) rfl hq124 dX10_renderGear_111 ?_
          obtain ⟨w127, hk125, hF⟩ := am_bind hF
          refine am_call X hh (va_runV (As := [.int (gI w123 8 (x1).toNatClampNeg)]) (rest := []) X.1 (c_J4_append_bf812 l G hk125) (cwV 1 hts gX10_renderGear_J4_append_bf812 rfl rfl rfl (by decide +kernel) ⟨Nat.le_of_ble_eq_true rfl, Nat.le_of_ble_eq_true rfl⟩) (am_preV X hh 139 1 (by decide) rfl rfl) rfl rfl hl.1 rfl (lv_room (Nat.le_of_ble_eq_true rfl)) dX10_renderGear_112 ⟨Nat.le_of_ble_eq_true rfl, Nat.le_of_ble_eq_true rfl⟩) (fun ab H locs hh => ?_)
          refine lv_bipush (v := (47 : Int32)) hx hb dX10_renderGear_115 (by decide) ?_
          obtain ⟨w130, hk128, hF⟩ := am_bind hF
          refine am_call X hh (va_runV (As := [.int (47 : Int32)]) (rest := []) X.1 (c_J4_append_cf468 l G hk128) (cwV 1 hts gX10_renderGear_J4_append_cf468 rfl rfl rfl (by decide +kernel) ⟨Nat.le_of_ble_eq_true rfl, Nat.le_of_ble_eq_true rfl⟩) (am_preV X hh 139 1 (by decide) rfl rfl) rfl rfl hl.1 rfl (lv_room (Nat.le_of_ble_eq_true rfl)) dX10_renderGear_117 ⟨Nat.le_of_ble_eq_true rfl, Nat.le_of_ble_eq_true rfl⟩) (fun ab H locs hh => ?_)
          refine lv_aload_n hx hb dX10_renderGear_120 rfl (lv_at hl 0 rfl) ?_
          refine am_getR X hh 0 11 0 1 (by decide) rfl rfl (by decide) hwRX10 (show Cond.fieldLink RX10 12 "PlanetWorkshop" "now" "LPlanetWorkshop$State;" ∈ wsX10_renderGear by decide +kernel) rfl dX10_renderGear_121 ?_
          refine am_getR X hh 1 9 5 7 (by decide) rfl rfl (by decide) hwRX7 (show Cond.fieldLink RX10 184 "PlanetWorkshop$State" "springSizes" "[I" ∈ wsX10_renderGear by decide +kernel) rfl dX10_renderGear_124 ?_
          refine lv_iload_n hx hb dX10_renderGear_127 rfl (lv_at hl 1 rfl) ?_
          obtain ⟨hq131, hF⟩ := am_ifR hF
          refine am_iald X hh 7 (by decide) rfl hq131 dX10_renderGear_128 ?_
          obtain ⟨w134, hk132, hF⟩ := am_bind hF
          refine am_call X hh (va_runV (As := [.int (gI w130 7 (x1).toNatClampNeg)]) (rest := []) X.1 (c_J4_append_bf812 l G hk132) (cwV 1 hts gX10_renderGear_J4_append_bf812 rfl rfl rfl (by decide +kernel) ⟨Nat.le_of_ble_eq_true rfl, Nat.le_of_ble_eq_true rfl⟩) (am_preV X hh 139 1 (by decide) rfl rfl) rfl rfl hl.1 rfl (lv_room (Nat.le_of_ble_eq_true rfl)) dX10_renderGear_129 ⟨Nat.le_of_ble_eq_true rfl, Nat.le_of_ble_eq_true rfl⟩) (fun ab H locs hh => ?_)
          refine lv_pop hx hb dX10_renderGear_132 rfl ?_
          refine lv_aload_n hx hb dX10_renderGear_133 rfl (lv_at hl 0 rfl) ?_
          refine am_getR X hh 0 11 0 1 (by decide) rfl rfl (by decide) hwRX10 (show Cond.fieldLink RX10 12 "PlanetWorkshop" "now" "LPlanetWorkshop$State;" ∈ wsX10_renderGear by decide +kernel) rfl dX10_renderGear_134 ?_
          refine am_getR X hh 1 9 7 9 (by decide) rfl rfl (by decide) hwRX7 (show Cond.fieldLink RX10 302 "PlanetWorkshop$State" "reversed" "[Z" ∈ wsX10_renderGear by decide +kernel) rfl dX10_renderGear_137 ?_
          refine lv_iload_n hx hb dX10_renderGear_140 rfl (lv_at hl 1 rfl) ?_
          obtain ⟨hq135, hF⟩ := am_ifR hF
          refine am_zald X hh 9 (by decide) rfl hq135 dX10_renderGear_141 ?_
          refine lv_if_eq (tgt := 155) hx hb dX10_renderGear_142 (by decide) (fun hc136 => ?_) (fun hc136 => ?_)
          · have hF := am_pos hc136 hF
            refine lv_aload_n hx hb dX10_renderGear_155 rfl (lv_at hl 0 rfl) ?_
            refine am_getR X hh 0 11 10 139 (by decide) rfl rfl (by decide) hwRX10 (show Cond.fieldLink RX10 75 "PlanetWorkshop" "output" "Ljava/lang/StringBuilder;" ∈ wsX10_renderGear by decide +kernel) rfl dX10_renderGear_156 ?_
            obtain ⟨r138, hk137, hF⟩ := am_bind hF
            refine am_call X hh (va_runV (As := []) (rest := []) X.1 (c_J4_length_8abf5 l G hk137) (cwV 0 hts gX10_renderGear_J4_length_8abf5 rfl rfl rfl (by decide +kernel) ⟨Nat.le_of_ble_eq_true rfl, Nat.le_of_ble_eq_true rfl⟩) (am_preV X hh 139 1 (by decide) rfl rfl) rfl rfl hl.1 rfl (lv_room (Nat.le_of_ble_eq_true rfl)) dX10_renderGear_159 ⟨Nat.le_of_ble_eq_true rfl, Nat.le_of_ble_eq_true rfl⟩) (fun ab H locs hh => ?_)
            exact vx_ret (am_iret X hr hh (fun t ht => am_qwX (mk := oI) hF ht) (Nat.le_of_ble_eq_true rfl) (Nat.le_of_ble_eq_true rfl) dX10_renderGear_162)
          · have hF := am_neg hc136 hF
            refine lv_aload_n hx hb dX10_renderGear_145 rfl (lv_at hl 0 rfl) ?_
            refine am_getR X hh 0 11 10 139 (by decide) rfl rfl (by decide) hwRX10 (show Cond.fieldLink RX10 75 "PlanetWorkshop" "output" "Ljava/lang/StringBuilder;" ∈ wsX10_renderGear by decide +kernel) rfl dX10_renderGear_146 ?_
            refine lv_bipush (v := (45 : Int32)) hx hb dX10_renderGear_149 (by decide) ?_
            obtain ⟨w141, hk139, hF⟩ := am_bind hF
            refine am_call X hh (va_runV (As := [.int (45 : Int32)]) (rest := []) X.1 (c_J4_append_cf468 l G hk139) (cwV 1 hts gX10_renderGear_J4_append_cf468 rfl rfl rfl (by decide +kernel) ⟨Nat.le_of_ble_eq_true rfl, Nat.le_of_ble_eq_true rfl⟩) (am_preV X hh 139 1 (by decide) rfl rfl) rfl rfl hl.1 rfl (lv_room (Nat.le_of_ble_eq_true rfl)) dX10_renderGear_151 ⟨Nat.le_of_ble_eq_true rfl, Nat.le_of_ble_eq_true rfl⟩) (fun ab H locs hh => ?_)
            refine lv_pop hx hb dX10_renderGear_154 rfl ?_
            refine lv_aload_n hx hb dX10_renderGear_155 rfl (lv_at hl 0 rfl) ?_
            refine am_getR X hh 0 11 10 139 (by decide) rfl rfl (by decide) hwRX10 (show Cond.fieldLink RX10 75 "PlanetWorkshop" "output" "Ljava/lang/StringBuilder;" ∈ wsX10_renderGear by decide +kernel) rfl dX10_renderGear_156 ?_
            obtain ⟨r143, hk142, hF⟩ := am_bind hF
            refine am_call X hh (va_runV (As := []) (rest := []) X.1 (c_J4_length_8abf5 l G hk142) (cwV 0 hts gX10_renderGear_J4_length_8abf5 rfl rfl rfl (by decide +kernel) ⟨Nat.le_of_ble_eq_true rfl, Nat.le_of_ble_eq_true rfl⟩) (am_preV X hh 139 1 (by decide) rfl rfl) rfl rfl hl.1 rfl (lv_room (Nat.le_of_ble_eq_true rfl)) dX10_renderGear_159 ⟨Nat.le_of_ble_eq_true rfl, Nat.le_of_ble_eq_true rfl⟩) (fun ab H locs hh => ?_)
            exact vx_ret (am_iret X hr hh (fun t ht => am_qwX (mk := oI) hF ht) (Nat.le_of_ble_eq_true rfl) (Nat.le_of_ble_eq_true rfl) dX10_renderGear_162)
