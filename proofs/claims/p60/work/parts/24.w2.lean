set_option maxHeartbeats 4000000 in
set_option maxRecDepth 100000 in
theorem c_X2_judge (l : Launch) (G : GG) {w : Wd} {x1 : Int32} {x2 : Int32} {x3 : Int32} {r0 : Int32} {w1 : Wd} (hF : f_X2_judge w x1 x2 x3 = some (r0, w1)) : Met l yX2_judge wsX2_judge ({ frames := 4, cells := 0, slots := 0, locals := 99 } : Room) (va_Pc [.ref (gAd G 128), .int x1, .int x2, .int x3] (Rel G w)) (amQ G (oI r0) w1) 0 0 (gA G) := by
  refine am_met (own := RX2) (cc := cX2_judge) (maxL := 4) (ret := (some .int)) (by decide +kernel) rfl rfl (Nat.le_of_ble_eq_true rfl) ?_
  intro p e s m args below meth c ab H locs ls X hr hh hl
  have hx := X.1.1; have hb := X.1.2.1; have hml := X.1.2.2.1; have hown := X.1.2.2.2.1; have hts := X.1.2.2.2.2
  have hl : lv_has ls 4 [(0, .ref (gAd G 128)), (1, .int x1), (2, .int x2), (3, .int x3)] := hl
  have hwRX2 : ∀ z ∈ u_ws RX2 TX2 2, z ∈ wsX2_judge := by decide +kernel
  have hwRX7 : ∀ z ∈ u_ws RX7 TX7 17, z ∈ wsX2_judge := by decide +kernel
  unfold f_X2_judge at hF
  refine lv_aload_n hx hb dX2_judge_0 rfl (lv_at hl 0 rfl) ?_
  refine am_getR X hh 128 5 0 1 (by decide) rfl rfl (by decide) hwRX2 (show Cond.fieldLink RX2 9 "PlanetWorkshop$Eclipses" "state" "LPlanetWorkshop$State;" ∈ wsX2_judge by decide +kernel) rfl dX2_judge_1 ?_
  refine lv_iload_n hx hb dX2_judge_4 rfl (lv_at hl 1 rfl) ?_
  obtain ⟨r2, hk1, hF⟩ := am_bind hF
  refine am_call X hh (va_runV (As := [.int x1]) (rest := []) X.1 (c_X7_isPlanet l G hk1) (cwV 1 hts gX2_judge_X7_isPlanet rfl rfl rfl (by decide +kernel) ⟨Nat.le_of_ble_eq_true rfl, Nat.le_of_ble_eq_true rfl⟩) (am_preV X hh 1 9 (by decide) rfl rfl) rfl rfl hl.1 rfl (lv_room (Nat.le_of_ble_eq_true rfl)) dX2_judge_5 ⟨Nat.le_of_ble_eq_true rfl, Nat.le_of_ble_eq_true rfl⟩) (fun ab H locs hh => ?_)
  refine lv_if_eq (tgt := 33) hx hb dX2_judge_8 (by decide) (fun hc3 => ?_) (fun hc3 => ?_)
  · have hF := am_pos hc3 hF
    refine lv_iconst (v := (-1 : Int32)) hx hb dX2_judge_33 (by decide) ?_
    exact am_iret X hr hh (fun t ht => am_qw (mk := oI) hF ht) (Nat.le_of_ble_eq_true rfl) (Nat.le_of_ble_eq_true rfl) dX2_judge_34
  · have hF := am_neg hc3 hF
    refine lv_aload_n hx hb dX2_judge_11 rfl (lv_at hl 0 rfl) ?_
    refine am_getR X hh 128 5 0 1 (by decide) rfl rfl (by decide) hwRX2 (show Cond.fieldLink RX2 9 "PlanetWorkshop$Eclipses" "state" "LPlanetWorkshop$State;" ∈ wsX2_judge by decide +kernel) rfl dX2_judge_12 ?_
    refine lv_iload_n hx hb dX2_judge_15 rfl (lv_at hl 2 rfl) ?_
    obtain ⟨r5, hk4, hF⟩ := am_bind hF
    refine am_call X hh (va_runV (As := [.int x2]) (rest := []) X.1 (c_X7_isPlanet l G hk4) (cwV 1 hts gX2_judge_X7_isPlanet rfl rfl rfl (by decide +kernel) ⟨Nat.le_of_ble_eq_true rfl, Nat.le_of_ble_eq_true rfl⟩) (am_preV X hh 1 9 (by decide) rfl rfl) rfl rfl hl.1 rfl (lv_room (Nat.le_of_ble_eq_true rfl)) dX2_judge_16 ⟨Nat.le_of_ble_eq_true rfl, Nat.le_of_ble_eq_true rfl⟩) (fun ab H locs hh => ?_)
    refine lv_if_eq (tgt := 33) hx hb dX2_judge_19 (by decide) (fun hc6 => ?_) (fun hc6 => ?_)
    · have hF := am_pos hc6 hF
      refine lv_iconst (v := (-1 : Int32)) hx hb dX2_judge_33 (by decide) ?_
      exact am_iret X hr hh (fun t ht => am_qw (mk := oI) hF ht) (Nat.le_of_ble_eq_true rfl) (Nat.le_of_ble_eq_true rfl) dX2_judge_34
    · have hF := am_neg hc6 hF
      refine lv_aload_n hx hb dX2_judge_22 rfl (lv_at hl 0 rfl) ?_
      refine am_getR X hh 128 5 0 1 (by decide) rfl rfl (by decide) hwRX2 (show Cond.fieldLink RX2 9 "PlanetWorkshop$Eclipses" "state" "LPlanetWorkshop$State;" ∈ wsX2_judge by decide +kernel) rfl dX2_judge_23 ?_
      refine lv_iload_n hx hb dX2_judge_26 rfl (lv_at hl 3 rfl) ?_
      obtain ⟨r8, hk7, hF⟩ := am_bind hF
      refine am_call X hh (va_runV (As := [.int x3]) (rest := []) X.1 (c_X7_isGear l G hk7) (cwV 1 hts gX2_judge_X7_isGear rfl rfl rfl (by decide +kernel) ⟨Nat.le_of_ble_eq_true rfl, Nat.le_of_ble_eq_true rfl⟩) (am_preV X hh 1 9 (by decide) rfl rfl) rfl rfl hl.1 rfl (lv_room (Nat.le_of_ble_eq_true rfl)) dX2_judge_27 ⟨Nat.le_of_ble_eq_true rfl, Nat.le_of_ble_eq_true rfl⟩) (fun ab H locs hh => ?_)
      refine lv_if_ne (tgt := 35) hx hb dX2_judge_30 (by decide) (fun hc9 => ?_) (fun hc9 => ?_)
      · have hF := am_neg hc9 hF
        refine lv_iload_n hx hb dX2_judge_35 rfl (lv_at hl 1 rfl) ?_
        refine lv_iload_n hx hb dX2_judge_36 rfl (lv_at hl 2 rfl) ?_
        refine lv_icmp_ne (tgt := 43) hx hb dX2_judge_37 (by decide) (fun hc10 => ?_) (fun hc10 => ?_)
        · have hF := am_neg hc10 hF
          refine lv_aload_n hx hb dX2_judge_43 rfl (lv_at hl 0 rfl) ?_
          refine am_getR X hh 128 5 1 124 (by decide) rfl rfl (by decide) hwRX2 (show Cond.fieldLink RX2 15 "PlanetWorkshop$Eclipses" "train" "LPlanetWorkshop$Train;" ∈ wsX2_judge by decide +kernel) rfl dX2_judge_44 ?_
          refine lv_aload_n hx hb dX2_judge_47 rfl (lv_at hl 0 rfl) ?_
          refine am_getR X hh 128 5 0 1 (by decide) rfl rfl (by decide) hwRX2 (show Cond.fieldLink RX2 9 "PlanetWorkshop$Eclipses" "state" "LPlanetWorkshop$State;" ∈ wsX2_judge by decide +kernel) rfl dX2_judge_48 ?_
          refine lv_iload_n hx hb dX2_judge_51 rfl (lv_at hl 3 rfl) ?_
          obtain ⟨w13, hk11, hF⟩ := am_bind hF
          refine am_call X hh (va_runV (As := [.ref (gAd G 1), .int x3]) (rest := []) X.1 (c_X8_trace l G hk11) (cwV 2 hts gX2_judge_X8_trace rfl rfl rfl (by decide +kernel) ⟨Nat.le_of_ble_eq_true rfl, Nat.le_of_ble_eq_true rfl⟩) (am_preV X hh 124 10 (by decide) rfl rfl) rfl rfl hl.1 rfl (lv_room (Nat.le_of_ble_eq_true rfl)) dX2_judge_52 ⟨Nat.le_of_ble_eq_true rfl, Nat.le_of_ble_eq_true rfl⟩) (fun ab H locs hh => ?_)
          refine lv_aload_n hx hb dX2_judge_55 rfl (lv_at hl 0 rfl) ?_
          refine am_getR X hh 128 5 1 124 (by decide) rfl rfl (by decide) hwRX2 (show Cond.fieldLink RX2 15 "PlanetWorkshop$Eclipses" "train" "LPlanetWorkshop$Train;" ∈ wsX2_judge by decide +kernel) rfl dX2_judge_56 ?_
          refine lv_aload_n hx hb dX2_judge_59 rfl (lv_at hl 0 rfl) ?_
          refine am_getR X hh 128 5 0 1 (by decide) rfl rfl (by decide) hwRX2 (show Cond.fieldLink RX2 9 "PlanetWorkshop$Eclipses" "state" "LPlanetWorkshop$State;" ∈ wsX2_judge by decide +kernel) rfl dX2_judge_60 ?_
          refine am_getR X hh 1 9 9 11 (by decide) rfl rfl (by decide) hwRX7 (show Cond.fieldLink RX2 34 "PlanetWorkshop$State" "carriers" "[I" ∈ wsX2_judge by decide +kernel) rfl dX2_judge_63 ?_
          refine lv_iload_n hx hb dX2_judge_66 rfl (lv_at hl 1 rfl) ?_
          obtain ⟨hq14, hF⟩ := am_ifR hF
          refine am_iald X hh 11 (by decide) rfl hq14 dX2_judge_67 ?_
          obtain ⟨r16, hk15, hF⟩ := am_bind hF
          refine am_call X hh (va_runV (As := [.int (gI w13 11 (x1).toNatClampNeg)]) (rest := []) X.1 (c_X8_holds l G hk15) (cwV 1 hts gX2_judge_X8_holds rfl rfl rfl (by decide +kernel) ⟨Nat.le_of_ble_eq_true rfl, Nat.le_of_ble_eq_true rfl⟩) (am_preV X hh 124 10 (by decide) rfl rfl) rfl rfl hl.1 rfl (lv_room (Nat.le_of_ble_eq_true rfl)) dX2_judge_68 ⟨Nat.le_of_ble_eq_true rfl, Nat.le_of_ble_eq_true rfl⟩) (fun ab H locs hh => ?_)
          refine lv_if_eq (tgt := 93) hx hb dX2_judge_71 (by decide) (fun hc17 => ?_) (fun hc17 => ?_)
          · have hF := am_pos hc17 hF
            refine lv_bipush (v := (-3 : Int32)) hx hb dX2_judge_93 (by decide) ?_
            exact am_iret X hr hh (fun t ht => am_qw (mk := oI) hF ht) (Nat.le_of_ble_eq_true rfl) (Nat.le_of_ble_eq_true rfl) dX2_judge_95
          · have hF := am_neg hc17 hF
            refine lv_aload_n hx hb dX2_judge_74 rfl (lv_at hl 0 rfl) ?_
            refine am_getR X hh 128 5 1 124 (by decide) rfl rfl (by decide) hwRX2 (show Cond.fieldLink RX2 15 "PlanetWorkshop$Eclipses" "train" "LPlanetWorkshop$Train;" ∈ wsX2_judge by decide +kernel) rfl dX2_judge_75 ?_
            refine lv_aload_n hx hb dX2_judge_78 rfl (lv_at hl 0 rfl) ?_
            refine am_getR X hh 128 5 0 1 (by decide) rfl rfl (by decide) hwRX2 (show Cond.fieldLink RX2 9 "PlanetWorkshop$Eclipses" "state" "LPlanetWorkshop$State;" ∈ wsX2_judge by decide +kernel) rfl dX2_judge_79 ?_
            refine am_getR X hh 1 9 9 11 (by decide) rfl rfl (by decide) hwRX7 (show Cond.fieldLink RX2 34 "PlanetWorkshop$State" "carriers" "[I" ∈ wsX2_judge by decide +kernel) rfl dX2_judge_82 ?_
            refine lv_iload_n hx hb dX2_judge_85 rfl (lv_at hl 2 rfl) ?_
            obtain ⟨hq18, hF⟩ := am_ifR hF
            refine am_iald X hh 11 (by decide) rfl hq18 dX2_judge_86 ?_
            obtain ⟨r20, hk19, hF⟩ := am_bind hF
            refine am_call X hh (va_runV (As := [.int (gI w13 11 (x2).toNatClampNeg)]) (rest := []) X.1 (c_X8_holds l G hk19) (cwV 1 hts gX2_judge_X8_holds rfl rfl rfl (by decide +kernel) ⟨Nat.le_of_ble_eq_true rfl, Nat.le_of_ble_eq_true rfl⟩) (am_preV X hh 124 10 (by decide) rfl rfl) rfl rfl hl.1 rfl (lv_room (Nat.le_of_ble_eq_true rfl)) dX2_judge_87 ⟨Nat.le_of_ble_eq_true rfl, Nat.le_of_ble_eq_true rfl⟩) (fun ab H locs hh => ?_)
            refine lv_if_ne (tgt := 96) hx hb dX2_judge_90 (by decide) (fun hc21 => ?_) (fun hc21 => ?_)
            · have hF := am_neg hc21 hF
              refine lv_iconst (v := (0 : Int32)) hx hb dX2_judge_96 (by decide) ?_
              exact am_iret X hr hh (fun t ht => am_qw (mk := oI) hF ht) (Nat.le_of_ble_eq_true rfl) (Nat.le_of_ble_eq_true rfl) dX2_judge_97
            · have hF := am_pos hc21 hF
              refine lv_bipush (v := (-3 : Int32)) hx hb dX2_judge_93 (by decide) ?_
              exact am_iret X hr hh (fun t ht => am_qw (mk := oI) hF ht) (Nat.le_of_ble_eq_true rfl) (Nat.le_of_ble_eq_true rfl) dX2_judge_95
        · have hF := am_pos hc10 hF
          refine lv_bipush (v := (-2 : Int32)) hx hb dX2_judge_40 (by decide) ?_
          exact am_iret X hr hh (fun t ht => am_qw (mk := oI) hF ht) (Nat.le_of_ble_eq_true rfl) (Nat.le_of_ble_eq_true rfl) dX2_judge_42
      · have hF := am_pos hc9 hF
        refine lv_iconst (v := (-1 : Int32)) hx hb dX2_judge_33 (by decide) ?_
        exact am_iret X hr hh (fun t ht => am_qw (mk := oI) hF ht) (Nat.le_of_ble_eq_true rfl) (Nat.le_of_ble_eq_true rfl) dX2_judge_34
set_option maxHeartbeats 4000000 in
set_option maxRecDepth 100000 in
theorem c_X2_bySolving (l : Launch) (G : GG) {w : Wd} {x1 : Int32} {x2 : Int32} {x3 : Int32} {r0 : Int32} {w1 : Wd} (hF : f_X2_bySolving w x1 x2 x3 = some (r0, w1)) : Met l yX2_bySolving wsX2_bySolving ({ frames := 4, cells := 0, slots := 0, locals := 99 } : Room) (va_Pc [.ref (gAd G 128), .int x1, .int x2, .int x3] (Rel G w)) (amQ G (oI r0) w1) 0 0 (gA G) := by
  refine am_met (own := RX2) (cc := cX2_bySolving) (maxL := 16) (ret := (some .int)) (by decide +kernel) rfl rfl (Nat.le_of_ble_eq_true rfl) ?_
  intro p e s m args below meth c ab H locs ls X hr hh hl
  have hx := X.1.1; have hb := X.1.2.1; have hml := X.1.2.2.1; have hown := X.1.2.2.2.1; have hts := X.1.2.2.2.2
  have hl : lv_has ls 16 [(0, .ref (gAd G 128)), (1, .int x1), (2, .int x2), (3, .int x3)] := hl
  have hwRX2 : ∀ z ∈ u_ws RX2 TX2 2, z ∈ wsX2_bySolving := by decide +kernel
  have hwRX7 : ∀ z ∈ u_ws RX7 TX7 17, z ∈ wsX2_bySolving := by decide +kernel
  have hwRX8 : ∀ z ∈ u_ws RX8 TX8 3, z ∈ wsX2_bySolving := by decide +kernel
  unfold f_X2_bySolving at hF
  refine lv_aload_n hx hb dX2_bySolving_0 rfl (lv_at hl 0 rfl) ?_
  refine am_getR X hh 128 5 1 124 (by decide) rfl rfl (by decide) hwRX2 (show Cond.fieldLink RX2 15 "PlanetWorkshop$Eclipses" "train" "LPlanetWorkshop$Train;" ∈ wsX2_bySolving by decide +kernel) rfl dX2_bySolving_1 ?_
  refine lv_aload_n hx hb dX2_bySolving_4 rfl (lv_at hl 0 rfl) ?_
  refine am_getR X hh 128 5 0 1 (by decide) rfl rfl (by decide) hwRX2 (show Cond.fieldLink RX2 9 "PlanetWorkshop$Eclipses" "state" "LPlanetWorkshop$State;" ∈ wsX2_bySolving by decide +kernel) rfl dX2_bySolving_5 ?_
  refine lv_iload_n hx hb dX2_bySolving_8 rfl (lv_at hl 3 rfl) ?_
  obtain ⟨w3, hk1, hF⟩ := am_bind hF
  refine am_call X hh (va_runV (As := [.ref (gAd G 1), .int x3]) (rest := []) X.1 (c_X8_trace l G hk1) (cwV 2 hts gX2_bySolving_X8_trace rfl rfl rfl (by decide +kernel) ⟨Nat.le_of_ble_eq_true rfl, Nat.le_of_ble_eq_true rfl⟩) (am_preV X hh 124 10 (by decide) rfl rfl) rfl rfl hl.1 rfl (lv_room (Nat.le_of_ble_eq_true rfl)) dX2_bySolving_9 ⟨Nat.le_of_ble_eq_true rfl, Nat.le_of_ble_eq_true rfl⟩) (fun ab H locs hh => ?_)
  refine lv_aload_n hx hb dX2_bySolving_12 rfl (lv_at hl 0 rfl) ?_
  refine am_getR X hh 128 5 0 1 (by decide) rfl rfl (by decide) hwRX2 (show Cond.fieldLink RX2 9 "PlanetWorkshop$Eclipses" "state" "LPlanetWorkshop$State;" ∈ wsX2_bySolving by decide +kernel) rfl dX2_bySolving_13 ?_
  refine am_getR X hh 1 9 9 11 (by decide) rfl rfl (by decide) hwRX7 (show Cond.fieldLink RX2 34 "PlanetWorkshop$State" "carriers" "[I" ∈ wsX2_bySolving by decide +kernel) rfl dX2_bySolving_16 ?_
  refine lv_iload_n hx hb dX2_bySolving_19 rfl (lv_at hl 1 rfl) ?_
  obtain ⟨hq4, hF⟩ := am_ifR hF
  refine am_iald X hh 11 (by decide) rfl hq4 dX2_bySolving_20 ?_
  refine lv_istore (lv' := [(4, .int (gI w3 11 (x1).toNatClampNeg)), (0, .ref (gAd G 128)), (1, .int x1), (2, .int x2), (3, .int x3)]) hx hb dX2_bySolving_21 hl (by decide) rfl (fun ls hl => ?_)
  refine lv_aload_n hx hb dX2_bySolving_23 rfl (lv_at hl 1 rfl) ?_
  refine am_getR X hh 128 5 0 1 (by decide) rfl rfl (by decide) hwRX2 (show Cond.fieldLink RX2 9 "PlanetWorkshop$Eclipses" "state" "LPlanetWorkshop$State;" ∈ wsX2_bySolving by decide +kernel) rfl dX2_bySolving_24 ?_
  refine am_getR X hh 1 9 9 11 (by decide) rfl rfl (by decide) hwRX7 (show Cond.fieldLink RX2 34 "PlanetWorkshop$State" "carriers" "[I" ∈ wsX2_bySolving by decide +kernel) rfl dX2_bySolving_27 ?_
  refine lv_iload_n hx hb dX2_bySolving_30 rfl (lv_at hl 3 rfl) ?_
  obtain ⟨hq5, hF⟩ := am_ifR hF
  refine am_iald X hh 11 (by decide) rfl hq5 dX2_bySolving_31 ?_
  refine lv_istore (lv' := [(5, .int (gI w3 11 (x2).toNatClampNeg)), (4, .int (gI w3 11 (x1).toNatClampNeg)), (0, .ref (gAd G 128)), (1, .int x1), (2, .int x2), (3, .int x3)]) hx hb dX2_bySolving_32 hl (by decide) rfl (fun ls hl => ?_)
  refine lv_aload_n hx hb dX2_bySolving_34 rfl (lv_at hl 2 rfl) ?_
  refine am_getR X hh 128 5 1 124 (by decide) rfl rfl (by decide) hwRX2 (show Cond.fieldLink RX2 15 "PlanetWorkshop$Eclipses" "train" "LPlanetWorkshop$Train;" ∈ wsX2_bySolving by decide +kernel) rfl dX2_bySolving_35 ?_
  refine am_getR X hh 124 10 0 125 (by decide) rfl rfl (by decide) hwRX8 (show Cond.fieldLink RX2 41 "PlanetWorkshop$Train" "units" "[J" ∈ wsX2_bySolving by decide +kernel) rfl dX2_bySolving_38 ?_
  refine lv_iload hx hb dX2_bySolving_41 (lv_at hl 1 rfl) ?_
  obtain ⟨hq6, hF⟩ := am_ifR hF
  refine am_lald X hh 125 (by decide) rfl hq6 dX2_bySolving_43 ?_
  refine lv_aload_n hx hb dX2_bySolving_44 rfl (lv_at hl 2 rfl) ?_
  refine am_getR X hh 128 5 1 124 (by decide) rfl rfl (by decide) hwRX2 (show Cond.fieldLink RX2 15 "PlanetWorkshop$Eclipses" "train" "LPlanetWorkshop$Train;" ∈ wsX2_bySolving by decide +kernel) rfl dX2_bySolving_45 ?_
  refine am_getR X hh 124 10 0 125 (by decide) rfl rfl (by decide) hwRX8 (show Cond.fieldLink RX2 41 "PlanetWorkshop$Train" "units" "[J" ∈ wsX2_bySolving by decide +kernel) rfl dX2_bySolving_48 ?_
  refine lv_iload hx hb dX2_bySolving_51 (lv_at hl 0 rfl) ?_
  obtain ⟨hq7, hF⟩ := am_ifR hF
  refine am_lald X hh 125 (by decide) rfl hq7 dX2_bySolving_53 ?_
  refine lv_lsub hx hb dX2_bySolving_54 ?_
  refine lv_ldc2 (v := (24883200000 : Int64)) hx hb hown (hts _ (show Cond.constantLong RX2 45 (24883200000) ∈ wsX2_bySolving by decide +kernel)) dX2_bySolving_55 ?_
  obtain ⟨r9, hk8, hF⟩ := am_bind hF
  refine am_call X hh (va_runS (As := [.long ((gL w3 125 ((gI w3 11 (x1).toNatClampNeg)).toNatClampNeg) - (gL w3 125 ((gI w3 11 (x2).toNatClampNeg)).toNatClampNeg)), .long (24883200000 : Int64)]) (rest := []) X.1 (c_X4_remainder l G hk8) (va_cwS 2 hts gX2_bySolving_X4_remainder rfl rfl rfl (by decide +kernel) ⟨Nat.le_of_ble_eq_true rfl, Nat.le_of_ble_eq_true rfl⟩) (am_preS X hh) rfl rfl hl.1 rfl (lv_room (Nat.le_of_ble_eq_true rfl)) dX2_bySolving_58 ⟨Nat.le_of_ble_eq_true rfl, Nat.le_of_ble_eq_true rfl⟩) (fun ab H locs hh => ?_)
  refine lv_lstore (lv' := [(6, .long r9), (5, .int (gI w3 11 (x2).toNatClampNeg)), (4, .int (gI w3 11 (x1).toNatClampNeg)), (0, .ref (gAd G 128)), (1, .int x1), (2, .int x2), (3, .int x3)]) hx hb dX2_bySolving_61 hl (by decide) rfl (fun ls hl => ?_)
  refine lv_aload_n hx hb dX2_bySolving_63 rfl (lv_at hl 3 rfl) ?_
  refine am_getR X hh 128 5 0 1 (by decide) rfl rfl (by decide) hwRX2 (show Cond.fieldLink RX2 9 "PlanetWorkshop$Eclipses" "state" "LPlanetWorkshop$State;" ∈ wsX2_bySolving by decide +kernel) rfl dX2_bySolving_64 ?_
  refine am_getR X hh 1 9 1 3 (by decide) rfl rfl (by decide) hwRX7 (show Cond.fieldLink RX2 53 "PlanetWorkshop$State" "angles" "[J" ∈ wsX2_bySolving by decide +kernel) rfl dX2_bySolving_67 ?_
  refine lv_iload hx hb dX2_bySolving_70 (lv_at hl 1 rfl) ?_
  obtain ⟨hq10, hF⟩ := am_ifR hF
  refine am_lald X hh 3 (by decide) rfl hq10 dX2_bySolving_72 ?_
  refine lv_aload_n hx hb dX2_bySolving_73 rfl (lv_at hl 3 rfl) ?_
  refine am_getR X hh 128 5 0 1 (by decide) rfl rfl (by decide) hwRX2 (show Cond.fieldLink RX2 9 "PlanetWorkshop$Eclipses" "state" "LPlanetWorkshop$State;" ∈ wsX2_bySolving by decide +kernel) rfl dX2_bySolving_74 ?_
  refine am_getR X hh 1 9 1 3 (by decide) rfl rfl (by decide) hwRX7 (show Cond.fieldLink RX2 53 "PlanetWorkshop$State" "angles" "[J" ∈ wsX2_bySolving by decide +kernel) rfl dX2_bySolving_77 ?_
  refine lv_iload hx hb dX2_bySolving_80 (lv_at hl 2 rfl) ?_
  obtain ⟨hq11, hF⟩ := am_ifR hF
  refine am_lald X hh 3 (by decide) rfl hq11 dX2_bySolving_82 ?_
  refine lv_lsub hx hb dX2_bySolving_83 ?_
  refine lv_ldc2 (v := (24883200000 : Int64)) hx hb hown (hts _ (show Cond.constantLong RX2 45 (24883200000) ∈ wsX2_bySolving by decide +kernel)) dX2_bySolving_84 ?_
  obtain ⟨r13, hk12, hF⟩ := am_bind hF
  refine am_call X hh (va_runS (As := [.long ((gL w3 3 ((gI w3 11 (x2).toNatClampNeg)).toNatClampNeg) - (gL w3 3 ((gI w3 11 (x1).toNatClampNeg)).toNatClampNeg)), .long (24883200000 : Int64)]) (rest := []) X.1 (c_X4_remainder l G hk12) (va_cwS 2 hts gX2_bySolving_X4_remainder rfl rfl rfl (by decide +kernel) ⟨Nat.le_of_ble_eq_true rfl, Nat.le_of_ble_eq_true rfl⟩) (am_preS X hh) rfl rfl hl.1 rfl (lv_room (Nat.le_of_ble_eq_true rfl)) dX2_bySolving_87 ⟨Nat.le_of_ble_eq_true rfl, Nat.le_of_ble_eq_true rfl⟩) (fun ab H locs hh => ?_)
  refine lv_lstore (lv' := [(8, .long r13), (6, .long r9), (5, .int (gI w3 11 (x2).toNatClampNeg)), (4, .int (gI w3 11 (x1).toNatClampNeg)), (0, .ref (gAd G 128)), (1, .int x1), (2, .int x2), (3, .int x3)]) hx hb dX2_bySolving_90 hl (by decide) rfl (fun ls hl => ?_)
  refine lv_lload hx hb dX2_bySolving_92 (lv_at hl 1 rfl) ?_
  refine lv_ldc2 (v := (24883200000 : Int64)) hx hb hown (hts _ (show Cond.constantLong RX2 45 (24883200000) ∈ wsX2_bySolving by decide +kernel)) dX2_bySolving_94 ?_
  obtain ⟨r15, hk14, hF⟩ := am_bind hF
  refine am_call X hh (va_runS (As := [.long r9, .long (24883200000 : Int64)]) (rest := []) X.1 (c_X4_commonDivisor l G hk14) (va_cwS 2 hts gX2_bySolving_X4_commonDivisor rfl rfl rfl (by decide +kernel) ⟨Nat.le_of_ble_eq_true rfl, Nat.le_of_ble_eq_true rfl⟩) (am_preS X hh) rfl rfl hl.1 rfl (lv_room (Nat.le_of_ble_eq_true rfl)) dX2_bySolving_97 ⟨Nat.le_of_ble_eq_true rfl, Nat.le_of_ble_eq_true rfl⟩) (fun ab H locs hh => ?_)
  refine lv_lstore (lv' := [(10, .long r15), (8, .long r13), (6, .long r9), (5, .int (gI w3 11 (x2).toNatClampNeg)), (4, .int (gI w3 11 (x1).toNatClampNeg)), (0, .ref (gAd G 128)), (1, .int x1), (2, .int x2), (3, .int x3)]) hx hb dX2_bySolving_100 hl (by decide) rfl (fun ls hl => ?_)
  refine lv_lload hx hb dX2_bySolving_102 (lv_at hl 1 rfl) ?_
  refine lv_lload hx hb dX2_bySolving_104 (lv_at hl 0 rfl) ?_
  obtain ⟨r17, hk16, hF⟩ := am_bind hF
  refine am_call X hh (va_runS (As := [.long r13, .long r15]) (rest := []) X.1 (c_X4_remainder l G hk16) (va_cwS 2 hts gX2_bySolving_X4_remainder rfl rfl rfl (by decide +kernel) ⟨Nat.le_of_ble_eq_true rfl, Nat.le_of_ble_eq_true rfl⟩) (am_preS X hh) rfl rfl hl.1 rfl (lv_room (Nat.le_of_ble_eq_true rfl)) dX2_bySolving_106 ⟨Nat.le_of_ble_eq_true rfl, Nat.le_of_ble_eq_true rfl⟩) (fun ab H locs hh => ?_)
  refine lv_lconst (v := (0 : Int64)) hx hb dX2_bySolving_109 (by decide) ?_
  refine am_lcmp_eq (tgt := 116) hx hb dX2_bySolving_110 dX2_bySolving_111 (by decide) (fun hc18 => ?_) (fun hc18 => ?_)
  · have hF := am_pos hc18 hF
    refine lv_ldc2 (v := (24883200000 : Int64)) hx hb hown (hts _ (show Cond.constantLong RX2 45 (24883200000) ∈ wsX2_bySolving by decide +kernel)) dX2_bySolving_116 ?_
    refine lv_lload hx hb dX2_bySolving_119 (lv_at hl 0 rfl) ?_
    obtain ⟨r20, hk19, hF⟩ := am_bind hF
    refine am_call X hh (va_runS (As := [.long (24883200000 : Int64), .long r15]) (rest := []) X.1 (c_X4_quotient l G hk19) (va_cwS 2 hts gX2_bySolving_X4_quotient rfl rfl rfl (by decide +kernel) ⟨Nat.le_of_ble_eq_true rfl, Nat.le_of_ble_eq_true rfl⟩) (am_preS X hh) rfl rfl hl.1 rfl (lv_room (Nat.le_of_ble_eq_true rfl)) dX2_bySolving_121 ⟨Nat.le_of_ble_eq_true rfl, Nat.le_of_ble_eq_true rfl⟩) (fun ab H locs hh => ?_)
    refine lv_lstore (lv' := [(12, .long r20), (10, .long r15), (8, .long r13), (6, .long r9), (5, .int (gI w3 11 (x2).toNatClampNeg)), (4, .int (gI w3 11 (x1).toNatClampNeg)), (0, .ref (gAd G 128)), (1, .int x1), (2, .int x2), (3, .int x3)]) hx hb dX2_bySolving_124 hl (by decide) rfl (fun ls hl => ?_)
    refine lv_lload hx hb dX2_bySolving_126 (lv_at hl 2 rfl) ?_
    refine lv_lload hx hb dX2_bySolving_128 (lv_at hl 1 rfl) ?_
    obtain ⟨r22, hk21, hF⟩ := am_bind hF
    refine am_call X hh (va_runS (As := [.long r13, .long r15]) (rest := []) X.1 (c_X4_quotient l G hk21) (va_cwS 2 hts gX2_bySolving_X4_quotient rfl rfl rfl (by decide +kernel) ⟨Nat.le_of_ble_eq_true rfl, Nat.le_of_ble_eq_true rfl⟩) (am_preS X hh) rfl rfl hl.1 rfl (lv_room (Nat.le_of_ble_eq_true rfl)) dX2_bySolving_130 ⟨Nat.le_of_ble_eq_true rfl, Nat.le_of_ble_eq_true rfl⟩) (fun ab H locs hh => ?_)
    refine lv_lload hx hb dX2_bySolving_133 (lv_at hl 3 rfl) ?_
    refine lv_lload hx hb dX2_bySolving_135 (lv_at hl 1 rfl) ?_
    obtain ⟨r24, hk23, hF⟩ := am_bind hF
    refine am_call X hh (va_runS (As := [.long r9, .long r15]) (rest := [.long r22]) X.1 (c_X4_quotient l G hk23) (va_cwS 2 hts gX2_bySolving_X4_quotient rfl rfl rfl (by decide +kernel) ⟨Nat.le_of_ble_eq_true rfl, Nat.le_of_ble_eq_true rfl⟩) (am_preS X hh) rfl rfl hl.1 rfl (lv_room (Nat.le_of_ble_eq_true rfl)) dX2_bySolving_137 ⟨Nat.le_of_ble_eq_true rfl, Nat.le_of_ble_eq_true rfl⟩) (fun ab H locs hh => ?_)
    refine lv_lload hx hb dX2_bySolving_140 (lv_at hl 0 rfl) ?_
    obtain ⟨r26, hk25, hF⟩ := am_bind hF
    refine am_call X hh (va_runS (As := [.long r24, .long r20]) (rest := [.long r22]) X.1 (c_X4_inverse l G hk25) (va_cwS 2 hts gX2_bySolving_X4_inverse rfl rfl rfl (by decide +kernel) ⟨Nat.le_of_ble_eq_true rfl, Nat.le_of_ble_eq_true rfl⟩) (am_preS X hh) rfl rfl hl.1 rfl (lv_room (Nat.le_of_ble_eq_true rfl)) dX2_bySolving_142 ⟨Nat.le_of_ble_eq_true rfl, Nat.le_of_ble_eq_true rfl⟩) (fun ab H locs hh => ?_)
    refine lv_lload hx hb dX2_bySolving_145 (lv_at hl 0 rfl) ?_
    obtain ⟨r28, hk27, hF⟩ := am_bind hF
    refine am_call X hh (va_runS (As := [.long r22, .long r26, .long r20]) (rest := []) X.1 (c_X4_product l G hk27) (va_cwS 3 hts gX2_bySolving_X4_product rfl rfl rfl (by decide +kernel) ⟨Nat.le_of_ble_eq_true rfl, Nat.le_of_ble_eq_true rfl⟩) (am_preS X hh) rfl rfl hl.1 rfl (lv_room (Nat.le_of_ble_eq_true rfl)) dX2_bySolving_147 ⟨Nat.le_of_ble_eq_true rfl, Nat.le_of_ble_eq_true rfl⟩) (fun ab H locs hh => ?_)
    refine lv_lstore (lv' := [(14, .long r28), (12, .long r20), (10, .long r15), (8, .long r13), (6, .long r9), (5, .int (gI w3 11 (x2).toNatClampNeg)), (4, .int (gI w3 11 (x1).toNatClampNeg)), (0, .ref (gAd G 128)), (1, .int x1), (2, .int x2), (3, .int x3)]) hx hb dX2_bySolving_150 hl (by decide) rfl (fun ls hl => ?_)
    refine lv_lload hx hb dX2_bySolving_152 (lv_at hl 0 rfl) ?_
    refine lv_lconst (v := (0 : Int64)) hx hb dX2_bySolving_154 (by decide) ?_
    refine am_lcmp_ne (tgt := 163) hx hb dX2_bySolving_155 dX2_bySolving_156 (by decide) (fun hc29 => ?_) (fun hc29 => ?_)
    · have hF := am_neg hc29 hF
      refine lv_lload hx hb dX2_bySolving_163 (lv_at hl 0 rfl) ?_
      refine lv_ldc2 (v := (999 : Int64)) hx hb hown (hts _ (show Cond.constantLong RX2 69 (999) ∈ wsX2_bySolving by decide +kernel)) dX2_bySolving_165 ?_
      refine am_lcmp_le (tgt := 176) hx hb dX2_bySolving_168 dX2_bySolving_169 (by decide) (fun hc30 => ?_) (fun hc30 => ?_)
      · have hF := am_pos hc30 hF
        refine lv_lload hx hb dX2_bySolving_176 (lv_at hl 0 rfl) ?_
        refine lv_l2i hx hb dX2_bySolving_178 rfl ?_
        exact am_iret X hr hh (fun t ht => am_qw (mk := oI) hF ht) (Nat.le_of_ble_eq_true rfl) (Nat.le_of_ble_eq_true rfl) dX2_bySolving_179
      · have hF := am_neg hc30 hF
        refine lv_iconst (v := (0 : Int32)) hx hb dX2_bySolving_172 (by decide) ?_
        refine lv_goto (tgt := 179) hx hb dX2_bySolving_173 (by decide) ?_
        exact am_iret X hr hh (fun t ht => am_qw (mk := oI) hF ht) (Nat.le_of_ble_eq_true rfl) (Nat.le_of_ble_eq_true rfl) dX2_bySolving_179
    · have hF := am_pos hc29 hF
      refine lv_lload hx hb dX2_bySolving_159 (lv_at hl 1 rfl) ?_
      refine lv_lstore (lv' := [(14, .long r20), (12, .long r20), (10, .long r15), (8, .long r13), (6, .long r9), (5, .int (gI w3 11 (x2).toNatClampNeg)), (4, .int (gI w3 11 (x1).toNatClampNeg)), (0, .ref (gAd G 128)), (1, .int x1), (2, .int x2), (3, .int x3)]) hx hb dX2_bySolving_161 hl (by decide) rfl (fun ls hl => ?_)
      refine lv_lload hx hb dX2_bySolving_163 (lv_at hl 0 rfl) ?_
      refine lv_ldc2 (v := (999 : Int64)) hx hb hown (hts _ (show Cond.constantLong RX2 69 (999) ∈ wsX2_bySolving by decide +kernel)) dX2_bySolving_165 ?_
      refine am_lcmp_le (tgt := 176) hx hb dX2_bySolving_168 dX2_bySolving_169 (by decide) (fun hc31 => ?_) (fun hc31 => ?_)
      · have hF := am_pos hc31 hF
        refine lv_lload hx hb dX2_bySolving_176 (lv_at hl 0 rfl) ?_
        refine lv_l2i hx hb dX2_bySolving_178 rfl ?_
        exact am_iret X hr hh (fun t ht => am_qw (mk := oI) hF ht) (Nat.le_of_ble_eq_true rfl) (Nat.le_of_ble_eq_true rfl) dX2_bySolving_179
      · have hF := am_neg hc31 hF
        refine lv_iconst (v := (0 : Int32)) hx hb dX2_bySolving_172 (by decide) ?_
        refine lv_goto (tgt := 179) hx hb dX2_bySolving_173 (by decide) ?_
        exact am_iret X hr hh (fun t ht => am_qw (mk := oI) hF ht) (Nat.le_of_ble_eq_true rfl) (Nat.le_of_ble_eq_true rfl) dX2_bySolving_179
  · have hF := am_neg hc18 hF
    refine lv_iconst (v := (0 : Int32)) hx hb dX2_bySolving_114 (by decide) ?_
    exact am_iret X hr hh (fun t ht => am_qw (mk := oI) hF ht) (Nat.le_of_ble_eq_true rfl) (Nat.le_of_ble_eq_true rfl) dX2_bySolving_115
set_option maxHeartbeats 4000000 in
set_option maxRecDepth 100000 in
theorem c_X2_byTurning (l : Launch) (G : GG) {w : Wd} {x1 : Int32} {x2 : Int32} {x3 : Int32} {r0 : Int32} {w1 : Wd} (hF : f_X2_byTurning w x1 x2 x3 = some (r0, w1)) : Met l yX2_byTurning wsX2_byTurning ({ frames := 4, cells := 0, slots := 0, locals := 99 } : Room) (va_Pc [.ref (gAd G 128), .int x1, .int x2, .int x3] (Rel G w)) (amQ G (oI r0) w1) 0 0 (gA G) := by
  refine am_met (own := RX2) (cc := cX2_byTurning) (maxL := 11) (ret := (some .int)) (by decide +kernel) rfl rfl (Nat.le_of_ble_eq_true rfl) ?_
  intro p e s m args below meth c ab H locs ls X hr hh hl
  have hx := X.1.1; have hb := X.1.2.1; have hml := X.1.2.2.1; have hown := X.1.2.2.2.1; have hts := X.1.2.2.2.2
  have hl : lv_has ls 11 [(0, .ref (gAd G 128)), (1, .int x1), (2, .int x2), (3, .int x3)] := hl
  have hwRX2 : ∀ z ∈ u_ws RX2 TX2 2, z ∈ wsX2_byTurning := by decide +kernel
  have hwRX7 : ∀ z ∈ u_ws RX7 TX7 17, z ∈ wsX2_byTurning := by decide +kernel
  have hwRX8 : ∀ z ∈ u_ws RX8 TX8 3, z ∈ wsX2_byTurning := by decide +kernel
  unfold f_X2_byTurning at hF
  refine lv_aload_n hx hb dX2_byTurning_0 rfl (lv_at hl 0 rfl) ?_
  refine am_getR X hh 128 5 1 124 (by decide) rfl rfl (by decide) hwRX2 (show Cond.fieldLink RX2 15 "PlanetWorkshop$Eclipses" "train" "LPlanetWorkshop$Train;" ∈ wsX2_byTurning by decide +kernel) rfl dX2_byTurning_1 ?_
  refine lv_aload_n hx hb dX2_byTurning_4 rfl (lv_at hl 0 rfl) ?_
  refine am_getR X hh 128 5 0 1 (by decide) rfl rfl (by decide) hwRX2 (show Cond.fieldLink RX2 9 "PlanetWorkshop$Eclipses" "state" "LPlanetWorkshop$State;" ∈ wsX2_byTurning by decide +kernel) rfl dX2_byTurning_5 ?_
  refine lv_iload_n hx hb dX2_byTurning_8 rfl (lv_at hl 3 rfl) ?_
  obtain ⟨w3, hk1, hF⟩ := am_bind hF
  refine am_call X hh (va_runV (As := [.ref (gAd G 1), .int x3]) (rest := []) X.1 (c_X8_trace l G hk1) (cwV 2 hts gX2_byTurning_X8_trace rfl rfl rfl (by decide +kernel) ⟨Nat.le_of_ble_eq_true rfl, Nat.le_of_ble_eq_true rfl⟩) (am_preV X hh 124 10 (by decide) rfl rfl) rfl rfl hl.1 rfl (lv_room (Nat.le_of_ble_eq_true rfl)) dX2_byTurning_9 ⟨Nat.le_of_ble_eq_true rfl, Nat.le_of_ble_eq_true rfl⟩) (fun ab H locs hh => ?_)
  refine lv_aload_n hx hb dX2_byTurning_12 rfl (lv_at hl 0 rfl) ?_
  refine am_getR X hh 128 5 0 1 (by decide) rfl rfl (by decide) hwRX2 (show Cond.fieldLink RX2 9 "PlanetWorkshop$Eclipses" "state" "LPlanetWorkshop$State;" ∈ wsX2_byTurning by decide +kernel) rfl dX2_byTurning_13 ?_
  refine am_getR X hh 1 9 9 11 (by decide) rfl rfl (by decide) hwRX7 (show Cond.fieldLink RX2 34 "PlanetWorkshop$State" "carriers" "[I" ∈ wsX2_byTurning by decide +kernel) rfl dX2_byTurning_16 ?_
  refine lv_iload_n hx hb dX2_byTurning_19 rfl (lv_at hl 1 rfl) ?_
  obtain ⟨hq4, hF⟩ := am_ifR hF
  refine am_iald X hh 11 (by decide) rfl hq4 dX2_byTurning_20 ?_
  refine lv_istore (lv' := [(4, .int (gI w3 11 (x1).toNatClampNeg)), (0, .ref (gAd G 128)), (1, .int x1), (2, .int x2), (3, .int x3)]) hx hb dX2_byTurning_21 hl (by decide) rfl (fun ls hl => ?_)
  refine lv_aload_n hx hb dX2_byTurning_23 rfl (lv_at hl 1 rfl) ?_
  refine am_getR X hh 128 5 0 1 (by decide) rfl rfl (by decide) hwRX2 (show Cond.fieldLink RX2 9 "PlanetWorkshop$Eclipses" "state" "LPlanetWorkshop$State;" ∈ wsX2_byTurning by decide +kernel) rfl dX2_byTurning_24 ?_
  refine am_getR X hh 1 9 9 11 (by decide) rfl rfl (by decide) hwRX7 (show Cond.fieldLink RX2 34 "PlanetWorkshop$State" "carriers" "[I" ∈ wsX2_byTurning by decide +kernel) rfl dX2_byTurning_27 ?_
  refine lv_iload_n hx hb dX2_byTurning_30 rfl (lv_at hl 3 rfl) ?_
  obtain ⟨hq5, hF⟩ := am_ifR hF
  refine am_iald X hh 11 (by decide) rfl hq5 dX2_byTurning_31 ?_
  refine lv_istore (lv' := [(5, .int (gI w3 11 (x2).toNatClampNeg)), (4, .int (gI w3 11 (x1).toNatClampNeg)), (0, .ref (gAd G 128)), (1, .int x1), (2, .int x2), (3, .int x3)]) hx hb dX2_byTurning_32 hl (by decide) rfl (fun ls hl => ?_)
  refine lv_aload_n hx hb dX2_byTurning_34 rfl (lv_at hl 2 rfl) ?_
  refine am_getR X hh 128 5 0 1 (by decide) rfl rfl (by decide) hwRX2 (show Cond.fieldLink RX2 9 "PlanetWorkshop$Eclipses" "state" "LPlanetWorkshop$State;" ∈ wsX2_byTurning by decide +kernel) rfl dX2_byTurning_35 ?_
  refine am_getR X hh 1 9 1 3 (by decide) rfl rfl (by decide) hwRX7 (show Cond.fieldLink RX2 53 "PlanetWorkshop$State" "angles" "[J" ∈ wsX2_byTurning by decide +kernel) rfl dX2_byTurning_38 ?_
  refine lv_iload hx hb dX2_byTurning_41 (lv_at hl 1 rfl) ?_
  obtain ⟨hq6, hF⟩ := am_ifR hF
  refine am_lald X hh 3 (by decide) rfl hq6 dX2_byTurning_43 ?_
  refine lv_lstore (lv' := [(6, .long (gL w3 3 ((gI w3 11 (x1).toNatClampNeg)).toNatClampNeg)), (5, .int (gI w3 11 (x2).toNatClampNeg)), (4, .int (gI w3 11 (x1).toNatClampNeg)), (0, .ref (gAd G 128)), (1, .int x1), (2, .int x2), (3, .int x3)]) hx hb dX2_byTurning_44 hl (by decide) rfl (fun ls hl => ?_)
  refine lv_aload_n hx hb dX2_byTurning_46 rfl (lv_at hl 3 rfl) ?_
  refine am_getR X hh 128 5 0 1 (by decide) rfl rfl (by decide) hwRX2 (show Cond.fieldLink RX2 9 "PlanetWorkshop$Eclipses" "state" "LPlanetWorkshop$State;" ∈ wsX2_byTurning by decide +kernel) rfl dX2_byTurning_47 ?_
  refine am_getR X hh 1 9 1 3 (by decide) rfl rfl (by decide) hwRX7 (show Cond.fieldLink RX2 53 "PlanetWorkshop$State" "angles" "[J" ∈ wsX2_byTurning by decide +kernel) rfl dX2_byTurning_50 ?_
  refine lv_iload hx hb dX2_byTurning_53 (lv_at hl 1 rfl) ?_
  obtain ⟨hq7, hF⟩ := am_ifR hF
  refine am_lald X hh 3 (by decide) rfl hq7 dX2_byTurning_55 ?_
  refine lv_lstore (lv' := [(8, .long (gL w3 3 ((gI w3 11 (x2).toNatClampNeg)).toNatClampNeg)), (6, .long (gL w3 3 ((gI w3 11 (x1).toNatClampNeg)).toNatClampNeg)), (5, .int (gI w3 11 (x2).toNatClampNeg)), (4, .int (gI w3 11 (x1).toNatClampNeg)), (0, .ref (gAd G 128)), (1, .int x1), (2, .int x2), (3, .int x3)]) hx hb dX2_byTurning_56 hl (by decide) rfl (fun ls hl => ?_)
  refine lv_iconst (v := (1 : Int32)) hx hb dX2_byTurning_58 (by decide) ?_
  refine lv_istore (lv' := [(10, .int (1 : Int32)), (8, .long (gL w3 3 ((gI w3 11 (x2).toNatClampNeg)).toNatClampNeg)), (6, .long (gL w3 3 ((gI w3 11 (x1).toNatClampNeg)).toNatClampNeg)), (5, .int (gI w3 11 (x2).toNatClampNeg)), (4, .int (gI w3 11 (x1).toNatClampNeg)), (0, .ref (gAd G 128)), (1, .int x1), (2, .int x2), (3, .int x3)]) hx hb dX2_byTurning_59 hl (by decide) rfl (fun ls hl => ?_)
  have hlp61 : ∀ (c11 : Int32) (c12 : Int32) (n : Nat) (y8 : Int64) (y9 : Int64) (y10 : Int32) (ab : Nat) (H : Heap) (locs : List Loc) (ls : Array Slot) (z : (Int64 × Int64 × Int32) ⊕ (Int32 × Wd)), p_X2_byTurning_61 c12 w3 c11 n y8 y9 y10 = some z → AH G s.heap w3 ab H locs → lv_has ls 11 [(6, .long y8), (8, .long y9), (10, .int y10), (5, .int c11), (4, .int c12), (0, .ref (gAd G 128)), (1, .int x1), (2, .int x2), (3, .int x3)] → (∀ (y8 : Int64) (y9 : Int64) (y10 : Int32) (ab : Nat) (H : Heap) (locs : List Loc) (ls : Array Slot), z = .inl (y8, y9, y10) → AH G s.heap w3 ab H locs → lv_has ls 11 [(6, .long y8), (8, .long y9), (10, .int y10), (5, .int c11), (4, .int c12), (0, .ref (gAd G 128)), (1, .int x1), (2, .int x2), (3, .int x3)] → W p l e ({ frames := 4, cells := 0, slots := 0, locals := 99 } : Room) s m args below meth c H locs 0 0 (MQ below (amQ G (oI r0) w1) args s 0 0 (gA G)) (F0 m 128 ls [])) → (∀ r, z = .inr r → some r = some (r0, w1)) → W p l e ({ frames := 4, cells := 0, slots := 0, locals := 99 } : Room) s m args below meth c H locs 0 0 (MQ below (amQ G (oI r0) w1) args s 0 0 (gA G)) (F0 m 61 ls []) := by
    intro c11 c12 n
    induction n with
    | zero =>
      intro y8 y9 y10 ab H locs ls z hF
      unfold p_X2_byTurning_61 at hF
      cases hF
    | succ n ih =>
      intro y8 y9 y10 ab H locs ls z hF hh hl kE kR
      unfold p_X2_byTurning_61 at hF
      refine lv_iload hx hb dX2_byTurning_61 (lv_at hl 2 rfl) ?_
      refine lv_sipush (v := (999 : Int32)) hx hb dX2_byTurning_63 (by decide) ?_
      refine lv_icmp_gt (tgt := 128) hx hb dX2_byTurning_66 (by decide) (fun hc14 => ?_) (fun hc14 => ?_)
      · have hF := am_pos hc14 hF
        exact kE y8 y9 y10 ab H locs ls (Option.some.inj hF).symm hh (lv_sub hl [0, 1, 2, 3, 4, 5, 6, 7, 8] rfl)
      · have hF := am_neg hc14 hF
        refine lv_lload hx hb dX2_byTurning_69 (lv_at hl 0 rfl) ?_
        refine lv_aload_n hx hb dX2_byTurning_71 rfl (lv_at hl 5 rfl) ?_
        refine am_getR X hh 128 5 1 124 (by decide) rfl rfl (by decide) hwRX2 (show Cond.fieldLink RX2 15 "PlanetWorkshop$Eclipses" "train" "LPlanetWorkshop$Train;" ∈ wsX2_byTurning by decide +kernel) rfl dX2_byTurning_72 ?_
        refine am_getR X hh 124 10 0 125 (by decide) rfl rfl (by decide) hwRX8 (show Cond.fieldLink RX2 41 "PlanetWorkshop$Train" "units" "[J" ∈ wsX2_byTurning by decide +kernel) rfl dX2_byTurning_75 ?_
        refine lv_iload hx hb dX2_byTurning_78 (lv_at hl 4 rfl) ?_
        obtain ⟨hq15, hF⟩ := am_ifR hF
        refine am_lald X hh 125 (by decide) rfl hq15 dX2_byTurning_80 ?_
        refine lv_ladd hx hb dX2_byTurning_81 ?_
        refine lv_ldc2 (v := (24883200000 : Int64)) hx hb hown (hts _ (show Cond.constantLong RX2 45 (24883200000) ∈ wsX2_byTurning by decide +kernel)) dX2_byTurning_82 ?_
        obtain ⟨r17, hk16, hF⟩ := am_bind hF
        refine am_call X hh (va_runS (As := [.long (y8 + (gL w3 125 (c12).toNatClampNeg)), .long (24883200000 : Int64)]) (rest := []) X.1 (c_X4_remainder l G hk16) (va_cwS 2 hts gX2_byTurning_X4_remainder rfl rfl rfl (by decide +kernel) ⟨Nat.le_of_ble_eq_true rfl, Nat.le_of_ble_eq_true rfl⟩) (am_preS X hh) rfl rfl hl.1 rfl (lv_room (Nat.le_of_ble_eq_true rfl)) dX2_byTurning_85 ⟨Nat.le_of_ble_eq_true rfl, Nat.le_of_ble_eq_true rfl⟩) (fun ab H locs hh => ?_)
        refine lv_lstore (lv' := [(6, .long r17), (8, .long y9), (10, .int y10), (5, .int c11), (4, .int c12), (0, .ref (gAd G 128)), (1, .int x1), (2, .int x2), (3, .int x3)]) hx hb dX2_byTurning_88 hl (by decide) rfl (fun ls hl => ?_)
        refine lv_lload hx hb dX2_byTurning_90 (lv_at hl 1 rfl) ?_
        refine lv_aload_n hx hb dX2_byTurning_92 rfl (lv_at hl 5 rfl) ?_
        refine am_getR X hh 128 5 1 124 (by decide) rfl rfl (by decide) hwRX2 (show Cond.fieldLink RX2 15 "PlanetWorkshop$Eclipses" "train" "LPlanetWorkshop$Train;" ∈ wsX2_byTurning by decide +kernel) rfl dX2_byTurning_93 ?_
        refine am_getR X hh 124 10 0 125 (by decide) rfl rfl (by decide) hwRX8 (show Cond.fieldLink RX2 41 "PlanetWorkshop$Train" "units" "[J" ∈ wsX2_byTurning by decide +kernel) rfl dX2_byTurning_96 ?_
        refine lv_iload hx hb dX2_byTurning_99 (lv_at hl 3 rfl) ?_
        obtain ⟨hq18, hF⟩ := am_ifR hF
        refine am_lald X hh 125 (by decide) rfl hq18 dX2_byTurning_101 ?_
        refine lv_ladd hx hb dX2_byTurning_102 ?_
        refine lv_ldc2 (v := (24883200000 : Int64)) hx hb hown (hts _ (show Cond.constantLong RX2 45 (24883200000) ∈ wsX2_byTurning by decide +kernel)) dX2_byTurning_103 ?_
        obtain ⟨r20, hk19, hF⟩ := am_bind hF
        refine am_call X hh (va_runS (As := [.long (y9 + (gL w3 125 (c11).toNatClampNeg)), .long (24883200000 : Int64)]) (rest := []) X.1 (c_X4_remainder l G hk19) (va_cwS 2 hts gX2_byTurning_X4_remainder rfl rfl rfl (by decide +kernel) ⟨Nat.le_of_ble_eq_true rfl, Nat.le_of_ble_eq_true rfl⟩) (am_preS X hh) rfl rfl hl.1 rfl (lv_room (Nat.le_of_ble_eq_true rfl)) dX2_byTurning_106 ⟨Nat.le_of_ble_eq_true rfl, Nat.le_of_ble_eq_true rfl⟩) (fun ab H locs hh => ?_)
        refine lv_lstore (lv' := [(8, .long r20), (6, .long r17), (10, .int y10), (5, .int c11), (4, .int c12), (0, .ref (gAd G 128)), (1, .int x1), (2, .int x2), (3, .int x3)]) hx hb dX2_byTurning_109 hl (by decide) rfl (fun ls hl => ?_)
        refine lv_lload hx hb dX2_byTurning_111 (lv_at hl 1 rfl) ?_
        refine lv_lload hx hb dX2_byTurning_113 (lv_at hl 0 rfl) ?_
        refine am_lcmp_ne (tgt := 122) hx hb dX2_byTurning_115 dX2_byTurning_116 (by decide) (fun hc21 => ?_) (fun hc21 => ?_)
        · have hF := am_neg hc21 hF
          refine lv_iinc (v := (y10 + (1 : Int32))) (lv' := [(10, .int (y10 + (1 : Int32))), (8, .long r20), (6, .long r17), (5, .int c11), (4, .int c12), (0, .ref (gAd G 128)), (1, .int x1), (2, .int x2), (3, .int x3)]) hx hb dX2_byTurning_122 hl (k := 2) rfl rfl (by decide) rfl (fun ls hl => ?_)
          refine lv_goto (tgt := 61) hx hb dX2_byTurning_125 (by decide) ?_
          exact ih r17 r20 (y10 + (1 : Int32)) ab H locs ls _ hF hh (lv_sub hl [2, 1, 0, 3, 4, 5, 6, 7, 8] rfl) kE kR
        · have hF := am_pos hc21 hF
          refine lv_iload hx hb dX2_byTurning_119 (lv_at hl 2 rfl) ?_
          have hF := kR _ (Option.some.inj hF).symm
          exact am_iret X hr hh (fun t ht => am_qw (mk := oI) hF ht) (Nat.le_of_ble_eq_true rfl) (Nat.le_of_ble_eq_true rfl) dX2_byTurning_121
  obtain ⟨z22, hz23, hF⟩ := am_bind hF
  refine hlp61 (gI w3 11 (x2).toNatClampNeg) (gI w3 11 (x1).toNatClampNeg) 2000 (gL w3 3 ((gI w3 11 (x1).toNatClampNeg)).toNatClampNeg) (gL w3 3 ((gI w3 11 (x2).toNatClampNeg)).toNatClampNeg) (1 : Int32) ab H locs ls z22 hz23 hh (lv_sub hl [2, 1, 0, 3, 4, 5, 6, 7, 8] rfl) (fun y8 y9 y10 ab H locs ls hz hh hl => ?_) (fun r hz => ?_)
  · subst hz
    have hF := am_zl hF
    have hF := am_u3 hF
    refine lv_iconst (v := (0 : Int32)) hx hb dX2_byTurning_128 (by decide) ?_
    exact am_iret X hr hh (fun t ht => am_qw (mk := oI) hF ht) (Nat.le_of_ble_eq_true rfl) (Nat.le_of_ble_eq_true rfl) dX2_byTurning_129
  · subst hz
    have hF := am_zr hF
    exact hF
set_option maxHeartbeats 4000000 in
set_option maxRecDepth 100000 in
theorem c_X2_bothWaysAgree (l : Launch) (G : GG) {w : Wd} {r0 : Int32} {w1 : Wd} (hF : f_X2_bothWaysAgree w = some (r0, w1)) : Met l yX2_bothWaysAgree wsX2_bothWaysAgree ({ frames := 5, cells := 0, slots := 0, locals := 134 } : Room) (va_Pc [.ref (gAd G 128)] (Rel G w)) (amQ G (oI r0) w1) 0 0 (gA G) := by
  refine am_met (own := RX2) (cc := cX2_bothWaysAgree) (maxL := 4) (ret := (some .boolean)) (by decide +kernel) rfl rfl (Nat.le_of_ble_eq_true rfl) ?_
  intro p e s m args below meth c ab H locs ls X hr hh hl
  have hx := X.1.1; have hb := X.1.2.1; have hml := X.1.2.2.1; have hown := X.1.2.2.2.1; have hts := X.1.2.2.2.2
  have hl : lv_has ls 4 [(0, .ref (gAd G 128))] := hl
  have hwRX2 : ∀ z ∈ u_ws RX2 TX2 2, z ∈ wsX2_bothWaysAgree := by decide +kernel
  have hwRX7 : ∀ z ∈ u_ws RX7 TX7 17, z ∈ wsX2_bothWaysAgree := by decide +kernel
  unfold f_X2_bothWaysAgree at hF
  refine lv_iconst (v := (0 : Int32)) hx hb dX2_bothWaysAgree_0 (by decide) ?_
  refine lv_istore_n (lv' := [(1, .int (0 : Int32)), (0, .ref (gAd G 128))]) hx hb dX2_bothWaysAgree_1 rfl hl (by decide) rfl (fun ls hl => ?_)
  have hlp2 : ∀ (n : Nat) (y1 : Int32) (w2 : Wd) (ab : Nat) (H : Heap) (locs : List Loc) (ls : Array Slot) (z : (Int32 × Wd) ⊕ (Int32 × Wd)), p_X2_bothWaysAgree_2 n y1 w2 = some z → AH G s.heap w2 ab H locs → lv_has ls 4 [(1, .int y1), (0, .ref (gAd G 128))] → (∀ (y1 : Int32) (w2 : Wd) (ab : Nat) (H : Heap) (locs : List Loc) (ls : Array Slot), z = .inl (y1, w2) → AH G s.heap w2 ab H locs → lv_has ls 4 [(1, .int y1), (0, .ref (gAd G 128))] → W p l e ({ frames := 5, cells := 0, slots := 0, locals := 134 } : Room) s m args below meth c H locs 0 0 (MQ below (amQ G (oI r0) w1) args s 0 0 (gA G)) (F0 m 77 ls [])) → (∀ r, z = .inr r → some r = some (r0, w1)) → W p l e ({ frames := 5, cells := 0, slots := 0, locals := 134 } : Room) s m args below meth c H locs 0 0 (MQ below (amQ G (oI r0) w1) args s 0 0 (gA G)) (F0 m 2 ls []) := by
    intro n
    induction n with
    | zero =>
      intro y1 w2 ab H locs ls z hF
      unfold p_X2_bothWaysAgree_2 at hF
      cases hF
    | succ n ih =>
      intro y1 w2 ab H locs ls z hF hh hl kE kR
      unfold p_X2_bothWaysAgree_2 at hF
      refine lv_iload_n hx hb dX2_bothWaysAgree_2 rfl (lv_at hl 0 rfl) ?_
      refine lv_aload_n hx hb dX2_bothWaysAgree_3 rfl (lv_at hl 1 rfl) ?_
      refine am_getR X hh 128 5 0 1 (by decide) rfl rfl (by decide) hwRX2 (show Cond.fieldLink RX2 9 "PlanetWorkshop$Eclipses" "state" "LPlanetWorkshop$State;" ∈ wsX2_bothWaysAgree by decide +kernel) rfl dX2_bothWaysAgree_4 ?_
      refine am_getI X hh 1 9 12 (by decide) rfl rfl (by decide) hwRX7 (show Cond.fieldLink RX2 71 "PlanetWorkshop$State" "planets" "I" ∈ wsX2_bothWaysAgree by decide +kernel) rfl dX2_bothWaysAgree_7 ?_
      refine lv_icmp_ge (tgt := 77) hx hb dX2_bothWaysAgree_10 (by decide) (fun hc4 => ?_) (fun hc4 => ?_)
      · have hF := am_pos hc4 hF
        exact kE y1 w2 ab H locs ls (Option.some.inj hF).symm hh (lv_sub hl [0, 1] rfl)
      · have hF := am_neg hc4 hF
        refine lv_aload_n hx hb dX2_bothWaysAgree_13 rfl (lv_at hl 1 rfl) ?_
        refine am_getR X hh 128 5 0 1 (by decide) rfl rfl (by decide) hwRX2 (show Cond.fieldLink RX2 9 "PlanetWorkshop$Eclipses" "state" "LPlanetWorkshop$State;" ∈ wsX2_bothWaysAgree by decide +kernel) rfl dX2_bothWaysAgree_14 ?_
        refine am_getR X hh 1 9 9 11 (by decide) rfl rfl (by decide) hwRX7 (show Cond.fieldLink RX2 34 "PlanetWorkshop$State" "carriers" "[I" ∈ wsX2_bothWaysAgree by decide +kernel) rfl dX2_bothWaysAgree_17 ?_
        refine lv_iload_n hx hb dX2_bothWaysAgree_20 rfl (lv_at hl 0 rfl) ?_
        obtain ⟨hq5, hF⟩ := am_ifR hF
        refine am_iald X hh 11 (by decide) rfl hq5 dX2_bothWaysAgree_21 ?_
        refine lv_istore_n (lv' := [(2, .int (gI w2 11 (y1).toNatClampNeg)), (1, .int y1), (0, .ref (gAd G 128))]) hx hb dX2_bothWaysAgree_22 rfl hl (by decide) rfl (fun ls hl => ?_)
        refine lv_iconst (v := (0 : Int32)) hx hb dX2_bothWaysAgree_23 (by decide) ?_
        refine lv_istore_n (lv' := [(3, .int (0 : Int32)), (2, .int (gI w2 11 (y1).toNatClampNeg)), (1, .int y1), (0, .ref (gAd G 128))]) hx hb dX2_bothWaysAgree_24 rfl hl (by decide) rfl (fun ls hl => ?_)
        have hlp25 : ∀ (c7 : Int32) (n : Nat) (y6 : Int32) (w8 : Wd) (ab : Nat) (H : Heap) (locs : List Loc) (ls : Array Slot) (z : (Int32 × Wd) ⊕ (Int32 × Wd)), p_X2_bothWaysAgree_25 y1 c7 n y6 w8 = some z → AH G s.heap w8 ab H locs → lv_has ls 4 [(3, .int y6), (2, .int c7), (1, .int y1), (0, .ref (gAd G 128))] → (∀ (y6 : Int32) (w8 : Wd) (ab : Nat) (H : Heap) (locs : List Loc) (ls : Array Slot), z = .inl (y6, w8) → AH G s.heap w8 ab H locs → lv_has ls 4 [(3, .int y6), (2, .int c7), (1, .int y1), (0, .ref (gAd G 128))] → W p l e ({ frames := 5, cells := 0, slots := 0, locals := 134 } : Room) s m args below meth c H locs 0 0 (MQ below (amQ G (oI r0) w1) args s 0 0 (gA G)) (F0 m 71 ls [])) → (∀ r, z = .inr r → some r = some (r0, w1)) → W p l e ({ frames := 5, cells := 0, slots := 0, locals := 134 } : Room) s m args below meth c H locs 0 0 (MQ below (amQ G (oI r0) w1) args s 0 0 (gA G)) (F0 m 25 ls []) := by
          intro c7 n
          induction n with
          | zero =>
            intro y6 w8 ab H locs ls z hF
            unfold p_X2_bothWaysAgree_25 at hF
            cases hF
          | succ n ih =>
            intro y6 w8 ab H locs ls z hF hh hl kE kR
            unfold p_X2_bothWaysAgree_25 at hF
            refine lv_iload_n hx hb dX2_bothWaysAgree_25 rfl (lv_at hl 0 rfl) ?_
            refine lv_aload_n hx hb dX2_bothWaysAgree_26 rfl (lv_at hl 3 rfl) ?_
            refine am_getR X hh 128 5 0 1 (by decide) rfl rfl (by decide) hwRX2 (show Cond.fieldLink RX2 9 "PlanetWorkshop$Eclipses" "state" "LPlanetWorkshop$State;" ∈ wsX2_bothWaysAgree by decide +kernel) rfl dX2_bothWaysAgree_27 ?_
            refine am_getI X hh 1 9 12 (by decide) rfl rfl (by decide) hwRX7 (show Cond.fieldLink RX2 71 "PlanetWorkshop$State" "planets" "I" ∈ wsX2_bothWaysAgree by decide +kernel) rfl dX2_bothWaysAgree_30 ?_
            refine lv_icmp_ge (tgt := 71) hx hb dX2_bothWaysAgree_33 (by decide) (fun hc10 => ?_) (fun hc10 => ?_)
            · have hF := am_pos hc10 hF
              exact kE y6 w8 ab H locs ls (Option.some.inj hF).symm hh (lv_sub hl [0, 1, 2, 3] rfl)
            · have hF := am_neg hc10 hF
              refine lv_aload_n hx hb dX2_bothWaysAgree_36 rfl (lv_at hl 3 rfl) ?_
              refine lv_iload_n hx hb dX2_bothWaysAgree_37 rfl (lv_at hl 2 rfl) ?_
              refine lv_iload_n hx hb dX2_bothWaysAgree_38 rfl (lv_at hl 0 rfl) ?_
              refine lv_iload_n hx hb dX2_bothWaysAgree_39 rfl (lv_at hl 1 rfl) ?_
              obtain ⟨⟨r12, w13⟩, hk11, hF⟩ := am_bind hF
              have hF := am_u2 hF
              refine am_call X hh (va_runV (As := [.int y1, .int y6, .int c7]) (rest := []) X.1 (c_X2_judge l G hk11) (cwV 3 hts gX2_bothWaysAgree_X2_judge rfl rfl rfl (by decide +kernel) ⟨Nat.le_of_ble_eq_true rfl, Nat.le_of_ble_eq_true rfl⟩) (am_preV X hh 128 5 (by decide) rfl rfl) rfl rfl hl.1 rfl (lv_room (Nat.le_of_ble_eq_true rfl)) dX2_bothWaysAgree_40 ⟨Nat.le_of_ble_eq_true rfl, Nat.le_of_ble_eq_true rfl⟩) (fun ab H locs hh => ?_)
              refine lv_if_ne (tgt := 65) hx hb dX2_bothWaysAgree_43 (by decide) (fun hc15 => ?_) (fun hc15 => ?_)
              · have hF := am_neg hc15 hF
                refine lv_iinc (v := (y6 + (1 : Int32))) (lv' := [(3, .int (y6 + (1 : Int32))), (2, .int c7), (1, .int y1), (0, .ref (gAd G 128))]) hx hb dX2_bothWaysAgree_65 hl (k := 0) rfl rfl (by decide) rfl (fun ls hl => ?_)
                refine lv_goto (tgt := 25) hx hb dX2_bothWaysAgree_68 (by decide) ?_
                exact ih (y6 + (1 : Int32)) w13 ab H locs ls _ hF hh (lv_sub hl [0, 1, 2, 3] rfl) kE kR
              · have hF := am_pos hc15 hF
                refine lv_aload_n hx hb dX2_bothWaysAgree_46 rfl (lv_at hl 3 rfl) ?_
                refine lv_iload_n hx hb dX2_bothWaysAgree_47 rfl (lv_at hl 2 rfl) ?_
                refine lv_iload_n hx hb dX2_bothWaysAgree_48 rfl (lv_at hl 0 rfl) ?_
                refine lv_iload_n hx hb dX2_bothWaysAgree_49 rfl (lv_at hl 1 rfl) ?_
                obtain ⟨⟨r17, w18⟩, hk16, hF⟩ := am_bind hF
                have hF := am_u2 hF
                refine am_call X hh (va_runV (As := [.int y1, .int y6, .int c7]) (rest := []) X.1 (c_X2_bySolving l G hk16) (cwV 3 hts gX2_bothWaysAgree_X2_bySolving rfl rfl rfl (by decide +kernel) ⟨Nat.le_of_ble_eq_true rfl, Nat.le_of_ble_eq_true rfl⟩) (am_preV X hh 128 5 (by decide) rfl rfl) rfl rfl hl.1 rfl (lv_room (Nat.le_of_ble_eq_true rfl)) dX2_bothWaysAgree_50 ⟨Nat.le_of_ble_eq_true rfl, Nat.le_of_ble_eq_true rfl⟩) (fun ab H locs hh => ?_)
                refine lv_aload_n hx hb dX2_bothWaysAgree_53 rfl (lv_at hl 3 rfl) ?_
                refine lv_iload_n hx hb dX2_bothWaysAgree_54 rfl (lv_at hl 2 rfl) ?_
                refine lv_iload_n hx hb dX2_bothWaysAgree_55 rfl (lv_at hl 0 rfl) ?_
                refine lv_iload_n hx hb dX2_bothWaysAgree_56 rfl (lv_at hl 1 rfl) ?_
                obtain ⟨⟨r21, w22⟩, hk20, hF⟩ := am_bind hF
                have hF := am_u2 hF
                refine am_call X hh (va_runV (As := [.int y1, .int y6, .int c7]) (rest := [.int r17]) X.1 (c_X2_byTurning l G hk20) (cwV 3 hts gX2_bothWaysAgree_X2_byTurning rfl rfl rfl (by decide +kernel) ⟨Nat.le_of_ble_eq_true rfl, Nat.le_of_ble_eq_true rfl⟩) (am_preV X hh 128 5 (by decide) rfl rfl) rfl rfl hl.1 rfl (lv_room (Nat.le_of_ble_eq_true rfl)) dX2_bothWaysAgree_57 ⟨Nat.le_of_ble_eq_true rfl, Nat.le_of_ble_eq_true rfl⟩) (fun ab H locs hh => ?_)
                refine lv_icmp_eq (tgt := 65) hx hb dX2_bothWaysAgree_60 (by decide) (fun hc24 => ?_) (fun hc24 => ?_)
                · have hF := am_pos hc24 hF
                  refine lv_iinc (v := (y6 + (1 : Int32))) (lv' := [(3, .int (y6 + (1 : Int32))), (2, .int c7), (1, .int y1), (0, .ref (gAd G 128))]) hx hb dX2_bothWaysAgree_65 hl (k := 0) rfl rfl (by decide) rfl (fun ls hl => ?_)
                  refine lv_goto (tgt := 25) hx hb dX2_bothWaysAgree_68 (by decide) ?_
                  exact ih (y6 + (1 : Int32)) w22 ab H locs ls _ hF hh (lv_sub hl [0, 1, 2, 3] rfl) kE kR
                · have hF := am_neg hc24 hF
                  refine lv_iconst (v := (0 : Int32)) hx hb dX2_bothWaysAgree_63 (by decide) ?_
                  have hF := kR _ (Option.some.inj hF).symm
                  exact am_zret (v' := (0 : Int32)) X hr rfl hh (fun t ht => am_qw (mk := oI) hF ht) (Nat.le_of_ble_eq_true rfl) (Nat.le_of_ble_eq_true rfl) dX2_bothWaysAgree_64
        obtain ⟨z25, hz26, hF⟩ := am_bind hF
        refine hlp25 (gI w2 11 (y1).toNatClampNeg) 2000 (0 : Int32) w2 ab H locs ls z25 hz26 hh (lv_sub hl [0, 1, 2, 3] rfl) (fun y6 w8 ab H locs ls hz hh hl => ?_) (fun r hz => ?_)
        · subst hz
          have hF := am_zl hF
          have hF := am_u2 hF
          refine lv_iinc (v := (y1 + (1 : Int32))) (lv' := [(1, .int (y1 + (1 : Int32))), (3, .int y6), (2, .int (gI w2 11 (y1).toNatClampNeg)), (0, .ref (gAd G 128))]) hx hb dX2_bothWaysAgree_71 hl (k := 2) rfl rfl (by decide) rfl (fun ls hl => ?_)
          refine lv_goto (tgt := 2) hx hb dX2_bothWaysAgree_74 (by decide) ?_
          exact ih (y1 + (1 : Int32)) w8 ab H locs ls _ hF hh (lv_sub hl [0, 3] rfl) kE kR
        · subst hz
          have hF := am_zr hF
          exact kR _ (Option.some.inj hF).symm
  obtain ⟨z27, hz28, hF⟩ := am_bind hF
  refine hlp2 2000 (0 : Int32) w ab H locs ls z27 hz28 hh (lv_sub hl [0, 1] rfl) (fun y1 w2 ab H locs ls hz hh hl => ?_) (fun r hz => ?_)
  · subst hz
    have hF := am_zl hF
    have hF := am_u2 hF
    refine lv_iconst (v := (1 : Int32)) hx hb dX2_bothWaysAgree_77 (by decide) ?_
    exact am_zret (v' := (1 : Int32)) X hr rfl hh (fun t ht => am_qw (mk := oI) hF ht) (Nat.le_of_ble_eq_true rfl) (Nat.le_of_ble_eq_true rfl) dX2_bothWaysAgree_78
  · subst hz
    have hF := am_zr hF
    exact hF
