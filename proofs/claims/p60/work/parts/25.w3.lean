set_option maxHeartbeats 4000000 in
set_option maxRecDepth 100000 in
theorem c_X3_empty (l : Launch) (G : GG) {w : Wd} {wz : Wd} (hF : f_X3_empty w = some wz) : Met l yX3_empty wsX3_empty ({ frames := 0, cells := 0, slots := 0, locals := 0 } : Room) (va_Pc [.ref (gAd G 34)] (Rel G w)) (amQ G none wz) 0 0 (gA G) := by
  refine am_met (own := RX3) (cc := cX3_empty) (maxL := 1) (ret := none) (by decide +kernel) rfl rfl (Nat.le_of_ble_eq_true rfl) ?_
  intro p e s m args below meth c ab H locs ls X hr hh hl
  have hx := X.1.1; have hb := X.1.2.1; have hml := X.1.2.2.1; have hown := X.1.2.2.2.1; have hts := X.1.2.2.2.2
  have hl : lv_has ls 1 [(0, .ref (gAd G 34))] := hl
  have hwRX3 : ∀ z ∈ u_ws RX3 TX3 3, z ∈ wsX3_empty := by decide +kernel
  unfold f_X3_empty at hF
  refine lv_aload_n hx hb dX3_empty_0 rfl (lv_at hl 0 rfl) ?_
  refine lv_iconst (v := (0 : Int32)) hx hb dX3_empty_1 (by decide) ?_
  refine am_putI X hh 34 6 2 (by decide) rfl rfl (by decide) hwRX3 tyX3 tyX3_ok nmX3 (show Cond.fieldLink RX3 21 "PlanetWorkshop$History" "count" "I" ∈ wsX3_empty by decide +kernel) rfl rfl rfl rfl dX3_empty_2 (fun H locs hh => ?_)
  obtain ⟨w1, hw1, hF⟩ := am_wl hF
  have hh := AH_eq hw1 hh
  exact am_vret X hr hh (fun t ht => am_qv hF ht) (Nat.le_of_ble_eq_true rfl) (Nat.le_of_ble_eq_true rfl) dX3_empty_5
set_option maxHeartbeats 4000000 in
set_option maxRecDepth 100000 in
theorem c_X3_push (l : Launch) (G : GG) {w : Wd} {w1 : Wd} (hF : f_X3_push w = some w1) : Met l yX3_push wsX3_push ({ frames := 1, cells := 0, slots := 0, locals := 22 } : Room) (va_Pc [.ref (gAd G 34), .ref (gAd G 12)] (Rel G w)) (amQ G none w1) 0 0 (gA G) := by
  refine am_met (own := RX3) (cc := cX3_push) (maxL := 3) (ret := none) (by decide +kernel) rfl rfl (Nat.le_of_ble_eq_true rfl) ?_
  intro p e s m args below meth c ab H locs ls X hr hh hl
  have hx := X.1.1; have hb := X.1.2.1; have hml := X.1.2.2.1; have hown := X.1.2.2.2.1; have hts := X.1.2.2.2.2
  have hl : lv_has ls 3 [(0, .ref (gAd G 34)), (1, .ref (gAd G 12))] := hl
  have hwRX3 : ∀ z ∈ u_ws RX3 TX3 3, z ∈ wsX3_push := by decide +kernel
  unfold f_X3_push at hF
  refine lv_aload_n hx hb dX3_push_0 rfl (lv_at hl 0 rfl) ?_
  refine am_getI X hh 34 6 2 (by decide) rfl rfl (by decide) hwRX3 (show Cond.fieldLink RX3 21 "PlanetWorkshop$History" "count" "I" ∈ wsX3_push by decide +kernel) rfl dX3_push_1 ?_
  refine lv_bipush (v := (8 : Int32)) hx hb dX3_push_4 (by decide) ?_
  refine lv_icmp_ne (tgt := 32) hx hb dX3_push_6 (by decide) (fun hc1 => ?_) (fun hc1 => ?_)
  · have hF := am_neg hc1 hF
    refine lv_aload_n hx hb dX3_push_32 rfl (lv_at hl 0 rfl) ?_
    refine am_getR X hh 34 6 0 35 (by decide) rfl rfl (by decide) hwRX3 (show Cond.fieldLink RX3 11 "PlanetWorkshop$History" "states" "[LPlanetWorkshop$State;" ∈ wsX3_push by decide +kernel) rfl dX3_push_33 ?_
    refine lv_aload_n hx hb dX3_push_36 rfl (lv_at hl 0 rfl) ?_
    refine am_getI X hh 34 6 1 (by decide) rfl rfl (by decide) hwRX3 (show Cond.fieldLink RX3 17 "PlanetWorkshop$History" "first" "I" ∈ wsX3_push by decide +kernel) rfl dX3_push_37 ?_
    refine lv_aload_n hx hb dX3_push_40 rfl (lv_at hl 0 rfl) ?_
    refine am_getI X hh 34 6 2 (by decide) rfl rfl (by decide) hwRX3 (show Cond.fieldLink RX3 21 "PlanetWorkshop$History" "count" "I" ∈ wsX3_push by decide +kernel) rfl dX3_push_41 ?_
    refine lv_iadd hx hb dX3_push_44 ?_
    refine lv_bipush (v := (8 : Int32)) hx hb dX3_push_45 (by decide) ?_
    obtain ⟨hq2, hF⟩ := am_if hF
    refine lv_irem hx hb dX3_push_47 hq2 ?_
    obtain ⟨hq3, hF⟩ := am_ifR hF
    refine am_alds X hh 35 (by decide) rfl hq3 dX3_push_48 ?_
    refine lv_astore_n (lv' := [(2, .ref (gAd G (36 + 11 * ((((gI w 34 1) + (gI w 34 2)) - ((gI w 34 1) + (gI w 34 2)) / (8 : Int32) * (8 : Int32))).toNatClampNeg))), (0, .ref (gAd G 34)), (1, .ref (gAd G 12))]) hx hb dX3_push_49 rfl hl (by decide) rfl (fun ls hl => ?_)
    refine lv_aload_n hx hb dX3_push_50 rfl (lv_at hl 0 rfl) ?_
    refine lv_ifnull hx hb dX3_push_51 ?_
    refine lv_aload_n hx hb dX3_push_54 rfl (lv_at hl 0 rfl) ?_
    refine lv_aload_n hx hb dX3_push_55 rfl (lv_at hl 2 rfl) ?_
    obtain ⟨w6, hk4, hF⟩ := am_bind hF
    refine am_call X hh (va_runV (As := [.ref (gAd G 12)]) (rest := []) X.1 (c_X7_copyFrom l G (st_h (vp_lt hq3)) st_12 hk4) (cwV 1 hts gX3_push_X7_copyFrom rfl rfl rfl (by decide +kernel) ⟨Nat.le_of_ble_eq_true rfl, Nat.le_of_ble_eq_true rfl⟩) (am_preVg X hh (36 + 11 * ((((gI w 34 1) + (gI w 34 2)) - ((gI w 34 1) + (gI w 34 2)) / (8 : Int32) * (8 : Int32))).toNatClampNeg) 9 (st_lt (st_h (vp_lt hq3)) 0 (by decide)) (dsc_st (st_h (vp_lt hq3)) _ 0 (by decide)) (st_ne (st_h (vp_lt hq3)) 0 (by decide)) rfl) rfl rfl hl.1 rfl (lv_room (Nat.le_of_ble_eq_true rfl)) dX3_push_56 ⟨Nat.le_of_ble_eq_true rfl, Nat.le_of_ble_eq_true rfl⟩) (fun ab H locs hh => ?_)
    refine lv_aload_n hx hb dX3_push_59 rfl (lv_at hl 1 rfl) ?_
    refine lv_dup hx hb dX3_push_60 rfl ?_
    refine am_getI X hh 34 6 2 (by decide) rfl rfl (by decide) hwRX3 (show Cond.fieldLink RX3 21 "PlanetWorkshop$History" "count" "I" ∈ wsX3_push by decide +kernel) rfl dX3_push_61 ?_
    refine lv_iconst (v := (1 : Int32)) hx hb dX3_push_64 (by decide) ?_
    refine lv_iadd hx hb dX3_push_65 ?_
    refine am_putI X hh 34 6 2 (by decide) rfl rfl (by decide) hwRX3 tyX3 tyX3_ok nmX3 (show Cond.fieldLink RX3 21 "PlanetWorkshop$History" "count" "I" ∈ wsX3_push by decide +kernel) rfl rfl rfl rfl dX3_push_66 (fun H locs hh => ?_)
    obtain ⟨w7, hw7, hF⟩ := am_wl hF
    have hh := AH_eq hw7 hh
    exact am_vret X hr hh (fun t ht => am_qv hF ht) (Nat.le_of_ble_eq_true rfl) (Nat.le_of_ble_eq_true rfl) dX3_push_69
  · have hF := am_pos hc1 hF
    refine lv_aload_n hx hb dX3_push_9 rfl (lv_at hl 0 rfl) ?_
    refine lv_aload_n hx hb dX3_push_10 rfl (lv_at hl 0 rfl) ?_
    refine am_getI X hh 34 6 1 (by decide) rfl rfl (by decide) hwRX3 (show Cond.fieldLink RX3 17 "PlanetWorkshop$History" "first" "I" ∈ wsX3_push by decide +kernel) rfl dX3_push_11 ?_
    refine lv_iconst (v := (1 : Int32)) hx hb dX3_push_14 (by decide) ?_
    refine lv_iadd hx hb dX3_push_15 ?_
    refine lv_bipush (v := (8 : Int32)) hx hb dX3_push_16 (by decide) ?_
    obtain ⟨hq8, hF⟩ := am_if hF
    refine lv_irem hx hb dX3_push_18 hq8 ?_
    refine am_putI X hh 34 6 1 (by decide) rfl rfl (by decide) hwRX3 tyX3 tyX3_ok nmX3 (show Cond.fieldLink RX3 17 "PlanetWorkshop$History" "first" "I" ∈ wsX3_push by decide +kernel) rfl rfl rfl rfl dX3_push_19 (fun H locs hh => ?_)
    obtain ⟨w9, hw9, hF⟩ := am_wl hF
    have hh := AH_eq hw9 hh
    refine lv_aload_n hx hb dX3_push_22 rfl (lv_at hl 0 rfl) ?_
    refine lv_dup hx hb dX3_push_23 rfl ?_
    refine am_getI X hh 34 6 2 (by decide) rfl rfl (by decide) hwRX3 (show Cond.fieldLink RX3 21 "PlanetWorkshop$History" "count" "I" ∈ wsX3_push by decide +kernel) rfl dX3_push_24 ?_
    refine lv_iconst (v := (1 : Int32)) hx hb dX3_push_27 (by decide) ?_
    refine lv_isub hx hb dX3_push_28 ?_
    refine am_putI X hh 34 6 2 (by decide) rfl rfl (by decide) hwRX3 tyX3 tyX3_ok nmX3 (show Cond.fieldLink RX3 21 "PlanetWorkshop$History" "count" "I" ∈ wsX3_push by decide +kernel) rfl rfl rfl rfl dX3_push_29 (fun H locs hh => ?_)
    obtain ⟨w10, hw10, hF⟩ := am_wl hF
    have hh := AH_eq hw10 hh
    refine lv_aload_n hx hb dX3_push_32 rfl (lv_at hl 0 rfl) ?_
    refine am_getR X hh 34 6 0 35 (by decide) rfl rfl (by decide) hwRX3 (show Cond.fieldLink RX3 11 "PlanetWorkshop$History" "states" "[LPlanetWorkshop$State;" ∈ wsX3_push by decide +kernel) rfl dX3_push_33 ?_
    refine lv_aload_n hx hb dX3_push_36 rfl (lv_at hl 0 rfl) ?_
    refine am_getI X hh 34 6 1 (by decide) rfl rfl (by decide) hwRX3 (show Cond.fieldLink RX3 17 "PlanetWorkshop$History" "first" "I" ∈ wsX3_push by decide +kernel) rfl dX3_push_37 ?_
    refine lv_aload_n hx hb dX3_push_40 rfl (lv_at hl 0 rfl) ?_
    refine am_getI X hh 34 6 2 (by decide) rfl rfl (by decide) hwRX3 (show Cond.fieldLink RX3 21 "PlanetWorkshop$History" "count" "I" ∈ wsX3_push by decide +kernel) rfl dX3_push_41 ?_
    refine lv_iadd hx hb dX3_push_44 ?_
    refine lv_bipush (v := (8 : Int32)) hx hb dX3_push_45 (by decide) ?_
    obtain ⟨hq11, hF⟩ := am_if hF
    refine lv_irem hx hb dX3_push_47 hq11 ?_
    obtain ⟨hq12, hF⟩ := am_ifR hF
    refine am_alds X hh 35 (by decide) rfl hq12 dX3_push_48 ?_
    refine lv_astore_n (lv' := [(2, .ref (gAd G (36 + 11 * ((((gI w10 34 1) + (gI w10 34 2)) - ((gI w10 34 1) + (gI w10 34 2)) / (8 : Int32) * (8 : Int32))).toNatClampNeg))), (0, .ref (gAd G 34)), (1, .ref (gAd G 12))]) hx hb dX3_push_49 rfl hl (by decide) rfl (fun ls hl => ?_)
    refine lv_aload_n hx hb dX3_push_50 rfl (lv_at hl 0 rfl) ?_
    refine lv_ifnull hx hb dX3_push_51 ?_
    refine lv_aload_n hx hb dX3_push_54 rfl (lv_at hl 0 rfl) ?_
    refine lv_aload_n hx hb dX3_push_55 rfl (lv_at hl 2 rfl) ?_
    obtain ⟨w15, hk13, hF⟩ := am_bind hF
    refine am_call X hh (va_runV (As := [.ref (gAd G 12)]) (rest := []) X.1 (c_X7_copyFrom l G (st_h (vp_lt hq12)) st_12 hk13) (cwV 1 hts gX3_push_X7_copyFrom rfl rfl rfl (by decide +kernel) ⟨Nat.le_of_ble_eq_true rfl, Nat.le_of_ble_eq_true rfl⟩) (am_preVg X hh (36 + 11 * ((((gI w10 34 1) + (gI w10 34 2)) - ((gI w10 34 1) + (gI w10 34 2)) / (8 : Int32) * (8 : Int32))).toNatClampNeg) 9 (st_lt (st_h (vp_lt hq12)) 0 (by decide)) (dsc_st (st_h (vp_lt hq12)) _ 0 (by decide)) (st_ne (st_h (vp_lt hq12)) 0 (by decide)) rfl) rfl rfl hl.1 rfl (lv_room (Nat.le_of_ble_eq_true rfl)) dX3_push_56 ⟨Nat.le_of_ble_eq_true rfl, Nat.le_of_ble_eq_true rfl⟩) (fun ab H locs hh => ?_)
    refine lv_aload_n hx hb dX3_push_59 rfl (lv_at hl 1 rfl) ?_
    refine lv_dup hx hb dX3_push_60 rfl ?_
    refine am_getI X hh 34 6 2 (by decide) rfl rfl (by decide) hwRX3 (show Cond.fieldLink RX3 21 "PlanetWorkshop$History" "count" "I" ∈ wsX3_push by decide +kernel) rfl dX3_push_61 ?_
    refine lv_iconst (v := (1 : Int32)) hx hb dX3_push_64 (by decide) ?_
    refine lv_iadd hx hb dX3_push_65 ?_
    refine am_putI X hh 34 6 2 (by decide) rfl rfl (by decide) hwRX3 tyX3 tyX3_ok nmX3 (show Cond.fieldLink RX3 21 "PlanetWorkshop$History" "count" "I" ∈ wsX3_push by decide +kernel) rfl rfl rfl rfl dX3_push_66 (fun H locs hh => ?_)
    obtain ⟨w16, hw16, hF⟩ := am_wl hF
    have hh := AH_eq hw16 hh
    exact am_vret X hr hh (fun t ht => am_qv hF ht) (Nat.le_of_ble_eq_true rfl) (Nat.le_of_ble_eq_true rfl) dX3_push_69
set_option maxHeartbeats 4000000 in
set_option maxRecDepth 100000 in
theorem c_X3_popInto (l : Launch) (G : GG) {w : Wd} {w1 : Wd} (hF : f_X3_popInto w = some w1) : Met l yX3_popInto wsX3_popInto ({ frames := 1, cells := 0, slots := 0, locals := 22 } : Room) (va_Pc [.ref (gAd G 34), .ref (gAd G 1)] (Rel G w)) (amQ G none w1) 0 0 (gA G) := by
  refine am_met (own := RX3) (cc := cX3_popInto) (maxL := 3) (ret := none) (by decide +kernel) rfl rfl (Nat.le_of_ble_eq_true rfl) ?_
  intro p e s m args below meth c ab H locs ls X hr hh hl
  have hx := X.1.1; have hb := X.1.2.1; have hml := X.1.2.2.1; have hown := X.1.2.2.2.1; have hts := X.1.2.2.2.2
  have hl : lv_has ls 3 [(0, .ref (gAd G 34)), (1, .ref (gAd G 1))] := hl
  have hwRX3 : ∀ z ∈ u_ws RX3 TX3 3, z ∈ wsX3_popInto := by decide +kernel
  unfold f_X3_popInto at hF
  refine lv_aload_n hx hb dX3_popInto_0 rfl (lv_at hl 0 rfl) ?_
  refine am_getI X hh 34 6 2 (by decide) rfl rfl (by decide) hwRX3 (show Cond.fieldLink RX3 21 "PlanetWorkshop$History" "count" "I" ∈ wsX3_popInto by decide +kernel) rfl dX3_popInto_1 ?_
  refine lv_if_le (tgt := 44) hx hb dX3_popInto_4 (by decide) (fun hc1 => ?_) (fun hc1 => ?_)
  · have hF := am_pos hc1 hF
    exact am_vret X hr hh (fun t ht => am_qv hF ht) (Nat.le_of_ble_eq_true rfl) (Nat.le_of_ble_eq_true rfl) dX3_popInto_44
  · have hF := am_neg hc1 hF
    refine lv_aload_n hx hb dX3_popInto_7 rfl (lv_at hl 0 rfl) ?_
    refine lv_dup hx hb dX3_popInto_8 rfl ?_
    refine am_getI X hh 34 6 2 (by decide) rfl rfl (by decide) hwRX3 (show Cond.fieldLink RX3 21 "PlanetWorkshop$History" "count" "I" ∈ wsX3_popInto by decide +kernel) rfl dX3_popInto_9 ?_
    refine lv_iconst (v := (1 : Int32)) hx hb dX3_popInto_12 (by decide) ?_
    refine lv_isub hx hb dX3_popInto_13 ?_
    refine am_putI X hh 34 6 2 (by decide) rfl rfl (by decide) hwRX3 tyX3 tyX3_ok nmX3 (show Cond.fieldLink RX3 21 "PlanetWorkshop$History" "count" "I" ∈ wsX3_popInto by decide +kernel) rfl rfl rfl rfl dX3_popInto_14 (fun H locs hh => ?_)
    obtain ⟨w2, hw2, hF⟩ := am_wl hF
    have hh := AH_eq hw2 hh
    refine lv_aload_n hx hb dX3_popInto_17 rfl (lv_at hl 0 rfl) ?_
    refine am_getR X hh 34 6 0 35 (by decide) rfl rfl (by decide) hwRX3 (show Cond.fieldLink RX3 11 "PlanetWorkshop$History" "states" "[LPlanetWorkshop$State;" ∈ wsX3_popInto by decide +kernel) rfl dX3_popInto_18 ?_
    refine lv_aload_n hx hb dX3_popInto_21 rfl (lv_at hl 0 rfl) ?_
    refine am_getI X hh 34 6 1 (by decide) rfl rfl (by decide) hwRX3 (show Cond.fieldLink RX3 17 "PlanetWorkshop$History" "first" "I" ∈ wsX3_popInto by decide +kernel) rfl dX3_popInto_22 ?_
    refine lv_aload_n hx hb dX3_popInto_25 rfl (lv_at hl 0 rfl) ?_
    refine am_getI X hh 34 6 2 (by decide) rfl rfl (by decide) hwRX3 (show Cond.fieldLink RX3 21 "PlanetWorkshop$History" "count" "I" ∈ wsX3_popInto by decide +kernel) rfl dX3_popInto_26 ?_
    refine lv_iadd hx hb dX3_popInto_29 ?_
    refine lv_bipush (v := (8 : Int32)) hx hb dX3_popInto_30 (by decide) ?_
    obtain ⟨hq3, hF⟩ := am_if hF
    refine lv_irem hx hb dX3_popInto_32 hq3 ?_
    obtain ⟨hq4, hF⟩ := am_ifR hF
    refine am_alds X hh 35 (by decide) rfl hq4 dX3_popInto_33 ?_
    refine lv_astore_n (lv' := [(2, .ref (gAd G (36 + 11 * ((((gI w2 34 1) + (gI w2 34 2)) - ((gI w2 34 1) + (gI w2 34 2)) / (8 : Int32) * (8 : Int32))).toNatClampNeg))), (0, .ref (gAd G 34)), (1, .ref (gAd G 1))]) hx hb dX3_popInto_34 rfl hl (by decide) rfl (fun ls hl => ?_)
    refine lv_aload_n hx hb dX3_popInto_35 rfl (lv_at hl 0 rfl) ?_
    refine lv_ifnull hx hb dX3_popInto_36 ?_
    refine lv_aload_n hx hb dX3_popInto_39 rfl (lv_at hl 2 rfl) ?_
    refine lv_aload_n hx hb dX3_popInto_40 rfl (lv_at hl 0 rfl) ?_
    obtain ⟨w7, hk5, hF⟩ := am_bind hF
    refine am_call X hh (va_runV (As := [.ref (gAd G (36 + 11 * ((((gI w2 34 1) + (gI w2 34 2)) - ((gI w2 34 1) + (gI w2 34 2)) / (8 : Int32) * (8 : Int32))).toNatClampNeg))]) (rest := []) X.1 (c_X7_copyFrom l G st_1 (st_h (vp_lt hq4)) hk5) (cwV 1 hts gX3_popInto_X7_copyFrom rfl rfl rfl (by decide +kernel) ⟨Nat.le_of_ble_eq_true rfl, Nat.le_of_ble_eq_true rfl⟩) (am_preV X hh 1 9 (by decide) rfl rfl) rfl rfl hl.1 rfl (lv_room (Nat.le_of_ble_eq_true rfl)) dX3_popInto_41 ⟨Nat.le_of_ble_eq_true rfl, Nat.le_of_ble_eq_true rfl⟩) (fun ab H locs hh => ?_)
    exact am_vret X hr hh (fun t ht => am_qv hF ht) (Nat.le_of_ble_eq_true rfl) (Nat.le_of_ble_eq_true rfl) dX3_popInto_44
