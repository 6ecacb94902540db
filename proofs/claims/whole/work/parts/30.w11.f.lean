set_option maxHeartbeats 4000000 in
set_option maxRecDepth 100000 in
theorem c_X11_isDry (l : Launch) (G : GG) {w : Wd} {x1 : Int32} {r0 : Int32} {w1 : Wd} (hF : f_X11_isDry w x1 = some (r0, w1)) : Met l yX11_isDry wsX11_isDry ({ frames := 2, cells := 0, slots := 0, locals := 43 } : Room) (va_Pc [.ref (gAd G 141), .int x1] (Rel G w)) (amQ G (oI r0) w1) 0 0 (gA G) := by
  refine am_met (own := RX11) (cc := cX11_isDry) (maxL := 2) (ret := (some .boolean)) (by decide +kernel) rfl rfl (Nat.le_of_ble_eq_true rfl) ?_
  intro p e s m args below meth c ab H locs ls X hr hh hl
  have hx := X.1.1; have hb := X.1.2.1; have hml := X.1.2.2.1; have hown := X.1.2.2.2.1; have hts := X.1.2.2.2.2
  have hl : lv_has ls 2 [(0, .ref (gAd G 141)), (1, .int x1)] := hl
  have hwRX11 : ∀ z ∈ u_ws RX11 TX11 18, z ∈ wsX11_isDry := by decide +kernel
  unfold f_X11_isDry at hF
  refine lv_aload_n hx hb dX11_isDry_0 rfl (lv_at hl 0 rfl) ?_
  refine lv_aload_n hx hb dX11_isDry_1 rfl (lv_at hl 0 rfl) ?_
  refine lv_iload_n hx hb dX11_isDry_2 rfl (lv_at hl 1 rfl) ?_
  obtain ⟨r2, hk1, hF⟩ := am_bind hF
  refine am_call X hh (va_runV (As := [.int x1]) (rest := [.ref (gAd G 141)]) X.1 (c_X11_isGear l G hk1) (cwV 1 hts gX11_isDry_X11_isGear rfl rfl rfl (by decide +kernel) ⟨Nat.le_of_ble_eq_true rfl, Nat.le_of_ble_eq_true rfl⟩) (am_preV X hh 141 12 (by decide) rfl rfl) rfl rfl hl.1 rfl (lv_room (Nat.le_of_ble_eq_true rfl)) dX11_isDry_3 ⟨Nat.le_of_ble_eq_true rfl, Nat.le_of_ble_eq_true rfl⟩) (fun ab H locs hh => ?_)
  refine lv_if_eq (tgt := 13) hx hb dX11_isDry_6 (by decide) (fun hc3 => ?_) (fun hc3 => ?_)
  · have hF := am_pos hc3 hF
    refine lv_iconst (v := (1 : Int32)) hx hb dX11_isDry_13 (by decide) ?_
    refine am_putI X hh 141 12 12 (by decide) rfl rfl (by decide) hwRX11 tyX11 tyX11_ok nmX11 (show Cond.fieldLink RX11 49 "PlanetWorkshopModel" "thrown" "I" ∈ wsX11_isDry by decide +kernel) rfl rfl rfl rfl dX11_isDry_14 (fun H locs hh => ?_)
    obtain ⟨w4, hw4, hF⟩ := am_wl hF
    have hh := AH_eq hw4 hh
    refine lv_aload_n hx hb dX11_isDry_17 rfl (lv_at hl 0 rfl) ?_
    refine am_getI X hh 141 12 12 (by decide) rfl rfl (by decide) hwRX11 (show Cond.fieldLink RX11 49 "PlanetWorkshopModel" "thrown" "I" ∈ wsX11_isDry by decide +kernel) rfl dX11_isDry_18 ?_
    refine lv_if_ne (tgt := 42) hx hb dX11_isDry_21 (by decide) (fun hc5 => ?_) (fun hc5 => ?_)
    · have hF := am_neg hc5 hF
      refine lv_iconst (v := (0 : Int32)) hx hb dX11_isDry_42 (by decide) ?_
      exact am_zret (v' := (0 : Int32)) X hr rfl hh (fun t ht => am_qw (mk := oI) hF ht) (Nat.le_of_ble_eq_true rfl) (Nat.le_of_ble_eq_true rfl) dX11_isDry_43
    · have hF := am_pos hc5 hF
      refine lv_aload_n hx hb dX11_isDry_24 rfl (lv_at hl 0 rfl) ?_
      refine am_getR X hh 141 12 0 142 (by decide) rfl rfl (by decide) hwRX11 (show Cond.fieldLink RX11 7 "PlanetWorkshopModel" "g" "[J" ∈ wsX11_isDry by decide +kernel) rfl dX11_isDry_25 ?_
      refine lv_bipush (v := (66 : Int32)) hx hb dX11_isDry_28 (by decide) ?_
      refine lv_iload_n hx hb dX11_isDry_30 rfl (lv_at hl 1 rfl) ?_
      refine lv_iadd hx hb dX11_isDry_31 ?_
      obtain ⟨hq6, hF⟩ := am_ifR hF
      refine am_lald X hh 142 (by decide) rfl hq6 dX11_isDry_32 ?_
      refine lv_lconst (v := (0 : Int64)) hx hb dX11_isDry_33 (by decide) ?_
      refine am_lcmp_ne (tgt := 42) hx hb dX11_isDry_34 dX11_isDry_35 (by decide) (fun hc7 => ?_) (fun hc7 => ?_)
      · have hF := am_neg hc7 hF
        refine lv_iconst (v := (0 : Int32)) hx hb dX11_isDry_42 (by decide) ?_
        exact am_zret (v' := (0 : Int32)) X hr rfl hh (fun t ht => am_qw (mk := oI) hF ht) (Nat.le_of_ble_eq_true rfl) (Nat.le_of_ble_eq_true rfl) dX11_isDry_43
      · have hF := am_pos hc7 hF
        refine lv_iconst (v := (1 : Int32)) hx hb dX11_isDry_38 (by decide) ?_
        refine lv_goto (tgt := 43) hx hb dX11_isDry_39 (by decide) ?_
        exact am_zret (v' := (1 : Int32)) X hr rfl hh (fun t ht => am_qw (mk := oI) hF ht) (Nat.le_of_ble_eq_true rfl) (Nat.le_of_ble_eq_true rfl) dX11_isDry_43
  · have hF := am_neg hc3 hF
    refine lv_iconst (v := (0 : Int32)) hx hb dX11_isDry_9 (by decide) ?_
    refine lv_goto (tgt := 14) hx hb dX11_isDry_10 (by decide) ?_
    refine am_putI X hh 141 12 12 (by decide) rfl rfl (by decide) hwRX11 tyX11 tyX11_ok nmX11 (show Cond.fieldLink RX11 49 "PlanetWorkshopModel" "thrown" "I" ∈ wsX11_isDry by decide +kernel) rfl rfl rfl rfl dX11_isDry_14 (fun H locs hh => ?_)
    obtain ⟨w8, hw8, hF⟩ := am_wl hF
    have hh := AH_eq hw8 hh
    refine lv_aload_n hx hb dX11_isDry_17 rfl (lv_at hl 0 rfl) ?_
    refine am_getI X hh 141 12 12 (by decide) rfl rfl (by decide) hwRX11 (show Cond.fieldLink RX11 49 "PlanetWorkshopModel" "thrown" "I" ∈ wsX11_isDry by decide +kernel) rfl dX11_isDry_18 ?_
    refine lv_if_ne (tgt := 42) hx hb dX11_isDry_21 (by decide) (fun hc9 => ?_) (fun hc9 => ?_)
    · have hF := am_neg hc9 hF
      refine lv_iconst (v := (0 : Int32)) hx hb dX11_isDry_42 (by decide) ?_
      exact am_zret (v' := (0 : Int32)) X hr rfl hh (fun t ht => am_qw (mk := oI) hF ht) (Nat.le_of_ble_eq_true rfl) (Nat.le_of_ble_eq_true rfl) dX11_isDry_43
    · have hF := am_pos hc9 hF
      refine lv_aload_n hx hb dX11_isDry_24 rfl (lv_at hl 0 rfl) ?_
      refine am_getR X hh 141 12 0 142 (by decide) rfl rfl (by decide) hwRX11 (show Cond.fieldLink RX11 7 "PlanetWorkshopModel" "g" "[J" ∈ wsX11_isDry by decide +kernel) rfl dX11_isDry_25 ?_
      refine lv_bipush (v := (66 : Int32)) hx hb dX11_isDry_28 (by decide) ?_
      refine lv_iload_n hx hb dX11_isDry_30 rfl (lv_at hl 1 rfl) ?_
      refine lv_iadd hx hb dX11_isDry_31 ?_
      obtain ⟨hq10, hF⟩ := am_ifR hF
      refine am_lald X hh 142 (by decide) rfl hq10 dX11_isDry_32 ?_
      refine lv_lconst (v := (0 : Int64)) hx hb dX11_isDry_33 (by decide) ?_
      refine am_lcmp_ne (tgt := 42) hx hb dX11_isDry_34 dX11_isDry_35 (by decide) (fun hc11 => ?_) (fun hc11 => ?_)
      · have hF := am_neg hc11 hF
        refine lv_iconst (v := (0 : Int32)) hx hb dX11_isDry_42 (by decide) ?_
        exact am_zret (v' := (0 : Int32)) X hr rfl hh (fun t ht => am_qw (mk := oI) hF ht) (Nat.le_of_ble_eq_true rfl) (Nat.le_of_ble_eq_true rfl) dX11_isDry_43
      · have hF := am_pos hc11 hF
        refine lv_iconst (v := (1 : Int32)) hx hb dX11_isDry_38 (by decide) ?_
        refine lv_goto (tgt := 43) hx hb dX11_isDry_39 (by decide) ?_
        exact am_zret (v' := (1 : Int32)) X hr rfl hh (fun t ht => am_qw (mk := oI) hF ht) (Nat.le_of_ble_eq_true rfl) (Nat.le_of_ble_eq_true rfl) dX11_isDry_43
set_option maxHeartbeats 4000000 in
set_option maxRecDepth 100000 in
theorem c_X11_wear (l : Launch) (G : GG) {w : Wd} {x1 : Int32} {r0 : Int32} {w1 : Wd} (hF : f_X11_wear w x1 = some (r0, w1)) : Met l yX11_wear wsX11_wear ({ frames := 2, cells := 0, slots := 0, locals := 43 } : Room) (va_Pc [.ref (gAd G 141), .int x1] (Rel G w)) (amQ G (oI r0) w1) 0 0 (gA G) := by
  refine am_met (own := RX11) (cc := cX11_wear) (maxL := 2) (ret := (some .int)) (by decide +kernel) rfl rfl (Nat.le_of_ble_eq_true rfl) ?_
  intro p e s m args below meth c ab H locs ls X hr hh hl
  have hx := X.1.1; have hb := X.1.2.1; have hml := X.1.2.2.1; have hown := X.1.2.2.2.1; have hts := X.1.2.2.2.2
  have hl : lv_has ls 2 [(0, .ref (gAd G 141)), (1, .int x1)] := hl
  have hwRX11 : ∀ z ∈ u_ws RX11 TX11 18, z ∈ wsX11_wear := by decide +kernel
  unfold f_X11_wear at hF
  refine lv_aload_n hx hb dX11_wear_0 rfl (lv_at hl 0 rfl) ?_
  refine lv_iload_n hx hb dX11_wear_1 rfl (lv_at hl 1 rfl) ?_
  obtain ⟨r2, hk1, hF⟩ := am_bind hF
  refine am_call X hh (va_runV (As := [.int x1]) (rest := []) X.1 (c_X11_isGear l G hk1) (cwV 1 hts gX11_wear_X11_isGear rfl rfl rfl (by decide +kernel) ⟨Nat.le_of_ble_eq_true rfl, Nat.le_of_ble_eq_true rfl⟩) (am_preV X hh 141 12 (by decide) rfl rfl) rfl rfl hl.1 rfl (lv_room (Nat.le_of_ble_eq_true rfl)) dX11_wear_2 ⟨Nat.le_of_ble_eq_true rfl, Nat.le_of_ble_eq_true rfl⟩) (fun ab H locs hh => ?_)
  refine lv_if_ne (tgt := 14) hx hb dX11_wear_5 (by decide) (fun hc3 => ?_) (fun hc3 => ?_)
  · have hF := am_neg hc3 hF
    refine lv_aload_n hx hb dX11_wear_14 rfl (lv_at hl 0 rfl) ?_
    refine am_getR X hh 141 12 0 142 (by decide) rfl rfl (by decide) hwRX11 (show Cond.fieldLink RX11 7 "PlanetWorkshopModel" "g" "[J" ∈ wsX11_wear by decide +kernel) rfl dX11_wear_15 ?_
    refine lv_bipush (v := (66 : Int32)) hx hb dX11_wear_18 (by decide) ?_
    refine lv_iload_n hx hb dX11_wear_20 rfl (lv_at hl 1 rfl) ?_
    refine lv_iadd hx hb dX11_wear_21 ?_
    obtain ⟨hq4, hF⟩ := am_ifR hF
    refine am_lald X hh 142 (by decide) rfl hq4 dX11_wear_22 ?_
    refine lv_lconst (v := (0 : Int64)) hx hb dX11_wear_23 (by decide) ?_
    refine am_lcmp_ne (tgt := 36) hx hb dX11_wear_24 dX11_wear_25 (by decide) (fun hc5 => ?_) (fun hc5 => ?_)
    · have hF := am_neg hc5 hF
      refine lv_aload_n hx hb dX11_wear_36 rfl (lv_at hl 0 rfl) ?_
      refine lv_aload_n hx hb dX11_wear_37 rfl (lv_at hl 0 rfl) ?_
      refine am_getR X hh 141 12 0 142 (by decide) rfl rfl (by decide) hwRX11 (show Cond.fieldLink RX11 7 "PlanetWorkshopModel" "g" "[J" ∈ wsX11_wear by decide +kernel) rfl dX11_wear_38 ?_
      refine lv_bipush (v := (76 : Int32)) hx hb dX11_wear_41 (by decide) ?_
      refine lv_iload_n hx hb dX11_wear_43 rfl (lv_at hl 1 rfl) ?_
      refine lv_iadd hx hb dX11_wear_44 ?_
      obtain ⟨hq6, hF⟩ := am_ifR hF
      refine am_lald X hh 142 (by decide) rfl hq6 dX11_wear_45 ?_
      refine lv_ldc2 (v := (24883200000 : Int64)) hx hb hown (hts _ (show Cond.constantLong RX11 52 (24883200000) ∈ wsX11_wear by decide +kernel)) dX11_wear_46 ?_
      obtain ⟨hq7, hF⟩ := am_if hF
      refine lv_ldiv hx hb dX11_wear_49 hq7 ?_
      refine lv_l2i hx hb dX11_wear_50 rfl ?_
      obtain ⟨⟨r9, w10⟩, hk8, hF⟩ := am_bind hF
      have hF := am_u2 hF
      refine am_call X hh (va_runV (As := [.int ((((gL w 142 (((76 : Int32) + x1)).toNatClampNeg) / (24883200000 : Int64))).toInt32)]) (rest := []) X.1 (c_X11_done l G hk8) (cwV 1 hts gX11_wear_X11_done rfl rfl rfl (by decide +kernel) ⟨Nat.le_of_ble_eq_true rfl, Nat.le_of_ble_eq_true rfl⟩) (am_preV X hh 141 12 (by decide) rfl rfl) rfl rfl hl.1 rfl (lv_room (Nat.le_of_ble_eq_true rfl)) dX11_wear_51 ⟨Nat.le_of_ble_eq_true rfl, Nat.le_of_ble_eq_true rfl⟩) (fun ab H locs hh => ?_)
      exact am_iret X hr hh (fun t ht => am_qw (mk := oI) hF ht) (Nat.le_of_ble_eq_true rfl) (Nat.le_of_ble_eq_true rfl) dX11_wear_54
    · have hF := am_pos hc5 hF
      refine lv_aload_n hx hb dX11_wear_28 rfl (lv_at hl 0 rfl) ?_
      refine lv_iconst (v := (2 : Int32)) hx hb dX11_wear_29 (by decide) ?_
      obtain ⟨⟨r13, w14⟩, hk12, hF⟩ := am_bind hF
      have hF := am_u2 hF
      refine am_call X hh (va_runV (As := [.int (2 : Int32)]) (rest := []) X.1 (c_X11_fails l G hk12) (cwV 1 hts gX11_wear_X11_fails rfl rfl rfl (by decide +kernel) ⟨Nat.le_of_ble_eq_true rfl, Nat.le_of_ble_eq_true rfl⟩) (am_preV X hh 141 12 (by decide) rfl rfl) rfl rfl hl.1 rfl (lv_room (Nat.le_of_ble_eq_true rfl)) dX11_wear_30 ⟨Nat.le_of_ble_eq_true rfl, Nat.le_of_ble_eq_true rfl⟩) (fun ab H locs hh => ?_)
      refine lv_goto (tgt := 54) hx hb dX11_wear_33 (by decide) ?_
      exact am_iret X hr hh (fun t ht => am_qw (mk := oI) hF ht) (Nat.le_of_ble_eq_true rfl) (Nat.le_of_ble_eq_true rfl) dX11_wear_54
  · have hF := am_pos hc3 hF
    refine lv_aload_n hx hb dX11_wear_8 rfl (lv_at hl 0 rfl) ?_
    refine lv_iconst (v := (1 : Int32)) hx hb dX11_wear_9 (by decide) ?_
    obtain ⟨⟨r17, w18⟩, hk16, hF⟩ := am_bind hF
    have hF := am_u2 hF
    refine am_call X hh (va_runV (As := [.int (1 : Int32)]) (rest := []) X.1 (c_X11_fails l G hk16) (cwV 1 hts gX11_wear_X11_fails rfl rfl rfl (by decide +kernel) ⟨Nat.le_of_ble_eq_true rfl, Nat.le_of_ble_eq_true rfl⟩) (am_preV X hh 141 12 (by decide) rfl rfl) rfl rfl hl.1 rfl (lv_room (Nat.le_of_ble_eq_true rfl)) dX11_wear_10 ⟨Nat.le_of_ble_eq_true rfl, Nat.le_of_ble_eq_true rfl⟩) (fun ab H locs hh => ?_)
    exact am_iret X hr hh (fun t ht => am_qw (mk := oI) hF ht) (Nat.le_of_ble_eq_true rfl) (Nat.le_of_ble_eq_true rfl) dX11_wear_13
set_option maxHeartbeats 4000000 in
set_option maxRecDepth 100000 in
theorem c_X11_drops (l : Launch) (G : GG) {w : Wd} {r0 : Int32} {w1 : Wd} (hF : f_X11_drops w = some (r0, w1)) : Met l yX11_drops wsX11_drops ({ frames := 1, cells := 0, slots := 0, locals := 21 } : Room) (va_Pc [.ref (gAd G 141)] (Rel G w)) (amQ G (oI r0) w1) 0 0 (gA G) := by
  refine am_met (own := RX11) (cc := cX11_drops) (maxL := 1) (ret := (some .int)) (by decide +kernel) rfl rfl (Nat.le_of_ble_eq_true rfl) ?_
  intro p e s m args below meth c ab H locs ls X hr hh hl
  have hx := X.1.1; have hb := X.1.2.1; have hml := X.1.2.2.1; have hown := X.1.2.2.2.1; have hts := X.1.2.2.2.2
  have hl : lv_has ls 1 [(0, .ref (gAd G 141))] := hl
  unfold f_X11_drops at hF
  refine lv_aload_n hx hb dX11_drops_0 rfl (lv_at hl 0 rfl) ?_
  refine lv_aload_n hx hb dX11_drops_1 rfl (lv_at hl 0 rfl) ?_
  refine lv_iconst (v := (2 : Int32)) hx hb dX11_drops_2 (by decide) ?_
  obtain ⟨r2, hk1, hF⟩ := am_bind hF
  refine am_call X hh (va_runV (As := [.int (2 : Int32)]) (rest := [.ref (gAd G 141)]) X.1 (c_X11_at l G hk1) (cwV 1 hts gX11_drops_X11_at rfl rfl rfl (by decide +kernel) ⟨Nat.le_of_ble_eq_true rfl, Nat.le_of_ble_eq_true rfl⟩) (am_preV X hh 141 12 (by decide) rfl rfl) rfl rfl hl.1 rfl (lv_room (Nat.le_of_ble_eq_true rfl)) dX11_drops_3 ⟨Nat.le_of_ble_eq_true rfl, Nat.le_of_ble_eq_true rfl⟩) (fun ab H locs hh => ?_)
  obtain ⟨⟨r4, w5⟩, hk3, hF⟩ := am_bind hF
  have hF := am_u2 hF
  refine am_call X hh (va_runV (As := [.int r2]) (rest := []) X.1 (c_X11_done l G hk3) (cwV 1 hts gX11_drops_X11_done rfl rfl rfl (by decide +kernel) ⟨Nat.le_of_ble_eq_true rfl, Nat.le_of_ble_eq_true rfl⟩) (am_preV X hh 141 12 (by decide) rfl rfl) rfl rfl hl.1 rfl (lv_room (Nat.le_of_ble_eq_true rfl)) dX11_drops_6 ⟨Nat.le_of_ble_eq_true rfl, Nat.le_of_ble_eq_true rfl⟩) (fun ab H locs hh => ?_)
  exact am_iret X hr hh (fun t ht => am_qw (mk := oI) hF ht) (Nat.le_of_ble_eq_true rfl) (Nat.le_of_ble_eq_true rfl) dX11_drops_9
set_option maxHeartbeats 4000000 in
set_option maxRecDepth 100000 in
theorem c_X11_planetCount (l : Launch) (G : GG) {w : Wd} {r0 : Int32} {w1 : Wd} (hF : f_X11_planetCount w = some (r0, w1)) : Met l yX11_planetCount wsX11_planetCount ({ frames := 1, cells := 0, slots := 0, locals := 21 } : Room) (va_Pc [.ref (gAd G 141)] (Rel G w)) (amQ G (oI r0) w1) 0 0 (gA G) := by
  refine am_met (own := RX11) (cc := cX11_planetCount) (maxL := 1) (ret := (some .int)) (by decide +kernel) rfl rfl (Nat.le_of_ble_eq_true rfl) ?_
  intro p e s m args below meth c ab H locs ls X hr hh hl
  have hx := X.1.1; have hb := X.1.2.1; have hml := X.1.2.2.1; have hown := X.1.2.2.2.1; have hts := X.1.2.2.2.2
  have hl : lv_has ls 1 [(0, .ref (gAd G 141))] := hl
  unfold f_X11_planetCount at hF
  refine lv_aload_n hx hb dX11_planetCount_0 rfl (lv_at hl 0 rfl) ?_
  refine lv_aload_n hx hb dX11_planetCount_1 rfl (lv_at hl 0 rfl) ?_
  refine lv_iconst (v := (1 : Int32)) hx hb dX11_planetCount_2 (by decide) ?_
  obtain ⟨r2, hk1, hF⟩ := am_bind hF
  refine am_call X hh (va_runV (As := [.int (1 : Int32)]) (rest := [.ref (gAd G 141)]) X.1 (c_X11_at l G hk1) (cwV 1 hts gX11_planetCount_X11_at rfl rfl rfl (by decide +kernel) ⟨Nat.le_of_ble_eq_true rfl, Nat.le_of_ble_eq_true rfl⟩) (am_preV X hh 141 12 (by decide) rfl rfl) rfl rfl hl.1 rfl (lv_room (Nat.le_of_ble_eq_true rfl)) dX11_planetCount_3 ⟨Nat.le_of_ble_eq_true rfl, Nat.le_of_ble_eq_true rfl⟩) (fun ab H locs hh => ?_)
  obtain ⟨⟨r4, w5⟩, hk3, hF⟩ := am_bind hF
  have hF := am_u2 hF
  refine am_call X hh (va_runV (As := [.int r2]) (rest := []) X.1 (c_X11_done l G hk3) (cwV 1 hts gX11_planetCount_X11_done rfl rfl rfl (by decide +kernel) ⟨Nat.le_of_ble_eq_true rfl, Nat.le_of_ble_eq_true rfl⟩) (am_preV X hh 141 12 (by decide) rfl rfl) rfl rfl hl.1 rfl (lv_room (Nat.le_of_ble_eq_true rfl)) dX11_planetCount_6 ⟨Nat.le_of_ble_eq_true rfl, Nat.le_of_ble_eq_true rfl⟩) (fun ab H locs hh => ?_)
  exact am_iret X hr hh (fun t ht => am_qw (mk := oI) hF ht) (Nat.le_of_ble_eq_true rfl) (Nat.le_of_ble_eq_true rfl) dX11_planetCount_9
set_option maxHeartbeats 4000000 in
set_option maxRecDepth 100000 in
theorem c_X11_gearOf (l : Launch) (G : GG) {w : Wd} {x1 : Int32} {r0 : Int32} {w1 : Wd} (hF : f_X11_gearOf w x1 = some (r0, w1)) : Met l yX11_gearOf wsX11_gearOf ({ frames := 2, cells := 0, slots := 0, locals := 43 } : Room) (va_Pc [.ref (gAd G 141), .int x1] (Rel G w)) (amQ G (oI r0) w1) 0 0 (gA G) := by
  refine am_met (own := RX11) (cc := cX11_gearOf) (maxL := 2) (ret := (some .int)) (by decide +kernel) rfl rfl (Nat.le_of_ble_eq_true rfl) ?_
  intro p e s m args below meth c ab H locs ls X hr hh hl
  have hx := X.1.1; have hb := X.1.2.1; have hml := X.1.2.2.1; have hown := X.1.2.2.2.1; have hts := X.1.2.2.2.2
  have hl : lv_has ls 2 [(0, .ref (gAd G 141)), (1, .int x1)] := hl
  unfold f_X11_gearOf at hF
  refine lv_aload_n hx hb dX11_gearOf_0 rfl (lv_at hl 0 rfl) ?_
  refine lv_iload_n hx hb dX11_gearOf_1 rfl (lv_at hl 1 rfl) ?_
  obtain ⟨r2, hk1, hF⟩ := am_bind hF
  refine am_call X hh (va_runV (As := [.int x1]) (rest := []) X.1 (c_X11_isPlanet l G hk1) (cwV 1 hts gX11_gearOf_X11_isPlanet rfl rfl rfl (by decide +kernel) ⟨Nat.le_of_ble_eq_true rfl, Nat.le_of_ble_eq_true rfl⟩) (am_preV X hh 141 12 (by decide) rfl rfl) rfl rfl hl.1 rfl (lv_room (Nat.le_of_ble_eq_true rfl)) dX11_gearOf_2 ⟨Nat.le_of_ble_eq_true rfl, Nat.le_of_ble_eq_true rfl⟩) (fun ab H locs hh => ?_)
  refine lv_if_eq (tgt := 23) hx hb dX11_gearOf_5 (by decide) (fun hc3 => ?_) (fun hc3 => ?_)
  · have hF := am_pos hc3 hF
    refine lv_aload_n hx hb dX11_gearOf_23 rfl (lv_at hl 0 rfl) ?_
    refine lv_iconst (v := (1 : Int32)) hx hb dX11_gearOf_24 (by decide) ?_
    obtain ⟨⟨r5, w6⟩, hk4, hF⟩ := am_bind hF
    have hF := am_u2 hF
    refine am_call X hh (va_runV (As := [.int (1 : Int32)]) (rest := []) X.1 (c_X11_fails l G hk4) (cwV 1 hts gX11_gearOf_X11_fails rfl rfl rfl (by decide +kernel) ⟨Nat.le_of_ble_eq_true rfl, Nat.le_of_ble_eq_true rfl⟩) (am_preV X hh 141 12 (by decide) rfl rfl) rfl rfl hl.1 rfl (lv_room (Nat.le_of_ble_eq_true rfl)) dX11_gearOf_25 ⟨Nat.le_of_ble_eq_true rfl, Nat.le_of_ble_eq_true rfl⟩) (fun ab H locs hh => ?_)
    exact am_iret X hr hh (fun t ht => am_qw (mk := oI) hF ht) (Nat.le_of_ble_eq_true rfl) (Nat.le_of_ble_eq_true rfl) dX11_gearOf_28
  · have hF := am_neg hc3 hF
    refine lv_aload_n hx hb dX11_gearOf_8 rfl (lv_at hl 0 rfl) ?_
    refine lv_aload_n hx hb dX11_gearOf_9 rfl (lv_at hl 0 rfl) ?_
    refine lv_bipush (v := (86 : Int32)) hx hb dX11_gearOf_10 (by decide) ?_
    refine lv_iload_n hx hb dX11_gearOf_12 rfl (lv_at hl 1 rfl) ?_
    refine lv_iadd hx hb dX11_gearOf_13 ?_
    obtain ⟨r9, hk8, hF⟩ := am_bind hF
    refine am_call X hh (va_runV (As := [.int ((86 : Int32) + x1)]) (rest := [.ref (gAd G 141)]) X.1 (c_X11_at l G hk8) (cwV 1 hts gX11_gearOf_X11_at rfl rfl rfl (by decide +kernel) ⟨Nat.le_of_ble_eq_true rfl, Nat.le_of_ble_eq_true rfl⟩) (am_preV X hh 141 12 (by decide) rfl rfl) rfl rfl hl.1 rfl (lv_room (Nat.le_of_ble_eq_true rfl)) dX11_gearOf_14 ⟨Nat.le_of_ble_eq_true rfl, Nat.le_of_ble_eq_true rfl⟩) (fun ab H locs hh => ?_)
    obtain ⟨⟨r11, w12⟩, hk10, hF⟩ := am_bind hF
    have hF := am_u2 hF
    refine am_call X hh (va_runV (As := [.int r9]) (rest := []) X.1 (c_X11_done l G hk10) (cwV 1 hts gX11_gearOf_X11_done rfl rfl rfl (by decide +kernel) ⟨Nat.le_of_ble_eq_true rfl, Nat.le_of_ble_eq_true rfl⟩) (am_preV X hh 141 12 (by decide) rfl rfl) rfl rfl hl.1 rfl (lv_room (Nat.le_of_ble_eq_true rfl)) dX11_gearOf_17 ⟨Nat.le_of_ble_eq_true rfl, Nat.le_of_ble_eq_true rfl⟩) (fun ab H locs hh => ?_)
    refine lv_goto (tgt := 28) hx hb dX11_gearOf_20 (by decide) ?_
    exact am_iret X hr hh (fun t ht => am_qw (mk := oI) hF ht) (Nat.le_of_ble_eq_true rfl) (Nat.le_of_ble_eq_true rfl) dX11_gearOf_28
set_option maxHeartbeats 4000000 in
set_option maxRecDepth 100000 in
theorem c_X11_angleOf (l : Launch) (G : GG) {w : Wd} {x1 : Int32} {r0 : Int64} (hF : f_X11_angleOf w x1 = some r0) : Met l yX11_angleOf wsX11_angleOf ({ frames := 1, cells := 0, slots := 0, locals := 21 } : Room) (va_Pc [.ref (gAd G 141), .int x1] (Rel G w)) (amQ G (oL r0) w) 0 0 (gA G) := by
  refine am_met (own := RX11) (cc := cX11_angleOf) (maxL := 2) (ret := (some .long)) (by decide +kernel) rfl rfl (Nat.le_of_ble_eq_true rfl) ?_
  intro p e s m args below meth c ab H locs ls X hr hh hl
  have hx := X.1.1; have hb := X.1.2.1; have hml := X.1.2.2.1; have hown := X.1.2.2.2.1; have hts := X.1.2.2.2.2
  have hl : lv_has ls 2 [(0, .ref (gAd G 141)), (1, .int x1)] := hl
  have hwRX11 : ∀ z ∈ u_ws RX11 TX11 18, z ∈ wsX11_angleOf := by decide +kernel
  unfold f_X11_angleOf at hF
  refine lv_aload_n hx hb dX11_angleOf_0 rfl (lv_at hl 0 rfl) ?_
  refine am_getR X hh 141 12 0 142 (by decide) rfl rfl (by decide) hwRX11 (show Cond.fieldLink RX11 7 "PlanetWorkshopModel" "g" "[J" ∈ wsX11_angleOf by decide +kernel) rfl dX11_angleOf_1 ?_
  refine lv_bipush (v := (16 : Int32)) hx hb dX11_angleOf_4 (by decide) ?_
  refine lv_aload_n hx hb dX11_angleOf_6 rfl (lv_at hl 0 rfl) ?_
  refine lv_bipush (v := (86 : Int32)) hx hb dX11_angleOf_7 (by decide) ?_
  refine lv_iload_n hx hb dX11_angleOf_9 rfl (lv_at hl 1 rfl) ?_
  refine lv_iadd hx hb dX11_angleOf_10 ?_
  obtain ⟨r2, hk1, hF⟩ := am_bind hF
  refine am_call X hh (va_runV (As := [.int ((86 : Int32) + x1)]) (rest := [.int (16 : Int32), .ref (gAd G 142)]) X.1 (c_X11_at l G hk1) (cwV 1 hts gX11_angleOf_X11_at rfl rfl rfl (by decide +kernel) ⟨Nat.le_of_ble_eq_true rfl, Nat.le_of_ble_eq_true rfl⟩) (am_preV X hh 141 12 (by decide) rfl rfl) rfl rfl hl.1 rfl (lv_room (Nat.le_of_ble_eq_true rfl)) dX11_angleOf_11 ⟨Nat.le_of_ble_eq_true rfl, Nat.le_of_ble_eq_true rfl⟩) (fun ab H locs hh => ?_)
  refine lv_iadd hx hb dX11_angleOf_14 ?_
  obtain ⟨hq3, hF⟩ := am_ifR hF
  refine am_lald X hh 142 (by decide) rfl hq3 dX11_angleOf_15 ?_
  exact am_lret X hr hh (fun t ht => am_qp (mk := oL) hF ht) (Nat.le_of_ble_eq_true rfl) (Nat.le_of_ble_eq_true rfl) dX11_angleOf_16
set_option maxHeartbeats 4000000 in
set_option maxRecDepth 100000 in
theorem c_X11_areInLine (l : Launch) (G : GG) {w : Wd} {x1 : Int32} {x2 : Int32} {r0 : Int32} {w1 : Wd} (hF : f_X11_areInLine w x1 x2 = some (r0, w1)) : Met l yX11_areInLine wsX11_areInLine ({ frames := 2, cells := 0, slots := 0, locals := 43 } : Room) (va_Pc [.ref (gAd G 141), .int x1, .int x2] (Rel G w)) (amQ G (oI r0) w1) 0 0 (gA G) := by
  refine am_met (own := RX11) (cc := cX11_areInLine) (maxL := 3) (ret := (some .boolean)) (by decide +kernel) rfl rfl (Nat.le_of_ble_eq_true rfl) ?_
  intro p e s m args below meth c ab H locs ls X hr hh hl
  have hx := X.1.1; have hb := X.1.2.1; have hml := X.1.2.2.1; have hown := X.1.2.2.2.1; have hts := X.1.2.2.2.2
  have hl : lv_has ls 3 [(0, .ref (gAd G 141)), (1, .int x1), (2, .int x2)] := hl
  have hwRX11 : ∀ z ∈ u_ws RX11 TX11 18, z ∈ wsX11_areInLine := by decide +kernel
  unfold f_X11_areInLine at hF
  refine lv_aload_n hx hb dX11_areInLine_0 rfl (lv_at hl 0 rfl) ?_
  refine lv_aload_n hx hb dX11_areInLine_1 rfl (lv_at hl 0 rfl) ?_
  refine lv_iload_n hx hb dX11_areInLine_2 rfl (lv_at hl 1 rfl) ?_
  obtain ⟨r2, hk1, hF⟩ := am_bind hF
  refine am_call X hh (va_runV (As := [.int x1]) (rest := [.ref (gAd G 141)]) X.1 (c_X11_isPlanet l G hk1) (cwV 1 hts gX11_areInLine_X11_isPlanet rfl rfl rfl (by decide +kernel) ⟨Nat.le_of_ble_eq_true rfl, Nat.le_of_ble_eq_true rfl⟩) (am_preV X hh 141 12 (by decide) rfl rfl) rfl rfl hl.1 rfl (lv_room (Nat.le_of_ble_eq_true rfl)) dX11_areInLine_3 ⟨Nat.le_of_ble_eq_true rfl, Nat.le_of_ble_eq_true rfl⟩) (fun ab H locs hh => ?_)
  refine lv_if_eq (tgt := 17) hx hb dX11_areInLine_6 (by decide) (fun hc3 => ?_) (fun hc3 => ?_)
  · have hF := am_pos hc3 hF
    refine lv_iconst (v := (1 : Int32)) hx hb dX11_areInLine_17 (by decide) ?_
    refine lv_goto (tgt := 31) hx hb dX11_areInLine_18 (by decide) ?_
    refine am_putI X hh 141 12 12 (by decide) rfl rfl (by decide) hwRX11 tyX11 tyX11_ok nmX11 (show Cond.fieldLink RX11 49 "PlanetWorkshopModel" "thrown" "I" ∈ wsX11_areInLine by decide +kernel) rfl rfl rfl rfl dX11_areInLine_31 (fun H locs hh => ?_)
    obtain ⟨w4, hw4, hF⟩ := am_wl hF
    have hh := AH_eq hw4 hh
    refine lv_aload_n hx hb dX11_areInLine_34 rfl (lv_at hl 0 rfl) ?_
    refine am_getI X hh 141 12 12 (by decide) rfl rfl (by decide) hwRX11 (show Cond.fieldLink RX11 49 "PlanetWorkshopModel" "thrown" "I" ∈ wsX11_areInLine by decide +kernel) rfl dX11_areInLine_35 ?_
    refine lv_if_ne (tgt := 59) hx hb dX11_areInLine_38 (by decide) (fun hc5 => ?_) (fun hc5 => ?_)
    · have hF := am_neg hc5 hF
      refine lv_iconst (v := (0 : Int32)) hx hb dX11_areInLine_59 (by decide) ?_
      exact am_zret (v' := (0 : Int32)) X hr rfl hh (fun t ht => am_qw (mk := oI) hF ht) (Nat.le_of_ble_eq_true rfl) (Nat.le_of_ble_eq_true rfl) dX11_areInLine_60
    · have hF := am_pos hc5 hF
      refine lv_aload_n hx hb dX11_areInLine_41 rfl (lv_at hl 0 rfl) ?_
      refine lv_iload_n hx hb dX11_areInLine_42 rfl (lv_at hl 1 rfl) ?_
      obtain ⟨r7, hk6, hF⟩ := am_bind hF
      refine am_call X hh (va_runV (As := [.int x1]) (rest := []) X.1 (c_X11_angleOf l G hk6) (cwV 1 hts gX11_areInLine_X11_angleOf rfl rfl rfl (by decide +kernel) ⟨Nat.le_of_ble_eq_true rfl, Nat.le_of_ble_eq_true rfl⟩) (am_preV X hh 141 12 (by decide) rfl rfl) rfl rfl hl.1 rfl (lv_room (Nat.le_of_ble_eq_true rfl)) dX11_areInLine_43 ⟨Nat.le_of_ble_eq_true rfl, Nat.le_of_ble_eq_true rfl⟩) (fun ab H locs hh => ?_)
      refine lv_aload_n hx hb dX11_areInLine_46 rfl (lv_at hl 0 rfl) ?_
      refine lv_iload_n hx hb dX11_areInLine_47 rfl (lv_at hl 2 rfl) ?_
      obtain ⟨r9, hk8, hF⟩ := am_bind hF
      refine am_call X hh (va_runV (As := [.int x2]) (rest := [.long r7]) X.1 (c_X11_angleOf l G hk8) (cwV 1 hts gX11_areInLine_X11_angleOf rfl rfl rfl (by decide +kernel) ⟨Nat.le_of_ble_eq_true rfl, Nat.le_of_ble_eq_true rfl⟩) (am_preV X hh 141 12 (by decide) rfl rfl) rfl rfl hl.1 rfl (lv_room (Nat.le_of_ble_eq_true rfl)) dX11_areInLine_48 ⟨Nat.le_of_ble_eq_true rfl, Nat.le_of_ble_eq_true rfl⟩) (fun ab H locs hh => ?_)
      refine am_lcmp_ne (tgt := 59) hx hb dX11_areInLine_51 dX11_areInLine_52 (by decide) (fun hc10 => ?_) (fun hc10 => ?_)
      · have hF := am_neg hc10 hF
        refine lv_iconst (v := (0 : Int32)) hx hb dX11_areInLine_59 (by decide) ?_
        exact am_zret (v' := (0 : Int32)) X hr rfl hh (fun t ht => am_qw (mk := oI) hF ht) (Nat.le_of_ble_eq_true rfl) (Nat.le_of_ble_eq_true rfl) dX11_areInLine_60
      · have hF := am_pos hc10 hF
        refine lv_iconst (v := (1 : Int32)) hx hb dX11_areInLine_55 (by decide) ?_
        refine lv_goto (tgt := 60) hx hb dX11_areInLine_56 (by decide) ?_
        exact am_zret (v' := (1 : Int32)) X hr rfl hh (fun t ht => am_qw (mk := oI) hF ht) (Nat.le_of_ble_eq_true rfl) (Nat.le_of_ble_eq_true rfl) dX11_areInLine_60
  · have hF := am_neg hc3 hF
    refine lv_aload_n hx hb dX11_areInLine_9 rfl (lv_at hl 0 rfl) ?_
    refine lv_iload_n hx hb dX11_areInLine_10 rfl (lv_at hl 2 rfl) ?_
    obtain ⟨r12, hk11, hF⟩ := am_bind hF
    refine am_call X hh (va_runV (As := [.int x2]) (rest := [.ref (gAd G 141)]) X.1 (c_X11_isPlanet l G hk11) (cwV 1 hts gX11_areInLine_X11_isPlanet rfl rfl rfl (by decide +kernel) ⟨Nat.le_of_ble_eq_true rfl, Nat.le_of_ble_eq_true rfl⟩) (am_preV X hh 141 12 (by decide) rfl rfl) rfl rfl hl.1 rfl (lv_room (Nat.le_of_ble_eq_true rfl)) dX11_areInLine_11 ⟨Nat.le_of_ble_eq_true rfl, Nat.le_of_ble_eq_true rfl⟩) (fun ab H locs hh => ?_)
    refine lv_if_ne (tgt := 21) hx hb dX11_areInLine_14 (by decide) (fun hc13 => ?_) (fun hc13 => ?_)
    · have hF := am_neg hc13 hF
      refine lv_iload_n hx hb dX11_areInLine_21 rfl (lv_at hl 1 rfl) ?_
      refine lv_iload_n hx hb dX11_areInLine_22 rfl (lv_at hl 2 rfl) ?_
      refine lv_icmp_ne (tgt := 30) hx hb dX11_areInLine_23 (by decide) (fun hc14 => ?_) (fun hc14 => ?_)
      · have hF := am_neg hc14 hF
        refine lv_iconst (v := (0 : Int32)) hx hb dX11_areInLine_30 (by decide) ?_
        refine am_putI X hh 141 12 12 (by decide) rfl rfl (by decide) hwRX11 tyX11 tyX11_ok nmX11 (show Cond.fieldLink RX11 49 "PlanetWorkshopModel" "thrown" "I" ∈ wsX11_areInLine by decide +kernel) rfl rfl rfl rfl dX11_areInLine_31 (fun H locs hh => ?_)
        obtain ⟨w15, hw15, hF⟩ := am_wl hF
        have hh := AH_eq hw15 hh
        refine lv_aload_n hx hb dX11_areInLine_34 rfl (lv_at hl 0 rfl) ?_
        refine am_getI X hh 141 12 12 (by decide) rfl rfl (by decide) hwRX11 (show Cond.fieldLink RX11 49 "PlanetWorkshopModel" "thrown" "I" ∈ wsX11_areInLine by decide +kernel) rfl dX11_areInLine_35 ?_
        refine lv_if_ne (tgt := 59) hx hb dX11_areInLine_38 (by decide) (fun hc16 => ?_) (fun hc16 => ?_)
        · have hF := am_neg hc16 hF
          refine lv_iconst (v := (0 : Int32)) hx hb dX11_areInLine_59 (by decide) ?_
          exact am_zret (v' := (0 : Int32)) X hr rfl hh (fun t ht => am_qw (mk := oI) hF ht) (Nat.le_of_ble_eq_true rfl) (Nat.le_of_ble_eq_true rfl) dX11_areInLine_60
        · have hF := am_pos hc16 hF
          refine lv_aload_n hx hb dX11_areInLine_41 rfl (lv_at hl 0 rfl) ?_
          refine lv_iload_n hx hb dX11_areInLine_42 rfl (lv_at hl 1 rfl) ?_
          obtain ⟨r18, hk17, hF⟩ := am_bind hF
          refine am_call X hh (va_runV (As := [.int x1]) (rest := []) X.1 (c_X11_angleOf l G hk17) (cwV 1 hts gX11_areInLine_X11_angleOf rfl rfl rfl (by decide +kernel) ⟨Nat.le_of_ble_eq_true rfl, Nat.le_of_ble_eq_true rfl⟩) (am_preV X hh 141 12 (by decide) rfl rfl) rfl rfl hl.1 rfl (lv_room (Nat.le_of_ble_eq_true rfl)) dX11_areInLine_43 ⟨Nat.le_of_ble_eq_true rfl, Nat.le_of_ble_eq_true rfl⟩) (fun ab H locs hh => ?_)
          refine lv_aload_n hx hb dX11_areInLine_46 rfl (lv_at hl 0 rfl) ?_
          refine lv_iload_n hx hb dX11_areInLine_47 rfl (lv_at hl 2 rfl) ?_
          obtain ⟨r20, hk19, hF⟩ := am_bind hF
          refine am_call X hh (va_runV (As := [.int x2]) (rest := [.long r18]) X.1 (c_X11_angleOf l G hk19) (cwV 1 hts gX11_areInLine_X11_angleOf rfl rfl rfl (by decide +kernel) ⟨Nat.le_of_ble_eq_true rfl, Nat.le_of_ble_eq_true rfl⟩) (am_preV X hh 141 12 (by decide) rfl rfl) rfl rfl hl.1 rfl (lv_room (Nat.le_of_ble_eq_true rfl)) dX11_areInLine_48 ⟨Nat.le_of_ble_eq_true rfl, Nat.le_of_ble_eq_true rfl⟩) (fun ab H locs hh => ?_)
          refine am_lcmp_ne (tgt := 59) hx hb dX11_areInLine_51 dX11_areInLine_52 (by decide) (fun hc21 => ?_) (fun hc21 => ?_)
          · have hF := am_neg hc21 hF
            refine lv_iconst (v := (0 : Int32)) hx hb dX11_areInLine_59 (by decide) ?_
            exact am_zret (v' := (0 : Int32)) X hr rfl hh (fun t ht => am_qw (mk := oI) hF ht) (Nat.le_of_ble_eq_true rfl) (Nat.le_of_ble_eq_true rfl) dX11_areInLine_60
          · have hF := am_pos hc21 hF
            refine lv_iconst (v := (1 : Int32)) hx hb dX11_areInLine_55 (by decide) ?_
            refine lv_goto (tgt := 60) hx hb dX11_areInLine_56 (by decide) ?_
            exact am_zret (v' := (1 : Int32)) X hr rfl hh (fun t ht => am_qw (mk := oI) hF ht) (Nat.le_of_ble_eq_true rfl) (Nat.le_of_ble_eq_true rfl) dX11_areInLine_60
      · have hF := am_pos hc14 hF
        refine lv_iconst (v := (2 : Int32)) hx hb dX11_areInLine_26 (by decide) ?_
        refine lv_goto (tgt := 31) hx hb dX11_areInLine_27 (by decide) ?_
        refine am_putI X hh 141 12 12 (by decide) rfl rfl (by decide) hwRX11 tyX11 tyX11_ok nmX11 (show Cond.fieldLink RX11 49 "PlanetWorkshopModel" "thrown" "I" ∈ wsX11_areInLine by decide +kernel) rfl rfl rfl rfl dX11_areInLine_31 (fun H locs hh => ?_)
        obtain ⟨w22, hw22, hF⟩ := am_wl hF
        have hh := AH_eq hw22 hh
        refine lv_aload_n hx hb dX11_areInLine_34 rfl (lv_at hl 0 rfl) ?_
        refine am_getI X hh 141 12 12 (by decide) rfl rfl (by decide) hwRX11 (show Cond.fieldLink RX11 49 "PlanetWorkshopModel" "thrown" "I" ∈ wsX11_areInLine by decide +kernel) rfl dX11_areInLine_35 ?_
        refine lv_if_ne (tgt := 59) hx hb dX11_areInLine_38 (by decide) (fun hc23 => ?_) (fun hc23 => ?_)
        · have hF := am_neg hc23 hF
          refine lv_iconst (v := (0 : Int32)) hx hb dX11_areInLine_59 (by decide) ?_
          exact am_zret (v' := (0 : Int32)) X hr rfl hh (fun t ht => am_qw (mk := oI) hF ht) (Nat.le_of_ble_eq_true rfl) (Nat.le_of_ble_eq_true rfl) dX11_areInLine_60
        · have hF := am_pos hc23 hF
          refine lv_aload_n hx hb dX11_areInLine_41 rfl (lv_at hl 0 rfl) ?_
          refine lv_iload_n hx hb dX11_areInLine_42 rfl (lv_at hl 1 rfl) ?_
          obtain ⟨r25, hk24, hF⟩ := am_bind hF
          refine am_call X hh (va_runV (As := [.int x1]) (rest := []) X.1 (c_X11_angleOf l G hk24) (cwV 1 hts gX11_areInLine_X11_angleOf rfl rfl rfl (by decide +kernel) ⟨Nat.le_of_ble_eq_true rfl, Nat.le_of_ble_eq_true rfl⟩) (am_preV X hh 141 12 (by decide) rfl rfl) rfl rfl hl.1 rfl (lv_room (Nat.le_of_ble_eq_true rfl)) dX11_areInLine_43 ⟨Nat.le_of_ble_eq_true rfl, Nat.le_of_ble_eq_true rfl⟩) (fun ab H locs hh => ?_)
          refine lv_aload_n hx hb dX11_areInLine_46 rfl (lv_at hl 0 rfl) ?_
          refine lv_iload_n hx hb dX11_areInLine_47 rfl (lv_at hl 2 rfl) ?_
          obtain ⟨r27, hk26, hF⟩ := am_bind hF
          refine am_call X hh (va_runV (As := [.int x2]) (rest := [.long r25]) X.1 (c_X11_angleOf l G hk26) (cwV 1 hts gX11_areInLine_X11_angleOf rfl rfl rfl (by decide +kernel) ⟨Nat.le_of_ble_eq_true rfl, Nat.le_of_ble_eq_true rfl⟩) (am_preV X hh 141 12 (by decide) rfl rfl) rfl rfl hl.1 rfl (lv_room (Nat.le_of_ble_eq_true rfl)) dX11_areInLine_48 ⟨Nat.le_of_ble_eq_true rfl, Nat.le_of_ble_eq_true rfl⟩) (fun ab H locs hh => ?_)
          refine am_lcmp_ne (tgt := 59) hx hb dX11_areInLine_51 dX11_areInLine_52 (by decide) (fun hc28 => ?_) (fun hc28 => ?_)
          · have hF := am_neg hc28 hF
            refine lv_iconst (v := (0 : Int32)) hx hb dX11_areInLine_59 (by decide) ?_
            exact am_zret (v' := (0 : Int32)) X hr rfl hh (fun t ht => am_qw (mk := oI) hF ht) (Nat.le_of_ble_eq_true rfl) (Nat.le_of_ble_eq_true rfl) dX11_areInLine_60
          · have hF := am_pos hc28 hF
            refine lv_iconst (v := (1 : Int32)) hx hb dX11_areInLine_55 (by decide) ?_
            refine lv_goto (tgt := 60) hx hb dX11_areInLine_56 (by decide) ?_
            exact am_zret (v' := (1 : Int32)) X hr rfl hh (fun t ht => am_qw (mk := oI) hF ht) (Nat.le_of_ble_eq_true rfl) (Nat.le_of_ble_eq_true rfl) dX11_areInLine_60
    · have hF := am_pos hc13 hF
      refine lv_iconst (v := (1 : Int32)) hx hb dX11_areInLine_17 (by decide) ?_
      refine lv_goto (tgt := 31) hx hb dX11_areInLine_18 (by decide) ?_
      refine am_putI X hh 141 12 12 (by decide) rfl rfl (by decide) hwRX11 tyX11 tyX11_ok nmX11 (show Cond.fieldLink RX11 49 "PlanetWorkshopModel" "thrown" "I" ∈ wsX11_areInLine by decide +kernel) rfl rfl rfl rfl dX11_areInLine_31 (fun H locs hh => ?_)
      obtain ⟨w29, hw29, hF⟩ := am_wl hF
      have hh := AH_eq hw29 hh
      refine lv_aload_n hx hb dX11_areInLine_34 rfl (lv_at hl 0 rfl) ?_
      refine am_getI X hh 141 12 12 (by decide) rfl rfl (by decide) hwRX11 (show Cond.fieldLink RX11 49 "PlanetWorkshopModel" "thrown" "I" ∈ wsX11_areInLine by decide +kernel) rfl dX11_areInLine_35 ?_
      refine lv_if_ne (tgt := 59) hx hb dX11_areInLine_38 (by decide) (fun hc30 => ?_) (fun hc30 => ?_)
      · have hF := am_neg hc30 hF
        refine lv_iconst (v := (0 : Int32)) hx hb dX11_areInLine_59 (by decide) ?_
        exact am_zret (v' := (0 : Int32)) X hr rfl hh (fun t ht => am_qw (mk := oI) hF ht) (Nat.le_of_ble_eq_true rfl) (Nat.le_of_ble_eq_true rfl) dX11_areInLine_60
      · have hF := am_pos hc30 hF
        refine lv_aload_n hx hb dX11_areInLine_41 rfl (lv_at hl 0 rfl) ?_
        refine lv_iload_n hx hb dX11_areInLine_42 rfl (lv_at hl 1 rfl) ?_
        obtain ⟨r32, hk31, hF⟩ := am_bind hF
        refine am_call X hh (va_runV (As := [.int x1]) (rest := []) X.1 (c_X11_angleOf l G hk31) (cwV 1 hts gX11_areInLine_X11_angleOf rfl rfl rfl (by decide +kernel) ⟨Nat.le_of_ble_eq_true rfl, Nat.le_of_ble_eq_true rfl⟩) (am_preV X hh 141 12 (by decide) rfl rfl) rfl rfl hl.1 rfl (lv_room (Nat.le_of_ble_eq_true rfl)) dX11_areInLine_43 ⟨Nat.le_of_ble_eq_true rfl, Nat.le_of_ble_eq_true rfl⟩) (fun ab H locs hh => ?_)
        refine lv_aload_n hx hb dX11_areInLine_46 rfl (lv_at hl 0 rfl) ?_
        refine lv_iload_n hx hb dX11_areInLine_47 rfl (lv_at hl 2 rfl) ?_
        obtain ⟨r34, hk33, hF⟩ := am_bind hF
        refine am_call X hh (va_runV (As := [.int x2]) (rest := [.long r32]) X.1 (c_X11_angleOf l G hk33) (cwV 1 hts gX11_areInLine_X11_angleOf rfl rfl rfl (by decide +kernel) ⟨Nat.le_of_ble_eq_true rfl, Nat.le_of_ble_eq_true rfl⟩) (am_preV X hh 141 12 (by decide) rfl rfl) rfl rfl hl.1 rfl (lv_room (Nat.le_of_ble_eq_true rfl)) dX11_areInLine_48 ⟨Nat.le_of_ble_eq_true rfl, Nat.le_of_ble_eq_true rfl⟩) (fun ab H locs hh => ?_)
        refine am_lcmp_ne (tgt := 59) hx hb dX11_areInLine_51 dX11_areInLine_52 (by decide) (fun hc35 => ?_) (fun hc35 => ?_)
        · have hF := am_neg hc35 hF
          refine lv_iconst (v := (0 : Int32)) hx hb dX11_areInLine_59 (by decide) ?_
          exact am_zret (v' := (0 : Int32)) X hr rfl hh (fun t ht => am_qw (mk := oI) hF ht) (Nat.le_of_ble_eq_true rfl) (Nat.le_of_ble_eq_true rfl) dX11_areInLine_60
        · have hF := am_pos hc35 hF
          refine lv_iconst (v := (1 : Int32)) hx hb dX11_areInLine_55 (by decide) ?_
          refine lv_goto (tgt := 60) hx hb dX11_areInLine_56 (by decide) ?_
          exact am_zret (v' := (1 : Int32)) X hr rfl hh (fun t ht => am_qw (mk := oI) hF ht) (Nat.le_of_ble_eq_true rfl) (Nat.le_of_ble_eq_true rfl) dX11_areInLine_60
set_option maxHeartbeats 4000000 in
set_option maxRecDepth 100000 in
theorem c_X11_nextEclipse (l : Launch) (G : GG) {w : Wd} {x1 : Int32} {x2 : Int32} {x3 : Int32} {r0 : Int32} {w1 : Wd} (hF : f_X11_nextEclipse w x1 x2 x3 = some (r0, w1)) : Met l yX11_nextEclipse wsX11_nextEclipse ({ frames := 4, cells := 0, slots := 0, locals := 88 } : Room) (va_Pc [.ref (gAd G 141), .int x1, .int x2, .int x3] (Rel G w)) (amQ G (oI r0) w1) 0 0 (gA G) := by
  refine am_met (own := RX11) (cc := cX11_nextEclipse) (maxL := 11) (ret := (some .int)) (by decide +kernel) rfl rfl (Nat.le_of_ble_eq_true rfl) ?_
  intro p e s m args below meth c ab H locs ls X hr hh hl
  have hx := X.1.1; have hb := X.1.2.1; have hml := X.1.2.2.1; have hown := X.1.2.2.2.1; have hts := X.1.2.2.2.2
  have hl : lv_has ls 11 [(0, .ref (gAd G 141)), (1, .int x1), (2, .int x2), (3, .int x3)] := hl
  have hwRX11 : ∀ z ∈ u_ws RX11 TX11 18, z ∈ wsX11_nextEclipse := by decide +kernel
  unfold f_X11_nextEclipse at hF
  refine lv_aload_n hx hb dX11_nextEclipse_0 rfl (lv_at hl 0 rfl) ?_
  refine lv_iload_n hx hb dX11_nextEclipse_1 rfl (lv_at hl 1 rfl) ?_
  obtain ⟨r2, hk1, hF⟩ := am_bind hF
  refine am_call X hh (va_runV (As := [.int x1]) (rest := []) X.1 (c_X11_isPlanet l G hk1) (cwV 1 hts gX11_nextEclipse_X11_isPlanet rfl rfl rfl (by decide +kernel) ⟨Nat.le_of_ble_eq_true rfl, Nat.le_of_ble_eq_true rfl⟩) (am_preV X hh 141 12 (by decide) rfl rfl) rfl rfl hl.1 rfl (lv_room (Nat.le_of_ble_eq_true rfl)) dX11_nextEclipse_2 ⟨Nat.le_of_ble_eq_true rfl, Nat.le_of_ble_eq_true rfl⟩) (fun ab H locs hh => ?_)
  refine lv_if_eq (tgt := 24) hx hb dX11_nextEclipse_5 (by decide) (fun hc3 => ?_) (fun hc3 => ?_)
  · have hF := am_pos hc3 hF
    refine lv_aload_n hx hb dX11_nextEclipse_24 rfl (lv_at hl 0 rfl) ?_
    refine lv_iconst (v := (1 : Int32)) hx hb dX11_nextEclipse_25 (by decide) ?_
    obtain ⟨⟨r5, w6⟩, hk4, hF⟩ := am_bind hF
    have hF := am_u2 hF
    refine am_call X hh (va_runV (As := [.int (1 : Int32)]) (rest := []) X.1 (c_X11_fails l G hk4) (cwV 1 hts gX11_nextEclipse_X11_fails rfl rfl rfl (by decide +kernel) ⟨Nat.le_of_ble_eq_true rfl, Nat.le_of_ble_eq_true rfl⟩) (am_preV X hh 141 12 (by decide) rfl rfl) rfl rfl hl.1 rfl (lv_room (Nat.le_of_ble_eq_true rfl)) dX11_nextEclipse_26 ⟨Nat.le_of_ble_eq_true rfl, Nat.le_of_ble_eq_true rfl⟩) (fun ab H locs hh => ?_)
    exact am_iret X hr hh (fun t ht => am_qw (mk := oI) hF ht) (Nat.le_of_ble_eq_true rfl) (Nat.le_of_ble_eq_true rfl) dX11_nextEclipse_29
  · have hF := am_neg hc3 hF
    refine lv_aload_n hx hb dX11_nextEclipse_8 rfl (lv_at hl 0 rfl) ?_
    refine lv_iload_n hx hb dX11_nextEclipse_9 rfl (lv_at hl 2 rfl) ?_
    obtain ⟨r9, hk8, hF⟩ := am_bind hF
    refine am_call X hh (va_runV (As := [.int x2]) (rest := []) X.1 (c_X11_isPlanet l G hk8) (cwV 1 hts gX11_nextEclipse_X11_isPlanet rfl rfl rfl (by decide +kernel) ⟨Nat.le_of_ble_eq_true rfl, Nat.le_of_ble_eq_true rfl⟩) (am_preV X hh 141 12 (by decide) rfl rfl) rfl rfl hl.1 rfl (lv_room (Nat.le_of_ble_eq_true rfl)) dX11_nextEclipse_10 ⟨Nat.le_of_ble_eq_true rfl, Nat.le_of_ble_eq_true rfl⟩) (fun ab H locs hh => ?_)
    refine lv_if_eq (tgt := 24) hx hb dX11_nextEclipse_13 (by decide) (fun hc10 => ?_) (fun hc10 => ?_)
    · have hF := am_pos hc10 hF
      refine lv_aload_n hx hb dX11_nextEclipse_24 rfl (lv_at hl 0 rfl) ?_
      refine lv_iconst (v := (1 : Int32)) hx hb dX11_nextEclipse_25 (by decide) ?_
      obtain ⟨⟨r12, w13⟩, hk11, hF⟩ := am_bind hF
      have hF := am_u2 hF
      refine am_call X hh (va_runV (As := [.int (1 : Int32)]) (rest := []) X.1 (c_X11_fails l G hk11) (cwV 1 hts gX11_nextEclipse_X11_fails rfl rfl rfl (by decide +kernel) ⟨Nat.le_of_ble_eq_true rfl, Nat.le_of_ble_eq_true rfl⟩) (am_preV X hh 141 12 (by decide) rfl rfl) rfl rfl hl.1 rfl (lv_room (Nat.le_of_ble_eq_true rfl)) dX11_nextEclipse_26 ⟨Nat.le_of_ble_eq_true rfl, Nat.le_of_ble_eq_true rfl⟩) (fun ab H locs hh => ?_)
      exact am_iret X hr hh (fun t ht => am_qw (mk := oI) hF ht) (Nat.le_of_ble_eq_true rfl) (Nat.le_of_ble_eq_true rfl) dX11_nextEclipse_29
    · have hF := am_neg hc10 hF
      refine lv_aload_n hx hb dX11_nextEclipse_16 rfl (lv_at hl 0 rfl) ?_
      refine lv_iload_n hx hb dX11_nextEclipse_17 rfl (lv_at hl 3 rfl) ?_
      obtain ⟨r16, hk15, hF⟩ := am_bind hF
      refine am_call X hh (va_runV (As := [.int x3]) (rest := []) X.1 (c_X11_isGear l G hk15) (cwV 1 hts gX11_nextEclipse_X11_isGear rfl rfl rfl (by decide +kernel) ⟨Nat.le_of_ble_eq_true rfl, Nat.le_of_ble_eq_true rfl⟩) (am_preV X hh 141 12 (by decide) rfl rfl) rfl rfl hl.1 rfl (lv_room (Nat.le_of_ble_eq_true rfl)) dX11_nextEclipse_18 ⟨Nat.le_of_ble_eq_true rfl, Nat.le_of_ble_eq_true rfl⟩) (fun ab H locs hh => ?_)
      refine lv_if_ne (tgt := 30) hx hb dX11_nextEclipse_21 (by decide) (fun hc17 => ?_) (fun hc17 => ?_)
      · have hF := am_neg hc17 hF
        refine lv_iload_n hx hb dX11_nextEclipse_30 rfl (lv_at hl 1 rfl) ?_
        refine lv_iload_n hx hb dX11_nextEclipse_31 rfl (lv_at hl 2 rfl) ?_
        refine lv_icmp_ne (tgt := 41) hx hb dX11_nextEclipse_32 (by decide) (fun hc18 => ?_) (fun hc18 => ?_)
        · have hF := am_neg hc18 hF
          refine lv_aload_n hx hb dX11_nextEclipse_41 rfl (lv_at hl 0 rfl) ?_
          refine lv_iload_n hx hb dX11_nextEclipse_42 rfl (lv_at hl 3 rfl) ?_
          obtain ⟨w21, hk19, hF⟩ := am_bind hF
          refine am_call X hh (va_runV (As := [.int x3]) (rest := []) X.1 (c_X11_turns l G hk19) (cwV 1 hts gX11_nextEclipse_X11_turns rfl rfl rfl (by decide +kernel) ⟨Nat.le_of_ble_eq_true rfl, Nat.le_of_ble_eq_true rfl⟩) (am_preV X hh 141 12 (by decide) rfl rfl) rfl rfl hl.1 rfl (lv_room (Nat.le_of_ble_eq_true rfl)) dX11_nextEclipse_43 ⟨Nat.le_of_ble_eq_true rfl, Nat.le_of_ble_eq_true rfl⟩) (fun ab H locs hh => ?_)
          refine lv_aload_n hx hb dX11_nextEclipse_46 rfl (lv_at hl 0 rfl) ?_
          refine lv_bipush (v := (86 : Int32)) hx hb dX11_nextEclipse_47 (by decide) ?_
          refine lv_iload_n hx hb dX11_nextEclipse_49 rfl (lv_at hl 1 rfl) ?_
          refine lv_iadd hx hb dX11_nextEclipse_50 ?_
          obtain ⟨r23, hk22, hF⟩ := am_bind hF
          refine am_call X hh (va_runV (As := [.int ((86 : Int32) + x1)]) (rest := []) X.1 (c_X11_at l G hk22) (cwV 1 hts gX11_nextEclipse_X11_at rfl rfl rfl (by decide +kernel) ⟨Nat.le_of_ble_eq_true rfl, Nat.le_of_ble_eq_true rfl⟩) (am_preV X hh 141 12 (by decide) rfl rfl) rfl rfl hl.1 rfl (lv_room (Nat.le_of_ble_eq_true rfl)) dX11_nextEclipse_51 ⟨Nat.le_of_ble_eq_true rfl, Nat.le_of_ble_eq_true rfl⟩) (fun ab H locs hh => ?_)
          refine lv_istore (lv' := [(4, .int r23), (0, .ref (gAd G 141)), (1, .int x1), (2, .int x2), (3, .int x3)]) hx hb dX11_nextEclipse_54 hl (by decide) rfl (fun ls hl => ?_)
          refine lv_aload_n hx hb dX11_nextEclipse_56 rfl (lv_at hl 1 rfl) ?_
          refine lv_bipush (v := (86 : Int32)) hx hb dX11_nextEclipse_57 (by decide) ?_
          refine lv_iload_n hx hb dX11_nextEclipse_59 rfl (lv_at hl 3 rfl) ?_
          refine lv_iadd hx hb dX11_nextEclipse_60 ?_
          obtain ⟨r25, hk24, hF⟩ := am_bind hF
          refine am_call X hh (va_runV (As := [.int ((86 : Int32) + x2)]) (rest := []) X.1 (c_X11_at l G hk24) (cwV 1 hts gX11_nextEclipse_X11_at rfl rfl rfl (by decide +kernel) ⟨Nat.le_of_ble_eq_true rfl, Nat.le_of_ble_eq_true rfl⟩) (am_preV X hh 141 12 (by decide) rfl rfl) rfl rfl hl.1 rfl (lv_room (Nat.le_of_ble_eq_true rfl)) dX11_nextEclipse_61 ⟨Nat.le_of_ble_eq_true rfl, Nat.le_of_ble_eq_true rfl⟩) (fun ab H locs hh => ?_)
          refine lv_istore (lv' := [(5, .int r25), (4, .int r23), (0, .ref (gAd G 141)), (1, .int x1), (2, .int x2), (3, .int x3)]) hx hb dX11_nextEclipse_64 hl (by decide) rfl (fun ls hl => ?_)
          refine lv_aload_n hx hb dX11_nextEclipse_66 rfl (lv_at hl 2 rfl) ?_
          refine am_getR X hh 141 12 14 149 (by decide) rfl rfl (by decide) hwRX11 (show Cond.fieldLink RX11 39 "PlanetWorkshopModel" "isKnown" "[Z" ∈ wsX11_nextEclipse by decide +kernel) rfl dX11_nextEclipse_67 ?_
          refine lv_iload hx hb dX11_nextEclipse_70 (lv_at hl 1 rfl) ?_
          obtain ⟨hq26, hF⟩ := am_ifR hF
          refine am_zald X hh 149 (by decide) rfl hq26 dX11_nextEclipse_72 ?_
          refine lv_if_eq (tgt := 86) hx hb dX11_nextEclipse_73 (by decide) (fun hc27 => ?_) (fun hc27 => ?_)
          · have hF := am_pos hc27 hF
            refine lv_aload_n hx hb dX11_nextEclipse_86 rfl (lv_at hl 2 rfl) ?_
            refine lv_iconst (v := (3 : Int32)) hx hb dX11_nextEclipse_87 (by decide) ?_
            obtain ⟨⟨r29, w30⟩, hk28, hF⟩ := am_bind hF
            have hF := am_u2 hF
            refine am_call X hh (va_runV (As := [.int (3 : Int32)]) (rest := []) X.1 (c_X11_fails l G hk28) (cwV 1 hts gX11_nextEclipse_X11_fails rfl rfl rfl (by decide +kernel) ⟨Nat.le_of_ble_eq_true rfl, Nat.le_of_ble_eq_true rfl⟩) (am_preV X hh 141 12 (by decide) rfl rfl) rfl rfl hl.1 rfl (lv_room (Nat.le_of_ble_eq_true rfl)) dX11_nextEclipse_88 ⟨Nat.le_of_ble_eq_true rfl, Nat.le_of_ble_eq_true rfl⟩) (fun ab H locs hh => ?_)
            exact am_iret X hr hh (fun t ht => am_qw (mk := oI) hF ht) (Nat.le_of_ble_eq_true rfl) (Nat.le_of_ble_eq_true rfl) dX11_nextEclipse_91
          · have hF := am_neg hc27 hF
            refine lv_aload_n hx hb dX11_nextEclipse_76 rfl (lv_at hl 2 rfl) ?_
            refine am_getR X hh 141 12 14 149 (by decide) rfl rfl (by decide) hwRX11 (show Cond.fieldLink RX11 39 "PlanetWorkshopModel" "isKnown" "[Z" ∈ wsX11_nextEclipse by decide +kernel) rfl dX11_nextEclipse_77 ?_
            refine lv_iload hx hb dX11_nextEclipse_80 (lv_at hl 0 rfl) ?_
            obtain ⟨hq32, hF⟩ := am_ifR hF
            refine am_zald X hh 149 (by decide) rfl hq32 dX11_nextEclipse_82 ?_
            refine lv_if_ne (tgt := 92) hx hb dX11_nextEclipse_83 (by decide) (fun hc33 => ?_) (fun hc33 => ?_)
            · have hF := am_neg hc33 hF
              refine lv_aload_n hx hb dX11_nextEclipse_92 rfl (lv_at hl 2 rfl) ?_
              refine am_getR X hh 141 12 13 148 (by decide) rfl rfl (by decide) hwRX11 (show Cond.fieldLink RX11 36 "PlanetWorkshopModel" "units" "[J" ∈ wsX11_nextEclipse by decide +kernel) rfl dX11_nextEclipse_93 ?_
              refine lv_iload hx hb dX11_nextEclipse_96 (lv_at hl 1 rfl) ?_
              obtain ⟨hq34, hF⟩ := am_ifR hF
              refine am_lald X hh 148 (by decide) rfl hq34 dX11_nextEclipse_98 ?_
              refine lv_aload_n hx hb dX11_nextEclipse_99 rfl (lv_at hl 2 rfl) ?_
              refine am_getR X hh 141 12 13 148 (by decide) rfl rfl (by decide) hwRX11 (show Cond.fieldLink RX11 36 "PlanetWorkshopModel" "units" "[J" ∈ wsX11_nextEclipse by decide +kernel) rfl dX11_nextEclipse_100 ?_
              refine lv_iload hx hb dX11_nextEclipse_103 (lv_at hl 0 rfl) ?_
              obtain ⟨hq35, hF⟩ := am_ifR hF
              refine am_lald X hh 148 (by decide) rfl hq35 dX11_nextEclipse_105 ?_
              refine lv_lsub hx hb dX11_nextEclipse_106 ?_
              obtain ⟨r37, hk36, hF⟩ := am_bind hF
              refine am_call X hh (va_runS (As := [.long ((gL w21 148 (r23).toNatClampNeg) - (gL w21 148 (r25).toNatClampNeg))]) (rest := []) X.1 (c_X11_rest l G hk36) (va_cwS 1 hts gX11_nextEclipse_X11_rest rfl rfl rfl (by decide +kernel) ⟨Nat.le_of_ble_eq_true rfl, Nat.le_of_ble_eq_true rfl⟩) (am_preS X hh) rfl rfl hl.1 rfl (lv_room (Nat.le_of_ble_eq_true rfl)) dX11_nextEclipse_107 ⟨Nat.le_of_ble_eq_true rfl, Nat.le_of_ble_eq_true rfl⟩) (fun ab H locs hh => ?_)
              refine lv_lstore (lv' := [(6, .long r37), (5, .int r25), (4, .int r23), (0, .ref (gAd G 141)), (1, .int x1), (2, .int x2), (3, .int x3)]) hx hb dX11_nextEclipse_110 hl (by decide) rfl (fun ls hl => ?_)
              refine lv_aload_n hx hb dX11_nextEclipse_112 rfl (lv_at hl 3 rfl) ?_
              refine am_getR X hh 141 12 0 142 (by decide) rfl rfl (by decide) hwRX11 (show Cond.fieldLink RX11 7 "PlanetWorkshopModel" "g" "[J" ∈ wsX11_nextEclipse by decide +kernel) rfl dX11_nextEclipse_113 ?_
              refine lv_bipush (v := (16 : Int32)) hx hb dX11_nextEclipse_116 (by decide) ?_
              refine lv_iload hx hb dX11_nextEclipse_118 (lv_at hl 2 rfl) ?_
              refine lv_iadd hx hb dX11_nextEclipse_120 ?_
              obtain ⟨hq38, hF⟩ := am_ifR hF
              refine am_lald X hh 142 (by decide) rfl hq38 dX11_nextEclipse_121 ?_
              refine lv_aload_n hx hb dX11_nextEclipse_122 rfl (lv_at hl 3 rfl) ?_
              refine am_getR X hh 141 12 0 142 (by decide) rfl rfl (by decide) hwRX11 (show Cond.fieldLink RX11 7 "PlanetWorkshopModel" "g" "[J" ∈ wsX11_nextEclipse by decide +kernel) rfl dX11_nextEclipse_123 ?_
              refine lv_bipush (v := (16 : Int32)) hx hb dX11_nextEclipse_126 (by decide) ?_
              refine lv_iload hx hb dX11_nextEclipse_128 (lv_at hl 1 rfl) ?_
              refine lv_iadd hx hb dX11_nextEclipse_130 ?_
              obtain ⟨hq39, hF⟩ := am_ifR hF
              refine am_lald X hh 142 (by decide) rfl hq39 dX11_nextEclipse_131 ?_
              refine lv_lsub hx hb dX11_nextEclipse_132 ?_
              obtain ⟨r41, hk40, hF⟩ := am_bind hF
              refine am_call X hh (va_runS (As := [.long ((gL w21 142 (((16 : Int32) + r23)).toNatClampNeg) - (gL w21 142 (((16 : Int32) + r25)).toNatClampNeg))]) (rest := []) X.1 (c_X11_rest l G hk40) (va_cwS 1 hts gX11_nextEclipse_X11_rest rfl rfl rfl (by decide +kernel) ⟨Nat.le_of_ble_eq_true rfl, Nat.le_of_ble_eq_true rfl⟩) (am_preS X hh) rfl rfl hl.1 rfl (lv_room (Nat.le_of_ble_eq_true rfl)) dX11_nextEclipse_133 ⟨Nat.le_of_ble_eq_true rfl, Nat.le_of_ble_eq_true rfl⟩) (fun ab H locs hh => ?_)
              refine lv_lstore (lv' := [(8, .long r41), (6, .long r37), (5, .int r25), (4, .int r23), (0, .ref (gAd G 141)), (1, .int x1), (2, .int x2), (3, .int x3)]) hx hb dX11_nextEclipse_136 hl (by decide) rfl (fun ls hl => ?_)
              refine lv_iconst (v := (1 : Int32)) hx hb dX11_nextEclipse_138 (by decide) ?_
              refine lv_istore (lv' := [(10, .int (1 : Int32)), (8, .long r41), (6, .long r37), (5, .int r25), (4, .int r23), (0, .ref (gAd G 141)), (1, .int x1), (2, .int x2), (3, .int x3)]) hx hb dX11_nextEclipse_139 hl (by decide) rfl (fun ls hl => ?_)
              have hlp141 : ∀ (n : Nat) (y42 : Int64) (y43 : Int32) (ab : Nat) (H : Heap) (locs : List Loc) (ls : Array Slot) (z : (Int64 × Int32) ⊕ (Int32 × Wd)), p_X11_nextEclipse_141 w21 r37 n y42 y43 = some z → AH G s.heap w21 ab H locs → lv_has ls 11 [(8, .long y42), (10, .int y43), (6, .long r37), (5, .int r25), (4, .int r23), (0, .ref (gAd G 141)), (1, .int x1), (2, .int x2), (3, .int x3)] → (∀ (y42 : Int64) (y43 : Int32) (ab : Nat) (H : Heap) (locs : List Loc) (ls : Array Slot), z = .inl (y42, y43) → AH G s.heap w21 ab H locs → lv_has ls 11 [(8, .long y42), (10, .int y43), (6, .long r37), (5, .int r25), (4, .int r23), (0, .ref (gAd G 141)), (1, .int x1), (2, .int x2), (3, .int x3)] → W p l e ({ frames := 4, cells := 0, slots := 0, locals := 88 } : Room) s m args below meth c H locs 0 0 (MQ below (amQ G (oI r0) w1) args s 0 0 (gA G)) (F0 m 179 ls [])) → (∀ r, z = .inr r → some r = some (r0, w1)) → W p l e ({ frames := 4, cells := 0, slots := 0, locals := 88 } : Room) s m args below meth c H locs 0 0 (MQ below (amQ G (oI r0) w1) args s 0 0 (gA G)) (F0 m 141 ls []) := by
                intro n
                induction n with
                | zero =>
                  intro y42 y43 ab H locs ls z hF
                  unfold p_X11_nextEclipse_141 at hF
                  cases hF
                | succ n ih =>
                  intro y42 y43 ab H locs ls z hF hh hl kE kR
                  unfold p_X11_nextEclipse_141 at hF
                  refine lv_iload hx hb dX11_nextEclipse_141 (lv_at hl 1 rfl) ?_
                  refine lv_sipush (v := (999 : Int32)) hx hb dX11_nextEclipse_143 (by decide) ?_
                  refine lv_icmp_gt (tgt := 179) hx hb dX11_nextEclipse_146 (by decide) (fun hc45 => ?_) (fun hc45 => ?_)
                  · have hF := am_pos hc45 hF
                    exact kE y42 y43 ab H locs ls (Option.some.inj hF).symm hh (lv_sub hl [0, 1, 2, 3, 4, 5, 6, 7, 8] rfl)
                  · have hF := am_neg hc45 hF
                    refine lv_lload hx hb dX11_nextEclipse_149 (lv_at hl 0 rfl) ?_
                    refine lv_lload hx hb dX11_nextEclipse_151 (lv_at hl 2 rfl) ?_
                    refine lv_ladd hx hb dX11_nextEclipse_153 ?_
                    obtain ⟨r47, hk46, hF⟩ := am_bind hF
                    refine am_call X hh (va_runS (As := [.long (y42 + r37)]) (rest := []) X.1 (c_X11_rest l G hk46) (va_cwS 1 hts gX11_nextEclipse_X11_rest rfl rfl rfl (by decide +kernel) ⟨Nat.le_of_ble_eq_true rfl, Nat.le_of_ble_eq_true rfl⟩) (am_preS X hh) rfl rfl hl.1 rfl (lv_room (Nat.le_of_ble_eq_true rfl)) dX11_nextEclipse_154 ⟨Nat.le_of_ble_eq_true rfl, Nat.le_of_ble_eq_true rfl⟩) (fun ab H locs hh => ?_)
                    refine lv_lstore (lv' := [(8, .long r47), (10, .int y43), (6, .long r37), (5, .int r25), (4, .int r23), (0, .ref (gAd G 141)), (1, .int x1), (2, .int x2), (3, .int x3)]) hx hb dX11_nextEclipse_157 hl (by decide) rfl (fun ls hl => ?_)
                    refine lv_lload hx hb dX11_nextEclipse_159 (lv_at hl 0 rfl) ?_
                    refine lv_lconst (v := (0 : Int64)) hx hb dX11_nextEclipse_161 (by decide) ?_
                    refine am_lcmp_ne (tgt := 173) hx hb dX11_nextEclipse_162 dX11_nextEclipse_163 (by decide) (fun hc48 => ?_) (fun hc48 => ?_)
                    · have hF := am_neg hc48 hF
                      refine lv_iinc (v := (y43 + (1 : Int32))) (lv' := [(10, .int (y43 + (1 : Int32))), (8, .long r47), (6, .long r37), (5, .int r25), (4, .int r23), (0, .ref (gAd G 141)), (1, .int x1), (2, .int x2), (3, .int x3)]) hx hb dX11_nextEclipse_173 hl (k := 1) rfl rfl (by decide) rfl (fun ls hl => ?_)
                      refine lv_goto (tgt := 141) hx hb dX11_nextEclipse_176 (by decide) ?_
                      exact ih r47 (y43 + (1 : Int32)) ab H locs ls _ hF hh (lv_sub hl [1, 0, 2, 3, 4, 5, 6, 7, 8] rfl) kE kR
                    · have hF := am_pos hc48 hF
                      refine lv_aload_n hx hb dX11_nextEclipse_166 rfl (lv_at hl 5 rfl) ?_
                      refine lv_iload hx hb dX11_nextEclipse_167 (lv_at hl 1 rfl) ?_
                      obtain ⟨⟨r50, w51⟩, hk49, hF⟩ := am_bind hF
                      have hF := am_u2 hF
                      refine am_call X hh (va_runV (As := [.int y43]) (rest := []) X.1 (c_X11_done l G hk49) (cwV 1 hts gX11_nextEclipse_X11_done rfl rfl rfl (by decide +kernel) ⟨Nat.le_of_ble_eq_true rfl, Nat.le_of_ble_eq_true rfl⟩) (am_preV X hh 141 12 (by decide) rfl rfl) rfl rfl hl.1 rfl (lv_room (Nat.le_of_ble_eq_true rfl)) dX11_nextEclipse_169 ⟨Nat.le_of_ble_eq_true rfl, Nat.le_of_ble_eq_true rfl⟩) (fun ab H locs hh => ?_)
                      have hF := kR _ (Option.some.inj hF).symm
                      exact am_iret X hr hh (fun t ht => am_qw (mk := oI) hF ht) (Nat.le_of_ble_eq_true rfl) (Nat.le_of_ble_eq_true rfl) dX11_nextEclipse_172
              obtain ⟨z53, hz54, hF⟩ := am_bind hF
              refine hlp141 2000 r41 (1 : Int32) ab H locs ls z53 hz54 hh (lv_sub hl [1, 0, 2, 3, 4, 5, 6, 7, 8] rfl) (fun y42 y43 ab H locs ls hz hh hl => ?_) (fun r hz => ?_)
              · subst hz
                have hF := am_zl hF
                have hF := am_u2 hF
                refine lv_aload_n hx hb dX11_nextEclipse_179 rfl (lv_at hl 5 rfl) ?_
                refine lv_iconst (v := (4 : Int32)) hx hb dX11_nextEclipse_180 (by decide) ?_
                obtain ⟨⟨r56, w57⟩, hk55, hF⟩ := am_bind hF
                have hF := am_u2 hF
                refine am_call X hh (va_runV (As := [.int (4 : Int32)]) (rest := []) X.1 (c_X11_fails l G hk55) (cwV 1 hts gX11_nextEclipse_X11_fails rfl rfl rfl (by decide +kernel) ⟨Nat.le_of_ble_eq_true rfl, Nat.le_of_ble_eq_true rfl⟩) (am_preV X hh 141 12 (by decide) rfl rfl) rfl rfl hl.1 rfl (lv_room (Nat.le_of_ble_eq_true rfl)) dX11_nextEclipse_181 ⟨Nat.le_of_ble_eq_true rfl, Nat.le_of_ble_eq_true rfl⟩) (fun ab H locs hh => ?_)
                exact am_iret X hr hh (fun t ht => am_qw (mk := oI) hF ht) (Nat.le_of_ble_eq_true rfl) (Nat.le_of_ble_eq_true rfl) dX11_nextEclipse_184
              · subst hz
                have hF := am_zr hF
                exact hF
            · have hF := am_pos hc33 hF
              refine lv_aload_n hx hb dX11_nextEclipse_86 rfl (lv_at hl 2 rfl) ?_
              refine lv_iconst (v := (3 : Int32)) hx hb dX11_nextEclipse_87 (by decide) ?_
              obtain ⟨⟨r60, w61⟩, hk59, hF⟩ := am_bind hF
              have hF := am_u2 hF
              refine am_call X hh (va_runV (As := [.int (3 : Int32)]) (rest := []) X.1 (c_X11_fails l G hk59) (cwV 1 hts gX11_nextEclipse_X11_fails rfl rfl rfl (by decide +kernel) ⟨Nat.le_of_ble_eq_true rfl, Nat.le_of_ble_eq_true rfl⟩) (am_preV X hh 141 12 (by decide) rfl rfl) rfl rfl hl.1 rfl (lv_room (Nat.le_of_ble_eq_true rfl)) dX11_nextEclipse_88 ⟨Nat.le_of_ble_eq_true rfl, Nat.le_of_ble_eq_true rfl⟩) (fun ab H locs hh => ?_)
              exact am_iret X hr hh (fun t ht => am_qw (mk := oI) hF ht) (Nat.le_of_ble_eq_true rfl) (Nat.le_of_ble_eq_true rfl) dX11_nextEclipse_91
        · have hF := am_pos hc18 hF
          refine lv_aload_n hx hb dX11_nextEclipse_35 rfl (lv_at hl 0 rfl) ?_
          refine lv_iconst (v := (2 : Int32)) hx hb dX11_nextEclipse_36 (by decide) ?_
          obtain ⟨⟨r64, w65⟩, hk63, hF⟩ := am_bind hF
          have hF := am_u2 hF
          refine am_call X hh (va_runV (As := [.int (2 : Int32)]) (rest := []) X.1 (c_X11_fails l G hk63) (cwV 1 hts gX11_nextEclipse_X11_fails rfl rfl rfl (by decide +kernel) ⟨Nat.le_of_ble_eq_true rfl, Nat.le_of_ble_eq_true rfl⟩) (am_preV X hh 141 12 (by decide) rfl rfl) rfl rfl hl.1 rfl (lv_room (Nat.le_of_ble_eq_true rfl)) dX11_nextEclipse_37 ⟨Nat.le_of_ble_eq_true rfl, Nat.le_of_ble_eq_true rfl⟩) (fun ab H locs hh => ?_)
          exact am_iret X hr hh (fun t ht => am_qw (mk := oI) hF ht) (Nat.le_of_ble_eq_true rfl) (Nat.le_of_ble_eq_true rfl) dX11_nextEclipse_40
      · have hF := am_pos hc17 hF
        refine lv_aload_n hx hb dX11_nextEclipse_24 rfl (lv_at hl 0 rfl) ?_
        refine lv_iconst (v := (1 : Int32)) hx hb dX11_nextEclipse_25 (by decide) ?_
        obtain ⟨⟨r68, w69⟩, hk67, hF⟩ := am_bind hF
        have hF := am_u2 hF
        refine am_call X hh (va_runV (As := [.int (1 : Int32)]) (rest := []) X.1 (c_X11_fails l G hk67) (cwV 1 hts gX11_nextEclipse_X11_fails rfl rfl rfl (by decide +kernel) ⟨Nat.le_of_ble_eq_true rfl, Nat.le_of_ble_eq_true rfl⟩) (am_preV X hh 141 12 (by decide) rfl rfl) rfl rfl hl.1 rfl (lv_room (Nat.le_of_ble_eq_true rfl)) dX11_nextEclipse_26 ⟨Nat.le_of_ble_eq_true rfl, Nat.le_of_ble_eq_true rfl⟩) (fun ab H locs hh => ?_)
        exact am_iret X hr hh (fun t ht => am_qw (mk := oI) hF ht) (Nat.le_of_ble_eq_true rfl) (Nat.le_of_ble_eq_true rfl) dX11_nextEclipse_29
set_option maxHeartbeats 4000000 in
set_option maxRecDepth 100000 in
theorem c_X11_nextEclipseByTurns (l : Launch) (G : GG) {w : Wd} {x1 : Int32} {x2 : Int32} {x3 : Int32} {r0 : Int32} {w1 : Wd} (hF : f_X11_nextEclipseByTurns w x1 x2 x3 = some (r0, w1)) : Met l yX11_nextEclipseByTurns wsX11_nextEclipseByTurns ({ frames := 5, cells := 0, slots := 0, locals := 118 } : Room) (va_Pc [.ref (gAd G 141), .int x1, .int x2, .int x3] (Rel G w)) (amQ G (oI r0) w1) 0 0 (gA G) := by
  refine am_met (own := RX11) (cc := cX11_nextEclipseByTurns) (maxL := 4) (ret := (some .int)) (by decide +kernel) rfl rfl (Nat.le_of_ble_eq_true rfl) ?_
  intro p e s m args below meth c ab H locs ls X hr hh hl
  have hx := X.1.1; have hb := X.1.2.1; have hml := X.1.2.2.1; have hown := X.1.2.2.2.1; have hts := X.1.2.2.2.2
  have hl : lv_has ls 4 [(0, .ref (gAd G 141)), (1, .int x1), (2, .int x2), (3, .int x3)] := hl
  unfold f_X11_nextEclipseByTurns at hF
  refine lv_aload_n hx hb dX11_nextEclipseByTurns_0 rfl (lv_at hl 0 rfl) ?_
  refine lv_iload_n hx hb dX11_nextEclipseByTurns_1 rfl (lv_at hl 1 rfl) ?_
  refine lv_iload_n hx hb dX11_nextEclipseByTurns_2 rfl (lv_at hl 2 rfl) ?_
  refine lv_iload_n hx hb dX11_nextEclipseByTurns_3 rfl (lv_at hl 3 rfl) ?_
  obtain ⟨⟨r2, w3⟩, hk1, hF⟩ := am_bind hF
  have hF := am_u2 hF
  refine am_call X hh (va_runV (As := [.int x1, .int x2, .int x3]) (rest := []) X.1 (c_X11_nextEclipse l G hk1) (cwV 3 hts gX11_nextEclipseByTurns_X11_nextEclipse rfl rfl rfl (by decide +kernel) ⟨Nat.le_of_ble_eq_true rfl, Nat.le_of_ble_eq_true rfl⟩) (am_preV X hh 141 12 (by decide) rfl rfl) rfl rfl hl.1 rfl (lv_room (Nat.le_of_ble_eq_true rfl)) dX11_nextEclipseByTurns_4 ⟨Nat.le_of_ble_eq_true rfl, Nat.le_of_ble_eq_true rfl⟩) (fun ab H locs hh => ?_)
  exact am_iret X hr hh (fun t ht => am_qw (mk := oI) hF ht) (Nat.le_of_ble_eq_true rfl) (Nat.le_of_ble_eq_true rfl) dX11_nextEclipseByTurns_7
set_option maxHeartbeats 4000000 in
set_option maxRecDepth 100000 in
theorem c_X11_isBehind (l : Launch) (G : GG) {w : Wd} {x1 : Int32} {x2 : Int32} {r0 : Int32} (hF : f_X11_isBehind w x1 x2 = some r0) : Met l yX11_isBehind wsX11_isBehind ({ frames := 2, cells := 0, slots := 0, locals := 42 } : Room) (va_Pc [.ref (gAd G 141), .int x1, .int x2] (Rel G w)) (amQ G (oI r0) w) 0 0 (gA G) := by
  refine am_met (own := RX11) (cc := cX11_isBehind) (maxL := 5) (ret := (some .boolean)) (by decide +kernel) rfl rfl (Nat.le_of_ble_eq_true rfl) ?_
  intro p e s m args below meth c ab H locs ls X hr hh hl
  have hx := X.1.1; have hb := X.1.2.1; have hml := X.1.2.2.1; have hown := X.1.2.2.2.1; have hts := X.1.2.2.2.2
  have hl : lv_has ls 5 [(0, .ref (gAd G 141)), (1, .int x1), (2, .int x2)] := hl
  unfold f_X11_isBehind at hF
  refine lv_aload_n hx hb dX11_isBehind_0 rfl (lv_at hl 0 rfl) ?_
  refine lv_iload_n hx hb dX11_isBehind_1 rfl (lv_at hl 2 rfl) ?_
  obtain ⟨r2, hk1, hF⟩ := am_bind hF
  refine am_call X hh (va_runV (As := [.int x2]) (rest := []) X.1 (c_X11_angleOf l G hk1) (cwV 1 hts gX11_isBehind_X11_angleOf rfl rfl rfl (by decide +kernel) ⟨Nat.le_of_ble_eq_true rfl, Nat.le_of_ble_eq_true rfl⟩) (am_preV X hh 141 12 (by decide) rfl rfl) rfl rfl hl.1 rfl (lv_room (Nat.le_of_ble_eq_true rfl)) dX11_isBehind_2 ⟨Nat.le_of_ble_eq_true rfl, Nat.le_of_ble_eq_true rfl⟩) (fun ab H locs hh => ?_)
  refine lv_aload_n hx hb dX11_isBehind_5 rfl (lv_at hl 0 rfl) ?_
  refine lv_iload_n hx hb dX11_isBehind_6 rfl (lv_at hl 1 rfl) ?_
  obtain ⟨r4, hk3, hF⟩ := am_bind hF
  refine am_call X hh (va_runV (As := [.int x1]) (rest := [.long r2]) X.1 (c_X11_angleOf l G hk3) (cwV 1 hts gX11_isBehind_X11_angleOf rfl rfl rfl (by decide +kernel) ⟨Nat.le_of_ble_eq_true rfl, Nat.le_of_ble_eq_true rfl⟩) (am_preV X hh 141 12 (by decide) rfl rfl) rfl rfl hl.1 rfl (lv_room (Nat.le_of_ble_eq_true rfl)) dX11_isBehind_7 ⟨Nat.le_of_ble_eq_true rfl, Nat.le_of_ble_eq_true rfl⟩) (fun ab H locs hh => ?_)
  refine lv_lsub hx hb dX11_isBehind_10 ?_
  refine lv_lstore_n (lv' := [(3, .long (r2 - r4)), (0, .ref (gAd G 141)), (1, .int x1), (2, .int x2)]) hx hb dX11_isBehind_11 rfl hl (by decide) rfl (fun ls hl => ?_)
  refine lv_lload_n hx hb dX11_isBehind_12 rfl (lv_at hl 0 rfl) ?_
  refine lv_lconst (v := (0 : Int64)) hx hb dX11_isBehind_13 (by decide) ?_
  refine am_lcmp_gt (tgt := 29) hx hb dX11_isBehind_14 dX11_isBehind_15 (by decide) (fun hc5 => ?_) (fun hc5 => ?_)
  · have hF := am_pos hc5 hF
    refine lv_iconst (v := (1 : Int32)) hx hb dX11_isBehind_29 (by decide) ?_
    refine lv_goto (tgt := 34) hx hb dX11_isBehind_30 (by decide) ?_
    exact am_zret (v' := (1 : Int32)) X hr rfl hh (fun t ht => am_qp (mk := oI) hF ht) (Nat.le_of_ble_eq_true rfl) (Nat.le_of_ble_eq_true rfl) dX11_isBehind_34
  · have hF := am_neg hc5 hF
    refine lv_lload_n hx hb dX11_isBehind_18 rfl (lv_at hl 0 rfl) ?_
    refine lv_lconst (v := (0 : Int64)) hx hb dX11_isBehind_19 (by decide) ?_
    refine am_lcmp_ne (tgt := 33) hx hb dX11_isBehind_20 dX11_isBehind_21 (by decide) (fun hc6 => ?_) (fun hc6 => ?_)
    · have hF := am_neg hc6 hF
      refine lv_iconst (v := (0 : Int32)) hx hb dX11_isBehind_33 (by decide) ?_
      exact am_zret (v' := (0 : Int32)) X hr rfl hh (fun t ht => am_qp (mk := oI) hF ht) (Nat.le_of_ble_eq_true rfl) (Nat.le_of_ble_eq_true rfl) dX11_isBehind_34
    · have hF := am_pos hc6 hF
      refine lv_iload_n hx hb dX11_isBehind_24 rfl (lv_at hl 2 rfl) ?_
      refine lv_iload_n hx hb dX11_isBehind_25 rfl (lv_at hl 3 rfl) ?_
      refine lv_icmp_ge (tgt := 33) hx hb dX11_isBehind_26 (by decide) (fun hc7 => ?_) (fun hc7 => ?_)
      · have hF := am_pos hc7 hF
        refine lv_iconst (v := (0 : Int32)) hx hb dX11_isBehind_33 (by decide) ?_
        exact am_zret (v' := (0 : Int32)) X hr rfl hh (fun t ht => am_qp (mk := oI) hF ht) (Nat.le_of_ble_eq_true rfl) (Nat.le_of_ble_eq_true rfl) dX11_isBehind_34
      · have hF := am_neg hc7 hF
        refine lv_iconst (v := (1 : Int32)) hx hb dX11_isBehind_29 (by decide) ?_
        refine lv_goto (tgt := 34) hx hb dX11_isBehind_30 (by decide) ?_
        exact am_zret (v' := (1 : Int32)) X hr rfl hh (fun t ht => am_qp (mk := oI) hF ht) (Nat.le_of_ble_eq_true rfl) (Nat.le_of_ble_eq_true rfl) dX11_isBehind_34
set_option maxHeartbeats 4000000 in
set_option maxRecDepth 100000 in
theorem c_X11_planetByAngle (l : Launch) (G : GG) {w : Wd} {x1 : Int32} {r0 : Int32} {w1 : Wd} (hF : f_X11_planetByAngle w x1 = some (r0, w1)) : Met l yX11_planetByAngle wsX11_planetByAngle ({ frames := 3, cells := 0, slots := 0, locals := 66 } : Room) (va_Pc [.ref (gAd G 141), .int x1] (Rel G w)) (amQ G (oI r0) w1) 0 0 (gA G) := by
  refine am_met (own := RX11) (cc := cX11_planetByAngle) (maxL := 5) (ret := (some .int)) (by decide +kernel) rfl rfl (Nat.le_of_ble_eq_true rfl) ?_
  intro p e s m args below meth c ab H locs ls X hr hh hl
  have hx := X.1.1; have hb := X.1.2.1; have hml := X.1.2.2.1; have hown := X.1.2.2.2.1; have hts := X.1.2.2.2.2
  have hl : lv_has ls 5 [(0, .ref (gAd G 141)), (1, .int x1)] := hl
  unfold f_X11_planetByAngle at hF
  refine lv_iconst (v := (0 : Int32)) hx hb dX11_planetByAngle_0 (by decide) ?_
  refine lv_istore_n (lv' := [(2, .int (0 : Int32)), (0, .ref (gAd G 141)), (1, .int x1)]) hx hb dX11_planetByAngle_1 rfl hl (by decide) rfl (fun ls hl => ?_)
  have hlp2 : ∀ (n : Nat) (y1 : Int32) (ab : Nat) (H : Heap) (locs : List Loc) (ls : Array Slot) (z : (Int32) ⊕ (Int32 × Wd)), p_X11_planetByAngle_2 w x1 n y1 = some z → AH G s.heap w ab H locs → lv_has ls 5 [(2, .int y1), (0, .ref (gAd G 141)), (1, .int x1)] → (∀ (y1 : Int32) (ab : Nat) (H : Heap) (locs : List Loc) (ls : Array Slot), z = .inl y1 → AH G s.heap w ab H locs → lv_has ls 5 [(2, .int y1), (0, .ref (gAd G 141)), (1, .int x1)] → W p l e ({ frames := 3, cells := 0, slots := 0, locals := 66 } : Room) s m args below meth c H locs 0 0 (MQ below (amQ G (oI r0) w1) args s 0 0 (gA G)) (F0 m 67 ls [])) → (∀ r, z = .inr r → some r = some (r0, w1)) → W p l e ({ frames := 3, cells := 0, slots := 0, locals := 66 } : Room) s m args below meth c H locs 0 0 (MQ below (amQ G (oI r0) w1) args s 0 0 (gA G)) (F0 m 2 ls []) := by
    intro n
    induction n with
    | zero =>
      intro y1 ab H locs ls z hF
      unfold p_X11_planetByAngle_2 at hF
      cases hF
    | succ n ih =>
      intro y1 ab H locs ls z hF hh hl kE kR
      unfold p_X11_planetByAngle_2 at hF
      refine lv_iload_n hx hb dX11_planetByAngle_2 rfl (lv_at hl 0 rfl) ?_
      refine lv_aload_n hx hb dX11_planetByAngle_3 rfl (lv_at hl 1 rfl) ?_
      refine lv_iconst (v := (1 : Int32)) hx hb dX11_planetByAngle_4 (by decide) ?_
      obtain ⟨r4, hk3, hF⟩ := am_bind hF
      refine am_call X hh (va_runV (As := [.int (1 : Int32)]) (rest := [.int y1]) X.1 (c_X11_at l G hk3) (cwV 1 hts gX11_planetByAngle_X11_at rfl rfl rfl (by decide +kernel) ⟨Nat.le_of_ble_eq_true rfl, Nat.le_of_ble_eq_true rfl⟩) (am_preV X hh 141 12 (by decide) rfl rfl) rfl rfl hl.1 rfl (lv_room (Nat.le_of_ble_eq_true rfl)) dX11_planetByAngle_5 ⟨Nat.le_of_ble_eq_true rfl, Nat.le_of_ble_eq_true rfl⟩) (fun ab H locs hh => ?_)
      refine lv_icmp_ge (tgt := 67) hx hb dX11_planetByAngle_8 (by decide) (fun hc5 => ?_) (fun hc5 => ?_)
      · have hF := am_pos hc5 hF
        exact kE y1 ab H locs ls (Option.some.inj hF).symm hh (lv_sub hl [0, 1, 2] rfl)
      · have hF := am_neg hc5 hF
        refine lv_iconst (v := (0 : Int32)) hx hb dX11_planetByAngle_11 (by decide) ?_
        refine lv_istore_n (lv' := [(3, .int (0 : Int32)), (2, .int y1), (0, .ref (gAd G 141)), (1, .int x1)]) hx hb dX11_planetByAngle_12 rfl hl (by decide) rfl (fun ls hl => ?_)
        refine lv_iconst (v := (0 : Int32)) hx hb dX11_planetByAngle_13 (by decide) ?_
        refine lv_istore (lv' := [(4, .int (0 : Int32)), (3, .int (0 : Int32)), (2, .int y1), (0, .ref (gAd G 141)), (1, .int x1)]) hx hb dX11_planetByAngle_14 hl (by decide) rfl (fun ls hl => ?_)
        have hlp16 : ∀ (n : Nat) (y6 : Int32) (y7 : Int32) (ab : Nat) (H : Heap) (locs : List Loc) (ls : Array Slot) (z : (Int32 × Int32) ⊕ Unit), p_X11_planetByAngle_16 w y1 n y6 y7 = some z → AH G s.heap w ab H locs → lv_has ls 5 [(3, .int y6), (4, .int y7), (2, .int y1), (0, .ref (gAd G 141)), (1, .int x1)] → (∀ (y6 : Int32) (y7 : Int32) (ab : Nat) (H : Heap) (locs : List Loc) (ls : Array Slot), z = .inl (y6, y7) → AH G s.heap w ab H locs → lv_has ls 5 [(3, .int y6), (4, .int y7), (2, .int y1), (0, .ref (gAd G 141)), (1, .int x1)] → W p l e ({ frames := 3, cells := 0, slots := 0, locals := 66 } : Room) s m args below meth c H locs 0 0 (MQ below (amQ G (oI r0) w1) args s 0 0 (gA G)) (F0 m 50 ls [])) → W p l e ({ frames := 3, cells := 0, slots := 0, locals := 66 } : Room) s m args below meth c H locs 0 0 (MQ below (amQ G (oI r0) w1) args s 0 0 (gA G)) (F0 m 16 ls []) := by
          intro n
          induction n with
          | zero =>
            intro y6 y7 ab H locs ls z hF
            unfold p_X11_planetByAngle_16 at hF
            cases hF
          | succ n ih =>
            intro y6 y7 ab H locs ls z hF hh hl kE
            unfold p_X11_planetByAngle_16 at hF
            refine lv_iload hx hb dX11_planetByAngle_16 (lv_at hl 1 rfl) ?_
            refine lv_aload_n hx hb dX11_planetByAngle_18 rfl (lv_at hl 3 rfl) ?_
            refine lv_iconst (v := (1 : Int32)) hx hb dX11_planetByAngle_19 (by decide) ?_
            obtain ⟨r10, hk9, hF⟩ := am_bind hF
            refine am_call X hh (va_runV (As := [.int (1 : Int32)]) (rest := [.int y7]) X.1 (c_X11_at l G hk9) (cwV 1 hts gX11_planetByAngle_X11_at rfl rfl rfl (by decide +kernel) ⟨Nat.le_of_ble_eq_true rfl, Nat.le_of_ble_eq_true rfl⟩) (am_preV X hh 141 12 (by decide) rfl rfl) rfl rfl hl.1 rfl (lv_room (Nat.le_of_ble_eq_true rfl)) dX11_planetByAngle_20 ⟨Nat.le_of_ble_eq_true rfl, Nat.le_of_ble_eq_true rfl⟩) (fun ab H locs hh => ?_)
            refine lv_icmp_ge (tgt := 50) hx hb dX11_planetByAngle_23 (by decide) (fun hc11 => ?_) (fun hc11 => ?_)
            · have hF := am_pos hc11 hF
              exact kE y6 y7 ab H locs ls (Option.some.inj hF).symm hh (lv_sub hl [0, 1, 2, 3, 4] rfl)
            · have hF := am_neg hc11 hF
              refine lv_iload_n hx hb dX11_planetByAngle_26 rfl (lv_at hl 0 rfl) ?_
              refine lv_aload_n hx hb dX11_planetByAngle_27 rfl (lv_at hl 3 rfl) ?_
              refine lv_iload hx hb dX11_planetByAngle_28 (lv_at hl 1 rfl) ?_
              refine lv_iload_n hx hb dX11_planetByAngle_30 rfl (lv_at hl 2 rfl) ?_
              obtain ⟨r13, hk12, hF⟩ := am_bind hF
              refine am_call X hh (va_runV (As := [.int y7, .int y1]) (rest := [.int y6]) X.1 (c_X11_isBehind l G hk12) (cwV 2 hts gX11_planetByAngle_X11_isBehind rfl rfl rfl (by decide +kernel) ⟨Nat.le_of_ble_eq_true rfl, Nat.le_of_ble_eq_true rfl⟩) (am_preV X hh 141 12 (by decide) rfl rfl) rfl rfl hl.1 rfl (lv_room (Nat.le_of_ble_eq_true rfl)) dX11_planetByAngle_31 ⟨Nat.le_of_ble_eq_true rfl, Nat.le_of_ble_eq_true rfl⟩) (fun ab H locs hh => ?_)
              refine lv_if_eq (tgt := 41) hx hb dX11_planetByAngle_34 (by decide) (fun hc14 => ?_) (fun hc14 => ?_)
              · have hF := am_pos hc14 hF
                refine lv_iconst (v := (0 : Int32)) hx hb dX11_planetByAngle_41 (by decide) ?_
                refine lv_iadd hx hb dX11_planetByAngle_42 ?_
                refine lv_istore_n (lv' := [(3, .int (y6 + (0 : Int32))), (4, .int y7), (2, .int y1), (0, .ref (gAd G 141)), (1, .int x1)]) hx hb dX11_planetByAngle_43 rfl hl (by decide) rfl (fun ls hl => ?_)
                refine lv_iinc (v := (y7 + (1 : Int32))) (lv' := [(4, .int (y7 + (1 : Int32))), (3, .int (y6 + (0 : Int32))), (2, .int y1), (0, .ref (gAd G 141)), (1, .int x1)]) hx hb dX11_planetByAngle_44 hl (k := 1) rfl rfl (by decide) rfl (fun ls hl => ?_)
                refine lv_goto (tgt := 16) hx hb dX11_planetByAngle_47 (by decide) ?_
                exact ih (y6 + (0 : Int32)) (y7 + (1 : Int32)) ab H locs ls _ hF hh (lv_sub hl [1, 0, 2, 3, 4] rfl) kE
              · have hF := am_neg hc14 hF
                refine lv_iconst (v := (1 : Int32)) hx hb dX11_planetByAngle_37 (by decide) ?_
                refine lv_goto (tgt := 42) hx hb dX11_planetByAngle_38 (by decide) ?_
                refine lv_iadd hx hb dX11_planetByAngle_42 ?_
                refine lv_istore_n (lv' := [(3, .int (y6 + (1 : Int32))), (4, .int y7), (2, .int y1), (0, .ref (gAd G 141)), (1, .int x1)]) hx hb dX11_planetByAngle_43 rfl hl (by decide) rfl (fun ls hl => ?_)
                refine lv_iinc (v := (y7 + (1 : Int32))) (lv' := [(4, .int (y7 + (1 : Int32))), (3, .int (y6 + (1 : Int32))), (2, .int y1), (0, .ref (gAd G 141)), (1, .int x1)]) hx hb dX11_planetByAngle_44 hl (k := 1) rfl rfl (by decide) rfl (fun ls hl => ?_)
                refine lv_goto (tgt := 16) hx hb dX11_planetByAngle_47 (by decide) ?_
                exact ih (y6 + (1 : Int32)) (y7 + (1 : Int32)) ab H locs ls _ hF hh (lv_sub hl [1, 0, 2, 3, 4] rfl) kE
        obtain ⟨z15, hz16, hF⟩ := am_bind hF
        refine hlp16 2000 (0 : Int32) (0 : Int32) ab H locs ls z15 hz16 hh (lv_sub hl [1, 0, 2, 3, 4] rfl) (fun y6 y7 ab H locs ls hz hh hl => ?_)
        · subst hz
          have hF := am_zl hF
          have hF := am_u2 hF
          refine lv_iload_n hx hb dX11_planetByAngle_50 rfl (lv_at hl 0 rfl) ?_
          refine lv_iload_n hx hb dX11_planetByAngle_51 rfl (lv_at hl 4 rfl) ?_
          refine lv_icmp_ne (tgt := 61) hx hb dX11_planetByAngle_52 (by decide) (fun hc17 => ?_) (fun hc17 => ?_)
          · have hF := am_neg hc17 hF
            refine lv_iinc (v := (y1 + (1 : Int32))) (lv' := [(2, .int (y1 + (1 : Int32))), (3, .int y6), (4, .int y7), (0, .ref (gAd G 141)), (1, .int x1)]) hx hb dX11_planetByAngle_61 hl (k := 2) rfl rfl (by decide) rfl (fun ls hl => ?_)
            refine lv_goto (tgt := 2) hx hb dX11_planetByAngle_64 (by decide) ?_
            exact ih (y1 + (1 : Int32)) ab H locs ls _ hF hh (lv_sub hl [0, 3, 4] rfl) kE kR
          · have hF := am_pos hc17 hF
            refine lv_aload_n hx hb dX11_planetByAngle_55 rfl (lv_at hl 3 rfl) ?_
            refine lv_iload_n hx hb dX11_planetByAngle_56 rfl (lv_at hl 2 rfl) ?_
            obtain ⟨⟨r19, w20⟩, hk18, hF⟩ := am_bind hF
            have hF := am_u2 hF
            refine am_call X hh (va_runV (As := [.int y1]) (rest := []) X.1 (c_X11_done l G hk18) (cwV 1 hts gX11_planetByAngle_X11_done rfl rfl rfl (by decide +kernel) ⟨Nat.le_of_ble_eq_true rfl, Nat.le_of_ble_eq_true rfl⟩) (am_preV X hh 141 12 (by decide) rfl rfl) rfl rfl hl.1 rfl (lv_room (Nat.le_of_ble_eq_true rfl)) dX11_planetByAngle_57 ⟨Nat.le_of_ble_eq_true rfl, Nat.le_of_ble_eq_true rfl⟩) (fun ab H locs hh => ?_)
            have hF := kR _ (Option.some.inj hF).symm
            exact am_iret X hr hh (fun t ht => am_qw (mk := oI) hF ht) (Nat.le_of_ble_eq_true rfl) (Nat.le_of_ble_eq_true rfl) dX11_planetByAngle_60
  obtain ⟨z22, hz23, hF⟩ := am_bind hF
  refine hlp2 2000 (0 : Int32) ab H locs ls z22 hz23 hh (lv_sub hl [0, 1, 2] rfl) (fun y1 ab H locs ls hz hh hl => ?_) (fun r hz => ?_)
  · subst hz
    have hF := am_zl hF
    refine lv_aload_n hx hb dX11_planetByAngle_67 rfl (lv_at hl 1 rfl) ?_
    refine lv_iconst (v := (1 : Int32)) hx hb dX11_planetByAngle_68 (by decide) ?_
    obtain ⟨⟨r25, w26⟩, hk24, hF⟩ := am_bind hF
    have hF := am_u2 hF
    refine am_call X hh (va_runV (As := [.int (1 : Int32)]) (rest := []) X.1 (c_X11_fails l G hk24) (cwV 1 hts gX11_planetByAngle_X11_fails rfl rfl rfl (by decide +kernel) ⟨Nat.le_of_ble_eq_true rfl, Nat.le_of_ble_eq_true rfl⟩) (am_preV X hh 141 12 (by decide) rfl rfl) rfl rfl hl.1 rfl (lv_room (Nat.le_of_ble_eq_true rfl)) dX11_planetByAngle_69 ⟨Nat.le_of_ble_eq_true rfl, Nat.le_of_ble_eq_true rfl⟩) (fun ab H locs hh => ?_)
    exact am_iret X hr hh (fun t ht => am_qw (mk := oI) hF ht) (Nat.le_of_ble_eq_true rfl) (Nat.le_of_ble_eq_true rfl) dX11_planetByAngle_72
  · subst hz
    have hF := am_zr hF
    exact hF
set_option maxHeartbeats 4000000 in
set_option maxRecDepth 100000 in
theorem c_X11_isPair (l : Launch) (G : GG) {w : Wd} {x1 : Int32} {x2 : Int32} {x3 : Int32} {x4 : Int32} {r0 : Int32} (hF : f_X11_isPair w x1 x2 x3 x4 = some r0) : Met l yX11_isPair wsX11_isPair ({ frames := 0, cells := 0, slots := 0, locals := 0 } : Room) (va_Pc [.ref (gAd G 141), .int x1, .int x2, .int x3, .int x4] (Rel G w)) (amQ G (oI r0) w) 0 0 (gA G) := by
  refine am_met (own := RX11) (cc := cX11_isPair) (maxL := 5) (ret := (some .boolean)) (by decide +kernel) rfl rfl (Nat.le_of_ble_eq_true rfl) ?_
  intro p e s m args below meth c ab H locs ls X hr hh hl
  have hx := X.1.1; have hb := X.1.2.1; have hml := X.1.2.2.1; have hown := X.1.2.2.2.1; have hts := X.1.2.2.2.2
  have hl : lv_has ls 5 [(0, .ref (gAd G 141)), (1, .int x1), (2, .int x2), (3, .int x3), (4, .int x4)] := hl
  have hwRX11 : ∀ z ∈ u_ws RX11 TX11 18, z ∈ wsX11_isPair := by decide +kernel
  unfold f_X11_isPair at hF
  refine lv_iload_n hx hb dX11_isPair_0 rfl (lv_at hl 1 rfl) ?_
  refine lv_iload_n hx hb dX11_isPair_1 rfl (lv_at hl 2 rfl) ?_
  refine lv_icmp_eq (tgt := 38) hx hb dX11_isPair_2 (by decide) (fun hc1 => ?_) (fun hc1 => ?_)
  · have hF := am_pos hc1 hF
    refine lv_iconst (v := (0 : Int32)) hx hb dX11_isPair_38 (by decide) ?_
    exact am_zret (v' := (0 : Int32)) X hr rfl hh (fun t ht => am_qp (mk := oI) hF ht) (Nat.le_of_ble_eq_true rfl) (Nat.le_of_ble_eq_true rfl) dX11_isPair_39
  · have hF := am_neg hc1 hF
    refine lv_aload_n hx hb dX11_isPair_5 rfl (lv_at hl 0 rfl) ?_
    refine am_getR X hh 141 12 0 142 (by decide) rfl rfl (by decide) hwRX11 (show Cond.fieldLink RX11 7 "PlanetWorkshopModel" "g" "[J" ∈ wsX11_isPair by decide +kernel) rfl dX11_isPair_6 ?_
    refine lv_bipush (v := (6 : Int32)) hx hb dX11_isPair_9 (by decide) ?_
    refine lv_iload_n hx hb dX11_isPair_11 rfl (lv_at hl 1 rfl) ?_
    refine lv_iadd hx hb dX11_isPair_12 ?_
    obtain ⟨hq2, hF⟩ := am_ifR hF
    refine am_lald X hh 142 (by decide) rfl hq2 dX11_isPair_13 ?_
    refine lv_iload hx hb dX11_isPair_14 (lv_at hl 4 rfl) ?_
    refine lv_i2l hx hb dX11_isPair_16 rfl ?_
    refine lv_lmul hx hb dX11_isPair_17 ?_
    refine lv_aload_n hx hb dX11_isPair_18 rfl (lv_at hl 0 rfl) ?_
    refine am_getR X hh 141 12 0 142 (by decide) rfl rfl (by decide) hwRX11 (show Cond.fieldLink RX11 7 "PlanetWorkshopModel" "g" "[J" ∈ wsX11_isPair by decide +kernel) rfl dX11_isPair_19 ?_
    refine lv_bipush (v := (6 : Int32)) hx hb dX11_isPair_22 (by decide) ?_
    refine lv_iload_n hx hb dX11_isPair_24 rfl (lv_at hl 2 rfl) ?_
    refine lv_iadd hx hb dX11_isPair_25 ?_
    obtain ⟨hq3, hF⟩ := am_ifR hF
    refine am_lald X hh 142 (by decide) rfl hq3 dX11_isPair_26 ?_
    refine lv_iload_n hx hb dX11_isPair_27 rfl (lv_at hl 3 rfl) ?_
    refine lv_i2l hx hb dX11_isPair_28 rfl ?_
    refine lv_lmul hx hb dX11_isPair_29 ?_
    refine am_lcmp_ne (tgt := 38) hx hb dX11_isPair_30 dX11_isPair_31 (by decide) (fun hc4 => ?_) (fun hc4 => ?_)
    · have hF := am_neg hc4 hF
      refine lv_iconst (v := (0 : Int32)) hx hb dX11_isPair_38 (by decide) ?_
      exact am_zret (v' := (0 : Int32)) X hr rfl hh (fun t ht => am_qp (mk := oI) hF ht) (Nat.le_of_ble_eq_true rfl) (Nat.le_of_ble_eq_true rfl) dX11_isPair_39
    · have hF := am_pos hc4 hF
      refine lv_iconst (v := (1 : Int32)) hx hb dX11_isPair_34 (by decide) ?_
      refine lv_goto (tgt := 39) hx hb dX11_isPair_35 (by decide) ?_
      exact am_zret (v' := (1 : Int32)) X hr rfl hh (fun t ht => am_qp (mk := oI) hF ht) (Nat.le_of_ble_eq_true rfl) (Nat.le_of_ble_eq_true rfl) dX11_isPair_39
