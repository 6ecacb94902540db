set_option maxHeartbeats 4000000 in
set_option maxRecDepth 100000 in
theorem c_X11_joint (l : Launch) (G : GG) {w : Wd} {x1 : Int32} {x2 : Int32} {r0 : Int32} {w1 : Wd} (hF : f_X11_joint w x1 x2 = some (r0, w1)) : Met l yX11_joint wsX11_joint ({ frames := 3, cells := 0, slots := 0, locals := 65 } : Room) (va_Pc [.ref (gAd G 141), .int x1, .int x2] (Rel G w)) (amQ G (oI r0) w1) 0 0 (gA G) := by
  refine am_met (own := RX11) (cc := cX11_joint) (maxL := 3) (ret := (some .char)) (by decide +kernel) rfl rfl (Nat.le_of_ble_eq_true rfl) ?_
  intro p e s m args below meth c ab H locs ls X hr hh hl
  have hx := X.1.1; have hb := X.1.2.1; have hml := X.1.2.2.1; have hown := X.1.2.2.2.1; have hts := X.1.2.2.2.2
  have hl : lv_has ls 3 [(0, .ref (gAd G 141)), (1, .int x1), (2, .int x2)] := hl
  have hwRX11 : ∀ z ∈ u_ws RX11 TX11 18, z ∈ wsX11_joint := by decide +kernel
  unfold f_X11_joint at hF
  refine lv_aload_n hx hb dX11_joint_0 rfl (lv_at hl 0 rfl) ?_
  refine lv_aload_n hx hb dX11_joint_1 rfl (lv_at hl 0 rfl) ?_
  refine lv_iload_n hx hb dX11_joint_2 rfl (lv_at hl 1 rfl) ?_
  refine lv_iload_n hx hb dX11_joint_3 rfl (lv_at hl 2 rfl) ?_
  obtain ⟨r2, hk1, hF⟩ := am_bind hF
  refine am_call X hh (va_runV (As := [.int x1, .int x2]) (rest := [.ref (gAd G 141)]) X.1 (c_X11_areGears l G hk1) (cwV 2 hts gX11_joint_X11_areGears rfl rfl rfl (by decide +kernel) ⟨Nat.le_of_ble_eq_true rfl, Nat.le_of_ble_eq_true rfl⟩) (am_preV X hh 141 12 (by decide) rfl rfl) rfl rfl hl.1 rfl (lv_room (Nat.le_of_ble_eq_true rfl)) dX11_joint_4 ⟨Nat.le_of_ble_eq_true rfl, Nat.le_of_ble_eq_true rfl⟩) (fun ab H locs hh => ?_)
  refine lv_if_ne (tgt := 14) hx hb dX11_joint_7 (by decide) (fun hc3 => ?_) (fun hc3 => ?_)
  · have hF := am_neg hc3 hF
    refine lv_aload_n hx hb dX11_joint_14 rfl (lv_at hl 0 rfl) ?_
    refine lv_iload_n hx hb dX11_joint_15 rfl (lv_at hl 1 rfl) ?_
    refine lv_iload_n hx hb dX11_joint_16 rfl (lv_at hl 2 rfl) ?_
    obtain ⟨r5, hk4, hF⟩ := am_bind hF
    refine am_call X hh (va_runV (As := [.int x1, .int x2]) (rest := [.ref (gAd G 141)]) X.1 (c_X11_jointOf l G hk4) (cwV 2 hts gX11_joint_X11_jointOf rfl rfl rfl (by decide +kernel) ⟨Nat.le_of_ble_eq_true rfl, Nat.le_of_ble_eq_true rfl⟩) (am_preV X hh 141 12 (by decide) rfl rfl) rfl rfl hl.1 rfl (lv_room (Nat.le_of_ble_eq_true rfl)) dX11_joint_17 ⟨Nat.le_of_ble_eq_true rfl, Nat.le_of_ble_eq_true rfl⟩) (fun ab H locs hh => ?_)
    refine lv_if_ne (tgt := 27) hx hb dX11_joint_20 (by decide) (fun hc6 => ?_) (fun hc6 => ?_)
    · have hF := am_neg hc6 hF
      refine lv_iconst (v := (0 : Int32)) hx hb dX11_joint_27 (by decide) ?_
      refine am_putI X hh 141 12 12 (by decide) rfl rfl (by decide) hwRX11 tyX11 tyX11_ok nmX11 (show Cond.fieldLink RX11 49 "PlanetWorkshopModel" "thrown" "I" ∈ wsX11_joint by decide +kernel) rfl rfl rfl rfl dX11_joint_28 (fun H locs hh => ?_)
      obtain ⟨w7, hw7, hF⟩ := am_wl hF
      have hh := AH_eq hw7 hh
      refine lv_aload_n hx hb dX11_joint_31 rfl (lv_at hl 0 rfl) ?_
      refine am_getI X hh 141 12 12 (by decide) rfl rfl (by decide) hwRX11 (show Cond.fieldLink RX11 49 "PlanetWorkshopModel" "thrown" "I" ∈ wsX11_joint by decide +kernel) rfl dX11_joint_32 ?_
      refine lv_if_le (tgt := 42) hx hb dX11_joint_35 (by decide) (fun hc8 => ?_) (fun hc8 => ?_)
      · have hF := am_pos hc8 hF
        refine lv_aload_n hx hb dX11_joint_42 rfl (lv_at hl 0 rfl) ?_
        refine lv_iload_n hx hb dX11_joint_43 rfl (lv_at hl 1 rfl) ?_
        refine lv_iload_n hx hb dX11_joint_44 rfl (lv_at hl 2 rfl) ?_
        obtain ⟨r10, hk9, hF⟩ := am_bind hF
        refine am_call X hh (va_runV (As := [.int x1, .int x2]) (rest := []) X.1 (c_X11_jointOf l G hk9) (cwV 2 hts gX11_joint_X11_jointOf rfl rfl rfl (by decide +kernel) ⟨Nat.le_of_ble_eq_true rfl, Nat.le_of_ble_eq_true rfl⟩) (am_preV X hh 141 12 (by decide) rfl rfl) rfl rfl hl.1 rfl (lv_room (Nat.le_of_ble_eq_true rfl)) dX11_joint_45 ⟨Nat.le_of_ble_eq_true rfl, Nat.le_of_ble_eq_true rfl⟩) (fun ab H locs hh => ?_)
        refine lv_iconst (v := (1 : Int32)) hx hb dX11_joint_48 (by decide) ?_
        refine lv_icmp_ne (tgt := 57) hx hb dX11_joint_49 (by decide) (fun hc11 => ?_) (fun hc11 => ?_)
        · have hF := am_neg hc11 hF
          refine lv_bipush (v := (97 : Int32)) hx hb dX11_joint_57 (by decide) ?_
          exact am_zret (v' := (97 : Int32)) X hr rfl hh (fun t ht => am_qw (mk := oI) hF ht) (Nat.le_of_ble_eq_true rfl) (Nat.le_of_ble_eq_true rfl) dX11_joint_59
        · have hF := am_pos hc11 hF
          refine lv_bipush (v := (109 : Int32)) hx hb dX11_joint_52 (by decide) ?_
          refine lv_goto (tgt := 59) hx hb dX11_joint_54 (by decide) ?_
          exact am_zret (v' := (109 : Int32)) X hr rfl hh (fun t ht => am_qw (mk := oI) hF ht) (Nat.le_of_ble_eq_true rfl) (Nat.le_of_ble_eq_true rfl) dX11_joint_59
      · have hF := am_neg hc8 hF
        refine lv_iconst (v := (0 : Int32)) hx hb dX11_joint_38 (by decide) ?_
        refine lv_goto (tgt := 59) hx hb dX11_joint_39 (by decide) ?_
        exact am_zret (v' := (0 : Int32)) X hr rfl hh (fun t ht => am_qw (mk := oI) hF ht) (Nat.le_of_ble_eq_true rfl) (Nat.le_of_ble_eq_true rfl) dX11_joint_59
    · have hF := am_pos hc6 hF
      refine lv_iconst (v := (2 : Int32)) hx hb dX11_joint_23 (by decide) ?_
      refine lv_goto (tgt := 28) hx hb dX11_joint_24 (by decide) ?_
      refine am_putI X hh 141 12 12 (by decide) rfl rfl (by decide) hwRX11 tyX11 tyX11_ok nmX11 (show Cond.fieldLink RX11 49 "PlanetWorkshopModel" "thrown" "I" ∈ wsX11_joint by decide +kernel) rfl rfl rfl rfl dX11_joint_28 (fun H locs hh => ?_)
      obtain ⟨w12, hw12, hF⟩ := am_wl hF
      have hh := AH_eq hw12 hh
      refine lv_aload_n hx hb dX11_joint_31 rfl (lv_at hl 0 rfl) ?_
      refine am_getI X hh 141 12 12 (by decide) rfl rfl (by decide) hwRX11 (show Cond.fieldLink RX11 49 "PlanetWorkshopModel" "thrown" "I" ∈ wsX11_joint by decide +kernel) rfl dX11_joint_32 ?_
      refine lv_if_le (tgt := 42) hx hb dX11_joint_35 (by decide) (fun hc13 => ?_) (fun hc13 => ?_)
      · have hF := am_pos hc13 hF
        refine lv_aload_n hx hb dX11_joint_42 rfl (lv_at hl 0 rfl) ?_
        refine lv_iload_n hx hb dX11_joint_43 rfl (lv_at hl 1 rfl) ?_
        refine lv_iload_n hx hb dX11_joint_44 rfl (lv_at hl 2 rfl) ?_
        obtain ⟨r15, hk14, hF⟩ := am_bind hF
        refine am_call X hh (va_runV (As := [.int x1, .int x2]) (rest := []) X.1 (c_X11_jointOf l G hk14) (cwV 2 hts gX11_joint_X11_jointOf rfl rfl rfl (by decide +kernel) ⟨Nat.le_of_ble_eq_true rfl, Nat.le_of_ble_eq_true rfl⟩) (am_preV X hh 141 12 (by decide) rfl rfl) rfl rfl hl.1 rfl (lv_room (Nat.le_of_ble_eq_true rfl)) dX11_joint_45 ⟨Nat.le_of_ble_eq_true rfl, Nat.le_of_ble_eq_true rfl⟩) (fun ab H locs hh => ?_)
        refine lv_iconst (v := (1 : Int32)) hx hb dX11_joint_48 (by decide) ?_
        refine lv_icmp_ne (tgt := 57) hx hb dX11_joint_49 (by decide) (fun hc16 => ?_) (fun hc16 => ?_)
        · have hF := am_neg hc16 hF
          refine lv_bipush (v := (97 : Int32)) hx hb dX11_joint_57 (by decide) ?_
          exact am_zret (v' := (97 : Int32)) X hr rfl hh (fun t ht => am_qw (mk := oI) hF ht) (Nat.le_of_ble_eq_true rfl) (Nat.le_of_ble_eq_true rfl) dX11_joint_59
        · have hF := am_pos hc16 hF
          refine lv_bipush (v := (109 : Int32)) hx hb dX11_joint_52 (by decide) ?_
          refine lv_goto (tgt := 59) hx hb dX11_joint_54 (by decide) ?_
          exact am_zret (v' := (109 : Int32)) X hr rfl hh (fun t ht => am_qw (mk := oI) hF ht) (Nat.le_of_ble_eq_true rfl) (Nat.le_of_ble_eq_true rfl) dX11_joint_59
      · have hF := am_neg hc13 hF
        refine lv_iconst (v := (0 : Int32)) hx hb dX11_joint_38 (by decide) ?_
        refine lv_goto (tgt := 59) hx hb dX11_joint_39 (by decide) ?_
        exact am_zret (v' := (0 : Int32)) X hr rfl hh (fun t ht => am_qw (mk := oI) hF ht) (Nat.le_of_ble_eq_true rfl) (Nat.le_of_ble_eq_true rfl) dX11_joint_59
  · have hF := am_pos hc3 hF
    refine lv_iconst (v := (1 : Int32)) hx hb dX11_joint_10 (by decide) ?_
    refine lv_goto (tgt := 28) hx hb dX11_joint_11 (by decide) ?_
    refine am_putI X hh 141 12 12 (by decide) rfl rfl (by decide) hwRX11 tyX11 tyX11_ok nmX11 (show Cond.fieldLink RX11 49 "PlanetWorkshopModel" "thrown" "I" ∈ wsX11_joint by decide +kernel) rfl rfl rfl rfl dX11_joint_28 (fun H locs hh => ?_)
    obtain ⟨w17, hw17, hF⟩ := am_wl hF
    have hh := AH_eq hw17 hh
    refine lv_aload_n hx hb dX11_joint_31 rfl (lv_at hl 0 rfl) ?_
    refine am_getI X hh 141 12 12 (by decide) rfl rfl (by decide) hwRX11 (show Cond.fieldLink RX11 49 "PlanetWorkshopModel" "thrown" "I" ∈ wsX11_joint by decide +kernel) rfl dX11_joint_32 ?_
    refine lv_if_le (tgt := 42) hx hb dX11_joint_35 (by decide) (fun hc18 => ?_) (fun hc18 => ?_)
    · have hF := am_pos hc18 hF
      refine lv_aload_n hx hb dX11_joint_42 rfl (lv_at hl 0 rfl) ?_
      refine lv_iload_n hx hb dX11_joint_43 rfl (lv_at hl 1 rfl) ?_
      refine lv_iload_n hx hb dX11_joint_44 rfl (lv_at hl 2 rfl) ?_
      obtain ⟨r20, hk19, hF⟩ := am_bind hF
      refine am_call X hh (va_runV (As := [.int x1, .int x2]) (rest := []) X.1 (c_X11_jointOf l G hk19) (cwV 2 hts gX11_joint_X11_jointOf rfl rfl rfl (by decide +kernel) ⟨Nat.le_of_ble_eq_true rfl, Nat.le_of_ble_eq_true rfl⟩) (am_preV X hh 141 12 (by decide) rfl rfl) rfl rfl hl.1 rfl (lv_room (Nat.le_of_ble_eq_true rfl)) dX11_joint_45 ⟨Nat.le_of_ble_eq_true rfl, Nat.le_of_ble_eq_true rfl⟩) (fun ab H locs hh => ?_)
      refine lv_iconst (v := (1 : Int32)) hx hb dX11_joint_48 (by decide) ?_
      refine lv_icmp_ne (tgt := 57) hx hb dX11_joint_49 (by decide) (fun hc21 => ?_) (fun hc21 => ?_)
      · have hF := am_neg hc21 hF
        refine lv_bipush (v := (97 : Int32)) hx hb dX11_joint_57 (by decide) ?_
        exact am_zret (v' := (97 : Int32)) X hr rfl hh (fun t ht => am_qw (mk := oI) hF ht) (Nat.le_of_ble_eq_true rfl) (Nat.le_of_ble_eq_true rfl) dX11_joint_59
      · have hF := am_pos hc21 hF
        refine lv_bipush (v := (109 : Int32)) hx hb dX11_joint_52 (by decide) ?_
        refine lv_goto (tgt := 59) hx hb dX11_joint_54 (by decide) ?_
        exact am_zret (v' := (109 : Int32)) X hr rfl hh (fun t ht => am_qw (mk := oI) hF ht) (Nat.le_of_ble_eq_true rfl) (Nat.le_of_ble_eq_true rfl) dX11_joint_59
    · have hF := am_neg hc18 hF
      refine lv_iconst (v := (0 : Int32)) hx hb dX11_joint_38 (by decide) ?_
      refine lv_goto (tgt := 59) hx hb dX11_joint_39 (by decide) ?_
      exact am_zret (v' := (0 : Int32)) X hr rfl hh (fun t ht => am_qw (mk := oI) hF ht) (Nat.le_of_ble_eq_true rfl) (Nat.le_of_ble_eq_true rfl) dX11_joint_59
set_option maxHeartbeats 4000000 in
set_option maxRecDepth 100000 in
theorem c_X11_jointCount (l : Launch) (G : GG) {w : Wd} {r0 : Int32} {w1 : Wd} (hF : f_X11_jointCount w = some (r0, w1)) : Met l yX11_jointCount wsX11_jointCount ({ frames := 1, cells := 0, slots := 0, locals := 22 } : Room) (va_Pc [.ref (gAd G 141)] (Rel G w)) (amQ G (oI r0) w1) 0 0 (gA G) := by
  refine am_met (own := RX11) (cc := cX11_jointCount) (maxL := 1) (ret := (some .int)) (by decide +kernel) rfl rfl (Nat.le_of_ble_eq_true rfl) ?_
  intro p e s m args below meth c ab H locs ls X hr hh hl
  have hx := X.1.1; have hb := X.1.2.1; have hml := X.1.2.2.1; have hown := X.1.2.2.2.1; have hts := X.1.2.2.2.2
  have hl : lv_has ls 1 [(0, .ref (gAd G 141))] := hl
  unfold f_X11_jointCount at hF
  refine lv_aload_n hx hb dX11_jointCount_0 rfl (lv_at hl 0 rfl) ?_
  refine lv_aload_n hx hb dX11_jointCount_1 rfl (lv_at hl 0 rfl) ?_
  obtain ⟨r2, hk1, hF⟩ := am_bind hF
  refine am_call X hh (va_runV (As := []) (rest := [.ref (gAd G 141)]) X.1 (c_X11_joints l G hk1) (cwV 0 hts gX11_jointCount_X11_joints rfl rfl rfl (by decide +kernel) ⟨Nat.le_of_ble_eq_true rfl, Nat.le_of_ble_eq_true rfl⟩) (am_preV X hh 141 12 (by decide) rfl rfl) rfl rfl hl.1 rfl (lv_room (Nat.le_of_ble_eq_true rfl)) dX11_jointCount_2 ⟨Nat.le_of_ble_eq_true rfl, Nat.le_of_ble_eq_true rfl⟩) (fun ab H locs hh => ?_)
  obtain ⟨⟨r4, w5⟩, hk3, hF⟩ := am_bind hF
  have hF := am_u2 hF
  refine am_call X hh (va_runV (As := [.int r2]) (rest := []) X.1 (c_X11_done l G hk3) (cwV 1 hts gX11_jointCount_X11_done rfl rfl rfl (by decide +kernel) ⟨Nat.le_of_ble_eq_true rfl, Nat.le_of_ble_eq_true rfl⟩) (am_preV X hh 141 12 (by decide) rfl rfl) rfl rfl hl.1 rfl (lv_room (Nat.le_of_ble_eq_true rfl)) dX11_jointCount_5 ⟨Nat.le_of_ble_eq_true rfl, Nat.le_of_ble_eq_true rfl⟩) (fun ab H locs hh => ?_)
  exact am_iret X hr hh (fun t ht => am_qw (mk := oI) hF ht) (Nat.le_of_ble_eq_true rfl) (Nat.le_of_ble_eq_true rfl) dX11_jointCount_8
set_option maxHeartbeats 4000000 in
set_option maxRecDepth 100000 in
theorem c_X11_trainSize (l : Launch) (G : GG) {w : Wd} {x1 : Int32} {r0 : Int32} {w1 : Wd} (hF : f_X11_trainSize w x1 = some (r0, w1)) : Met l yX11_trainSize wsX11_trainSize ({ frames := 4, cells := 0, slots := 0, locals := 88 } : Room) (va_Pc [.ref (gAd G 141), .int x1] (Rel G w)) (amQ G (oI r0) w1) 0 0 (gA G) := by
  refine am_met (own := RX11) (cc := cX11_trainSize) (maxL := 2) (ret := (some .int)) (by decide +kernel) rfl rfl (Nat.le_of_ble_eq_true rfl) ?_
  intro p e s m args below meth c ab H locs ls X hr hh hl
  have hx := X.1.1; have hb := X.1.2.1; have hml := X.1.2.2.1; have hown := X.1.2.2.2.1; have hts := X.1.2.2.2.2
  have hl : lv_has ls 2 [(0, .ref (gAd G 141)), (1, .int x1)] := hl
  unfold f_X11_trainSize at hF
  refine lv_aload_n hx hb dX11_trainSize_0 rfl (lv_at hl 0 rfl) ?_
  refine lv_iload_n hx hb dX11_trainSize_1 rfl (lv_at hl 1 rfl) ?_
  obtain ⟨r2, hk1, hF⟩ := am_bind hF
  refine am_call X hh (va_runV (As := [.int x1]) (rest := []) X.1 (c_X11_isGear l G hk1) (cwV 1 hts gX11_trainSize_X11_isGear rfl rfl rfl (by decide +kernel) ⟨Nat.le_of_ble_eq_true rfl, Nat.le_of_ble_eq_true rfl⟩) (am_preV X hh 141 12 (by decide) rfl rfl) rfl rfl hl.1 rfl (lv_room (Nat.le_of_ble_eq_true rfl)) dX11_trainSize_2 ⟨Nat.le_of_ble_eq_true rfl, Nat.le_of_ble_eq_true rfl⟩) (fun ab H locs hh => ?_)
  refine lv_if_ne (tgt := 14) hx hb dX11_trainSize_5 (by decide) (fun hc3 => ?_) (fun hc3 => ?_)
  · have hF := am_neg hc3 hF
    refine lv_aload_n hx hb dX11_trainSize_14 rfl (lv_at hl 0 rfl) ?_
    refine lv_iload_n hx hb dX11_trainSize_15 rfl (lv_at hl 1 rfl) ?_
    obtain ⟨w6, hk4, hF⟩ := am_bind hF
    refine am_call X hh (va_runV (As := [.int x1]) (rest := []) X.1 (c_X11_turns l G hk4) (cwV 1 hts gX11_trainSize_X11_turns rfl rfl rfl (by decide +kernel) ⟨Nat.le_of_ble_eq_true rfl, Nat.le_of_ble_eq_true rfl⟩) (am_preV X hh 141 12 (by decide) rfl rfl) rfl rfl hl.1 rfl (lv_room (Nat.le_of_ble_eq_true rfl)) dX11_trainSize_16 ⟨Nat.le_of_ble_eq_true rfl, Nat.le_of_ble_eq_true rfl⟩) (fun ab H locs hh => ?_)
    refine lv_aload_n hx hb dX11_trainSize_19 rfl (lv_at hl 0 rfl) ?_
    refine lv_aload_n hx hb dX11_trainSize_20 rfl (lv_at hl 0 rfl) ?_
    obtain ⟨r8, hk7, hF⟩ := am_bind hF
    refine am_call X hh (va_runV (As := []) (rest := [.ref (gAd G 141)]) X.1 (c_X11_members l G hk7) (cwV 0 hts gX11_trainSize_X11_members rfl rfl rfl (by decide +kernel) ⟨Nat.le_of_ble_eq_true rfl, Nat.le_of_ble_eq_true rfl⟩) (am_preV X hh 141 12 (by decide) rfl rfl) rfl rfl hl.1 rfl (lv_room (Nat.le_of_ble_eq_true rfl)) dX11_trainSize_21 ⟨Nat.le_of_ble_eq_true rfl, Nat.le_of_ble_eq_true rfl⟩) (fun ab H locs hh => ?_)
    obtain ⟨⟨r10, w11⟩, hk9, hF⟩ := am_bind hF
    have hF := am_u2 hF
    refine am_call X hh (va_runV (As := [.int r8]) (rest := []) X.1 (c_X11_done l G hk9) (cwV 1 hts gX11_trainSize_X11_done rfl rfl rfl (by decide +kernel) ⟨Nat.le_of_ble_eq_true rfl, Nat.le_of_ble_eq_true rfl⟩) (am_preV X hh 141 12 (by decide) rfl rfl) rfl rfl hl.1 rfl (lv_room (Nat.le_of_ble_eq_true rfl)) dX11_trainSize_24 ⟨Nat.le_of_ble_eq_true rfl, Nat.le_of_ble_eq_true rfl⟩) (fun ab H locs hh => ?_)
    exact am_iret X hr hh (fun t ht => am_qw (mk := oI) hF ht) (Nat.le_of_ble_eq_true rfl) (Nat.le_of_ble_eq_true rfl) dX11_trainSize_27
  · have hF := am_pos hc3 hF
    refine lv_aload_n hx hb dX11_trainSize_8 rfl (lv_at hl 0 rfl) ?_
    refine lv_iconst (v := (1 : Int32)) hx hb dX11_trainSize_9 (by decide) ?_
    obtain ⟨⟨r14, w15⟩, hk13, hF⟩ := am_bind hF
    have hF := am_u2 hF
    refine am_call X hh (va_runV (As := [.int (1 : Int32)]) (rest := []) X.1 (c_X11_fails l G hk13) (cwV 1 hts gX11_trainSize_X11_fails rfl rfl rfl (by decide +kernel) ⟨Nat.le_of_ble_eq_true rfl, Nat.le_of_ble_eq_true rfl⟩) (am_preV X hh 141 12 (by decide) rfl rfl) rfl rfl hl.1 rfl (lv_room (Nat.le_of_ble_eq_true rfl)) dX11_trainSize_10 ⟨Nat.le_of_ble_eq_true rfl, Nat.le_of_ble_eq_true rfl⟩) (fun ab H locs hh => ?_)
    exact am_iret X hr hh (fun t ht => am_qw (mk := oI) hF ht) (Nat.le_of_ble_eq_true rfl) (Nat.le_of_ble_eq_true rfl) dX11_trainSize_13
set_option maxHeartbeats 4000000 in
set_option maxRecDepth 100000 in
theorem c_X11_areInTrain (l : Launch) (G : GG) {w : Wd} {x1 : Int32} {x2 : Int32} {r0 : Int32} {w1 : Wd} (hF : f_X11_areInTrain w x1 x2 = some (r0, w1)) : Met l yX11_areInTrain wsX11_areInTrain ({ frames := 4, cells := 0, slots := 0, locals := 88 } : Room) (va_Pc [.ref (gAd G 141), .int x1, .int x2] (Rel G w)) (amQ G (oI r0) w1) 0 0 (gA G) := by
  refine am_met (own := RX11) (cc := cX11_areInTrain) (maxL := 3) (ret := (some .boolean)) (by decide +kernel) rfl rfl (Nat.le_of_ble_eq_true rfl) ?_
  intro p e s m args below meth c ab H locs ls X hr hh hl
  have hx := X.1.1; have hb := X.1.2.1; have hml := X.1.2.2.1; have hown := X.1.2.2.2.1; have hts := X.1.2.2.2.2
  have hl : lv_has ls 3 [(0, .ref (gAd G 141)), (1, .int x1), (2, .int x2)] := hl
  have hwRX11 : ∀ z ∈ u_ws RX11 TX11 18, z ∈ wsX11_areInTrain := by decide +kernel
  unfold f_X11_areInTrain at hF
  refine lv_aload_n hx hb dX11_areInTrain_0 rfl (lv_at hl 0 rfl) ?_
  refine lv_aload_n hx hb dX11_areInTrain_1 rfl (lv_at hl 0 rfl) ?_
  refine lv_iload_n hx hb dX11_areInTrain_2 rfl (lv_at hl 1 rfl) ?_
  refine lv_iload_n hx hb dX11_areInTrain_3 rfl (lv_at hl 2 rfl) ?_
  obtain ⟨r2, hk1, hF⟩ := am_bind hF
  refine am_call X hh (va_runV (As := [.int x1, .int x2]) (rest := [.ref (gAd G 141)]) X.1 (c_X11_areGears l G hk1) (cwV 2 hts gX11_areInTrain_X11_areGears rfl rfl rfl (by decide +kernel) ⟨Nat.le_of_ble_eq_true rfl, Nat.le_of_ble_eq_true rfl⟩) (am_preV X hh 141 12 (by decide) rfl rfl) rfl rfl hl.1 rfl (lv_room (Nat.le_of_ble_eq_true rfl)) dX11_areInTrain_4 ⟨Nat.le_of_ble_eq_true rfl, Nat.le_of_ble_eq_true rfl⟩) (fun ab H locs hh => ?_)
  refine lv_if_eq (tgt := 14) hx hb dX11_areInTrain_7 (by decide) (fun hc3 => ?_) (fun hc3 => ?_)
  · have hF := am_pos hc3 hF
    refine lv_iconst (v := (1 : Int32)) hx hb dX11_areInTrain_14 (by decide) ?_
    refine am_putI X hh 141 12 12 (by decide) rfl rfl (by decide) hwRX11 tyX11 tyX11_ok nmX11 (show Cond.fieldLink RX11 49 "PlanetWorkshopModel" "thrown" "I" ∈ wsX11_areInTrain by decide +kernel) rfl rfl rfl rfl dX11_areInTrain_15 (fun H locs hh => ?_)
    obtain ⟨w4, hw4, hF⟩ := am_wl hF
    have hh := AH_eq hw4 hh
    refine lv_aload_n hx hb dX11_areInTrain_18 rfl (lv_at hl 0 rfl) ?_
    refine am_getI X hh 141 12 12 (by decide) rfl rfl (by decide) hwRX11 (show Cond.fieldLink RX11 49 "PlanetWorkshopModel" "thrown" "I" ∈ wsX11_areInTrain by decide +kernel) rfl dX11_areInTrain_19 ?_
    refine lv_if_le (tgt := 27) hx hb dX11_areInTrain_22 (by decide) (fun hc5 => ?_) (fun hc5 => ?_)
    · have hF := am_pos hc5 hF
      refine lv_aload_n hx hb dX11_areInTrain_27 rfl (lv_at hl 0 rfl) ?_
      refine lv_iload_n hx hb dX11_areInTrain_28 rfl (lv_at hl 1 rfl) ?_
      obtain ⟨w8, hk6, hF⟩ := am_bind hF
      refine am_call X hh (va_runV (As := [.int x1]) (rest := []) X.1 (c_X11_turns l G hk6) (cwV 1 hts gX11_areInTrain_X11_turns rfl rfl rfl (by decide +kernel) ⟨Nat.le_of_ble_eq_true rfl, Nat.le_of_ble_eq_true rfl⟩) (am_preV X hh 141 12 (by decide) rfl rfl) rfl rfl hl.1 rfl (lv_room (Nat.le_of_ble_eq_true rfl)) dX11_areInTrain_29 ⟨Nat.le_of_ble_eq_true rfl, Nat.le_of_ble_eq_true rfl⟩) (fun ab H locs hh => ?_)
      refine lv_aload_n hx hb dX11_areInTrain_32 rfl (lv_at hl 0 rfl) ?_
      refine am_getR X hh 141 12 14 149 (by decide) rfl rfl (by decide) hwRX11 (show Cond.fieldLink RX11 39 "PlanetWorkshopModel" "isKnown" "[Z" ∈ wsX11_areInTrain by decide +kernel) rfl dX11_areInTrain_33 ?_
      refine lv_iload_n hx hb dX11_areInTrain_36 rfl (lv_at hl 2 rfl) ?_
      obtain ⟨hq9, hF⟩ := am_ifR hF
      refine am_zald X hh 149 (by decide) rfl hq9 dX11_areInTrain_37 ?_
      exact am_zret (v' := (vp_nar .boolean (gI w8 149 (x2).toNatClampNeg))) X hr (nar_z _) hh (fun t ht => am_qw (mk := oI) hF ht) (Nat.le_of_ble_eq_true rfl) (Nat.le_of_ble_eq_true rfl) dX11_areInTrain_38
    · have hF := am_neg hc5 hF
      refine lv_iconst (v := (0 : Int32)) hx hb dX11_areInTrain_25 (by decide) ?_
      exact am_zret (v' := (0 : Int32)) X hr rfl hh (fun t ht => am_qw (mk := oI) hF ht) (Nat.le_of_ble_eq_true rfl) (Nat.le_of_ble_eq_true rfl) dX11_areInTrain_26
  · have hF := am_neg hc3 hF
    refine lv_iconst (v := (0 : Int32)) hx hb dX11_areInTrain_10 (by decide) ?_
    refine lv_goto (tgt := 15) hx hb dX11_areInTrain_11 (by decide) ?_
    refine am_putI X hh 141 12 12 (by decide) rfl rfl (by decide) hwRX11 tyX11 tyX11_ok nmX11 (show Cond.fieldLink RX11 49 "PlanetWorkshopModel" "thrown" "I" ∈ wsX11_areInTrain by decide +kernel) rfl rfl rfl rfl dX11_areInTrain_15 (fun H locs hh => ?_)
    obtain ⟨w10, hw10, hF⟩ := am_wl hF
    have hh := AH_eq hw10 hh
    refine lv_aload_n hx hb dX11_areInTrain_18 rfl (lv_at hl 0 rfl) ?_
    refine am_getI X hh 141 12 12 (by decide) rfl rfl (by decide) hwRX11 (show Cond.fieldLink RX11 49 "PlanetWorkshopModel" "thrown" "I" ∈ wsX11_areInTrain by decide +kernel) rfl dX11_areInTrain_19 ?_
    refine lv_if_le (tgt := 27) hx hb dX11_areInTrain_22 (by decide) (fun hc11 => ?_) (fun hc11 => ?_)
    · have hF := am_pos hc11 hF
      refine lv_aload_n hx hb dX11_areInTrain_27 rfl (lv_at hl 0 rfl) ?_
      refine lv_iload_n hx hb dX11_areInTrain_28 rfl (lv_at hl 1 rfl) ?_
      obtain ⟨w14, hk12, hF⟩ := am_bind hF
      refine am_call X hh (va_runV (As := [.int x1]) (rest := []) X.1 (c_X11_turns l G hk12) (cwV 1 hts gX11_areInTrain_X11_turns rfl rfl rfl (by decide +kernel) ⟨Nat.le_of_ble_eq_true rfl, Nat.le_of_ble_eq_true rfl⟩) (am_preV X hh 141 12 (by decide) rfl rfl) rfl rfl hl.1 rfl (lv_room (Nat.le_of_ble_eq_true rfl)) dX11_areInTrain_29 ⟨Nat.le_of_ble_eq_true rfl, Nat.le_of_ble_eq_true rfl⟩) (fun ab H locs hh => ?_)
      refine lv_aload_n hx hb dX11_areInTrain_32 rfl (lv_at hl 0 rfl) ?_
      refine am_getR X hh 141 12 14 149 (by decide) rfl rfl (by decide) hwRX11 (show Cond.fieldLink RX11 39 "PlanetWorkshopModel" "isKnown" "[Z" ∈ wsX11_areInTrain by decide +kernel) rfl dX11_areInTrain_33 ?_
      refine lv_iload_n hx hb dX11_areInTrain_36 rfl (lv_at hl 2 rfl) ?_
      obtain ⟨hq15, hF⟩ := am_ifR hF
      refine am_zald X hh 149 (by decide) rfl hq15 dX11_areInTrain_37 ?_
      exact am_zret (v' := (vp_nar .boolean (gI w14 149 (x2).toNatClampNeg))) X hr (nar_z _) hh (fun t ht => am_qw (mk := oI) hF ht) (Nat.le_of_ble_eq_true rfl) (Nat.le_of_ble_eq_true rfl) dX11_areInTrain_38
    · have hF := am_neg hc11 hF
      refine lv_iconst (v := (0 : Int32)) hx hb dX11_areInTrain_25 (by decide) ?_
      exact am_zret (v' := (0 : Int32)) X hr rfl hh (fun t ht => am_qw (mk := oI) hF ht) (Nat.le_of_ble_eq_true rfl) (Nat.le_of_ble_eq_true rfl) dX11_areInTrain_26
set_option maxHeartbeats 4000000 in
set_option maxRecDepth 100000 in
theorem c_X11_unitsPerTurn (l : Launch) (G : GG) {w : Wd} {x1 : Int32} {x2 : Int32} {r0 : Int64} {w1 : Wd} (hF : f_X11_unitsPerTurn w x1 x2 = some (r0, w1)) : Met l yX11_unitsPerTurn wsX11_unitsPerTurn ({ frames := 4, cells := 0, slots := 0, locals := 88 } : Room) (va_Pc [.ref (gAd G 141), .int x1, .int x2] (Rel G w)) (amQ G (oL r0) w1) 0 0 (gA G) := by
  refine am_met (own := RX11) (cc := cX11_unitsPerTurn) (maxL := 3) (ret := (some .long)) (by decide +kernel) rfl rfl (Nat.le_of_ble_eq_true rfl) ?_
  intro p e s m args below meth c ab H locs ls X hr hh hl
  have hx := X.1.1; have hb := X.1.2.1; have hml := X.1.2.2.1; have hown := X.1.2.2.2.1; have hts := X.1.2.2.2.2
  have hl : lv_has ls 3 [(0, .ref (gAd G 141)), (1, .int x1), (2, .int x2)] := hl
  have hwRX11 : ∀ z ∈ u_ws RX11 TX11 18, z ∈ wsX11_unitsPerTurn := by decide +kernel
  unfold f_X11_unitsPerTurn at hF
  refine lv_aload_n hx hb dX11_unitsPerTurn_0 rfl (lv_at hl 0 rfl) ?_
  refine lv_aload_n hx hb dX11_unitsPerTurn_1 rfl (lv_at hl 0 rfl) ?_
  refine lv_iload_n hx hb dX11_unitsPerTurn_2 rfl (lv_at hl 1 rfl) ?_
  refine lv_iload_n hx hb dX11_unitsPerTurn_3 rfl (lv_at hl 2 rfl) ?_
  obtain ⟨r2, hk1, hF⟩ := am_bind hF
  refine am_call X hh (va_runV (As := [.int x1, .int x2]) (rest := [.ref (gAd G 141)]) X.1 (c_X11_areGears l G hk1) (cwV 2 hts gX11_unitsPerTurn_X11_areGears rfl rfl rfl (by decide +kernel) ⟨Nat.le_of_ble_eq_true rfl, Nat.le_of_ble_eq_true rfl⟩) (am_preV X hh 141 12 (by decide) rfl rfl) rfl rfl hl.1 rfl (lv_room (Nat.le_of_ble_eq_true rfl)) dX11_unitsPerTurn_4 ⟨Nat.le_of_ble_eq_true rfl, Nat.le_of_ble_eq_true rfl⟩) (fun ab H locs hh => ?_)
  refine lv_if_eq (tgt := 14) hx hb dX11_unitsPerTurn_7 (by decide) (fun hc3 => ?_) (fun hc3 => ?_)
  · have hF := am_pos hc3 hF
    refine lv_iconst (v := (1 : Int32)) hx hb dX11_unitsPerTurn_14 (by decide) ?_
    refine am_putI X hh 141 12 12 (by decide) rfl rfl (by decide) hwRX11 tyX11 tyX11_ok nmX11 (show Cond.fieldLink RX11 49 "PlanetWorkshopModel" "thrown" "I" ∈ wsX11_unitsPerTurn by decide +kernel) rfl rfl rfl rfl dX11_unitsPerTurn_15 (fun H locs hh => ?_)
    obtain ⟨w4, hw4, hF⟩ := am_wl hF
    have hh := AH_eq hw4 hh
    refine lv_aload_n hx hb dX11_unitsPerTurn_18 rfl (lv_at hl 0 rfl) ?_
    refine am_getI X hh 141 12 12 (by decide) rfl rfl (by decide) hwRX11 (show Cond.fieldLink RX11 49 "PlanetWorkshopModel" "thrown" "I" ∈ wsX11_unitsPerTurn by decide +kernel) rfl dX11_unitsPerTurn_19 ?_
    refine lv_if_le (tgt := 27) hx hb dX11_unitsPerTurn_22 (by decide) (fun hc5 => ?_) (fun hc5 => ?_)
    · have hF := am_pos hc5 hF
      refine lv_aload_n hx hb dX11_unitsPerTurn_27 rfl (lv_at hl 0 rfl) ?_
      refine lv_iload_n hx hb dX11_unitsPerTurn_28 rfl (lv_at hl 1 rfl) ?_
      obtain ⟨w8, hk6, hF⟩ := am_bind hF
      refine am_call X hh (va_runV (As := [.int x1]) (rest := []) X.1 (c_X11_turns l G hk6) (cwV 1 hts gX11_unitsPerTurn_X11_turns rfl rfl rfl (by decide +kernel) ⟨Nat.le_of_ble_eq_true rfl, Nat.le_of_ble_eq_true rfl⟩) (am_preV X hh 141 12 (by decide) rfl rfl) rfl rfl hl.1 rfl (lv_room (Nat.le_of_ble_eq_true rfl)) dX11_unitsPerTurn_29 ⟨Nat.le_of_ble_eq_true rfl, Nat.le_of_ble_eq_true rfl⟩) (fun ab H locs hh => ?_)
      refine lv_aload_n hx hb dX11_unitsPerTurn_32 rfl (lv_at hl 0 rfl) ?_
      refine lv_aload_n hx hb dX11_unitsPerTurn_33 rfl (lv_at hl 0 rfl) ?_
      refine am_getR X hh 141 12 14 149 (by decide) rfl rfl (by decide) hwRX11 (show Cond.fieldLink RX11 39 "PlanetWorkshopModel" "isKnown" "[Z" ∈ wsX11_unitsPerTurn by decide +kernel) rfl dX11_unitsPerTurn_34 ?_
      refine lv_iload_n hx hb dX11_unitsPerTurn_37 rfl (lv_at hl 2 rfl) ?_
      obtain ⟨hq9, hF⟩ := am_ifR hF
      refine am_zald X hh 149 (by decide) rfl hq9 dX11_unitsPerTurn_38 ?_
      refine lv_if_eq (tgt := 46) hx hb dX11_unitsPerTurn_39 (by decide) (fun hc10 => ?_) (fun hc10 => ?_)
      · have hF := am_pos hc10 hF
        refine lv_iconst (v := (2 : Int32)) hx hb dX11_unitsPerTurn_46 (by decide) ?_
        refine am_putI X hh 141 12 12 (by decide) rfl rfl (by decide) hwRX11 tyX11 tyX11_ok nmX11 (show Cond.fieldLink RX11 49 "PlanetWorkshopModel" "thrown" "I" ∈ wsX11_unitsPerTurn by decide +kernel) rfl rfl rfl rfl dX11_unitsPerTurn_47 (fun H locs hh => ?_)
        obtain ⟨w11, hw11, hF⟩ := am_wl hF
        have hh := AH_eq hw11 hh
        refine lv_aload_n hx hb dX11_unitsPerTurn_50 rfl (lv_at hl 0 rfl) ?_
        refine am_getR X hh 141 12 13 148 (by decide) rfl rfl (by decide) hwRX11 (show Cond.fieldLink RX11 36 "PlanetWorkshopModel" "units" "[J" ∈ wsX11_unitsPerTurn by decide +kernel) rfl dX11_unitsPerTurn_51 ?_
        refine lv_iload_n hx hb dX11_unitsPerTurn_54 rfl (lv_at hl 2 rfl) ?_
        obtain ⟨hq12, hF⟩ := am_ifR hF
        refine am_lald X hh 148 (by decide) rfl hq12 dX11_unitsPerTurn_55 ?_
        exact am_lret X hr hh (fun t ht => am_qw (mk := oL) hF ht) (Nat.le_of_ble_eq_true rfl) (Nat.le_of_ble_eq_true rfl) dX11_unitsPerTurn_56
      · have hF := am_neg hc10 hF
        refine lv_iconst (v := (0 : Int32)) hx hb dX11_unitsPerTurn_42 (by decide) ?_
        refine lv_goto (tgt := 47) hx hb dX11_unitsPerTurn_43 (by decide) ?_
        refine am_putI X hh 141 12 12 (by decide) rfl rfl (by decide) hwRX11 tyX11 tyX11_ok nmX11 (show Cond.fieldLink RX11 49 "PlanetWorkshopModel" "thrown" "I" ∈ wsX11_unitsPerTurn by decide +kernel) rfl rfl rfl rfl dX11_unitsPerTurn_47 (fun H locs hh => ?_)
        obtain ⟨w13, hw13, hF⟩ := am_wl hF
        have hh := AH_eq hw13 hh
        refine lv_aload_n hx hb dX11_unitsPerTurn_50 rfl (lv_at hl 0 rfl) ?_
        refine am_getR X hh 141 12 13 148 (by decide) rfl rfl (by decide) hwRX11 (show Cond.fieldLink RX11 36 "PlanetWorkshopModel" "units" "[J" ∈ wsX11_unitsPerTurn by decide +kernel) rfl dX11_unitsPerTurn_51 ?_
        refine lv_iload_n hx hb dX11_unitsPerTurn_54 rfl (lv_at hl 2 rfl) ?_
        obtain ⟨hq14, hF⟩ := am_ifR hF
        refine am_lald X hh 148 (by decide) rfl hq14 dX11_unitsPerTurn_55 ?_
        exact am_lret X hr hh (fun t ht => am_qw (mk := oL) hF ht) (Nat.le_of_ble_eq_true rfl) (Nat.le_of_ble_eq_true rfl) dX11_unitsPerTurn_56
    · have hF := am_neg hc5 hF
      refine lv_lconst (v := (0 : Int64)) hx hb dX11_unitsPerTurn_25 (by decide) ?_
      exact am_lret X hr hh (fun t ht => am_qw (mk := oL) hF ht) (Nat.le_of_ble_eq_true rfl) (Nat.le_of_ble_eq_true rfl) dX11_unitsPerTurn_26
  · have hF := am_neg hc3 hF
    refine lv_iconst (v := (0 : Int32)) hx hb dX11_unitsPerTurn_10 (by decide) ?_
    refine lv_goto (tgt := 15) hx hb dX11_unitsPerTurn_11 (by decide) ?_
    refine am_putI X hh 141 12 12 (by decide) rfl rfl (by decide) hwRX11 tyX11 tyX11_ok nmX11 (show Cond.fieldLink RX11 49 "PlanetWorkshopModel" "thrown" "I" ∈ wsX11_unitsPerTurn by decide +kernel) rfl rfl rfl rfl dX11_unitsPerTurn_15 (fun H locs hh => ?_)
    obtain ⟨w15, hw15, hF⟩ := am_wl hF
    have hh := AH_eq hw15 hh
    refine lv_aload_n hx hb dX11_unitsPerTurn_18 rfl (lv_at hl 0 rfl) ?_
    refine am_getI X hh 141 12 12 (by decide) rfl rfl (by decide) hwRX11 (show Cond.fieldLink RX11 49 "PlanetWorkshopModel" "thrown" "I" ∈ wsX11_unitsPerTurn by decide +kernel) rfl dX11_unitsPerTurn_19 ?_
    refine lv_if_le (tgt := 27) hx hb dX11_unitsPerTurn_22 (by decide) (fun hc16 => ?_) (fun hc16 => ?_)
    · have hF := am_pos hc16 hF
      refine lv_aload_n hx hb dX11_unitsPerTurn_27 rfl (lv_at hl 0 rfl) ?_
      refine lv_iload_n hx hb dX11_unitsPerTurn_28 rfl (lv_at hl 1 rfl) ?_
      obtain ⟨w19, hk17, hF⟩ := am_bind hF
      refine am_call X hh (va_runV (As := [.int x1]) (rest := []) X.1 (c_X11_turns l G hk17) (cwV 1 hts gX11_unitsPerTurn_X11_turns rfl rfl rfl (by decide +kernel) ⟨Nat.le_of_ble_eq_true rfl, Nat.le_of_ble_eq_true rfl⟩) (am_preV X hh 141 12 (by decide) rfl rfl) rfl rfl hl.1 rfl (lv_room (Nat.le_of_ble_eq_true rfl)) dX11_unitsPerTurn_29 ⟨Nat.le_of_ble_eq_true rfl, Nat.le_of_ble_eq_true rfl⟩) (fun ab H locs hh => ?_)
      refine lv_aload_n hx hb dX11_unitsPerTurn_32 rfl (lv_at hl 0 rfl) ?_
      refine lv_aload_n hx hb dX11_unitsPerTurn_33 rfl (lv_at hl 0 rfl) ?_
      refine am_getR X hh 141 12 14 149 (by decide) rfl rfl (by decide) hwRX11 (show Cond.fieldLink RX11 39 "PlanetWorkshopModel" "isKnown" "[Z" ∈ wsX11_unitsPerTurn by decide +kernel) rfl dX11_unitsPerTurn_34 ?_
      refine lv_iload_n hx hb dX11_unitsPerTurn_37 rfl (lv_at hl 2 rfl) ?_
      obtain ⟨hq20, hF⟩ := am_ifR hF
      refine am_zald X hh 149 (by decide) rfl hq20 dX11_unitsPerTurn_38 ?_
      refine lv_if_eq (tgt := 46) hx hb dX11_unitsPerTurn_39 (by decide) (fun hc21 => ?_) (fun hc21 => ?_)
      · have hF := am_pos hc21 hF
        refine lv_iconst (v := (2 : Int32)) hx hb dX11_unitsPerTurn_46 (by decide) ?_
        refine am_putI X hh 141 12 12 (by decide) rfl rfl (by decide) hwRX11 tyX11 tyX11_ok nmX11 (show Cond.fieldLink RX11 49 "PlanetWorkshopModel" "thrown" "I" ∈ wsX11_unitsPerTurn by decide +kernel) rfl rfl rfl rfl dX11_unitsPerTurn_47 (fun H locs hh => ?_)
        obtain ⟨w22, hw22, hF⟩ := am_wl hF
        have hh := AH_eq hw22 hh
        refine lv_aload_n hx hb dX11_unitsPerTurn_50 rfl (lv_at hl 0 rfl) ?_
        refine am_getR X hh 141 12 13 148 (by decide) rfl rfl (by decide) hwRX11 (show Cond.fieldLink RX11 36 "PlanetWorkshopModel" "units" "[J" ∈ wsX11_unitsPerTurn by decide +kernel) rfl dX11_unitsPerTurn_51 ?_
        refine lv_iload_n hx hb dX11_unitsPerTurn_54 rfl (lv_at hl 2 rfl) ?_
        obtain ⟨hq23, hF⟩ := am_ifR hF
        refine am_lald X hh 148 (by decide) rfl hq23 dX11_unitsPerTurn_55 ?_
        exact am_lret X hr hh (fun t ht => am_qw (mk := oL) hF ht) (Nat.le_of_ble_eq_true rfl) (Nat.le_of_ble_eq_true rfl) dX11_unitsPerTurn_56
      · have hF := am_neg hc21 hF
        refine lv_iconst (v := (0 : Int32)) hx hb dX11_unitsPerTurn_42 (by decide) ?_
        refine lv_goto (tgt := 47) hx hb dX11_unitsPerTurn_43 (by decide) ?_
        refine am_putI X hh 141 12 12 (by decide) rfl rfl (by decide) hwRX11 tyX11 tyX11_ok nmX11 (show Cond.fieldLink RX11 49 "PlanetWorkshopModel" "thrown" "I" ∈ wsX11_unitsPerTurn by decide +kernel) rfl rfl rfl rfl dX11_unitsPerTurn_47 (fun H locs hh => ?_)
        obtain ⟨w24, hw24, hF⟩ := am_wl hF
        have hh := AH_eq hw24 hh
        refine lv_aload_n hx hb dX11_unitsPerTurn_50 rfl (lv_at hl 0 rfl) ?_
        refine am_getR X hh 141 12 13 148 (by decide) rfl rfl (by decide) hwRX11 (show Cond.fieldLink RX11 36 "PlanetWorkshopModel" "units" "[J" ∈ wsX11_unitsPerTurn by decide +kernel) rfl dX11_unitsPerTurn_51 ?_
        refine lv_iload_n hx hb dX11_unitsPerTurn_54 rfl (lv_at hl 2 rfl) ?_
        obtain ⟨hq25, hF⟩ := am_ifR hF
        refine am_lald X hh 148 (by decide) rfl hq25 dX11_unitsPerTurn_55 ?_
        exact am_lret X hr hh (fun t ht => am_qw (mk := oL) hF ht) (Nat.le_of_ble_eq_true rfl) (Nat.le_of_ble_eq_true rfl) dX11_unitsPerTurn_56
    · have hF := am_neg hc16 hF
      refine lv_lconst (v := (0 : Int64)) hx hb dX11_unitsPerTurn_25 (by decide) ?_
      exact am_lret X hr hh (fun t ht => am_qw (mk := oL) hF ht) (Nat.le_of_ble_eq_true rfl) (Nat.le_of_ble_eq_true rfl) dX11_unitsPerTurn_26
set_option maxHeartbeats 4000000 in
set_option maxRecDepth 100000 in
theorem c_X11_unitsPerTurnByLowest (l : Launch) (G : GG) {w : Wd} {x1 : Int32} {x2 : Int32} {r0 : Int64} {w1 : Wd} (hF : f_X11_unitsPerTurnByLowest w x1 x2 = some (r0, w1)) : Met l yX11_unitsPerTurnByLowest wsX11_unitsPerTurnByLowest ({ frames := 5, cells := 0, slots := 0, locals := 110 } : Room) (va_Pc [.ref (gAd G 141), .int x1, .int x2] (Rel G w)) (amQ G (oL r0) w1) 0 0 (gA G) := by
  refine am_met (own := RX11) (cc := cX11_unitsPerTurnByLowest) (maxL := 3) (ret := (some .long)) (by decide +kernel) rfl rfl (Nat.le_of_ble_eq_true rfl) ?_
  intro p e s m args below meth c ab H locs ls X hr hh hl
  have hx := X.1.1; have hb := X.1.2.1; have hml := X.1.2.2.1; have hown := X.1.2.2.2.1; have hts := X.1.2.2.2.2
  have hl : lv_has ls 3 [(0, .ref (gAd G 141)), (1, .int x1), (2, .int x2)] := hl
  unfold f_X11_unitsPerTurnByLowest at hF
  refine lv_aload_n hx hb dX11_unitsPerTurnByLowest_0 rfl (lv_at hl 0 rfl) ?_
  refine lv_iload_n hx hb dX11_unitsPerTurnByLowest_1 rfl (lv_at hl 1 rfl) ?_
  refine lv_iload_n hx hb dX11_unitsPerTurnByLowest_2 rfl (lv_at hl 2 rfl) ?_
  obtain ⟨⟨r2, w3⟩, hk1, hF⟩ := am_bind hF
  have hF := am_u2 hF
  refine am_call X hh (va_runV (As := [.int x1, .int x2]) (rest := []) X.1 (c_X11_unitsPerTurn l G hk1) (cwV 2 hts gX11_unitsPerTurnByLowest_X11_unitsPerTurn rfl rfl rfl (by decide +kernel) ⟨Nat.le_of_ble_eq_true rfl, Nat.le_of_ble_eq_true rfl⟩) (am_preV X hh 141 12 (by decide) rfl rfl) rfl rfl hl.1 rfl (lv_room (Nat.le_of_ble_eq_true rfl)) dX11_unitsPerTurnByLowest_3 ⟨Nat.le_of_ble_eq_true rfl, Nat.le_of_ble_eq_true rfl⟩) (fun ab H locs hh => ?_)
  exact am_lret X hr hh (fun t ht => am_qw (mk := oL) hF ht) (Nat.le_of_ble_eq_true rfl) (Nat.le_of_ble_eq_true rfl) dX11_unitsPerTurnByLowest_6
set_option maxHeartbeats 4000000 in
set_option maxRecDepth 100000 in
theorem c_X11_angle (l : Launch) (G : GG) {w : Wd} {x1 : Int32} {r0 : Int64} {w1 : Wd} (hF : f_X11_angle w x1 = some (r0, w1)) : Met l yX11_angle wsX11_angle ({ frames := 2, cells := 0, slots := 0, locals := 43 } : Room) (va_Pc [.ref (gAd G 141), .int x1] (Rel G w)) (amQ G (oL r0) w1) 0 0 (gA G) := by
  refine am_met (own := RX11) (cc := cX11_angle) (maxL := 2) (ret := (some .long)) (by decide +kernel) rfl rfl (Nat.le_of_ble_eq_true rfl) ?_
  intro p e s m args below meth c ab H locs ls X hr hh hl
  have hx := X.1.1; have hb := X.1.2.1; have hml := X.1.2.2.1; have hown := X.1.2.2.2.1; have hts := X.1.2.2.2.2
  have hl : lv_has ls 2 [(0, .ref (gAd G 141)), (1, .int x1)] := hl
  have hwRX11 : ∀ z ∈ u_ws RX11 TX11 18, z ∈ wsX11_angle := by decide +kernel
  unfold f_X11_angle at hF
  refine lv_aload_n hx hb dX11_angle_0 rfl (lv_at hl 0 rfl) ?_
  refine lv_aload_n hx hb dX11_angle_1 rfl (lv_at hl 0 rfl) ?_
  refine lv_iload_n hx hb dX11_angle_2 rfl (lv_at hl 1 rfl) ?_
  obtain ⟨r2, hk1, hF⟩ := am_bind hF
  refine am_call X hh (va_runV (As := [.int x1]) (rest := [.ref (gAd G 141)]) X.1 (c_X11_isGear l G hk1) (cwV 1 hts gX11_angle_X11_isGear rfl rfl rfl (by decide +kernel) ⟨Nat.le_of_ble_eq_true rfl, Nat.le_of_ble_eq_true rfl⟩) (am_preV X hh 141 12 (by decide) rfl rfl) rfl rfl hl.1 rfl (lv_room (Nat.le_of_ble_eq_true rfl)) dX11_angle_3 ⟨Nat.le_of_ble_eq_true rfl, Nat.le_of_ble_eq_true rfl⟩) (fun ab H locs hh => ?_)
  refine lv_if_eq (tgt := 13) hx hb dX11_angle_6 (by decide) (fun hc3 => ?_) (fun hc3 => ?_)
  · have hF := am_pos hc3 hF
    refine lv_iconst (v := (1 : Int32)) hx hb dX11_angle_13 (by decide) ?_
    refine am_putI X hh 141 12 12 (by decide) rfl rfl (by decide) hwRX11 tyX11 tyX11_ok nmX11 (show Cond.fieldLink RX11 49 "PlanetWorkshopModel" "thrown" "I" ∈ wsX11_angle by decide +kernel) rfl rfl rfl rfl dX11_angle_14 (fun H locs hh => ?_)
    obtain ⟨w4, hw4, hF⟩ := am_wl hF
    have hh := AH_eq hw4 hh
    refine lv_aload_n hx hb dX11_angle_17 rfl (lv_at hl 0 rfl) ?_
    refine am_getI X hh 141 12 12 (by decide) rfl rfl (by decide) hwRX11 (show Cond.fieldLink RX11 49 "PlanetWorkshopModel" "thrown" "I" ∈ wsX11_angle by decide +kernel) rfl dX11_angle_18 ?_
    refine lv_if_le (tgt := 28) hx hb dX11_angle_21 (by decide) (fun hc5 => ?_) (fun hc5 => ?_)
    · have hF := am_pos hc5 hF
      refine lv_aload_n hx hb dX11_angle_28 rfl (lv_at hl 0 rfl) ?_
      refine am_getR X hh 141 12 0 142 (by decide) rfl rfl (by decide) hwRX11 (show Cond.fieldLink RX11 7 "PlanetWorkshopModel" "g" "[J" ∈ wsX11_angle by decide +kernel) rfl dX11_angle_29 ?_
      refine lv_bipush (v := (16 : Int32)) hx hb dX11_angle_32 (by decide) ?_
      refine lv_iload_n hx hb dX11_angle_34 rfl (lv_at hl 1 rfl) ?_
      refine lv_iadd hx hb dX11_angle_35 ?_
      obtain ⟨hq6, hF⟩ := am_ifR hF
      refine am_lald X hh 142 (by decide) rfl hq6 dX11_angle_36 ?_
      exact am_lret X hr hh (fun t ht => am_qw (mk := oL) hF ht) (Nat.le_of_ble_eq_true rfl) (Nat.le_of_ble_eq_true rfl) dX11_angle_37
    · have hF := am_neg hc5 hF
      refine lv_lconst (v := (0 : Int64)) hx hb dX11_angle_24 (by decide) ?_
      refine lv_goto (tgt := 37) hx hb dX11_angle_25 (by decide) ?_
      exact am_lret X hr hh (fun t ht => am_qw (mk := oL) hF ht) (Nat.le_of_ble_eq_true rfl) (Nat.le_of_ble_eq_true rfl) dX11_angle_37
  · have hF := am_neg hc3 hF
    refine lv_iconst (v := (0 : Int32)) hx hb dX11_angle_9 (by decide) ?_
    refine lv_goto (tgt := 14) hx hb dX11_angle_10 (by decide) ?_
    refine am_putI X hh 141 12 12 (by decide) rfl rfl (by decide) hwRX11 tyX11 tyX11_ok nmX11 (show Cond.fieldLink RX11 49 "PlanetWorkshopModel" "thrown" "I" ∈ wsX11_angle by decide +kernel) rfl rfl rfl rfl dX11_angle_14 (fun H locs hh => ?_)
    obtain ⟨w7, hw7, hF⟩ := am_wl hF
    have hh := AH_eq hw7 hh
    refine lv_aload_n hx hb dX11_angle_17 rfl (lv_at hl 0 rfl) ?_
    refine am_getI X hh 141 12 12 (by decide) rfl rfl (by decide) hwRX11 (show Cond.fieldLink RX11 49 "PlanetWorkshopModel" "thrown" "I" ∈ wsX11_angle by decide +kernel) rfl dX11_angle_18 ?_
    refine lv_if_le (tgt := 28) hx hb dX11_angle_21 (by decide) (fun hc8 => ?_) (fun hc8 => ?_)
    · have hF := am_pos hc8 hF
      refine lv_aload_n hx hb dX11_angle_28 rfl (lv_at hl 0 rfl) ?_
      refine am_getR X hh 141 12 0 142 (by decide) rfl rfl (by decide) hwRX11 (show Cond.fieldLink RX11 7 "PlanetWorkshopModel" "g" "[J" ∈ wsX11_angle by decide +kernel) rfl dX11_angle_29 ?_
      refine lv_bipush (v := (16 : Int32)) hx hb dX11_angle_32 (by decide) ?_
      refine lv_iload_n hx hb dX11_angle_34 rfl (lv_at hl 1 rfl) ?_
      refine lv_iadd hx hb dX11_angle_35 ?_
      obtain ⟨hq9, hF⟩ := am_ifR hF
      refine am_lald X hh 142 (by decide) rfl hq9 dX11_angle_36 ?_
      exact am_lret X hr hh (fun t ht => am_qw (mk := oL) hF ht) (Nat.le_of_ble_eq_true rfl) (Nat.le_of_ble_eq_true rfl) dX11_angle_37
    · have hF := am_neg hc8 hF
      refine lv_lconst (v := (0 : Int64)) hx hb dX11_angle_24 (by decide) ?_
      refine lv_goto (tgt := 37) hx hb dX11_angle_25 (by decide) ?_
      exact am_lret X hr hh (fun t ht => am_qw (mk := oL) hF ht) (Nat.le_of_ble_eq_true rfl) (Nat.le_of_ble_eq_true rfl) dX11_angle_37
set_option maxHeartbeats 4000000 in
set_option maxRecDepth 100000 in
theorem c_X11_anglePart (l : Launch) (G : GG) {w : Wd} {x1 : Int32} {r0 : UInt64} {w1 : Wd} (hF : f_X11_anglePart w x1 = some (r0, w1)) : Met l yX11_anglePart wsX11_anglePart ({ frames := 2, cells := 0, slots := 0, locals := 43 } : Room) (va_Pc [.ref (gAd G 141), .int x1] (Rel G w)) (amQ G (oD r0) w1) 0 0 (gA G) := by
  refine am_met (own := RX11) (cc := cX11_anglePart) (maxL := 2) (ret := (some .double)) (by decide +kernel) rfl rfl (Nat.le_of_ble_eq_true rfl) ?_
  intro p e s m args below meth c ab H locs ls X hr hh hl
  have hx := X.1.1; have hb := X.1.2.1; have hml := X.1.2.2.1; have hown := X.1.2.2.2.1; have hts := X.1.2.2.2.2
  have hl : lv_has ls 2 [(0, .ref (gAd G 141)), (1, .int x1)] := hl
  have hwRX11 : ∀ z ∈ u_ws RX11 TX11 18, z ∈ wsX11_anglePart := by decide +kernel
  unfold f_X11_anglePart at hF
  refine lv_aload_n hx hb dX11_anglePart_0 rfl (lv_at hl 0 rfl) ?_
  refine lv_aload_n hx hb dX11_anglePart_1 rfl (lv_at hl 0 rfl) ?_
  refine lv_iload_n hx hb dX11_anglePart_2 rfl (lv_at hl 1 rfl) ?_
  obtain ⟨r2, hk1, hF⟩ := am_bind hF
  refine am_call X hh (va_runV (As := [.int x1]) (rest := [.ref (gAd G 141)]) X.1 (c_X11_isGear l G hk1) (cwV 1 hts gX11_anglePart_X11_isGear rfl rfl rfl (by decide +kernel) ⟨Nat.le_of_ble_eq_true rfl, Nat.le_of_ble_eq_true rfl⟩) (am_preV X hh 141 12 (by decide) rfl rfl) rfl rfl hl.1 rfl (lv_room (Nat.le_of_ble_eq_true rfl)) dX11_anglePart_3 ⟨Nat.le_of_ble_eq_true rfl, Nat.le_of_ble_eq_true rfl⟩) (fun ab H locs hh => ?_)
  refine lv_if_eq (tgt := 13) hx hb dX11_anglePart_6 (by decide) (fun hc3 => ?_) (fun hc3 => ?_)
  · have hF := am_pos hc3 hF
    refine lv_iconst (v := (1 : Int32)) hx hb dX11_anglePart_13 (by decide) ?_
    refine am_putI X hh 141 12 12 (by decide) rfl rfl (by decide) hwRX11 tyX11 tyX11_ok nmX11 (show Cond.fieldLink RX11 49 "PlanetWorkshopModel" "thrown" "I" ∈ wsX11_anglePart by decide +kernel) rfl rfl rfl rfl dX11_anglePart_14 (fun H locs hh => ?_)
    obtain ⟨w4, hw4, hF⟩ := am_wl hF
    have hh := AH_eq hw4 hh
    refine lv_aload_n hx hb dX11_anglePart_17 rfl (lv_at hl 0 rfl) ?_
    refine am_getI X hh 141 12 12 (by decide) rfl rfl (by decide) hwRX11 (show Cond.fieldLink RX11 49 "PlanetWorkshopModel" "thrown" "I" ∈ wsX11_anglePart by decide +kernel) rfl dX11_anglePart_18 ?_
    refine lv_if_le (tgt := 28) hx hb dX11_anglePart_21 (by decide) (fun hc5 => ?_) (fun hc5 => ?_)
    · have hF := am_pos hc5 hF
      refine lv_aload_n hx hb dX11_anglePart_28 rfl (lv_at hl 0 rfl) ?_
      refine am_getR X hh 141 12 0 142 (by decide) rfl rfl (by decide) hwRX11 (show Cond.fieldLink RX11 7 "PlanetWorkshopModel" "g" "[J" ∈ wsX11_anglePart by decide +kernel) rfl dX11_anglePart_29 ?_
      refine lv_bipush (v := (16 : Int32)) hx hb dX11_anglePart_32 (by decide) ?_
      refine lv_iload_n hx hb dX11_anglePart_34 rfl (lv_at hl 1 rfl) ?_
      refine lv_iadd hx hb dX11_anglePart_35 ?_
      obtain ⟨hq6, hF⟩ := am_ifR hF
      refine am_lald X hh 142 (by decide) rfl hq6 dX11_anglePart_36 ?_
      refine lv_l2d hx hb dX11_anglePart_37 ?_
      refine lv_ldc2d (v := (4762324188084043776 : UInt64)) hx hb hown (hts _ (show Cond.constantDouble RX11 187 (4762324188084043776) ∈ wsX11_anglePart by decide +kernel)) dX11_anglePart_38 ?_
      obtain ⟨hq7, hF⟩ := am_ifN64 hF
      refine lv_ddiv hx hb dX11_anglePart_41 hq7 ?_
      exact am_dret X hr hh (fun t ht => am_qw (mk := oD) hF ht) (Nat.le_of_ble_eq_true rfl) (Nat.le_of_ble_eq_true rfl) dX11_anglePart_42
    · have hF := am_neg hc5 hF
      refine lv_dconst0 hx hb dX11_anglePart_24 ?_
      refine lv_goto (tgt := 42) hx hb dX11_anglePart_25 (by decide) ?_
      exact am_dret X hr hh (fun t ht => am_qw (mk := oD) hF ht) (Nat.le_of_ble_eq_true rfl) (Nat.le_of_ble_eq_true rfl) dX11_anglePart_42
  · have hF := am_neg hc3 hF
    refine lv_iconst (v := (0 : Int32)) hx hb dX11_anglePart_9 (by decide) ?_
    refine lv_goto (tgt := 14) hx hb dX11_anglePart_10 (by decide) ?_
    refine am_putI X hh 141 12 12 (by decide) rfl rfl (by decide) hwRX11 tyX11 tyX11_ok nmX11 (show Cond.fieldLink RX11 49 "PlanetWorkshopModel" "thrown" "I" ∈ wsX11_anglePart by decide +kernel) rfl rfl rfl rfl dX11_anglePart_14 (fun H locs hh => ?_)
    obtain ⟨w8, hw8, hF⟩ := am_wl hF
    have hh := AH_eq hw8 hh
    refine lv_aload_n hx hb dX11_anglePart_17 rfl (lv_at hl 0 rfl) ?_
    refine am_getI X hh 141 12 12 (by decide) rfl rfl (by decide) hwRX11 (show Cond.fieldLink RX11 49 "PlanetWorkshopModel" "thrown" "I" ∈ wsX11_anglePart by decide +kernel) rfl dX11_anglePart_18 ?_
    refine lv_if_le (tgt := 28) hx hb dX11_anglePart_21 (by decide) (fun hc9 => ?_) (fun hc9 => ?_)
    · have hF := am_pos hc9 hF
      refine lv_aload_n hx hb dX11_anglePart_28 rfl (lv_at hl 0 rfl) ?_
      refine am_getR X hh 141 12 0 142 (by decide) rfl rfl (by decide) hwRX11 (show Cond.fieldLink RX11 7 "PlanetWorkshopModel" "g" "[J" ∈ wsX11_anglePart by decide +kernel) rfl dX11_anglePart_29 ?_
      refine lv_bipush (v := (16 : Int32)) hx hb dX11_anglePart_32 (by decide) ?_
      refine lv_iload_n hx hb dX11_anglePart_34 rfl (lv_at hl 1 rfl) ?_
      refine lv_iadd hx hb dX11_anglePart_35 ?_
      obtain ⟨hq10, hF⟩ := am_ifR hF
      refine am_lald X hh 142 (by decide) rfl hq10 dX11_anglePart_36 ?_
      refine lv_l2d hx hb dX11_anglePart_37 ?_
      refine lv_ldc2d (v := (4762324188084043776 : UInt64)) hx hb hown (hts _ (show Cond.constantDouble RX11 187 (4762324188084043776) ∈ wsX11_anglePart by decide +kernel)) dX11_anglePart_38 ?_
      obtain ⟨hq11, hF⟩ := am_ifN64 hF
      refine lv_ddiv hx hb dX11_anglePart_41 hq11 ?_
      exact am_dret X hr hh (fun t ht => am_qw (mk := oD) hF ht) (Nat.le_of_ble_eq_true rfl) (Nat.le_of_ble_eq_true rfl) dX11_anglePart_42
    · have hF := am_neg hc9 hF
      refine lv_dconst0 hx hb dX11_anglePart_24 ?_
      refine lv_goto (tgt := 42) hx hb dX11_anglePart_25 (by decide) ?_
      exact am_dret X hr hh (fun t ht => am_qw (mk := oD) hF ht) (Nat.le_of_ble_eq_true rfl) (Nat.le_of_ble_eq_true rfl) dX11_anglePart_42
set_option maxHeartbeats 4000000 in
set_option maxRecDepth 100000 in
theorem c_X11_whyNoSpring (l : Launch) (G : GG) {w : Wd} {x1 : Int32} {r0 : Int32} (hF : f_X11_whyNoSpring w x1 = some r0) : Met l yX11_whyNoSpring wsX11_whyNoSpring ({ frames := 2, cells := 0, slots := 0, locals := 43 } : Room) (va_Pc [.ref (gAd G 141), .int x1] (Rel G w)) (amQ G (oI r0) w) 0 0 (gA G) := by
  refine am_met (own := RX11) (cc := cX11_whyNoSpring) (maxL := 2) (ret := (some .int)) (by decide +kernel) rfl rfl (Nat.le_of_ble_eq_true rfl) ?_
  intro p e s m args below meth c ab H locs ls X hr hh hl
  have hx := X.1.1; have hb := X.1.2.1; have hml := X.1.2.2.1; have hown := X.1.2.2.2.1; have hts := X.1.2.2.2.2
  have hl : lv_has ls 2 [(0, .ref (gAd G 141)), (1, .int x1)] := hl
  unfold f_X11_whyNoSpring at hF
  refine lv_aload_n hx hb dX11_whyNoSpring_0 rfl (lv_at hl 0 rfl) ?_
  refine lv_iload_n hx hb dX11_whyNoSpring_1 rfl (lv_at hl 1 rfl) ?_
  obtain ⟨r2, hk1, hF⟩ := am_bind hF
  refine am_call X hh (va_runV (As := [.int x1]) (rest := []) X.1 (c_X11_isGear l G hk1) (cwV 1 hts gX11_whyNoSpring_X11_isGear rfl rfl rfl (by decide +kernel) ⟨Nat.le_of_ble_eq_true rfl, Nat.le_of_ble_eq_true rfl⟩) (am_preV X hh 141 12 (by decide) rfl rfl) rfl rfl hl.1 rfl (lv_room (Nat.le_of_ble_eq_true rfl)) dX11_whyNoSpring_2 ⟨Nat.le_of_ble_eq_true rfl, Nat.le_of_ble_eq_true rfl⟩) (fun ab H locs hh => ?_)
  refine lv_if_ne (tgt := 12) hx hb dX11_whyNoSpring_5 (by decide) (fun hc3 => ?_) (fun hc3 => ?_)
  · have hF := am_neg hc3 hF
    refine lv_aload_n hx hb dX11_whyNoSpring_12 rfl (lv_at hl 0 rfl) ?_
    refine lv_iload_n hx hb dX11_whyNoSpring_13 rfl (lv_at hl 1 rfl) ?_
    obtain ⟨r5, hk4, hF⟩ := am_bind hF
    refine am_call X hh (va_runV (As := [.int x1]) (rest := []) X.1 (c_X11_hasSpring l G hk4) (cwV 1 hts gX11_whyNoSpring_X11_hasSpring rfl rfl rfl (by decide +kernel) ⟨Nat.le_of_ble_eq_true rfl, Nat.le_of_ble_eq_true rfl⟩) (am_preV X hh 141 12 (by decide) rfl rfl) rfl rfl hl.1 rfl (lv_room (Nat.le_of_ble_eq_true rfl)) dX11_whyNoSpring_14 ⟨Nat.le_of_ble_eq_true rfl, Nat.le_of_ble_eq_true rfl⟩) (fun ab H locs hh => ?_)
    refine lv_if_eq (tgt := 24) hx hb dX11_whyNoSpring_17 (by decide) (fun hc6 => ?_) (fun hc6 => ?_)
    · have hF := am_pos hc6 hF
      refine lv_iconst (v := (2 : Int32)) hx hb dX11_whyNoSpring_24 (by decide) ?_
      exact am_iret X hr hh (fun t ht => am_qp (mk := oI) hF ht) (Nat.le_of_ble_eq_true rfl) (Nat.le_of_ble_eq_true rfl) dX11_whyNoSpring_25
    · have hF := am_neg hc6 hF
      refine lv_iconst (v := (0 : Int32)) hx hb dX11_whyNoSpring_20 (by decide) ?_
      refine lv_goto (tgt := 25) hx hb dX11_whyNoSpring_21 (by decide) ?_
      exact am_iret X hr hh (fun t ht => am_qp (mk := oI) hF ht) (Nat.le_of_ble_eq_true rfl) (Nat.le_of_ble_eq_true rfl) dX11_whyNoSpring_25
  · have hF := am_pos hc3 hF
    refine lv_iconst (v := (1 : Int32)) hx hb dX11_whyNoSpring_8 (by decide) ?_
    refine lv_goto (tgt := 25) hx hb dX11_whyNoSpring_9 (by decide) ?_
    exact am_iret X hr hh (fun t ht => am_qp (mk := oI) hF ht) (Nat.le_of_ble_eq_true rfl) (Nat.le_of_ble_eq_true rfl) dX11_whyNoSpring_25
set_option maxHeartbeats 4000000 in
set_option maxRecDepth 100000 in
theorem c_X11_tension (l : Launch) (G : GG) {w : Wd} {x1 : Int32} {r0 : Int32} {w1 : Wd} (hF : f_X11_tension w x1 = some (r0, w1)) : Met l yX11_tension wsX11_tension ({ frames := 3, cells := 0, slots := 0, locals := 64 } : Room) (va_Pc [.ref (gAd G 141), .int x1] (Rel G w)) (amQ G (oI r0) w1) 0 0 (gA G) := by
  refine am_met (own := RX11) (cc := cX11_tension) (maxL := 3) (ret := (some .int)) (by decide +kernel) rfl rfl (Nat.le_of_ble_eq_true rfl) ?_
  intro p e s m args below meth c ab H locs ls X hr hh hl
  have hx := X.1.1; have hb := X.1.2.1; have hml := X.1.2.2.1; have hown := X.1.2.2.2.1; have hts := X.1.2.2.2.2
  have hl : lv_has ls 3 [(0, .ref (gAd G 141)), (1, .int x1)] := hl
  unfold f_X11_tension at hF
  refine lv_aload_n hx hb dX11_tension_0 rfl (lv_at hl 0 rfl) ?_
  refine lv_iload_n hx hb dX11_tension_1 rfl (lv_at hl 1 rfl) ?_
  obtain ⟨r2, hk1, hF⟩ := am_bind hF
  refine am_call X hh (va_runV (As := [.int x1]) (rest := []) X.1 (c_X11_whyNoSpring l G hk1) (cwV 1 hts gX11_tension_X11_whyNoSpring rfl rfl rfl (by decide +kernel) ⟨Nat.le_of_ble_eq_true rfl, Nat.le_of_ble_eq_true rfl⟩) (am_preV X hh 141 12 (by decide) rfl rfl) rfl rfl hl.1 rfl (lv_room (Nat.le_of_ble_eq_true rfl)) dX11_tension_2 ⟨Nat.le_of_ble_eq_true rfl, Nat.le_of_ble_eq_true rfl⟩) (fun ab H locs hh => ?_)
  refine lv_istore_n (lv' := [(2, .int r2), (0, .ref (gAd G 141)), (1, .int x1)]) hx hb dX11_tension_5 rfl hl (by decide) rfl (fun ls hl => ?_)
  refine lv_iload_n hx hb dX11_tension_6 rfl (lv_at hl 0 rfl) ?_
  refine lv_if_le (tgt := 18) hx hb dX11_tension_7 (by decide) (fun hc3 => ?_) (fun hc3 => ?_)
  · have hF := am_pos hc3 hF
    refine lv_aload_n hx hb dX11_tension_18 rfl (lv_at hl 1 rfl) ?_
    refine lv_aload_n hx hb dX11_tension_19 rfl (lv_at hl 1 rfl) ?_
    refine lv_bipush (v := (36 : Int32)) hx hb dX11_tension_20 (by decide) ?_
    refine lv_iload_n hx hb dX11_tension_22 rfl (lv_at hl 2 rfl) ?_
    refine lv_iadd hx hb dX11_tension_23 ?_
    obtain ⟨r5, hk4, hF⟩ := am_bind hF
    refine am_call X hh (va_runV (As := [.int ((36 : Int32) + x1)]) (rest := [.ref (gAd G 141)]) X.1 (c_X11_at l G hk4) (cwV 1 hts gX11_tension_X11_at rfl rfl rfl (by decide +kernel) ⟨Nat.le_of_ble_eq_true rfl, Nat.le_of_ble_eq_true rfl⟩) (am_preV X hh 141 12 (by decide) rfl rfl) rfl rfl hl.1 rfl (lv_room (Nat.le_of_ble_eq_true rfl)) dX11_tension_24 ⟨Nat.le_of_ble_eq_true rfl, Nat.le_of_ble_eq_true rfl⟩) (fun ab H locs hh => ?_)
    obtain ⟨⟨r7, w8⟩, hk6, hF⟩ := am_bind hF
    have hF := am_u2 hF
    refine am_call X hh (va_runV (As := [.int r5]) (rest := []) X.1 (c_X11_done l G hk6) (cwV 1 hts gX11_tension_X11_done rfl rfl rfl (by decide +kernel) ⟨Nat.le_of_ble_eq_true rfl, Nat.le_of_ble_eq_true rfl⟩) (am_preV X hh 141 12 (by decide) rfl rfl) rfl rfl hl.1 rfl (lv_room (Nat.le_of_ble_eq_true rfl)) dX11_tension_27 ⟨Nat.le_of_ble_eq_true rfl, Nat.le_of_ble_eq_true rfl⟩) (fun ab H locs hh => ?_)
    exact am_iret X hr hh (fun t ht => am_qw (mk := oI) hF ht) (Nat.le_of_ble_eq_true rfl) (Nat.le_of_ble_eq_true rfl) dX11_tension_30
  · have hF := am_neg hc3 hF
    refine lv_aload_n hx hb dX11_tension_10 rfl (lv_at hl 1 rfl) ?_
    refine lv_iload_n hx hb dX11_tension_11 rfl (lv_at hl 0 rfl) ?_
    obtain ⟨⟨r11, w12⟩, hk10, hF⟩ := am_bind hF
    have hF := am_u2 hF
    refine am_call X hh (va_runV (As := [.int r2]) (rest := []) X.1 (c_X11_fails l G hk10) (cwV 1 hts gX11_tension_X11_fails rfl rfl rfl (by decide +kernel) ⟨Nat.le_of_ble_eq_true rfl, Nat.le_of_ble_eq_true rfl⟩) (am_preV X hh 141 12 (by decide) rfl rfl) rfl rfl hl.1 rfl (lv_room (Nat.le_of_ble_eq_true rfl)) dX11_tension_12 ⟨Nat.le_of_ble_eq_true rfl, Nat.le_of_ble_eq_true rfl⟩) (fun ab H locs hh => ?_)
    refine lv_goto (tgt := 30) hx hb dX11_tension_15 (by decide) ?_
    exact am_iret X hr hh (fun t ht => am_qw (mk := oI) hF ht) (Nat.le_of_ble_eq_true rfl) (Nat.le_of_ble_eq_true rfl) dX11_tension_30
set_option maxHeartbeats 4000000 in
set_option maxRecDepth 100000 in
theorem c_X11_springSize (l : Launch) (G : GG) {w : Wd} {x1 : Int32} {r0 : Int32} {w1 : Wd} (hF : f_X11_springSize w x1 = some (r0, w1)) : Met l yX11_springSize wsX11_springSize ({ frames := 3, cells := 0, slots := 0, locals := 64 } : Room) (va_Pc [.ref (gAd G 141), .int x1] (Rel G w)) (amQ G (oI r0) w1) 0 0 (gA G) := by
  refine am_met (own := RX11) (cc := cX11_springSize) (maxL := 3) (ret := (some .int)) (by decide +kernel) rfl rfl (Nat.le_of_ble_eq_true rfl) ?_
  intro p e s m args below meth c ab H locs ls X hr hh hl
  have hx := X.1.1; have hb := X.1.2.1; have hml := X.1.2.2.1; have hown := X.1.2.2.2.1; have hts := X.1.2.2.2.2
  have hl : lv_has ls 3 [(0, .ref (gAd G 141)), (1, .int x1)] := hl
  unfold f_X11_springSize at hF
  refine lv_aload_n hx hb dX11_springSize_0 rfl (lv_at hl 0 rfl) ?_
  refine lv_iload_n hx hb dX11_springSize_1 rfl (lv_at hl 1 rfl) ?_
  obtain ⟨r2, hk1, hF⟩ := am_bind hF
  refine am_call X hh (va_runV (As := [.int x1]) (rest := []) X.1 (c_X11_whyNoSpring l G hk1) (cwV 1 hts gX11_springSize_X11_whyNoSpring rfl rfl rfl (by decide +kernel) ⟨Nat.le_of_ble_eq_true rfl, Nat.le_of_ble_eq_true rfl⟩) (am_preV X hh 141 12 (by decide) rfl rfl) rfl rfl hl.1 rfl (lv_room (Nat.le_of_ble_eq_true rfl)) dX11_springSize_2 ⟨Nat.le_of_ble_eq_true rfl, Nat.le_of_ble_eq_true rfl⟩) (fun ab H locs hh => ?_)
  refine lv_istore_n (lv' := [(2, .int r2), (0, .ref (gAd G 141)), (1, .int x1)]) hx hb dX11_springSize_5 rfl hl (by decide) rfl (fun ls hl => ?_)
  refine lv_iload_n hx hb dX11_springSize_6 rfl (lv_at hl 0 rfl) ?_
  refine lv_if_le (tgt := 18) hx hb dX11_springSize_7 (by decide) (fun hc3 => ?_) (fun hc3 => ?_)
  · have hF := am_pos hc3 hF
    refine lv_aload_n hx hb dX11_springSize_18 rfl (lv_at hl 1 rfl) ?_
    refine lv_aload_n hx hb dX11_springSize_19 rfl (lv_at hl 1 rfl) ?_
    refine lv_bipush (v := (26 : Int32)) hx hb dX11_springSize_20 (by decide) ?_
    refine lv_iload_n hx hb dX11_springSize_22 rfl (lv_at hl 2 rfl) ?_
    refine lv_iadd hx hb dX11_springSize_23 ?_
    obtain ⟨r5, hk4, hF⟩ := am_bind hF
    refine am_call X hh (va_runV (As := [.int ((26 : Int32) + x1)]) (rest := [.ref (gAd G 141)]) X.1 (c_X11_at l G hk4) (cwV 1 hts gX11_springSize_X11_at rfl rfl rfl (by decide +kernel) ⟨Nat.le_of_ble_eq_true rfl, Nat.le_of_ble_eq_true rfl⟩) (am_preV X hh 141 12 (by decide) rfl rfl) rfl rfl hl.1 rfl (lv_room (Nat.le_of_ble_eq_true rfl)) dX11_springSize_24 ⟨Nat.le_of_ble_eq_true rfl, Nat.le_of_ble_eq_true rfl⟩) (fun ab H locs hh => ?_)
    obtain ⟨⟨r7, w8⟩, hk6, hF⟩ := am_bind hF
    have hF := am_u2 hF
    refine am_call X hh (va_runV (As := [.int r5]) (rest := []) X.1 (c_X11_done l G hk6) (cwV 1 hts gX11_springSize_X11_done rfl rfl rfl (by decide +kernel) ⟨Nat.le_of_ble_eq_true rfl, Nat.le_of_ble_eq_true rfl⟩) (am_preV X hh 141 12 (by decide) rfl rfl) rfl rfl hl.1 rfl (lv_room (Nat.le_of_ble_eq_true rfl)) dX11_springSize_27 ⟨Nat.le_of_ble_eq_true rfl, Nat.le_of_ble_eq_true rfl⟩) (fun ab H locs hh => ?_)
    exact am_iret X hr hh (fun t ht => am_qw (mk := oI) hF ht) (Nat.le_of_ble_eq_true rfl) (Nat.le_of_ble_eq_true rfl) dX11_springSize_30
  · have hF := am_neg hc3 hF
    refine lv_aload_n hx hb dX11_springSize_10 rfl (lv_at hl 1 rfl) ?_
    refine lv_iload_n hx hb dX11_springSize_11 rfl (lv_at hl 0 rfl) ?_
    obtain ⟨⟨r11, w12⟩, hk10, hF⟩ := am_bind hF
    have hF := am_u2 hF
    refine am_call X hh (va_runV (As := [.int r2]) (rest := []) X.1 (c_X11_fails l G hk10) (cwV 1 hts gX11_springSize_X11_fails rfl rfl rfl (by decide +kernel) ⟨Nat.le_of_ble_eq_true rfl, Nat.le_of_ble_eq_true rfl⟩) (am_preV X hh 141 12 (by decide) rfl rfl) rfl rfl hl.1 rfl (lv_room (Nat.le_of_ble_eq_true rfl)) dX11_springSize_12 ⟨Nat.le_of_ble_eq_true rfl, Nat.le_of_ble_eq_true rfl⟩) (fun ab H locs hh => ?_)
    refine lv_goto (tgt := 30) hx hb dX11_springSize_15 (by decide) ?_
    exact am_iret X hr hh (fun t ht => am_qw (mk := oI) hF ht) (Nat.le_of_ble_eq_true rfl) (Nat.le_of_ble_eq_true rfl) dX11_springSize_30
set_option maxHeartbeats 4000000 in
set_option maxRecDepth 100000 in
theorem c_X11_springOf (l : Launch) (G : GG) {w : Wd} {x1 : Int32} {r0 : Int32} {w1 : Wd} (hF : f_X11_springOf w x1 = some (r0, w1)) : Met l yX11_springOf wsX11_springOf ({ frames := 4, cells := 0, slots := 0, locals := 88 } : Room) (va_Pc [.ref (gAd G 141), .int x1] (Rel G w)) (amQ G (oI r0) w1) 0 0 (gA G) := by
  refine am_met (own := RX11) (cc := cX11_springOf) (maxL := 3) (ret := (some .int)) (by decide +kernel) rfl rfl (Nat.le_of_ble_eq_true rfl) ?_
  intro p e s m args below meth c ab H locs ls X hr hh hl
  have hx := X.1.1; have hb := X.1.2.1; have hml := X.1.2.2.1; have hown := X.1.2.2.2.1; have hts := X.1.2.2.2.2
  have hl : lv_has ls 3 [(0, .ref (gAd G 141)), (1, .int x1)] := hl
  unfold f_X11_springOf at hF
  refine lv_aload_n hx hb dX11_springOf_0 rfl (lv_at hl 0 rfl) ?_
  refine lv_iload_n hx hb dX11_springOf_1 rfl (lv_at hl 1 rfl) ?_
  obtain ⟨r2, hk1, hF⟩ := am_bind hF
  refine am_call X hh (va_runV (As := [.int x1]) (rest := []) X.1 (c_X11_isGear l G hk1) (cwV 1 hts gX11_springOf_X11_isGear rfl rfl rfl (by decide +kernel) ⟨Nat.le_of_ble_eq_true rfl, Nat.le_of_ble_eq_true rfl⟩) (am_preV X hh 141 12 (by decide) rfl rfl) rfl rfl hl.1 rfl (lv_room (Nat.le_of_ble_eq_true rfl)) dX11_springOf_2 ⟨Nat.le_of_ble_eq_true rfl, Nat.le_of_ble_eq_true rfl⟩) (fun ab H locs hh => ?_)
  refine lv_if_ne (tgt := 14) hx hb dX11_springOf_5 (by decide) (fun hc3 => ?_) (fun hc3 => ?_)
  · have hF := am_neg hc3 hF
    refine lv_aload_n hx hb dX11_springOf_14 rfl (lv_at hl 0 rfl) ?_
    refine lv_iload_n hx hb dX11_springOf_15 rfl (lv_at hl 1 rfl) ?_
    obtain ⟨w6, hk4, hF⟩ := am_bind hF
    refine am_call X hh (va_runV (As := [.int x1]) (rest := []) X.1 (c_X11_turns l G hk4) (cwV 1 hts gX11_springOf_X11_turns rfl rfl rfl (by decide +kernel) ⟨Nat.le_of_ble_eq_true rfl, Nat.le_of_ble_eq_true rfl⟩) (am_preV X hh 141 12 (by decide) rfl rfl) rfl rfl hl.1 rfl (lv_room (Nat.le_of_ble_eq_true rfl)) dX11_springOf_16 ⟨Nat.le_of_ble_eq_true rfl, Nat.le_of_ble_eq_true rfl⟩) (fun ab H locs hh => ?_)
    refine lv_aload_n hx hb dX11_springOf_19 rfl (lv_at hl 0 rfl) ?_
    obtain ⟨r8, hk7, hF⟩ := am_bind hF
    refine am_call X hh (va_runV (As := []) (rest := []) X.1 (c_X11_springIn l G hk7) (cwV 0 hts gX11_springOf_X11_springIn rfl rfl rfl (by decide +kernel) ⟨Nat.le_of_ble_eq_true rfl, Nat.le_of_ble_eq_true rfl⟩) (am_preV X hh 141 12 (by decide) rfl rfl) rfl rfl hl.1 rfl (lv_room (Nat.le_of_ble_eq_true rfl)) dX11_springOf_20 ⟨Nat.le_of_ble_eq_true rfl, Nat.le_of_ble_eq_true rfl⟩) (fun ab H locs hh => ?_)
    refine lv_istore_n (lv' := [(2, .int r8), (0, .ref (gAd G 141)), (1, .int x1)]) hx hb dX11_springOf_23 rfl hl (by decide) rfl (fun ls hl => ?_)
    refine lv_iload_n hx hb dX11_springOf_24 rfl (lv_at hl 0 rfl) ?_
    refine lv_iconst (v := (-1 : Int32)) hx hb dX11_springOf_25 (by decide) ?_
    refine lv_icmp_ne (tgt := 37) hx hb dX11_springOf_26 (by decide) (fun hc9 => ?_) (fun hc9 => ?_)
    · have hF := am_neg hc9 hF
      refine lv_aload_n hx hb dX11_springOf_37 rfl (lv_at hl 1 rfl) ?_
      refine lv_iload_n hx hb dX11_springOf_38 rfl (lv_at hl 0 rfl) ?_
      obtain ⟨⟨r11, w12⟩, hk10, hF⟩ := am_bind hF
      have hF := am_u2 hF
      refine am_call X hh (va_runV (As := [.int r8]) (rest := []) X.1 (c_X11_done l G hk10) (cwV 1 hts gX11_springOf_X11_done rfl rfl rfl (by decide +kernel) ⟨Nat.le_of_ble_eq_true rfl, Nat.le_of_ble_eq_true rfl⟩) (am_preV X hh 141 12 (by decide) rfl rfl) rfl rfl hl.1 rfl (lv_room (Nat.le_of_ble_eq_true rfl)) dX11_springOf_39 ⟨Nat.le_of_ble_eq_true rfl, Nat.le_of_ble_eq_true rfl⟩) (fun ab H locs hh => ?_)
      exact am_iret X hr hh (fun t ht => am_qw (mk := oI) hF ht) (Nat.le_of_ble_eq_true rfl) (Nat.le_of_ble_eq_true rfl) dX11_springOf_42
    · have hF := am_pos hc9 hF
      refine lv_aload_n hx hb dX11_springOf_29 rfl (lv_at hl 1 rfl) ?_
      refine lv_iconst (v := (2 : Int32)) hx hb dX11_springOf_30 (by decide) ?_
      obtain ⟨⟨r15, w16⟩, hk14, hF⟩ := am_bind hF
      have hF := am_u2 hF
      refine am_call X hh (va_runV (As := [.int (2 : Int32)]) (rest := []) X.1 (c_X11_fails l G hk14) (cwV 1 hts gX11_springOf_X11_fails rfl rfl rfl (by decide +kernel) ⟨Nat.le_of_ble_eq_true rfl, Nat.le_of_ble_eq_true rfl⟩) (am_preV X hh 141 12 (by decide) rfl rfl) rfl rfl hl.1 rfl (lv_room (Nat.le_of_ble_eq_true rfl)) dX11_springOf_31 ⟨Nat.le_of_ble_eq_true rfl, Nat.le_of_ble_eq_true rfl⟩) (fun ab H locs hh => ?_)
      refine lv_goto (tgt := 42) hx hb dX11_springOf_34 (by decide) ?_
      exact am_iret X hr hh (fun t ht => am_qw (mk := oI) hF ht) (Nat.le_of_ble_eq_true rfl) (Nat.le_of_ble_eq_true rfl) dX11_springOf_42
  · have hF := am_pos hc3 hF
    refine lv_aload_n hx hb dX11_springOf_8 rfl (lv_at hl 0 rfl) ?_
    refine lv_iconst (v := (1 : Int32)) hx hb dX11_springOf_9 (by decide) ?_
    obtain ⟨⟨r19, w20⟩, hk18, hF⟩ := am_bind hF
    have hF := am_u2 hF
    refine am_call X hh (va_runV (As := [.int (1 : Int32)]) (rest := []) X.1 (c_X11_fails l G hk18) (cwV 1 hts gX11_springOf_X11_fails rfl rfl rfl (by decide +kernel) ⟨Nat.le_of_ble_eq_true rfl, Nat.le_of_ble_eq_true rfl⟩) (am_preV X hh 141 12 (by decide) rfl rfl) rfl rfl hl.1 rfl (lv_room (Nat.le_of_ble_eq_true rfl)) dX11_springOf_10 ⟨Nat.le_of_ble_eq_true rfl, Nat.le_of_ble_eq_true rfl⟩) (fun ab H locs hh => ?_)
    exact am_iret X hr hh (fun t ht => am_qw (mk := oI) hF ht) (Nat.le_of_ble_eq_true rfl) (Nat.le_of_ble_eq_true rfl) dX11_springOf_13
set_option maxHeartbeats 4000000 in
set_option maxRecDepth 100000 in
theorem c_X11_friction (l : Launch) (G : GG) {w : Wd} {x1 : Int32} {r0 : Int32} {w1 : Wd} (hF : f_X11_friction w x1 = some (r0, w1)) : Met l yX11_friction wsX11_friction ({ frames := 5, cells := 0, slots := 0, locals := 111 } : Room) (va_Pc [.ref (gAd G 141), .int x1] (Rel G w)) (amQ G (oI r0) w1) 0 0 (gA G) := by
  refine am_met (own := RX11) (cc := cX11_friction) (maxL := 2) (ret := (some .int)) (by decide +kernel) rfl rfl (Nat.le_of_ble_eq_true rfl) ?_
  intro p e s m args below meth c ab H locs ls X hr hh hl
  have hx := X.1.1; have hb := X.1.2.1; have hml := X.1.2.2.1; have hown := X.1.2.2.2.1; have hts := X.1.2.2.2.2
  have hl : lv_has ls 2 [(0, .ref (gAd G 141)), (1, .int x1)] := hl
  unfold f_X11_friction at hF
  refine lv_aload_n hx hb dX11_friction_0 rfl (lv_at hl 0 rfl) ?_
  refine lv_iload_n hx hb dX11_friction_1 rfl (lv_at hl 1 rfl) ?_
  obtain ⟨r2, hk1, hF⟩ := am_bind hF
  refine am_call X hh (va_runV (As := [.int x1]) (rest := []) X.1 (c_X11_isGear l G hk1) (cwV 1 hts gX11_friction_X11_isGear rfl rfl rfl (by decide +kernel) ⟨Nat.le_of_ble_eq_true rfl, Nat.le_of_ble_eq_true rfl⟩) (am_preV X hh 141 12 (by decide) rfl rfl) rfl rfl hl.1 rfl (lv_room (Nat.le_of_ble_eq_true rfl)) dX11_friction_2 ⟨Nat.le_of_ble_eq_true rfl, Nat.le_of_ble_eq_true rfl⟩) (fun ab H locs hh => ?_)
  refine lv_if_eq (tgt := 20) hx hb dX11_friction_5 (by decide) (fun hc3 => ?_) (fun hc3 => ?_)
  · have hF := am_pos hc3 hF
    refine lv_aload_n hx hb dX11_friction_20 rfl (lv_at hl 0 rfl) ?_
    refine lv_iconst (v := (1 : Int32)) hx hb dX11_friction_21 (by decide) ?_
    obtain ⟨⟨r5, w6⟩, hk4, hF⟩ := am_bind hF
    have hF := am_u2 hF
    refine am_call X hh (va_runV (As := [.int (1 : Int32)]) (rest := []) X.1 (c_X11_fails l G hk4) (cwV 1 hts gX11_friction_X11_fails rfl rfl rfl (by decide +kernel) ⟨Nat.le_of_ble_eq_true rfl, Nat.le_of_ble_eq_true rfl⟩) (am_preV X hh 141 12 (by decide) rfl rfl) rfl rfl hl.1 rfl (lv_room (Nat.le_of_ble_eq_true rfl)) dX11_friction_22 ⟨Nat.le_of_ble_eq_true rfl, Nat.le_of_ble_eq_true rfl⟩) (fun ab H locs hh => ?_)
    exact am_iret X hr hh (fun t ht => am_qw (mk := oI) hF ht) (Nat.le_of_ble_eq_true rfl) (Nat.le_of_ble_eq_true rfl) dX11_friction_25
  · have hF := am_neg hc3 hF
    refine lv_aload_n hx hb dX11_friction_8 rfl (lv_at hl 0 rfl) ?_
    refine lv_aload_n hx hb dX11_friction_9 rfl (lv_at hl 0 rfl) ?_
    refine lv_iload_n hx hb dX11_friction_10 rfl (lv_at hl 1 rfl) ?_
    obtain ⟨⟨r9, w10⟩, hk8, hF⟩ := am_bind hF
    have hF := am_u2 hF
    refine am_call X hh (va_runV (As := [.int x1]) (rest := [.ref (gAd G 141)]) X.1 (c_X11_rubs l G hk8) (cwV 1 hts gX11_friction_X11_rubs rfl rfl rfl (by decide +kernel) ⟨Nat.le_of_ble_eq_true rfl, Nat.le_of_ble_eq_true rfl⟩) (am_preV X hh 141 12 (by decide) rfl rfl) rfl rfl hl.1 rfl (lv_room (Nat.le_of_ble_eq_true rfl)) dX11_friction_11 ⟨Nat.le_of_ble_eq_true rfl, Nat.le_of_ble_eq_true rfl⟩) (fun ab H locs hh => ?_)
    obtain ⟨⟨r13, w14⟩, hk12, hF⟩ := am_bind hF
    have hF := am_u2 hF
    refine am_call X hh (va_runV (As := [.int r9]) (rest := []) X.1 (c_X11_done l G hk12) (cwV 1 hts gX11_friction_X11_done rfl rfl rfl (by decide +kernel) ⟨Nat.le_of_ble_eq_true rfl, Nat.le_of_ble_eq_true rfl⟩) (am_preV X hh 141 12 (by decide) rfl rfl) rfl rfl hl.1 rfl (lv_room (Nat.le_of_ble_eq_true rfl)) dX11_friction_14 ⟨Nat.le_of_ble_eq_true rfl, Nat.le_of_ble_eq_true rfl⟩) (fun ab H locs hh => ?_)
    refine lv_goto (tgt := 25) hx hb dX11_friction_17 (by decide) ?_
    exact am_iret X hr hh (fun t ht => am_qw (mk := oI) hF ht) (Nat.le_of_ble_eq_true rfl) (Nat.le_of_ble_eq_true rfl) dX11_friction_25
set_option maxHeartbeats 4000000 in
set_option maxRecDepth 100000 in
theorem c_X11_turnsLeft (l : Launch) (G : GG) {w : Wd} {x1 : Int32} {r0 : Int32} {w1 : Wd} (hF : f_X11_turnsLeft w x1 = some (r0, w1)) : Met l yX11_turnsLeft wsX11_turnsLeft ({ frames := 5, cells := 0, slots := 0, locals := 111 } : Room) (va_Pc [.ref (gAd G 141), .int x1] (Rel G w)) (amQ G (oI r0) w1) 0 0 (gA G) := by
  refine am_met (own := RX11) (cc := cX11_turnsLeft) (maxL := 3) (ret := (some .int)) (by decide +kernel) rfl rfl (Nat.le_of_ble_eq_true rfl) ?_
  intro p e s m args below meth c ab H locs ls X hr hh hl
  have hx := X.1.1; have hb := X.1.2.1; have hml := X.1.2.2.1; have hown := X.1.2.2.2.1; have hts := X.1.2.2.2.2
  have hl : lv_has ls 3 [(0, .ref (gAd G 141)), (1, .int x1)] := hl
  unfold f_X11_turnsLeft at hF
  refine lv_aload_n hx hb dX11_turnsLeft_0 rfl (lv_at hl 0 rfl) ?_
  refine lv_iload_n hx hb dX11_turnsLeft_1 rfl (lv_at hl 1 rfl) ?_
  obtain ⟨r2, hk1, hF⟩ := am_bind hF
  refine am_call X hh (va_runV (As := [.int x1]) (rest := []) X.1 (c_X11_whyNoSpring l G hk1) (cwV 1 hts gX11_turnsLeft_X11_whyNoSpring rfl rfl rfl (by decide +kernel) ⟨Nat.le_of_ble_eq_true rfl, Nat.le_of_ble_eq_true rfl⟩) (am_preV X hh 141 12 (by decide) rfl rfl) rfl rfl hl.1 rfl (lv_room (Nat.le_of_ble_eq_true rfl)) dX11_turnsLeft_2 ⟨Nat.le_of_ble_eq_true rfl, Nat.le_of_ble_eq_true rfl⟩) (fun ab H locs hh => ?_)
  refine lv_istore_n (lv' := [(2, .int r2), (0, .ref (gAd G 141)), (1, .int x1)]) hx hb dX11_turnsLeft_5 rfl hl (by decide) rfl (fun ls hl => ?_)
  refine lv_iload_n hx hb dX11_turnsLeft_6 rfl (lv_at hl 0 rfl) ?_
  refine lv_if_le (tgt := 18) hx hb dX11_turnsLeft_7 (by decide) (fun hc3 => ?_) (fun hc3 => ?_)
  · have hF := am_pos hc3 hF
    refine lv_aload_n hx hb dX11_turnsLeft_18 rfl (lv_at hl 1 rfl) ?_
    refine lv_aload_n hx hb dX11_turnsLeft_19 rfl (lv_at hl 1 rfl) ?_
    refine lv_bipush (v := (36 : Int32)) hx hb dX11_turnsLeft_20 (by decide) ?_
    refine lv_iload_n hx hb dX11_turnsLeft_22 rfl (lv_at hl 2 rfl) ?_
    refine lv_iadd hx hb dX11_turnsLeft_23 ?_
    obtain ⟨r5, hk4, hF⟩ := am_bind hF
    refine am_call X hh (va_runV (As := [.int ((36 : Int32) + x1)]) (rest := [.ref (gAd G 141)]) X.1 (c_X11_at l G hk4) (cwV 1 hts gX11_turnsLeft_X11_at rfl rfl rfl (by decide +kernel) ⟨Nat.le_of_ble_eq_true rfl, Nat.le_of_ble_eq_true rfl⟩) (am_preV X hh 141 12 (by decide) rfl rfl) rfl rfl hl.1 rfl (lv_room (Nat.le_of_ble_eq_true rfl)) dX11_turnsLeft_24 ⟨Nat.le_of_ble_eq_true rfl, Nat.le_of_ble_eq_true rfl⟩) (fun ab H locs hh => ?_)
    refine lv_aload_n hx hb dX11_turnsLeft_27 rfl (lv_at hl 1 rfl) ?_
    refine lv_iload_n hx hb dX11_turnsLeft_28 rfl (lv_at hl 2 rfl) ?_
    obtain ⟨⟨r7, w8⟩, hk6, hF⟩ := am_bind hF
    have hF := am_u2 hF
    refine am_call X hh (va_runV (As := [.int x1]) (rest := [.int r5, .ref (gAd G 141)]) X.1 (c_X11_rubs l G hk6) (cwV 1 hts gX11_turnsLeft_X11_rubs rfl rfl rfl (by decide +kernel) ⟨Nat.le_of_ble_eq_true rfl, Nat.le_of_ble_eq_true rfl⟩) (am_preV X hh 141 12 (by decide) rfl rfl) rfl rfl hl.1 rfl (lv_room (Nat.le_of_ble_eq_true rfl)) dX11_turnsLeft_29 ⟨Nat.le_of_ble_eq_true rfl, Nat.le_of_ble_eq_true rfl⟩) (fun ab H locs hh => ?_)
    obtain ⟨hq10, hF⟩ := am_if hF
    refine lv_idiv hx hb dX11_turnsLeft_32 hq10 ?_
    obtain ⟨⟨r12, w13⟩, hk11, hF⟩ := am_bind hF
    have hF := am_u2 hF
    refine am_call X hh (va_runV (As := [.int (r5 / r7)]) (rest := []) X.1 (c_X11_done l G hk11) (cwV 1 hts gX11_turnsLeft_X11_done rfl rfl rfl (by decide +kernel) ⟨Nat.le_of_ble_eq_true rfl, Nat.le_of_ble_eq_true rfl⟩) (am_preV X hh 141 12 (by decide) rfl rfl) rfl rfl hl.1 rfl (lv_room (Nat.le_of_ble_eq_true rfl)) dX11_turnsLeft_33 ⟨Nat.le_of_ble_eq_true rfl, Nat.le_of_ble_eq_true rfl⟩) (fun ab H locs hh => ?_)
    exact am_iret X hr hh (fun t ht => am_qw (mk := oI) hF ht) (Nat.le_of_ble_eq_true rfl) (Nat.le_of_ble_eq_true rfl) dX11_turnsLeft_36
  · have hF := am_neg hc3 hF
    refine lv_aload_n hx hb dX11_turnsLeft_10 rfl (lv_at hl 1 rfl) ?_
    refine lv_iload_n hx hb dX11_turnsLeft_11 rfl (lv_at hl 0 rfl) ?_
    obtain ⟨⟨r16, w17⟩, hk15, hF⟩ := am_bind hF
    have hF := am_u2 hF
    refine am_call X hh (va_runV (As := [.int r2]) (rest := []) X.1 (c_X11_fails l G hk15) (cwV 1 hts gX11_turnsLeft_X11_fails rfl rfl rfl (by decide +kernel) ⟨Nat.le_of_ble_eq_true rfl, Nat.le_of_ble_eq_true rfl⟩) (am_preV X hh 141 12 (by decide) rfl rfl) rfl rfl hl.1 rfl (lv_room (Nat.le_of_ble_eq_true rfl)) dX11_turnsLeft_12 ⟨Nat.le_of_ble_eq_true rfl, Nat.le_of_ble_eq_true rfl⟩) (fun ab H locs hh => ?_)
    refine lv_goto (tgt := 36) hx hb dX11_turnsLeft_15 (by decide) ?_
    exact am_iret X hr hh (fun t ht => am_qw (mk := oI) hF ht) (Nat.le_of_ble_eq_true rfl) (Nat.le_of_ble_eq_true rfl) dX11_turnsLeft_36
set_option maxHeartbeats 4000000 in
set_option maxRecDepth 100000 in
theorem c_X11_canRelease (l : Launch) (G : GG) {w : Wd} {x1 : Int32} {r0 : Int32} {w1 : Wd} (hF : f_X11_canRelease w x1 = some (r0, w1)) : Met l yX11_canRelease wsX11_canRelease ({ frames := 4, cells := 0, slots := 0, locals := 88 } : Room) (va_Pc [.ref (gAd G 141), .int x1] (Rel G w)) (amQ G (oI r0) w1) 0 0 (gA G) := by
  refine am_met (own := RX11) (cc := cX11_canRelease) (maxL := 2) (ret := (some .boolean)) (by decide +kernel) rfl rfl (Nat.le_of_ble_eq_true rfl) ?_
  intro p e s m args below meth c ab H locs ls X hr hh hl
  have hx := X.1.1; have hb := X.1.2.1; have hml := X.1.2.2.1; have hown := X.1.2.2.2.1; have hts := X.1.2.2.2.2
  have hl : lv_has ls 2 [(0, .ref (gAd G 141)), (1, .int x1)] := hl
  have hwRX11 : ∀ z ∈ u_ws RX11 TX11 18, z ∈ wsX11_canRelease := by decide +kernel
  unfold f_X11_canRelease at hF
  refine lv_aload_n hx hb dX11_canRelease_0 rfl (lv_at hl 0 rfl) ?_
  refine lv_aload_n hx hb dX11_canRelease_1 rfl (lv_at hl 0 rfl) ?_
  refine lv_iload_n hx hb dX11_canRelease_2 rfl (lv_at hl 1 rfl) ?_
  obtain ⟨r2, hk1, hF⟩ := am_bind hF
  refine am_call X hh (va_runV (As := [.int x1]) (rest := [.ref (gAd G 141)]) X.1 (c_X11_isGear l G hk1) (cwV 1 hts gX11_canRelease_X11_isGear rfl rfl rfl (by decide +kernel) ⟨Nat.le_of_ble_eq_true rfl, Nat.le_of_ble_eq_true rfl⟩) (am_preV X hh 141 12 (by decide) rfl rfl) rfl rfl hl.1 rfl (lv_room (Nat.le_of_ble_eq_true rfl)) dX11_canRelease_3 ⟨Nat.le_of_ble_eq_true rfl, Nat.le_of_ble_eq_true rfl⟩) (fun ab H locs hh => ?_)
  refine lv_if_eq (tgt := 13) hx hb dX11_canRelease_6 (by decide) (fun hc3 => ?_) (fun hc3 => ?_)
  · have hF := am_pos hc3 hF
    refine lv_iconst (v := (1 : Int32)) hx hb dX11_canRelease_13 (by decide) ?_
    refine am_putI X hh 141 12 12 (by decide) rfl rfl (by decide) hwRX11 tyX11 tyX11_ok nmX11 (show Cond.fieldLink RX11 49 "PlanetWorkshopModel" "thrown" "I" ∈ wsX11_canRelease by decide +kernel) rfl rfl rfl rfl dX11_canRelease_14 (fun H locs hh => ?_)
    obtain ⟨w4, hw4, hF⟩ := am_wl hF
    have hh := AH_eq hw4 hh
    refine lv_aload_n hx hb dX11_canRelease_17 rfl (lv_at hl 0 rfl) ?_
    refine am_getI X hh 141 12 12 (by decide) rfl rfl (by decide) hwRX11 (show Cond.fieldLink RX11 49 "PlanetWorkshopModel" "thrown" "I" ∈ wsX11_canRelease by decide +kernel) rfl dX11_canRelease_18 ?_
    refine lv_if_gt (tgt := 32) hx hb dX11_canRelease_21 (by decide) (fun hc5 => ?_) (fun hc5 => ?_)
    · have hF := am_pos hc5 hF
      refine lv_iconst (v := (0 : Int32)) hx hb dX11_canRelease_32 (by decide) ?_
      exact am_zret (v' := (0 : Int32)) X hr rfl hh (fun t ht => am_qw (mk := oI) hF ht) (Nat.le_of_ble_eq_true rfl) (Nat.le_of_ble_eq_true rfl) dX11_canRelease_33
    · have hF := am_neg hc5 hF
      refine lv_aload_n hx hb dX11_canRelease_24 rfl (lv_at hl 0 rfl) ?_
      refine lv_iload_n hx hb dX11_canRelease_25 rfl (lv_at hl 1 rfl) ?_
      obtain ⟨r7, hk6, hF⟩ := am_bind hF
      refine am_call X hh (va_runV (As := [.int x1]) (rest := []) X.1 (c_X11_hasSpring l G hk6) (cwV 1 hts gX11_canRelease_X11_hasSpring rfl rfl rfl (by decide +kernel) ⟨Nat.le_of_ble_eq_true rfl, Nat.le_of_ble_eq_true rfl⟩) (am_preV X hh 141 12 (by decide) rfl rfl) rfl rfl hl.1 rfl (lv_room (Nat.le_of_ble_eq_true rfl)) dX11_canRelease_26 ⟨Nat.le_of_ble_eq_true rfl, Nat.le_of_ble_eq_true rfl⟩) (fun ab H locs hh => ?_)
      refine lv_if_ne (tgt := 34) hx hb dX11_canRelease_29 (by decide) (fun hc8 => ?_) (fun hc8 => ?_)
      · have hF := am_neg hc8 hF
        refine lv_aload_n hx hb dX11_canRelease_34 rfl (lv_at hl 0 rfl) ?_
        refine lv_iload_n hx hb dX11_canRelease_35 rfl (lv_at hl 1 rfl) ?_
        obtain ⟨w11, hk9, hF⟩ := am_bind hF
        refine am_call X hh (va_runV (As := [.int x1]) (rest := []) X.1 (c_X11_turns l G hk9) (cwV 1 hts gX11_canRelease_X11_turns rfl rfl rfl (by decide +kernel) ⟨Nat.le_of_ble_eq_true rfl, Nat.le_of_ble_eq_true rfl⟩) (am_preV X hh 141 12 (by decide) rfl rfl) rfl rfl hl.1 rfl (lv_room (Nat.le_of_ble_eq_true rfl)) dX11_canRelease_36 ⟨Nat.le_of_ble_eq_true rfl, Nat.le_of_ble_eq_true rfl⟩) (fun ab H locs hh => ?_)
        refine lv_aload_n hx hb dX11_canRelease_39 rfl (lv_at hl 0 rfl) ?_
        refine lv_iload_n hx hb dX11_canRelease_40 rfl (lv_at hl 1 rfl) ?_
        obtain ⟨r13, hk12, hF⟩ := am_bind hF
        refine am_call X hh (va_runV (As := [.int x1]) (rest := []) X.1 (c_X11_isHindered l G hk12) (cwV 1 hts gX11_canRelease_X11_isHindered rfl rfl rfl (by decide +kernel) ⟨Nat.le_of_ble_eq_true rfl, Nat.le_of_ble_eq_true rfl⟩) (am_preV X hh 141 12 (by decide) rfl rfl) rfl rfl hl.1 rfl (lv_room (Nat.le_of_ble_eq_true rfl)) dX11_canRelease_41 ⟨Nat.le_of_ble_eq_true rfl, Nat.le_of_ble_eq_true rfl⟩) (fun ab H locs hh => ?_)
        refine lv_if_ne (tgt := 51) hx hb dX11_canRelease_44 (by decide) (fun hc14 => ?_) (fun hc14 => ?_)
        · have hF := am_neg hc14 hF
          refine lv_iconst (v := (0 : Int32)) hx hb dX11_canRelease_51 (by decide) ?_
          exact am_zret (v' := (0 : Int32)) X hr rfl hh (fun t ht => am_qw (mk := oI) hF ht) (Nat.le_of_ble_eq_true rfl) (Nat.le_of_ble_eq_true rfl) dX11_canRelease_52
        · have hF := am_pos hc14 hF
          refine lv_iconst (v := (1 : Int32)) hx hb dX11_canRelease_47 (by decide) ?_
          refine lv_goto (tgt := 52) hx hb dX11_canRelease_48 (by decide) ?_
          exact am_zret (v' := (1 : Int32)) X hr rfl hh (fun t ht => am_qw (mk := oI) hF ht) (Nat.le_of_ble_eq_true rfl) (Nat.le_of_ble_eq_true rfl) dX11_canRelease_52
      · have hF := am_pos hc8 hF
        refine lv_iconst (v := (0 : Int32)) hx hb dX11_canRelease_32 (by decide) ?_
        exact am_zret (v' := (0 : Int32)) X hr rfl hh (fun t ht => am_qw (mk := oI) hF ht) (Nat.le_of_ble_eq_true rfl) (Nat.le_of_ble_eq_true rfl) dX11_canRelease_33
  · have hF := am_neg hc3 hF
    refine lv_iconst (v := (0 : Int32)) hx hb dX11_canRelease_9 (by decide) ?_
    refine lv_goto (tgt := 14) hx hb dX11_canRelease_10 (by decide) ?_
    refine am_putI X hh 141 12 12 (by decide) rfl rfl (by decide) hwRX11 tyX11 tyX11_ok nmX11 (show Cond.fieldLink RX11 49 "PlanetWorkshopModel" "thrown" "I" ∈ wsX11_canRelease by decide +kernel) rfl rfl rfl rfl dX11_canRelease_14 (fun H locs hh => ?_)
    obtain ⟨w15, hw15, hF⟩ := am_wl hF
    have hh := AH_eq hw15 hh
    refine lv_aload_n hx hb dX11_canRelease_17 rfl (lv_at hl 0 rfl) ?_
    refine am_getI X hh 141 12 12 (by decide) rfl rfl (by decide) hwRX11 (show Cond.fieldLink RX11 49 "PlanetWorkshopModel" "thrown" "I" ∈ wsX11_canRelease by decide +kernel) rfl dX11_canRelease_18 ?_
    refine lv_if_gt (tgt := 32) hx hb dX11_canRelease_21 (by decide) (fun hc16 => ?_) (fun hc16 => ?_)
    · have hF := am_pos hc16 hF
      refine lv_iconst (v := (0 : Int32)) hx hb dX11_canRelease_32 (by decide) ?_
      exact am_zret (v' := (0 : Int32)) X hr rfl hh (fun t ht => am_qw (mk := oI) hF ht) (Nat.le_of_ble_eq_true rfl) (Nat.le_of_ble_eq_true rfl) dX11_canRelease_33
    · have hF := am_neg hc16 hF
      refine lv_aload_n hx hb dX11_canRelease_24 rfl (lv_at hl 0 rfl) ?_
      refine lv_iload_n hx hb dX11_canRelease_25 rfl (lv_at hl 1 rfl) ?_
      obtain ⟨r18, hk17, hF⟩ := am_bind hF
      refine am_call X hh (va_runV (As := [.int x1]) (rest := []) X.1 (c_X11_hasSpring l G hk17) (cwV 1 hts gX11_canRelease_X11_hasSpring rfl rfl rfl (by decide +kernel) ⟨Nat.le_of_ble_eq_true rfl, Nat.le_of_ble_eq_true rfl⟩) (am_preV X hh 141 12 (by decide) rfl rfl) rfl rfl hl.1 rfl (lv_room (Nat.le_of_ble_eq_true rfl)) dX11_canRelease_26 ⟨Nat.le_of_ble_eq_true rfl, Nat.le_of_ble_eq_true rfl⟩) (fun ab H locs hh => ?_)
      refine lv_if_ne (tgt := 34) hx hb dX11_canRelease_29 (by decide) (fun hc19 => ?_) (fun hc19 => ?_)
      · have hF := am_neg hc19 hF
        refine lv_aload_n hx hb dX11_canRelease_34 rfl (lv_at hl 0 rfl) ?_
        refine lv_iload_n hx hb dX11_canRelease_35 rfl (lv_at hl 1 rfl) ?_
        obtain ⟨w22, hk20, hF⟩ := am_bind hF
        refine am_call X hh (va_runV (As := [.int x1]) (rest := []) X.1 (c_X11_turns l G hk20) (cwV 1 hts gX11_canRelease_X11_turns rfl rfl rfl (by decide +kernel) ⟨Nat.le_of_ble_eq_true rfl, Nat.le_of_ble_eq_true rfl⟩) (am_preV X hh 141 12 (by decide) rfl rfl) rfl rfl hl.1 rfl (lv_room (Nat.le_of_ble_eq_true rfl)) dX11_canRelease_36 ⟨Nat.le_of_ble_eq_true rfl, Nat.le_of_ble_eq_true rfl⟩) (fun ab H locs hh => ?_)
        refine lv_aload_n hx hb dX11_canRelease_39 rfl (lv_at hl 0 rfl) ?_
        refine lv_iload_n hx hb dX11_canRelease_40 rfl (lv_at hl 1 rfl) ?_
        obtain ⟨r24, hk23, hF⟩ := am_bind hF
        refine am_call X hh (va_runV (As := [.int x1]) (rest := []) X.1 (c_X11_isHindered l G hk23) (cwV 1 hts gX11_canRelease_X11_isHindered rfl rfl rfl (by decide +kernel) ⟨Nat.le_of_ble_eq_true rfl, Nat.le_of_ble_eq_true rfl⟩) (am_preV X hh 141 12 (by decide) rfl rfl) rfl rfl hl.1 rfl (lv_room (Nat.le_of_ble_eq_true rfl)) dX11_canRelease_41 ⟨Nat.le_of_ble_eq_true rfl, Nat.le_of_ble_eq_true rfl⟩) (fun ab H locs hh => ?_)
        refine lv_if_ne (tgt := 51) hx hb dX11_canRelease_44 (by decide) (fun hc25 => ?_) (fun hc25 => ?_)
        · have hF := am_neg hc25 hF
          refine lv_iconst (v := (0 : Int32)) hx hb dX11_canRelease_51 (by decide) ?_
          exact am_zret (v' := (0 : Int32)) X hr rfl hh (fun t ht => am_qw (mk := oI) hF ht) (Nat.le_of_ble_eq_true rfl) (Nat.le_of_ble_eq_true rfl) dX11_canRelease_52
        · have hF := am_pos hc25 hF
          refine lv_iconst (v := (1 : Int32)) hx hb dX11_canRelease_47 (by decide) ?_
          refine lv_goto (tgt := 52) hx hb dX11_canRelease_48 (by decide) ?_
          exact am_zret (v' := (1 : Int32)) X hr rfl hh (fun t ht => am_qw (mk := oI) hF ht) (Nat.le_of_ble_eq_true rfl) (Nat.le_of_ble_eq_true rfl) dX11_canRelease_52
      · have hF := am_pos hc19 hF
        refine lv_iconst (v := (0 : Int32)) hx hb dX11_canRelease_32 (by decide) ?_
        exact am_zret (v' := (0 : Int32)) X hr rfl hh (fun t ht => am_qw (mk := oI) hF ht) (Nat.le_of_ble_eq_true rfl) (Nat.le_of_ble_eq_true rfl) dX11_canRelease_33
set_option maxHeartbeats 4000000 in
set_option maxRecDepth 100000 in
theorem c_X11_hasRatchet (l : Launch) (G : GG) {w : Wd} {x1 : Int32} {r0 : Int32} {w1 : Wd} (hF : f_X11_hasRatchet w x1 = some (r0, w1)) : Met l yX11_hasRatchet wsX11_hasRatchet ({ frames := 2, cells := 0, slots := 0, locals := 43 } : Room) (va_Pc [.ref (gAd G 141), .int x1] (Rel G w)) (amQ G (oI r0) w1) 0 0 (gA G) := by
  refine am_met (own := RX11) (cc := cX11_hasRatchet) (maxL := 2) (ret := (some .boolean)) (by decide +kernel) rfl rfl (Nat.le_of_ble_eq_true rfl) ?_
  intro p e s m args below meth c ab H locs ls X hr hh hl
  have hx := X.1.1; have hb := X.1.2.1; have hml := X.1.2.2.1; have hown := X.1.2.2.2.1; have hts := X.1.2.2.2.2
  have hl : lv_has ls 2 [(0, .ref (gAd G 141)), (1, .int x1)] := hl
  have hwRX11 : ∀ z ∈ u_ws RX11 TX11 18, z ∈ wsX11_hasRatchet := by decide +kernel
  unfold f_X11_hasRatchet at hF
  refine lv_aload_n hx hb dX11_hasRatchet_0 rfl (lv_at hl 0 rfl) ?_
  refine lv_aload_n hx hb dX11_hasRatchet_1 rfl (lv_at hl 0 rfl) ?_
  refine lv_iload_n hx hb dX11_hasRatchet_2 rfl (lv_at hl 1 rfl) ?_
  obtain ⟨r2, hk1, hF⟩ := am_bind hF
  refine am_call X hh (va_runV (As := [.int x1]) (rest := [.ref (gAd G 141)]) X.1 (c_X11_isGear l G hk1) (cwV 1 hts gX11_hasRatchet_X11_isGear rfl rfl rfl (by decide +kernel) ⟨Nat.le_of_ble_eq_true rfl, Nat.le_of_ble_eq_true rfl⟩) (am_preV X hh 141 12 (by decide) rfl rfl) rfl rfl hl.1 rfl (lv_room (Nat.le_of_ble_eq_true rfl)) dX11_hasRatchet_3 ⟨Nat.le_of_ble_eq_true rfl, Nat.le_of_ble_eq_true rfl⟩) (fun ab H locs hh => ?_)
  refine lv_if_eq (tgt := 13) hx hb dX11_hasRatchet_6 (by decide) (fun hc3 => ?_) (fun hc3 => ?_)
  · have hF := am_pos hc3 hF
    refine lv_iconst (v := (1 : Int32)) hx hb dX11_hasRatchet_13 (by decide) ?_
    refine am_putI X hh 141 12 12 (by decide) rfl rfl (by decide) hwRX11 tyX11 tyX11_ok nmX11 (show Cond.fieldLink RX11 49 "PlanetWorkshopModel" "thrown" "I" ∈ wsX11_hasRatchet by decide +kernel) rfl rfl rfl rfl dX11_hasRatchet_14 (fun H locs hh => ?_)
    obtain ⟨w4, hw4, hF⟩ := am_wl hF
    have hh := AH_eq hw4 hh
    refine lv_aload_n hx hb dX11_hasRatchet_17 rfl (lv_at hl 0 rfl) ?_
    refine am_getI X hh 141 12 12 (by decide) rfl rfl (by decide) hwRX11 (show Cond.fieldLink RX11 49 "PlanetWorkshopModel" "thrown" "I" ∈ wsX11_hasRatchet by decide +kernel) rfl dX11_hasRatchet_18 ?_
    refine lv_if_ne (tgt := 42) hx hb dX11_hasRatchet_21 (by decide) (fun hc5 => ?_) (fun hc5 => ?_)
    · have hF := am_neg hc5 hF
      refine lv_iconst (v := (0 : Int32)) hx hb dX11_hasRatchet_42 (by decide) ?_
      exact am_zret (v' := (0 : Int32)) X hr rfl hh (fun t ht => am_qw (mk := oI) hF ht) (Nat.le_of_ble_eq_true rfl) (Nat.le_of_ble_eq_true rfl) dX11_hasRatchet_43
    · have hF := am_pos hc5 hF
      refine lv_aload_n hx hb dX11_hasRatchet_24 rfl (lv_at hl 0 rfl) ?_
      refine am_getR X hh 141 12 0 142 (by decide) rfl rfl (by decide) hwRX11 (show Cond.fieldLink RX11 7 "PlanetWorkshopModel" "g" "[J" ∈ wsX11_hasRatchet by decide +kernel) rfl dX11_hasRatchet_25 ?_
      refine lv_bipush (v := (56 : Int32)) hx hb dX11_hasRatchet_28 (by decide) ?_
      refine lv_iload_n hx hb dX11_hasRatchet_30 rfl (lv_at hl 1 rfl) ?_
      refine lv_iadd hx hb dX11_hasRatchet_31 ?_
      obtain ⟨hq6, hF⟩ := am_ifR hF
      refine am_lald X hh 142 (by decide) rfl hq6 dX11_hasRatchet_32 ?_
      refine lv_lconst (v := (1 : Int64)) hx hb dX11_hasRatchet_33 (by decide) ?_
      refine am_lcmp_ne (tgt := 42) hx hb dX11_hasRatchet_34 dX11_hasRatchet_35 (by decide) (fun hc7 => ?_) (fun hc7 => ?_)
      · have hF := am_neg hc7 hF
        refine lv_iconst (v := (0 : Int32)) hx hb dX11_hasRatchet_42 (by decide) ?_
        exact am_zret (v' := (0 : Int32)) X hr rfl hh (fun t ht => am_qw (mk := oI) hF ht) (Nat.le_of_ble_eq_true rfl) (Nat.le_of_ble_eq_true rfl) dX11_hasRatchet_43
      · have hF := am_pos hc7 hF
        refine lv_iconst (v := (1 : Int32)) hx hb dX11_hasRatchet_38 (by decide) ?_
        refine lv_goto (tgt := 43) hx hb dX11_hasRatchet_39 (by decide) ?_
        exact am_zret (v' := (1 : Int32)) X hr rfl hh (fun t ht => am_qw (mk := oI) hF ht) (Nat.le_of_ble_eq_true rfl) (Nat.le_of_ble_eq_true rfl) dX11_hasRatchet_43
  · have hF := am_neg hc3 hF
    refine lv_iconst (v := (0 : Int32)) hx hb dX11_hasRatchet_9 (by decide) ?_
    refine lv_goto (tgt := 14) hx hb dX11_hasRatchet_10 (by decide) ?_
    refine am_putI X hh 141 12 12 (by decide) rfl rfl (by decide) hwRX11 tyX11 tyX11_ok nmX11 (show Cond.fieldLink RX11 49 "PlanetWorkshopModel" "thrown" "I" ∈ wsX11_hasRatchet by decide +kernel) rfl rfl rfl rfl dX11_hasRatchet_14 (fun H locs hh => ?_)
    obtain ⟨w8, hw8, hF⟩ := am_wl hF
    have hh := AH_eq hw8 hh
    refine lv_aload_n hx hb dX11_hasRatchet_17 rfl (lv_at hl 0 rfl) ?_
    refine am_getI X hh 141 12 12 (by decide) rfl rfl (by decide) hwRX11 (show Cond.fieldLink RX11 49 "PlanetWorkshopModel" "thrown" "I" ∈ wsX11_hasRatchet by decide +kernel) rfl dX11_hasRatchet_18 ?_
    refine lv_if_ne (tgt := 42) hx hb dX11_hasRatchet_21 (by decide) (fun hc9 => ?_) (fun hc9 => ?_)
    · have hF := am_neg hc9 hF
      refine lv_iconst (v := (0 : Int32)) hx hb dX11_hasRatchet_42 (by decide) ?_
      exact am_zret (v' := (0 : Int32)) X hr rfl hh (fun t ht => am_qw (mk := oI) hF ht) (Nat.le_of_ble_eq_true rfl) (Nat.le_of_ble_eq_true rfl) dX11_hasRatchet_43
    · have hF := am_pos hc9 hF
      refine lv_aload_n hx hb dX11_hasRatchet_24 rfl (lv_at hl 0 rfl) ?_
      refine am_getR X hh 141 12 0 142 (by decide) rfl rfl (by decide) hwRX11 (show Cond.fieldLink RX11 7 "PlanetWorkshopModel" "g" "[J" ∈ wsX11_hasRatchet by decide +kernel) rfl dX11_hasRatchet_25 ?_
      refine lv_bipush (v := (56 : Int32)) hx hb dX11_hasRatchet_28 (by decide) ?_
      refine lv_iload_n hx hb dX11_hasRatchet_30 rfl (lv_at hl 1 rfl) ?_
      refine lv_iadd hx hb dX11_hasRatchet_31 ?_
      obtain ⟨hq10, hF⟩ := am_ifR hF
      refine am_lald X hh 142 (by decide) rfl hq10 dX11_hasRatchet_32 ?_
      refine lv_lconst (v := (1 : Int64)) hx hb dX11_hasRatchet_33 (by decide) ?_
      refine am_lcmp_ne (tgt := 42) hx hb dX11_hasRatchet_34 dX11_hasRatchet_35 (by decide) (fun hc11 => ?_) (fun hc11 => ?_)
      · have hF := am_neg hc11 hF
        refine lv_iconst (v := (0 : Int32)) hx hb dX11_hasRatchet_42 (by decide) ?_
        exact am_zret (v' := (0 : Int32)) X hr rfl hh (fun t ht => am_qw (mk := oI) hF ht) (Nat.le_of_ble_eq_true rfl) (Nat.le_of_ble_eq_true rfl) dX11_hasRatchet_43
      · have hF := am_pos hc11 hF
        refine lv_iconst (v := (1 : Int32)) hx hb dX11_hasRatchet_38 (by decide) ?_
        refine lv_goto (tgt := 43) hx hb dX11_hasRatchet_39 (by decide) ?_
        exact am_zret (v' := (1 : Int32)) X hr rfl hh (fun t ht => am_qw (mk := oI) hF ht) (Nat.le_of_ble_eq_true rfl) (Nat.le_of_ble_eq_true rfl) dX11_hasRatchet_43
