set_option maxHeartbeats 4000000 in
set_option maxRecDepth 100000 in
theorem c_X11_writesIf (l : Launch) (G : GG) {w : Wd} {x1 : Int32} {x2 : Int32} {w1 : Wd} (hF : f_X11_writesIf w x1 x2 = some w1) : Met l yX11_writesIf wsX11_writesIf ({ frames := 1, cells := 0, slots := 0, locals := 21 } : Room) (va_Pc [.ref (gAd G 141), .int x1, .int x2] (Rel G w)) (amQ G none w1) 0 0 (gA G) := by
  refine am_met (own := RX11) (cc := cX11_writesIf) (maxL := 3) (ret := none) (by decide +kernel) rfl rfl (Nat.le_of_ble_eq_true rfl) ?_
  intro p e s m args below meth c ab H locs ls X hr hh hl
  have hx := X.1.1; have hb := X.1.2.1; have hml := X.1.2.2.1; have hown := X.1.2.2.2.1; have hts := X.1.2.2.2.2
  have hl : lv_has ls 3 [(0, .ref (gAd G 141)), (1, .int x1), (2, .int x2)] := hl
  unfold f_X11_writesIf at hF
  refine lv_iload_n hx hb dX11_writesIf_0 rfl (lv_at hl 1 rfl) ?_
  refine lv_if_eq (tgt := 9) hx hb dX11_writesIf_1 (by decide) (fun hc1 => ?_) (fun hc1 => ?_)
  · have hF := am_pos hc1 hF
    exact am_vret X hr hh (fun t ht => am_qv hF ht) (Nat.le_of_ble_eq_true rfl) (Nat.le_of_ble_eq_true rfl) dX11_writesIf_9
  · have hF := am_neg hc1 hF
    refine lv_aload_n hx hb dX11_writesIf_4 rfl (lv_at hl 0 rfl) ?_
    refine lv_iload_n hx hb dX11_writesIf_5 rfl (lv_at hl 2 rfl) ?_
    obtain ⟨w4, hk2, hF⟩ := am_bind hF
    refine am_call X hh (va_runV (As := [.int x2]) (rest := []) X.1 (c_X11_writes l G hk2) (cwV 1 hts gX11_writesIf_X11_writes rfl rfl rfl (by decide +kernel) ⟨Nat.le_of_ble_eq_true rfl, Nat.le_of_ble_eq_true rfl⟩) (am_preV X hh 141 12 (by decide) rfl rfl) rfl rfl hl.1 rfl (lv_room (Nat.le_of_ble_eq_true rfl)) dX11_writesIf_6 ⟨Nat.le_of_ble_eq_true rfl, Nat.le_of_ble_eq_true rfl⟩) (fun ab H locs hh => ?_)
    exact am_vret X hr hh (fun t ht => am_qv hF ht) (Nat.le_of_ble_eq_true rfl) (Nat.le_of_ble_eq_true rfl) dX11_writesIf_9
set_option maxHeartbeats 4000000 in
set_option maxRecDepth 100000 in
theorem c_X11_renderGear (l : Launch) (G : GG) {w : Wd} {x1 : Int32} {r0 : Int32} {w1 : Wd} (hF : f_X11_renderGear w x1 = some (r0, w1)) : Met l yX11_renderGear wsX11_renderGear ({ frames := 2, cells := 0, slots := 0, locals := 43 } : Room) (va_Pc [.ref (gAd G 141), .int x1] (Rel G w)) (amQ G (oI r0) w1) 0 0 (gA G) := by
  refine am_met (own := RX11) (cc := cX11_renderGear) (maxL := 2) (ret := (some .int)) (by decide +kernel) rfl rfl (Nat.le_of_ble_eq_true rfl) ?_
  intro p e s m args below meth c ab H locs ls X hr hh hl
  have hx := X.1.1; have hb := X.1.2.1; have hml := X.1.2.2.1; have hown := X.1.2.2.2.1; have hts := X.1.2.2.2.2
  have hl : lv_has ls 2 [(0, .ref (gAd G 141)), (1, .int x1)] := hl
  have hwRX11 : ∀ z ∈ u_ws RX11 TX11 18, z ∈ wsX11_renderGear := by decide +kernel
  unfold f_X11_renderGear at hF
  refine lv_aload_n hx hb dX11_renderGear_0 rfl (lv_at hl 0 rfl) ?_
  refine lv_iload_n hx hb dX11_renderGear_1 rfl (lv_at hl 1 rfl) ?_
  obtain ⟨r2, hk1, hF⟩ := am_bind hF
  refine am_call X hh (va_runV (As := [.int x1]) (rest := []) X.1 (c_X11_isGear l G hk1) (cwV 1 hts gX11_renderGear_X11_isGear rfl rfl rfl (by decide +kernel) ⟨Nat.le_of_ble_eq_true rfl, Nat.le_of_ble_eq_true rfl⟩) (am_preV X hh 141 12 (by decide) rfl rfl) rfl rfl hl.1 rfl (lv_room (Nat.le_of_ble_eq_true rfl)) dX11_renderGear_2 ⟨Nat.le_of_ble_eq_true rfl, Nat.le_of_ble_eq_true rfl⟩) (fun ab H locs hh => ?_)
  refine lv_if_ne (tgt := 14) hx hb dX11_renderGear_5 (by decide) (fun hc3 => ?_) (fun hc3 => ?_)
  · have hF := am_neg hc3 hF
    refine lv_aload_n hx hb dX11_renderGear_14 rfl (lv_at hl 0 rfl) ?_
    refine lv_iconst (v := (0 : Int32)) hx hb dX11_renderGear_15 (by decide) ?_
    refine am_putI X hh 141 12 11 (by decide) rfl rfl (by decide) hwRX11 tyX11 tyX11_ok nmX11 (show Cond.fieldLink RX11 215 "PlanetWorkshopModel" "outputLength" "I" ∈ wsX11_renderGear by decide +kernel) rfl rfl rfl rfl dX11_renderGear_16 (fun H locs hh => ?_)
    obtain ⟨w4, hw4, hF⟩ := am_wl hF
    have hh := AH_eq hw4 hh
    refine lv_aload_n hx hb dX11_renderGear_19 rfl (lv_at hl 0 rfl) ?_
    refine lv_iload_n hx hb dX11_renderGear_20 rfl (lv_at hl 1 rfl) ?_
    obtain ⟨w7, hk5, hF⟩ := am_bind hF
    refine am_call X hh (va_runV (As := [.int x1]) (rest := []) X.1 (c_X11_writesNumber l G hk5) (cwV 1 hts gX11_renderGear_X11_writesNumber rfl rfl rfl (by decide +kernel) ⟨Nat.le_of_ble_eq_true rfl, Nat.le_of_ble_eq_true rfl⟩) (am_preV X hh 141 12 (by decide) rfl rfl) rfl rfl hl.1 rfl (lv_room (Nat.le_of_ble_eq_true rfl)) dX11_renderGear_21 ⟨Nat.le_of_ble_eq_true rfl, Nat.le_of_ble_eq_true rfl⟩) (fun ab H locs hh => ?_)
    refine lv_aload_n hx hb dX11_renderGear_24 rfl (lv_at hl 0 rfl) ?_
    refine lv_bipush (v := (58 : Int32)) hx hb dX11_renderGear_25 (by decide) ?_
    obtain ⟨w10, hk8, hF⟩ := am_bind hF
    refine am_call X hh (va_runV (As := [.int (58 : Int32)]) (rest := []) X.1 (c_X11_writes l G hk8) (cwV 1 hts gX11_renderGear_X11_writes rfl rfl rfl (by decide +kernel) ⟨Nat.le_of_ble_eq_true rfl, Nat.le_of_ble_eq_true rfl⟩) (am_preV X hh 141 12 (by decide) rfl rfl) rfl rfl hl.1 rfl (lv_room (Nat.le_of_ble_eq_true rfl)) dX11_renderGear_27 ⟨Nat.le_of_ble_eq_true rfl, Nat.le_of_ble_eq_true rfl⟩) (fun ab H locs hh => ?_)
    refine lv_aload_n hx hb dX11_renderGear_30 rfl (lv_at hl 0 rfl) ?_
    refine lv_aload_n hx hb dX11_renderGear_31 rfl (lv_at hl 0 rfl) ?_
    refine lv_bipush (v := (6 : Int32)) hx hb dX11_renderGear_32 (by decide) ?_
    refine lv_iload_n hx hb dX11_renderGear_34 rfl (lv_at hl 1 rfl) ?_
    refine lv_iadd hx hb dX11_renderGear_35 ?_
    obtain ⟨r12, hk11, hF⟩ := am_bind hF
    refine am_call X hh (va_runV (As := [.int ((6 : Int32) + x1)]) (rest := [.ref (gAd G 141)]) X.1 (c_X11_at l G hk11) (cwV 1 hts gX11_renderGear_X11_at rfl rfl rfl (by decide +kernel) ⟨Nat.le_of_ble_eq_true rfl, Nat.le_of_ble_eq_true rfl⟩) (am_preV X hh 141 12 (by decide) rfl rfl) rfl rfl hl.1 rfl (lv_room (Nat.le_of_ble_eq_true rfl)) dX11_renderGear_36 ⟨Nat.le_of_ble_eq_true rfl, Nat.le_of_ble_eq_true rfl⟩) (fun ab H locs hh => ?_)
    obtain ⟨w15, hk13, hF⟩ := am_bind hF
    refine am_call X hh (va_runV (As := [.int r12]) (rest := []) X.1 (c_X11_writesNumber l G hk13) (cwV 1 hts gX11_renderGear_X11_writesNumber rfl rfl rfl (by decide +kernel) ⟨Nat.le_of_ble_eq_true rfl, Nat.le_of_ble_eq_true rfl⟩) (am_preV X hh 141 12 (by decide) rfl rfl) rfl rfl hl.1 rfl (lv_room (Nat.le_of_ble_eq_true rfl)) dX11_renderGear_39 ⟨Nat.le_of_ble_eq_true rfl, Nat.le_of_ble_eq_true rfl⟩) (fun ab H locs hh => ?_)
    refine lv_aload_n hx hb dX11_renderGear_42 rfl (lv_at hl 0 rfl) ?_
    refine lv_aload_n hx hb dX11_renderGear_43 rfl (lv_at hl 0 rfl) ?_
    refine am_getR X hh 141 12 0 142 (by decide) rfl rfl (by decide) hwRX11 (show Cond.fieldLink RX11 7 "PlanetWorkshopModel" "g" "[J" ∈ wsX11_renderGear by decide +kernel) rfl dX11_renderGear_44 ?_
    refine lv_bipush (v := (66 : Int32)) hx hb dX11_renderGear_47 (by decide) ?_
    refine lv_iload_n hx hb dX11_renderGear_49 rfl (lv_at hl 1 rfl) ?_
    refine lv_iadd hx hb dX11_renderGear_50 ?_
    obtain ⟨hq16, hF⟩ := am_ifR hF
    refine am_lald X hh 142 (by decide) rfl hq16 dX11_renderGear_51 ?_
    refine lv_lconst (v := (0 : Int64)) hx hb dX11_renderGear_52 (by decide) ?_
    refine am_lcmp_ne (tgt := 61) hx hb dX11_renderGear_53 dX11_renderGear_54 (by decide) (fun hc17 => ?_) (fun hc17 => ?_)
    · have hF := am_neg hc17 hF
      refine lv_iconst (v := (0 : Int32)) hx hb dX11_renderGear_61 (by decide) ?_
      refine lv_bipush (v := (100 : Int32)) hx hb dX11_renderGear_62 (by decide) ?_
      obtain ⟨w20, hk18, hF⟩ := am_bind hF
      refine am_call X hh (va_runV (As := [.int (0 : Int32), .int (100 : Int32)]) (rest := []) X.1 (c_X11_writesIf l G hk18) (cwV 2 hts gX11_renderGear_X11_writesIf rfl rfl rfl (by decide +kernel) ⟨Nat.le_of_ble_eq_true rfl, Nat.le_of_ble_eq_true rfl⟩) (am_preV X hh 141 12 (by decide) rfl rfl) rfl rfl hl.1 rfl (lv_room (Nat.le_of_ble_eq_true rfl)) dX11_renderGear_64 ⟨Nat.le_of_ble_eq_true rfl, Nat.le_of_ble_eq_true rfl⟩) (fun ab H locs hh => ?_)
      refine lv_aload_n hx hb dX11_renderGear_67 rfl (lv_at hl 0 rfl) ?_
      refine lv_aload_n hx hb dX11_renderGear_68 rfl (lv_at hl 0 rfl) ?_
      refine am_getR X hh 141 12 0 142 (by decide) rfl rfl (by decide) hwRX11 (show Cond.fieldLink RX11 7 "PlanetWorkshopModel" "g" "[J" ∈ wsX11_renderGear by decide +kernel) rfl dX11_renderGear_69 ?_
      refine lv_bipush (v := (56 : Int32)) hx hb dX11_renderGear_72 (by decide) ?_
      refine lv_iload_n hx hb dX11_renderGear_74 rfl (lv_at hl 1 rfl) ?_
      refine lv_iadd hx hb dX11_renderGear_75 ?_
      obtain ⟨hq21, hF⟩ := am_ifR hF
      refine am_lald X hh 142 (by decide) rfl hq21 dX11_renderGear_76 ?_
      refine lv_lconst (v := (1 : Int64)) hx hb dX11_renderGear_77 (by decide) ?_
      refine am_lcmp_ne (tgt := 86) hx hb dX11_renderGear_78 dX11_renderGear_79 (by decide) (fun hc22 => ?_) (fun hc22 => ?_)
      · have hF := am_neg hc22 hF
        refine lv_iconst (v := (0 : Int32)) hx hb dX11_renderGear_86 (by decide) ?_
        refine lv_bipush (v := (114 : Int32)) hx hb dX11_renderGear_87 (by decide) ?_
        obtain ⟨w25, hk23, hF⟩ := am_bind hF
        refine am_call X hh (va_runV (As := [.int (0 : Int32), .int (114 : Int32)]) (rest := []) X.1 (c_X11_writesIf l G hk23) (cwV 2 hts gX11_renderGear_X11_writesIf rfl rfl rfl (by decide +kernel) ⟨Nat.le_of_ble_eq_true rfl, Nat.le_of_ble_eq_true rfl⟩) (am_preV X hh 141 12 (by decide) rfl rfl) rfl rfl hl.1 rfl (lv_room (Nat.le_of_ble_eq_true rfl)) dX11_renderGear_89 ⟨Nat.le_of_ble_eq_true rfl, Nat.le_of_ble_eq_true rfl⟩) (fun ab H locs hh => ?_)
        refine lv_aload_n hx hb dX11_renderGear_92 rfl (lv_at hl 0 rfl) ?_
        refine lv_iload_n hx hb dX11_renderGear_93 rfl (lv_at hl 1 rfl) ?_
        obtain ⟨r27, hk26, hF⟩ := am_bind hF
        refine am_call X hh (va_runV (As := [.int x1]) (rest := []) X.1 (c_X11_hasSpring l G hk26) (cwV 1 hts gX11_renderGear_X11_hasSpring rfl rfl rfl (by decide +kernel) ⟨Nat.le_of_ble_eq_true rfl, Nat.le_of_ble_eq_true rfl⟩) (am_preV X hh 141 12 (by decide) rfl rfl) rfl rfl hl.1 rfl (lv_room (Nat.le_of_ble_eq_true rfl)) dX11_renderGear_94 ⟨Nat.le_of_ble_eq_true rfl, Nat.le_of_ble_eq_true rfl⟩) (fun ab H locs hh => ?_)
        refine lv_if_eq (tgt := 161) hx hb dX11_renderGear_97 (by decide) (fun hc28 => ?_) (fun hc28 => ?_)
        · have hF := am_pos hc28 hF
          refine lv_aload_n hx hb dX11_renderGear_161 rfl (lv_at hl 0 rfl) ?_
          refine lv_aload_n hx hb dX11_renderGear_162 rfl (lv_at hl 0 rfl) ?_
          refine am_getI X hh 141 12 11 (by decide) rfl rfl (by decide) hwRX11 (show Cond.fieldLink RX11 215 "PlanetWorkshopModel" "outputLength" "I" ∈ wsX11_renderGear by decide +kernel) rfl dX11_renderGear_163 ?_
          obtain ⟨⟨r30, w31⟩, hk29, hF⟩ := am_bind hF
          have hF := am_u2 hF
          refine am_call X hh (va_runV (As := [.int (gI w25 141 11)]) (rest := []) X.1 (c_X11_done l G hk29) (cwV 1 hts gX11_renderGear_X11_done rfl rfl rfl (by decide +kernel) ⟨Nat.le_of_ble_eq_true rfl, Nat.le_of_ble_eq_true rfl⟩) (am_preV X hh 141 12 (by decide) rfl rfl) rfl rfl hl.1 rfl (lv_room (Nat.le_of_ble_eq_true rfl)) dX11_renderGear_166 ⟨Nat.le_of_ble_eq_true rfl, Nat.le_of_ble_eq_true rfl⟩) (fun ab H locs hh => ?_)
          exact am_iret X hr hh (fun t ht => am_qw (mk := oI) hF ht) (Nat.le_of_ble_eq_true rfl) (Nat.le_of_ble_eq_true rfl) dX11_renderGear_169
        · have hF := am_neg hc28 hF
          refine lv_aload_n hx hb dX11_renderGear_100 rfl (lv_at hl 0 rfl) ?_
          refine lv_bipush (v := (115 : Int32)) hx hb dX11_renderGear_101 (by decide) ?_
          obtain ⟨w35, hk33, hF⟩ := am_bind hF
          refine am_call X hh (va_runV (As := [.int (115 : Int32)]) (rest := []) X.1 (c_X11_writes l G hk33) (cwV 1 hts gX11_renderGear_X11_writes rfl rfl rfl (by decide +kernel) ⟨Nat.le_of_ble_eq_true rfl, Nat.le_of_ble_eq_true rfl⟩) (am_preV X hh 141 12 (by decide) rfl rfl) rfl rfl hl.1 rfl (lv_room (Nat.le_of_ble_eq_true rfl)) dX11_renderGear_103 ⟨Nat.le_of_ble_eq_true rfl, Nat.le_of_ble_eq_true rfl⟩) (fun ab H locs hh => ?_)
          refine lv_aload_n hx hb dX11_renderGear_106 rfl (lv_at hl 0 rfl) ?_
          refine lv_aload_n hx hb dX11_renderGear_107 rfl (lv_at hl 0 rfl) ?_
          refine lv_bipush (v := (36 : Int32)) hx hb dX11_renderGear_108 (by decide) ?_
          refine lv_iload_n hx hb dX11_renderGear_110 rfl (lv_at hl 1 rfl) ?_
          refine lv_iadd hx hb dX11_renderGear_111 ?_
          obtain ⟨r37, hk36, hF⟩ := am_bind hF
          refine am_call X hh (va_runV (As := [.int ((36 : Int32) + x1)]) (rest := [.ref (gAd G 141)]) X.1 (c_X11_at l G hk36) (cwV 1 hts gX11_renderGear_X11_at rfl rfl rfl (by decide +kernel) ⟨Nat.le_of_ble_eq_true rfl, Nat.le_of_ble_eq_true rfl⟩) (am_preV X hh 141 12 (by decide) rfl rfl) rfl rfl hl.1 rfl (lv_room (Nat.le_of_ble_eq_true rfl)) dX11_renderGear_112 ⟨Nat.le_of_ble_eq_true rfl, Nat.le_of_ble_eq_true rfl⟩) (fun ab H locs hh => ?_)
          obtain ⟨w40, hk38, hF⟩ := am_bind hF
          refine am_call X hh (va_runV (As := [.int r37]) (rest := []) X.1 (c_X11_writesNumber l G hk38) (cwV 1 hts gX11_renderGear_X11_writesNumber rfl rfl rfl (by decide +kernel) ⟨Nat.le_of_ble_eq_true rfl, Nat.le_of_ble_eq_true rfl⟩) (am_preV X hh 141 12 (by decide) rfl rfl) rfl rfl hl.1 rfl (lv_room (Nat.le_of_ble_eq_true rfl)) dX11_renderGear_115 ⟨Nat.le_of_ble_eq_true rfl, Nat.le_of_ble_eq_true rfl⟩) (fun ab H locs hh => ?_)
          refine lv_aload_n hx hb dX11_renderGear_118 rfl (lv_at hl 0 rfl) ?_
          refine lv_bipush (v := (47 : Int32)) hx hb dX11_renderGear_119 (by decide) ?_
          obtain ⟨w43, hk41, hF⟩ := am_bind hF
          refine am_call X hh (va_runV (As := [.int (47 : Int32)]) (rest := []) X.1 (c_X11_writes l G hk41) (cwV 1 hts gX11_renderGear_X11_writes rfl rfl rfl (by decide +kernel) ⟨Nat.le_of_ble_eq_true rfl, Nat.le_of_ble_eq_true rfl⟩) (am_preV X hh 141 12 (by decide) rfl rfl) rfl rfl hl.1 rfl (lv_room (Nat.le_of_ble_eq_true rfl)) dX11_renderGear_121 ⟨Nat.le_of_ble_eq_true rfl, Nat.le_of_ble_eq_true rfl⟩) (fun ab H locs hh => ?_)
          refine lv_aload_n hx hb dX11_renderGear_124 rfl (lv_at hl 0 rfl) ?_
          refine lv_aload_n hx hb dX11_renderGear_125 rfl (lv_at hl 0 rfl) ?_
          refine lv_bipush (v := (26 : Int32)) hx hb dX11_renderGear_126 (by decide) ?_
          refine lv_iload_n hx hb dX11_renderGear_128 rfl (lv_at hl 1 rfl) ?_
          refine lv_iadd hx hb dX11_renderGear_129 ?_
          obtain ⟨r45, hk44, hF⟩ := am_bind hF
          refine am_call X hh (va_runV (As := [.int ((26 : Int32) + x1)]) (rest := [.ref (gAd G 141)]) X.1 (c_X11_at l G hk44) (cwV 1 hts gX11_renderGear_X11_at rfl rfl rfl (by decide +kernel) ⟨Nat.le_of_ble_eq_true rfl, Nat.le_of_ble_eq_true rfl⟩) (am_preV X hh 141 12 (by decide) rfl rfl) rfl rfl hl.1 rfl (lv_room (Nat.le_of_ble_eq_true rfl)) dX11_renderGear_130 ⟨Nat.le_of_ble_eq_true rfl, Nat.le_of_ble_eq_true rfl⟩) (fun ab H locs hh => ?_)
          obtain ⟨w48, hk46, hF⟩ := am_bind hF
          refine am_call X hh (va_runV (As := [.int r45]) (rest := []) X.1 (c_X11_writesNumber l G hk46) (cwV 1 hts gX11_renderGear_X11_writesNumber rfl rfl rfl (by decide +kernel) ⟨Nat.le_of_ble_eq_true rfl, Nat.le_of_ble_eq_true rfl⟩) (am_preV X hh 141 12 (by decide) rfl rfl) rfl rfl hl.1 rfl (lv_room (Nat.le_of_ble_eq_true rfl)) dX11_renderGear_133 ⟨Nat.le_of_ble_eq_true rfl, Nat.le_of_ble_eq_true rfl⟩) (fun ab H locs hh => ?_)
          refine lv_aload_n hx hb dX11_renderGear_136 rfl (lv_at hl 0 rfl) ?_
          refine lv_aload_n hx hb dX11_renderGear_137 rfl (lv_at hl 0 rfl) ?_
          refine am_getR X hh 141 12 0 142 (by decide) rfl rfl (by decide) hwRX11 (show Cond.fieldLink RX11 7 "PlanetWorkshopModel" "g" "[J" ∈ wsX11_renderGear by decide +kernel) rfl dX11_renderGear_138 ?_
          refine lv_bipush (v := (46 : Int32)) hx hb dX11_renderGear_141 (by decide) ?_
          refine lv_iload_n hx hb dX11_renderGear_143 rfl (lv_at hl 1 rfl) ?_
          refine lv_iadd hx hb dX11_renderGear_144 ?_
          obtain ⟨hq49, hF⟩ := am_ifR hF
          refine am_lald X hh 142 (by decide) rfl hq49 dX11_renderGear_145 ?_
          refine lv_lconst (v := (1 : Int64)) hx hb dX11_renderGear_146 (by decide) ?_
          refine am_lcmp_ne (tgt := 155) hx hb dX11_renderGear_147 dX11_renderGear_148 (by decide) (fun hc50 => ?_) (fun hc50 => ?_)
          · have hF := am_neg hc50 hF
            refine lv_iconst (v := (0 : Int32)) hx hb dX11_renderGear_155 (by decide) ?_
            refine lv_bipush (v := (45 : Int32)) hx hb dX11_renderGear_156 (by decide) ?_
            obtain ⟨w53, hk51, hF⟩ := am_bind hF
            refine am_call X hh (va_runV (As := [.int (0 : Int32), .int (45 : Int32)]) (rest := []) X.1 (c_X11_writesIf l G hk51) (cwV 2 hts gX11_renderGear_X11_writesIf rfl rfl rfl (by decide +kernel) ⟨Nat.le_of_ble_eq_true rfl, Nat.le_of_ble_eq_true rfl⟩) (am_preV X hh 141 12 (by decide) rfl rfl) rfl rfl hl.1 rfl (lv_room (Nat.le_of_ble_eq_true rfl)) dX11_renderGear_158 ⟨Nat.le_of_ble_eq_true rfl, Nat.le_of_ble_eq_true rfl⟩) (fun ab H locs hh => ?_)
            refine lv_aload_n hx hb dX11_renderGear_161 rfl (lv_at hl 0 rfl) ?_
            refine lv_aload_n hx hb dX11_renderGear_162 rfl (lv_at hl 0 rfl) ?_
            refine am_getI X hh 141 12 11 (by decide) rfl rfl (by decide) hwRX11 (show Cond.fieldLink RX11 215 "PlanetWorkshopModel" "outputLength" "I" ∈ wsX11_renderGear by decide +kernel) rfl dX11_renderGear_163 ?_
            obtain ⟨⟨r55, w56⟩, hk54, hF⟩ := am_bind hF
            have hF := am_u2 hF
            refine am_call X hh (va_runV (As := [.int (gI w53 141 11)]) (rest := []) X.1 (c_X11_done l G hk54) (cwV 1 hts gX11_renderGear_X11_done rfl rfl rfl (by decide +kernel) ⟨Nat.le_of_ble_eq_true rfl, Nat.le_of_ble_eq_true rfl⟩) (am_preV X hh 141 12 (by decide) rfl rfl) rfl rfl hl.1 rfl (lv_room (Nat.le_of_ble_eq_true rfl)) dX11_renderGear_166 ⟨Nat.le_of_ble_eq_true rfl, Nat.le_of_ble_eq_true rfl⟩) (fun ab H locs hh => ?_)
            exact am_iret X hr hh (fun t ht => am_qw (mk := oI) hF ht) (Nat.le_of_ble_eq_true rfl) (Nat.le_of_ble_eq_true rfl) dX11_renderGear_169
          · have hF := am_pos hc50 hF
            refine lv_iconst (v := (1 : Int32)) hx hb dX11_renderGear_151 (by decide) ?_
            refine lv_goto (tgt := 156) hx hb dX11_renderGear_152 (by decide) ?_
            refine lv_bipush (v := (45 : Int32)) hx hb dX11_renderGear_156 (by decide) ?_
            obtain ⟨w60, hk58, hF⟩ := am_bind hF
            refine am_call X hh (va_runV (As := [.int (1 : Int32), .int (45 : Int32)]) (rest := []) X.1 (c_X11_writesIf l G hk58) (cwV 2 hts gX11_renderGear_X11_writesIf rfl rfl rfl (by decide +kernel) ⟨Nat.le_of_ble_eq_true rfl, Nat.le_of_ble_eq_true rfl⟩) (am_preV X hh 141 12 (by decide) rfl rfl) rfl rfl hl.1 rfl (lv_room (Nat.le_of_ble_eq_true rfl)) dX11_renderGear_158 ⟨Nat.le_of_ble_eq_true rfl, Nat.le_of_ble_eq_true rfl⟩) (fun ab H locs hh => ?_)
            refine lv_aload_n hx hb dX11_renderGear_161 rfl (lv_at hl 0 rfl) ?_
            refine lv_aload_n hx hb dX11_renderGear_162 rfl (lv_at hl 0 rfl) ?_
            refine am_getI X hh 141 12 11 (by decide) rfl rfl (by decide) hwRX11 (show Cond.fieldLink RX11 215 "PlanetWorkshopModel" "outputLength" "I" ∈ wsX11_renderGear by decide +kernel) rfl dX11_renderGear_163 ?_
            obtain ⟨⟨r62, w63⟩, hk61, hF⟩ := am_bind hF
            have hF := am_u2 hF
            refine am_call X hh (va_runV (As := [.int (gI w60 141 11)]) (rest := []) X.1 (c_X11_done l G hk61) (cwV 1 hts gX11_renderGear_X11_done rfl rfl rfl (by decide +kernel) ⟨Nat.le_of_ble_eq_true rfl, Nat.le_of_ble_eq_true rfl⟩) (am_preV X hh 141 12 (by decide) rfl rfl) rfl rfl hl.1 rfl (lv_room (Nat.le_of_ble_eq_true rfl)) dX11_renderGear_166 ⟨Nat.le_of_ble_eq_true rfl, Nat.le_of_ble_eq_true rfl⟩) (fun ab H locs hh => ?_)
            exact am_iret X hr hh (fun t ht => am_qw (mk := oI) hF ht) (Nat.le_of_ble_eq_true rfl) (Nat.le_of_ble_eq_true rfl) dX11_renderGear_169
      · have hF := am_pos hc22 hF
        refine lv_iconst (v := (1 : Int32)) hx hb dX11_renderGear_82 (by decide) ?_
        refine lv_goto (tgt := 87) hx hb dX11_renderGear_83 (by decide) ?_
        refine lv_bipush (v := (114 : Int32)) hx hb dX11_renderGear_87 (by decide) ?_
        obtain ⟨w67, hk65, hF⟩ := am_bind hF
        refine am_call X hh (va_runV (As := [.int (1 : Int32), .int (114 : Int32)]) (rest := []) X.1 (c_X11_writesIf l G hk65) (cwV 2 hts gX11_renderGear_X11_writesIf rfl rfl rfl (by decide +kernel) ⟨Nat.le_of_ble_eq_true rfl, Nat.le_of_ble_eq_true rfl⟩) (am_preV X hh 141 12 (by decide) rfl rfl) rfl rfl hl.1 rfl (lv_room (Nat.le_of_ble_eq_true rfl)) dX11_renderGear_89 ⟨Nat.le_of_ble_eq_true rfl, Nat.le_of_ble_eq_true rfl⟩) (fun ab H locs hh => ?_)
        refine lv_aload_n hx hb dX11_renderGear_92 rfl (lv_at hl 0 rfl) ?_
        refine lv_iload_n hx hb dX11_renderGear_93 rfl (lv_at hl 1 rfl) ?_
        obtain ⟨r69, hk68, hF⟩ := am_bind hF
        refine am_call X hh (va_runV (As := [.int x1]) (rest := []) X.1 (c_X11_hasSpring l G hk68) (cwV 1 hts gX11_renderGear_X11_hasSpring rfl rfl rfl (by decide +kernel) ⟨Nat.le_of_ble_eq_true rfl, Nat.le_of_ble_eq_true rfl⟩) (am_preV X hh 141 12 (by decide) rfl rfl) rfl rfl hl.1 rfl (lv_room (Nat.le_of_ble_eq_true rfl)) dX11_renderGear_94 ⟨Nat.le_of_ble_eq_true rfl, Nat.le_of_ble_eq_true rfl⟩) (fun ab H locs hh => ?_)
        refine lv_if_eq (tgt := 161) hx hb dX11_renderGear_97 (by decide) (fun hc70 => ?_) (fun hc70 => ?_)
        · have hF := am_pos hc70 hF
          refine lv_aload_n hx hb dX11_renderGear_161 rfl (lv_at hl 0 rfl) ?_
          refine lv_aload_n hx hb dX11_renderGear_162 rfl (lv_at hl 0 rfl) ?_
          refine am_getI X hh 141 12 11 (by decide) rfl rfl (by decide) hwRX11 (show Cond.fieldLink RX11 215 "PlanetWorkshopModel" "outputLength" "I" ∈ wsX11_renderGear by decide +kernel) rfl dX11_renderGear_163 ?_
          obtain ⟨⟨r72, w73⟩, hk71, hF⟩ := am_bind hF
          have hF := am_u2 hF
          refine am_call X hh (va_runV (As := [.int (gI w67 141 11)]) (rest := []) X.1 (c_X11_done l G hk71) (cwV 1 hts gX11_renderGear_X11_done rfl rfl rfl (by decide +kernel) ⟨Nat.le_of_ble_eq_true rfl, Nat.le_of_ble_eq_true rfl⟩) (am_preV X hh 141 12 (by decide) rfl rfl) rfl rfl hl.1 rfl (lv_room (Nat.le_of_ble_eq_true rfl)) dX11_renderGear_166 ⟨Nat.le_of_ble_eq_true rfl, Nat.le_of_ble_eq_true rfl⟩) (fun ab H locs hh => ?_)
          exact am_iret X hr hh (fun t ht => am_qw (mk := oI) hF ht) (Nat.le_of_ble_eq_true rfl) (Nat.le_of_ble_eq_true rfl) dX11_renderGear_169
        · have hF := am_neg hc70 hF
          refine lv_aload_n hx hb dX11_renderGear_100 rfl (lv_at hl 0 rfl) ?_
          refine lv_bipush (v := (115 : Int32)) hx hb dX11_renderGear_101 (by decide) ?_
          obtain ⟨w77, hk75, hF⟩ := am_bind hF
          refine am_call X hh (va_runV (As := [.int (115 : Int32)]) (rest := []) X.1 (c_X11_writes l G hk75) (cwV 1 hts gX11_renderGear_X11_writes rfl rfl rfl (by decide +kernel) ⟨Nat.le_of_ble_eq_true rfl, Nat.le_of_ble_eq_true rfl⟩) (am_preV X hh 141 12 (by decide) rfl rfl) rfl rfl hl.1 rfl (lv_room (Nat.le_of_ble_eq_true rfl)) dX11_renderGear_103 ⟨Nat.le_of_ble_eq_true rfl, Nat.le_of_ble_eq_true rfl⟩) (fun ab H locs hh => ?_)
          refine lv_aload_n hx hb dX11_renderGear_106 rfl (lv_at hl 0 rfl) ?_
          refine lv_aload_n hx hb dX11_renderGear_107 rfl (lv_at hl 0 rfl) ?_
          refine lv_bipush (v := (36 : Int32)) hx hb dX11_renderGear_108 (by decide) ?_
          refine lv_iload_n hx hb dX11_renderGear_110 rfl (lv_at hl 1 rfl) ?_
          refine lv_iadd hx hb dX11_renderGear_111 ?_
          obtain ⟨r79, hk78, hF⟩ := am_bind hF
          refine am_call X hh (va_runV (As := [.int ((36 : Int32) + x1)]) (rest := [.ref (gAd G 141)]) X.1 (c_X11_at l G hk78) (cwV 1 hts gX11_renderGear_X11_at rfl rfl rfl (by decide +kernel) ⟨Nat.le_of_ble_eq_true rfl, Nat.le_of_ble_eq_true rfl⟩) (am_preV X hh 141 12 (by decide) rfl rfl) rfl rfl hl.1 rfl (lv_room (Nat.le_of_ble_eq_true rfl)) dX11_renderGear_112 ⟨Nat.le_of_ble_eq_true rfl, Nat.le_of_ble_eq_true rfl⟩) (fun ab H locs hh => ?_)
          obtain ⟨w82, hk80, hF⟩ := am_bind hF
          refine am_call X hh (va_runV (As := [.int r79]) (rest := []) X.1 (c_X11_writesNumber l G hk80) (cwV 1 hts gX11_renderGear_X11_writesNumber rfl rfl rfl (by decide +kernel) ⟨Nat.le_of_ble_eq_true rfl, Nat.le_of_ble_eq_true rfl⟩) (am_preV X hh 141 12 (by decide) rfl rfl) rfl rfl hl.1 rfl (lv_room (Nat.le_of_ble_eq_true rfl)) dX11_renderGear_115 ⟨Nat.le_of_ble_eq_true rfl, Nat.le_of_ble_eq_true rfl⟩) (fun ab H locs hh => ?_)
          refine lv_aload_n hx hb dX11_renderGear_118 rfl (lv_at hl 0 rfl) ?_
          refine lv_bipush (v := (47 : Int32)) hx hb dX11_renderGear_119 (by decide) ?_
          obtain ⟨w85, hk83, hF⟩ := am_bind hF
          refine am_call X hh (va_runV (As := [.int (47 : Int32)]) (rest := []) X.1 (c_X11_writes l G hk83) (cwV 1 hts gX11_renderGear_X11_writes rfl rfl rfl (by decide +kernel) ⟨Nat.le_of_ble_eq_true rfl, Nat.le_of_ble_eq_true rfl⟩) (am_preV X hh 141 12 (by decide) rfl rfl) rfl rfl hl.1 rfl (lv_room (Nat.le_of_ble_eq_true rfl)) dX11_renderGear_121 ⟨Nat.le_of_ble_eq_true rfl, Nat.le_of_ble_eq_true rfl⟩) (fun ab H locs hh => ?_)
          refine lv_aload_n hx hb dX11_renderGear_124 rfl (lv_at hl 0 rfl) ?_
          refine lv_aload_n hx hb dX11_renderGear_125 rfl (lv_at hl 0 rfl) ?_
          refine lv_bipush (v := (26 : Int32)) hx hb dX11_renderGear_126 (by decide) ?_
          refine lv_iload_n hx hb dX11_renderGear_128 rfl (lv_at hl 1 rfl) ?_
          refine lv_iadd hx hb dX11_renderGear_129 ?_
          obtain ⟨r87, hk86, hF⟩ := am_bind hF
          refine am_call X hh (va_runV (As := [.int ((26 : Int32) + x1)]) (rest := [.ref (gAd G 141)]) X.1 (c_X11_at l G hk86) (cwV 1 hts gX11_renderGear_X11_at rfl rfl rfl (by decide +kernel) ⟨Nat.le_of_ble_eq_true rfl, Nat.le_of_ble_eq_true rfl⟩) (am_preV X hh 141 12 (by decide) rfl rfl) rfl rfl hl.1 rfl (lv_room (Nat.le_of_ble_eq_true rfl)) dX11_renderGear_130 ⟨Nat.le_of_ble_eq_true rfl, Nat.le_of_ble_eq_true rfl⟩) (fun ab H locs hh => ?_)
          obtain ⟨w90, hk88, hF⟩ := am_bind hF
          refine am_call X hh (va_runV (As := [.int r87]) (rest := []) X.1 (c_X11_writesNumber l G hk88) (cwV 1 hts gX11_renderGear_X11_writesNumber rfl rfl rfl (by decide +kernel) ⟨Nat.le_of_ble_eq_true rfl, Nat.le_of_ble_eq_true rfl⟩) (am_preV X hh 141 12 (by decide) rfl rfl) rfl rfl hl.1 rfl (lv_room (Nat.le_of_ble_eq_true rfl)) dX11_renderGear_133 ⟨Nat.le_of_ble_eq_true rfl, Nat.le_of_ble_eq_true rfl⟩) (fun ab H locs hh => ?_)
          refine lv_aload_n hx hb dX11_renderGear_136 rfl (lv_at hl 0 rfl) ?_
          refine lv_aload_n hx hb dX11_renderGear_137 rfl (lv_at hl 0 rfl) ?_
          refine am_getR X hh 141 12 0 142 (by decide) rfl rfl (by decide) hwRX11 (show Cond.fieldLink RX11 7 "PlanetWorkshopModel" "g" "[J" ∈ wsX11_renderGear by decide +kernel) rfl dX11_renderGear_138 ?_
          refine lv_bipush (v := (46 : Int32)) hx hb dX11_renderGear_141 (by decide) ?_
          refine lv_iload_n hx hb dX11_renderGear_143 rfl (lv_at hl 1 rfl) ?_
          refine lv_iadd hx hb dX11_renderGear_144 ?_
          obtain ⟨hq91, hF⟩ := am_ifR hF
          refine am_lald X hh 142 (by decide) rfl hq91 dX11_renderGear_145 ?_
          refine lv_lconst (v := (1 : Int64)) hx hb dX11_renderGear_146 (by decide) ?_
          refine am_lcmp_ne (tgt := 155) hx hb dX11_renderGear_147 dX11_renderGear_148 (by decide) (fun hc92 => ?_) (fun hc92 => ?_)
          · have hF := am_neg hc92 hF
            refine lv_iconst (v := (0 : Int32)) hx hb dX11_renderGear_155 (by decide) ?_
            refine lv_bipush (v := (45 : Int32)) hx hb dX11_renderGear_156 (by decide) ?_
            obtain ⟨w95, hk93, hF⟩ := am_bind hF
            refine am_call X hh (va_runV (As := [.int (0 : Int32), .int (45 : Int32)]) (rest := []) X.1 (c_X11_writesIf l G hk93) (cwV 2 hts gX11_renderGear_X11_writesIf rfl rfl rfl (by decide +kernel) ⟨Nat.le_of_ble_eq_true rfl, Nat.le_of_ble_eq_true rfl⟩) (am_preV X hh 141 12 (by decide) rfl rfl) rfl rfl hl.1 rfl (lv_room (Nat.le_of_ble_eq_true rfl)) dX11_renderGear_158 ⟨Nat.le_of_ble_eq_true rfl, Nat.le_of_ble_eq_true rfl⟩) (fun ab H locs hh => ?_)
            refine lv_aload_n hx hb dX11_renderGear_161 rfl (lv_at hl 0 rfl) ?_
            refine lv_aload_n hx hb dX11_renderGear_162 rfl (lv_at hl 0 rfl) ?_
            refine am_getI X hh 141 12 11 (by decide) rfl rfl (by decide) hwRX11 (show Cond.fieldLink RX11 215 "PlanetWorkshopModel" "outputLength" "I" ∈ wsX11_renderGear by decide +kernel) rfl dX11_renderGear_163 ?_
            obtain ⟨⟨r97, w98⟩, hk96, hF⟩ := am_bind hF
            have hF := am_u2 hF
            refine am_call X hh (va_runV (As := [.int (gI w95 141 11)]) (rest := []) X.1 (c_X11_done l G hk96) (cwV 1 hts gX11_renderGear_X11_done rfl rfl rfl (by decide +kernel) ⟨Nat.le_of_ble_eq_true rfl, Nat.le_of_ble_eq_true rfl⟩) (am_preV X hh 141 12 (by decide) rfl rfl) rfl rfl hl.1 rfl (lv_room (Nat.le_of_ble_eq_true rfl)) dX11_renderGear_166 ⟨Nat.le_of_ble_eq_true rfl, Nat.le_of_ble_eq_true rfl⟩) (fun ab H locs hh => ?_)
            exact am_iret X hr hh (fun t ht => am_qw (mk := oI) hF ht) (Nat.le_of_ble_eq_true rfl) (Nat.le_of_ble_eq_true rfl) dX11_renderGear_169
          · have hF := am_pos hc92 hF
            refine lv_iconst (v := (1 : Int32)) hx hb dX11_renderGear_151 (by decide) ?_
            refine lv_goto (tgt := 156) hx hb dX11_renderGear_152 (by decide) ?_
            refine lv_bipush (v := (45 : Int32)) hx hb dX11_renderGear_156 (by decide) ?_
            obtain ⟨w102, hk100, hF⟩ := am_bind hF
            refine am_call X hh (va_runV (As := [.int (1 : Int32), .int (45 : Int32)]) (rest := []) X.1 (c_X11_writesIf l G hk100) (cwV 2 hts gX11_renderGear_X11_writesIf rfl rfl rfl (by decide +kernel) ⟨Nat.le_of_ble_eq_true rfl, Nat.le_of_ble_eq_true rfl⟩) (am_preV X hh 141 12 (by decide) rfl rfl) rfl rfl hl.1 rfl (lv_room (Nat.le_of_ble_eq_true rfl)) dX11_renderGear_158 ⟨Nat.le_of_ble_eq_true rfl, Nat.le_of_ble_eq_true rfl⟩) (fun ab H locs hh => ?_)
            refine lv_aload_n hx hb dX11_renderGear_161 rfl (lv_at hl 0 rfl) ?_
            refine lv_aload_n hx hb dX11_renderGear_162 rfl (lv_at hl 0 rfl) ?_
            refine am_getI X hh 141 12 11 (by decide) rfl rfl (by decide) hwRX11 (show Cond.fieldLink RX11 215 "PlanetWorkshopModel" "outputLength" "I" ∈ wsX11_renderGear by decide +kernel) rfl dX11_renderGear_163 ?_
            obtain ⟨⟨r104, w105⟩, hk103, hF⟩ := am_bind hF
            have hF := am_u2 hF
            refine am_call X hh (va_runV (As := [.int (gI w102 141 11)]) (rest := []) X.1 (c_X11_done l G hk103) (cwV 1 hts gX11_renderGear_X11_done rfl rfl rfl (by decide +kernel) ⟨Nat.le_of_ble_eq_true rfl, Nat.le_of_ble_eq_true rfl⟩) (am_preV X hh 141 12 (by decide) rfl rfl) rfl rfl hl.1 rfl (lv_room (Nat.le_of_ble_eq_true rfl)) dX11_renderGear_166 ⟨Nat.le_of_ble_eq_true rfl, Nat.le_of_ble_eq_true rfl⟩) (fun ab H locs hh => ?_)
            exact am_iret X hr hh (fun t ht => am_qw (mk := oI) hF ht) (Nat.le_of_ble_eq_true rfl) (Nat.le_of_ble_eq_true rfl) dX11_renderGear_169
    · have hF := am_pos hc17 hF
      refine lv_iconst (v := (1 : Int32)) hx hb dX11_renderGear_57 (by decide) ?_
      refine lv_goto (tgt := 62) hx hb dX11_renderGear_58 (by decide) ?_
      refine lv_bipush (v := (100 : Int32)) hx hb dX11_renderGear_62 (by decide) ?_
      obtain ⟨w109, hk107, hF⟩ := am_bind hF
      refine am_call X hh (va_runV (As := [.int (1 : Int32), .int (100 : Int32)]) (rest := []) X.1 (c_X11_writesIf l G hk107) (cwV 2 hts gX11_renderGear_X11_writesIf rfl rfl rfl (by decide +kernel) ⟨Nat.le_of_ble_eq_true rfl, Nat.le_of_ble_eq_true rfl⟩) (am_preV X hh 141 12 (by decide) rfl rfl) rfl rfl hl.1 rfl (lv_room (Nat.le_of_ble_eq_true rfl)) dX11_renderGear_64 ⟨Nat.le_of_ble_eq_true rfl, Nat.le_of_ble_eq_true rfl⟩) (fun ab H locs hh => ?_)
      refine lv_aload_n hx hb dX11_renderGear_67 rfl (lv_at hl 0 rfl) ?_
      refine lv_aload_n hx hb dX11_renderGear_68 rfl (lv_at hl 0 rfl) ?_
      refine am_getR X hh 141 12 0 142 (by decide) rfl rfl (by decide) hwRX11 (show Cond.fieldLink RX11 7 "PlanetWorkshopModel" "g" "[J" ∈ wsX11_renderGear by decide +kernel) rfl dX11_renderGear_69 ?_
      refine lv_bipush (v := (56 : Int32)) hx hb dX11_renderGear_72 (by decide) ?_
      refine lv_iload_n hx hb dX11_renderGear_74 rfl (lv_at hl 1 rfl) ?_
      refine lv_iadd hx hb dX11_renderGear_75 ?_
      obtain ⟨hq110, hF⟩ := am_ifR hF
      refine am_lald X hh 142 (by decide) rfl hq110 dX11_renderGear_76 ?_
      refine lv_lconst (v := (1 : Int64)) hx hb dX11_renderGear_77 (by decide) ?_
      refine am_lcmp_ne (tgt := 86) hx hb dX11_renderGear_78 dX11_renderGear_79 (by decide) (fun hc111 => ?_) (fun hc111 => ?_)
      · have hF := am_neg hc111 hF
        refine lv_iconst (v := (0 : Int32)) hx hb dX11_renderGear_86 (by decide) ?_
        refine lv_bipush (v := (114 : Int32)) hx hb dX11_renderGear_87 (by decide) ?_
        obtain ⟨w114, hk112, hF⟩ := am_bind hF
        refine am_call X hh (va_runV (As := [.int (0 : Int32), .int (114 : Int32)]) (rest := []) X.1 (c_X11_writesIf l G hk112) (cwV 2 hts gX11_renderGear_X11_writesIf rfl rfl rfl (by decide +kernel) ⟨Nat.le_of_ble_eq_true rfl, Nat.le_of_ble_eq_true rfl⟩) (am_preV X hh 141 12 (by decide) rfl rfl) rfl rfl hl.1 rfl (lv_room (Nat.le_of_ble_eq_true rfl)) dX11_renderGear_89 ⟨Nat.le_of_ble_eq_true rfl, Nat.le_of_ble_eq_true rfl⟩) (fun ab H locs hh => ?_)
        refine lv_aload_n hx hb dX11_renderGear_92 rfl (lv_at hl 0 rfl) ?_
        refine lv_iload_n hx hb dX11_renderGear_93 rfl (lv_at hl 1 rfl) ?_
        obtain ⟨r116, hk115, hF⟩ := am_bind hF
        refine am_call X hh (va_runV (As := [.int x1]) (rest := []) X.1 (c_X11_hasSpring l G hk115) (cwV 1 hts gX11_renderGear_X11_hasSpring rfl rfl rfl (by decide +kernel) ⟨Nat.le_of_ble_eq_true rfl, Nat.le_of_ble_eq_true rfl⟩) (am_preV X hh 141 12 (by decide) rfl rfl) rfl rfl hl.1 rfl (lv_room (Nat.le_of_ble_eq_true rfl)) dX11_renderGear_94 ⟨Nat.le_of_ble_eq_true rfl, Nat.le_of_ble_eq_true rfl⟩) (fun ab H locs hh => ?_)
        refine lv_if_eq (tgt := 161) hx hb dX11_renderGear_97 (by decide) (fun hc117 => ?_) (fun hc117 => ?_)
        · have hF := am_pos hc117 hF
          refine lv_aload_n hx hb dX11_renderGear_161 rfl (lv_at hl 0 rfl) ?_
          refine lv_aload_n hx hb dX11_renderGear_162 rfl (lv_at hl 0 rfl) ?_
          refine am_getI X hh 141 12 11 (by decide) rfl rfl (by decide) hwRX11 (show Cond.fieldLink RX11 215 "PlanetWorkshopModel" "outputLength" "I" ∈ wsX11_renderGear by decide +kernel) rfl dX11_renderGear_163 ?_
          obtain ⟨⟨r119, w120⟩, hk118, hF⟩ := am_bind hF
          have hF := am_u2 hF
          refine am_call X hh (va_runV (As := [.int (gI w114 141 11)]) (rest := []) X.1 (c_X11_done l G hk118) (cwV 1 hts gX11_renderGear_X11_done rfl rfl rfl (by decide +kernel) ⟨Nat.le_of_ble_eq_true rfl, Nat.le_of_ble_eq_true rfl⟩) (am_preV X hh 141 12 (by decide) rfl rfl) rfl rfl hl.1 rfl (lv_room (Nat.le_of_ble_eq_true rfl)) dX11_renderGear_166 ⟨Nat.le_of_ble_eq_true rfl, Nat.le_of_ble_eq_true rfl⟩) (fun ab H locs hh => ?_)
          exact am_iret X hr hh (fun t ht => am_qw (mk := oI) hF ht) (Nat.le_of_ble_eq_true rfl) (Nat.le_of_ble_eq_true rfl) dX11_renderGear_169
        · have hF := am_neg hc117 hF
          refine lv_aload_n hx hb dX11_renderGear_100 rfl (lv_at hl 0 rfl) ?_
          refine lv_bipush (v := (115 : Int32)) hx hb dX11_renderGear_101 (by decide) ?_
          obtain ⟨w124, hk122, hF⟩ := am_bind hF
          refine am_call X hh (va_runV (As := [.int (115 : Int32)]) (rest := []) X.1 (c_X11_writes l G hk122) (cwV 1 hts gX11_renderGear_X11_writes rfl rfl rfl (by decide +kernel) ⟨Nat.le_of_ble_eq_true rfl, Nat.le_of_ble_eq_true rfl⟩) (am_preV X hh 141 12 (by decide) rfl rfl) rfl rfl hl.1 rfl (lv_room (Nat.le_of_ble_eq_true rfl)) dX11_renderGear_103 ⟨Nat.le_of_ble_eq_true rfl, Nat.le_of_ble_eq_true rfl⟩) (fun ab H locs hh => ?_)
          refine lv_aload_n hx hb dX11_renderGear_106 rfl (lv_at hl 0 rfl) ?_
          refine lv_aload_n hx hb dX11_renderGear_107 rfl (lv_at hl 0 rfl) ?_
          refine lv_bipush (v := (36 : Int32)) hx hb dX11_renderGear_108 (by decide) ?_
          refine lv_iload_n hx hb dX11_renderGear_110 rfl (lv_at hl 1 rfl) ?_
          refine lv_iadd hx hb dX11_renderGear_111 ?_
          obtain ⟨r126, hk125, hF⟩ := am_bind hF
          refine am_call X hh (va_runV (As := [.int ((36 : Int32) + x1)]) (rest := [.ref (gAd G 141)]) X.1 (c_X11_at l G hk125) (cwV 1 hts gX11_renderGear_X11_at rfl rfl rfl (by decide +kernel) ⟨Nat.le_of_ble_eq_true rfl, Nat.le_of_ble_eq_true rfl⟩) (am_preV X hh 141 12 (by decide) rfl rfl) rfl rfl hl.1 rfl (lv_room (Nat.le_of_ble_eq_true rfl)) dX11_renderGear_112 ⟨Nat.le_of_ble_eq_true rfl, Nat.le_of_ble_eq_true rfl⟩) (fun ab H locs hh => ?_)
          obtain ⟨w129, hk127, hF⟩ := am_bind hF
          refine am_call X hh (va_runV (As := [.int r126]) (rest := []) X.1 (c_X11_writesNumber l G hk127) (cwV 1 hts gX11_renderGear_X11_writesNumber rfl rfl rfl (by decide +kernel) ⟨Nat.le_of_ble_eq_true rfl, Nat.le_of_ble_eq_true rfl⟩) (am_preV X hh 141 12 (by decide) rfl rfl) rfl rfl hl.1 rfl (lv_room (Nat.le_of_ble_eq_true rfl)) dX11_renderGear_115 ⟨Nat.le_of_ble_eq_true rfl, Nat.le_of_ble_eq_true rfl⟩) (fun ab H locs hh => ?_)
          refine lv_aload_n hx hb dX11_renderGear_118 rfl (lv_at hl 0 rfl) ?_
          refine lv_bipush (v := (47 : Int32)) hx hb dX11_renderGear_119 (by decide) ?_
          obtain ⟨w132, hk130, hF⟩ := am_bind hF
          refine am_call X hh (va_runV (As := [.int (47 : Int32)]) (rest := []) X.1 (c_X11_writes l G hk130) (cwV 1 hts gX11_renderGear_X11_writes rfl rfl rfl (by decide +kernel) ⟨Nat.le_of_ble_eq_true rfl, Nat.le_of_ble_eq_true rfl⟩) (am_preV X hh 141 12 (by decide) rfl rfl) rfl rfl hl.1 rfl (lv_room (Nat.le_of_ble_eq_true rfl)) dX11_renderGear_121 ⟨Nat.le_of_ble_eq_true rfl, Nat.le_of_ble_eq_true rfl⟩) (fun ab H locs hh => ?_)
          refine lv_aload_n hx hb dX11_renderGear_124 rfl (lv_at hl 0 rfl) ?_
          refine lv_aload_n hx hb dX11_renderGear_125 rfl (lv_at hl 0 rfl) ?_
          refine lv_bipush (v := (26 : Int32)) hx hb dX11_renderGear_126 (by decide) ?_
          refine lv_iload_n hx hb dX11_renderGear_128 rfl (lv_at hl 1 rfl) ?_
          refine lv_iadd hx hb dX11_renderGear_129 ?_
          obtain ⟨r134, hk133, hF⟩ := am_bind hF
          refine am_call X hh (va_runV (As := [.int ((26 : Int32) + x1)]) (rest := [.ref (gAd G 141)]) X.1 (c_X11_at l G hk133) (cwV 1 hts gX11_renderGear_X11_at rfl rfl rfl (by decide +kernel) ⟨Nat.le_of_ble_eq_true rfl, Nat.le_of_ble_eq_true rfl⟩) (am_preV X hh 141 12 (by decide) rfl rfl) rfl rfl hl.1 rfl (lv_room (Nat.le_of_ble_eq_true rfl)) dX11_renderGear_130 ⟨Nat.le_of_ble_eq_true rfl, Nat.le_of_ble_eq_true rfl⟩) (fun ab H locs hh => ?_)
          obtain ⟨w137, hk135, hF⟩ := am_bind hF
          refine am_call X hh (va_runV (As := [.int r134]) (rest := []) X.1 (c_X11_writesNumber l G hk135) (cwV 1 hts gX11_renderGear_X11_writesNumber rfl rfl rfl (by decide +kernel) ⟨Nat.le_of_ble_eq_true rfl, Nat.le_of_ble_eq_true rfl⟩) (am_preV X hh 141 12 (by decide) rfl rfl) rfl rfl hl.1 rfl (lv_room (Nat.le_of_ble_eq_true rfl)) dX11_renderGear_133 ⟨Nat.le_of_ble_eq_true rfl, Nat.le_of_ble_eq_true rfl⟩) (fun ab H locs hh => ?_)
          refine lv_aload_n hx hb dX11_renderGear_136 rfl (lv_at hl 0 rfl) ?_
          refine lv_aload_n hx hb dX11_renderGear_137 rfl (lv_at hl 0 rfl) ?_
          refine am_getR X hh 141 12 0 142 (by decide) rfl rfl (by decide) hwRX11 (show Cond.fieldLink RX11 7 "PlanetWorkshopModel" "g" "[J" ∈ wsX11_renderGear by decide +kernel) rfl dX11_renderGear_138 ?_
          refine lv_bipush (v := (46 : Int32)) hx hb dX11_renderGear_141 (by decide) ?_
          refine lv_iload_n hx hb dX11_renderGear_143 rfl (lv_at hl 1 rfl) ?_
          refine lv_iadd hx hb dX11_renderGear_144 ?_
          obtain ⟨hq138, hF⟩ := am_ifR hF
          refine am_lald X hh 142 (by decide) rfl hq138 dX11_renderGear_145 ?_
          refine lv_lconst (v := (1 : Int64)) hx hb dX11_renderGear_146 (by decide) ?_
          refine am_lcmp_ne (tgt := 155) hx hb dX11_renderGear_147 dX11_renderGear_148 (by decide) (fun hc139 => ?_) (fun hc139 => ?_)
          · have hF := am_neg hc139 hF
            refine lv_iconst (v := (0 : Int32)) hx hb dX11_renderGear_155 (by decide) ?_
            refine lv_bipush (v := (45 : Int32)) hx hb dX11_renderGear_156 (by decide) ?_
            obtain ⟨w142, hk140, hF⟩ := am_bind hF
            refine am_call X hh (va_runV (As := [.int (0 : Int32), .int (45 : Int32)]) (rest := []) X.1 (c_X11_writesIf l G hk140) (cwV 2 hts gX11_renderGear_X11_writesIf rfl rfl rfl (by decide +kernel) ⟨Nat.le_of_ble_eq_true rfl, Nat.le_of_ble_eq_true rfl⟩) (am_preV X hh 141 12 (by decide) rfl rfl) rfl rfl hl.1 rfl (lv_room (Nat.le_of_ble_eq_true rfl)) dX11_renderGear_158 ⟨Nat.le_of_ble_eq_true rfl, Nat.le_of_ble_eq_true rfl⟩) (fun ab H locs hh => ?_)
            refine lv_aload_n hx hb dX11_renderGear_161 rfl (lv_at hl 0 rfl) ?_
            refine lv_aload_n hx hb dX11_renderGear_162 rfl (lv_at hl 0 rfl) ?_
            refine am_getI X hh 141 12 11 (by decide) rfl rfl (by decide) hwRX11 (show Cond.fieldLink RX11 215 "PlanetWorkshopModel" "outputLength" "I" ∈ wsX11_renderGear by decide +kernel) rfl dX11_renderGear_163 ?_
            obtain ⟨⟨r144, w145⟩, hk143, hF⟩ := am_bind hF
            have hF := am_u2 hF
            refine am_call X hh (va_runV (As := [.int (gI w142 141 11)]) (rest := []) X.1 (c_X11_done l G hk143) (cwV 1 hts gX11_renderGear_X11_done rfl rfl rfl (by decide +kernel) ⟨Nat.le_of_ble_eq_true rfl, Nat.le_of_ble_eq_true rfl⟩) (am_preV X hh 141 12 (by decide) rfl rfl) rfl rfl hl.1 rfl (lv_room (Nat.le_of_ble_eq_true rfl)) dX11_renderGear_166 ⟨Nat.le_of_ble_eq_true rfl, Nat.le_of_ble_eq_true rfl⟩) (fun ab H locs hh => ?_)
            exact am_iret X hr hh (fun t ht => am_qw (mk := oI) hF ht) (Nat.le_of_ble_eq_true rfl) (Nat.le_of_ble_eq_true rfl) dX11_renderGear_169
          · have hF := am_pos hc139 hF
            refine lv_iconst (v := (1 : Int32)) hx hb dX11_renderGear_151 (by decide) ?_
            refine lv_goto (tgt := 156) hx hb dX11_renderGear_152 (by decide) ?_
            refine lv_bipush (v := (45 : Int32)) hx hb dX11_renderGear_156 (by decide) ?_
            obtain ⟨w149, hk147, hF⟩ := am_bind hF
            refine am_call X hh (va_runV (As := [.int (1 : Int32), .int (45 : Int32)]) (rest := []) X.1 (c_X11_writesIf l G hk147) (cwV 2 hts gX11_renderGear_X11_writesIf rfl rfl rfl (by decide +kernel) ⟨Nat.le_of_ble_eq_true rfl, Nat.le_of_ble_eq_true rfl⟩) (am_preV X hh 141 12 (by decide) rfl rfl) rfl rfl hl.1 rfl (lv_room (Nat.le_of_ble_eq_true rfl)) dX11_renderGear_158 ⟨Nat.le_of_ble_eq_true rfl, Nat.le_of_ble_eq_true rfl⟩) (fun ab H locs hh => ?_)
            refine lv_aload_n hx hb dX11_renderGear_161 rfl (lv_at hl 0 rfl) ?_
            refine lv_aload_n hx hb dX11_renderGear_162 rfl (lv_at hl 0 rfl) ?_
            refine am_getI X hh 141 12 11 (by decide) rfl rfl (by decide) hwRX11 (show Cond.fieldLink RX11 215 "PlanetWorkshopModel" "outputLength" "I" ∈ wsX11_renderGear by decide +kernel) rfl dX11_renderGear_163 ?_
            obtain ⟨⟨r151, w152⟩, hk150, hF⟩ := am_bind hF
            have hF := am_u2 hF
            refine am_call X hh (va_runV (As := [.int (gI w149 141 11)]) (rest := []) X.1 (c_X11_done l G hk150) (cwV 1 hts gX11_renderGear_X11_done rfl rfl rfl (by decide +kernel) ⟨Nat.le_of_ble_eq_true rfl, Nat.le_of_ble_eq_true rfl⟩) (am_preV X hh 141 12 (by decide) rfl rfl) rfl rfl hl.1 rfl (lv_room (Nat.le_of_ble_eq_true rfl)) dX11_renderGear_166 ⟨Nat.le_of_ble_eq_true rfl, Nat.le_of_ble_eq_true rfl⟩) (fun ab H locs hh => ?_)
            exact am_iret X hr hh (fun t ht => am_qw (mk := oI) hF ht) (Nat.le_of_ble_eq_true rfl) (Nat.le_of_ble_eq_true rfl) dX11_renderGear_169
      · have hF := am_pos hc111 hF
        refine lv_iconst (v := (1 : Int32)) hx hb dX11_renderGear_82 (by decide) ?_
        refine lv_goto (tgt := 87) hx hb dX11_renderGear_83 (by decide) ?_
        refine lv_bipush (v := (114 : Int32)) hx hb dX11_renderGear_87 (by decide) ?_
        obtain ⟨w156, hk154, hF⟩ := am_bind hF
        refine am_call X hh (va_runV (As := [.int (1 : Int32), .int (114 : Int32)]) (rest := []) X.1 (c_X11_writesIf l G hk154) (cwV 2 hts gX11_renderGear_X11_writesIf rfl rfl rfl (by decide +kernel) ⟨Nat.le_of_ble_eq_true rfl, Nat.le_of_ble_eq_true rfl⟩) (am_preV X hh 141 12 (by decide) rfl rfl) rfl rfl hl.1 rfl (lv_room (Nat.le_of_ble_eq_true rfl)) dX11_renderGear_89 ⟨Nat.le_of_ble_eq_true rfl, Nat.le_of_ble_eq_true rfl⟩) (fun ab H locs hh => ?_)
        refine lv_aload_n hx hb dX11_renderGear_92 rfl (lv_at hl 0 rfl) ?_
        refine lv_iload_n hx hb dX11_renderGear_93 rfl (lv_at hl 1 rfl) ?_
        obtain ⟨r158, hk157, hF⟩ := am_bind hF
        refine am_call X hh (va_runV (As := [.int x1]) (rest := []) X.1 (c_X11_hasSpring l G hk157) (cwV 1 hts gX11_renderGear_X11_hasSpring rfl rfl rfl (by decide +kernel) ⟨Nat.le_of_ble_eq_true rfl, Nat.le_of_ble_eq_true rfl⟩) (am_preV X hh 141 12 (by decide) rfl rfl) rfl rfl hl.1 rfl (lv_room (Nat.le_of_ble_eq_true rfl)) dX11_renderGear_94 ⟨Nat.le_of_ble_eq_true rfl, Nat.le_of_ble_eq_true rfl⟩) (fun ab H locs hh => ?_)
        refine lv_if_eq (tgt := 161) hx hb dX11_renderGear_97 (by decide) (fun hc159 => ?_) (fun hc159 => ?_)
        · have hF := am_pos hc159 hF
          refine lv_aload_n hx hb dX11_renderGear_161 rfl (lv_at hl 0 rfl) ?_
          refine lv_aload_n hx hb dX11_renderGear_162 rfl (lv_at hl 0 rfl) ?_
          refine am_getI X hh 141 12 11 (by decide) rfl rfl (by decide) hwRX11 (show Cond.fieldLink RX11 215 "PlanetWorkshopModel" "outputLength" "I" ∈ wsX11_renderGear by decide +kernel) rfl dX11_renderGear_163 ?_
          obtain ⟨⟨r161, w162⟩, hk160, hF⟩ := am_bind hF
          have hF := am_u2 hF
          refine am_call X hh (va_runV (As := [.int (gI w156 141 11)]) (rest := []) X.1 (c_X11_done l G hk160) (cwV 1 hts gX11_renderGear_X11_done rfl rfl rfl (by decide +kernel) ⟨Nat.le_of_ble_eq_true rfl, Nat.le_of_ble_eq_true rfl⟩) (am_preV X hh 141 12 (by decide) rfl rfl) rfl rfl hl.1 rfl (lv_room (Nat.le_of_ble_eq_true rfl)) dX11_renderGear_166 ⟨Nat.le_of_ble_eq_true rfl, Nat.le_of_ble_eq_true rfl⟩) (fun ab H locs hh => ?_)
          exact am_iret X hr hh (fun t ht => am_qw (mk := oI) hF ht) (Nat.le_of_ble_eq_true rfl) (Nat.le_of_ble_eq_true rfl) dX11_renderGear_169
        · have hF := am_neg hc159 hF
          refine lv_aload_n hx hb dX11_renderGear_100 rfl (lv_at hl 0 rfl) ?_
          refine lv_bipush (v := (115 : Int32)) hx hb dX11_renderGear_101 (by decide) ?_
          obtain ⟨w166, hk164, hF⟩ := am_bind hF
          refine am_call X hh (va_runV (As := [.int (115 : Int32)]) (rest := []) X.1 (c_X11_writes l G hk164) (cwV 1 hts gX11_renderGear_X11_writes rfl rfl rfl (by decide +kernel) ⟨Nat.le_of_ble_eq_true rfl, Nat.le_of_ble_eq_true rfl⟩) (am_preV X hh 141 12 (by decide) rfl rfl) rfl rfl hl.1 rfl (lv_room (Nat.le_of_ble_eq_true rfl)) dX11_renderGear_103 ⟨Nat.le_of_ble_eq_true rfl, Nat.le_of_ble_eq_true rfl⟩) (fun ab H locs hh => ?_)
          refine lv_aload_n hx hb dX11_renderGear_106 rfl (lv_at hl 0 rfl) ?_
          refine lv_aload_n hx hb dX11_renderGear_107 rfl (lv_at hl 0 rfl) ?_
          refine lv_bipush (v := (36 : Int32)) hx hb dX11_renderGear_108 (by decide) ?_
          refine lv_iload_n hx hb dX11_renderGear_110 rfl (lv_at hl 1 rfl) ?_
          refine lv_iadd hx hb dX11_renderGear_111 ?_
          obtain ⟨r168, hk167, hF⟩ := am_bind hF
          refine am_call X hh (va_runV (As := [.int ((36 : Int32) + x1)]) (rest := [.ref (gAd G 141)]) X.1 (c_X11_at l G hk167) (cwV 1 hts gX11_renderGear_X11_at rfl rfl rfl (by decide +kernel) ⟨Nat.le_of_ble_eq_true rfl, Nat.le_of_ble_eq_true rfl⟩) (am_preV X hh 141 12 (by decide) rfl rfl) rfl rfl hl.1 rfl (lv_room (Nat.le_of_ble_eq_true rfl)) dX11_renderGear_112 ⟨Nat.le_of_ble_eq_true rfl, Nat.le_of_ble_eq_true rfl⟩) (fun ab H locs hh => ?_)
          obtain ⟨w171, hk169, hF⟩ := am_bind hF
          refine am_call X hh (va_runV (As := [.int r168]) (rest := []) X.1 (c_X11_writesNumber l G hk169) (cwV 1 hts gX11_renderGear_X11_writesNumber rfl rfl rfl (by decide +kernel) ⟨Nat.le_of_ble_eq_true rfl, Nat.le_of_ble_eq_true rfl⟩) (am_preV X hh 141 12 (by decide) rfl rfl) rfl rfl hl.1 rfl (lv_room (Nat.le_of_ble_eq_true rfl)) dX11_renderGear_115 ⟨Nat.le_of_ble_eq_true rfl, Nat.le_of_ble_eq_true rfl⟩) (fun ab H locs hh => ?_)
          refine lv_aload_n hx hb dX11_renderGear_118 rfl (lv_at hl 0 rfl) ?_
          refine lv_bipush (v := (47 : Int32)) hx hb dX11_renderGear_119 (by decide) ?_
          obtain ⟨w174, hk172, hF⟩ := am_bind hF
          refine am_call X hh (va_runV (As := [.int (47 : Int32)]) (rest := []) X.1 (c_X11_writes l G hk172) (cwV 1 hts gX11_renderGear_X11_writes rfl rfl rfl (by decide +kernel) ⟨Nat.le_of_ble_eq_true rfl, Nat.le_of_ble_eq_true rfl⟩) (am_preV X hh 141 12 (by decide) rfl rfl) rfl rfl hl.1 rfl (lv_room (Nat.le_of_ble_eq_true rfl)) dX11_renderGear_121 ⟨Nat.le_of_ble_eq_true rfl, Nat.le_of_ble_eq_true rfl⟩) (fun ab H locs hh => ?_)
          refine lv_aload_n hx hb dX11_renderGear_124 rfl (lv_at hl 0 rfl) ?_
          refine lv_aload_n hx hb dX11_renderGear_125 rfl (lv_at hl 0 rfl) ?_
          refine lv_bipush (v := (26 : Int32)) hx hb dX11_renderGear_126 (by decide) ?_
          refine lv_iload_n hx hb dX11_renderGear_128 rfl (lv_at hl 1 rfl) ?_
          refine lv_iadd hx hb dX11_renderGear_129 ?_
          obtain ⟨r176, hk175, hF⟩ := am_bind hF
          refine am_call X hh (va_runV (As := [.int ((26 : Int32) + x1)]) (rest := [.ref (gAd G 141)]) X.1 (c_X11_at l G hk175) (cwV 1 hts gX11_renderGear_X11_at rfl rfl rfl (by decide +kernel) ⟨Nat.le_of_ble_eq_true rfl, Nat.le_of_ble_eq_true rfl⟩) (am_preV X hh 141 12 (by decide) rfl rfl) rfl rfl hl.1 rfl (lv_room (Nat.le_of_ble_eq_true rfl)) dX11_renderGear_130 ⟨Nat.le_of_ble_eq_true rfl, Nat.le_of_ble_eq_true rfl⟩) (fun ab H locs hh => ?_)
          obtain ⟨w179, hk177, hF⟩ := am_bind hF
          refine am_call X hh (va_runV (As := [.int r176]) (rest := []) X.1 (c_X11_writesNumber l G hk177) (cwV 1 hts gX11_renderGear_X11_writesNumber rfl rfl rfl (by decide +kernel) ⟨Nat.le_of_ble_eq_true rfl, Nat.le_of_ble_eq_true rfl⟩) (am_preV X hh 141 12 (by decide) rfl rfl) rfl rfl hl.1 rfl (lv_room (Nat.le_of_ble_eq_true rfl)) dX11_renderGear_133 ⟨Nat.le_of_ble_eq_true rfl, Nat.le_of_ble_eq_true rfl⟩) (fun ab H locs hh => ?_)
          refine lv_aload_n hx hb dX11_renderGear_136 rfl (lv_at hl 0 rfl) ?_
          refine lv_aload_n hx hb dX11_renderGear_137 rfl (lv_at hl 0 rfl) ?_
          refine am_getR X hh 141 12 0 142 (by decide) rfl rfl (by decide) hwRX11 (show Cond.fieldLink RX11 7 "PlanetWorkshopModel" "g" "[J" ∈ wsX11_renderGear by decide +kernel) rfl dX11_renderGear_138 ?_
          refine lv_bipush (v := (46 : Int32)) hx hb dX11_renderGear_141 (by decide) ?_
          refine lv_iload_n hx hb dX11_renderGear_143 rfl (lv_at hl 1 rfl) ?_
          refine lv_iadd hx hb dX11_renderGear_144 ?_
          obtain ⟨hq180, hF⟩ := am_ifR hF
          refine am_lald X hh 142 (by decide) rfl hq180 dX11_renderGear_145 ?_
          refine lv_lconst (v := (1 : Int64)) hx hb dX11_renderGear_146 (by decide) ?_
          refine am_lcmp_ne (tgt := 155) hx hb dX11_renderGear_147 dX11_renderGear_148 (by decide) (fun hc181 => ?_) (fun hc181 => ?_)
          · have hF := am_neg hc181 hF
            refine lv_iconst (v := (0 : Int32)) hx hb dX11_renderGear_155 (by decide) ?_
            refine lv_bipush (v := (45 : Int32)) hx hb dX11_renderGear_156 (by decide) ?_
            obtain ⟨w184, hk182, hF⟩ := am_bind hF
            refine am_call X hh (va_runV (As := [.int (0 : Int32), .int (45 : Int32)]) (rest := []) X.1 (c_X11_writesIf l G hk182) (cwV 2 hts gX11_renderGear_X11_writesIf rfl rfl rfl (by decide +kernel) ⟨Nat.le_of_ble_eq_true rfl, Nat.le_of_ble_eq_true rfl⟩) (am_preV X hh 141 12 (by decide) rfl rfl) rfl rfl hl.1 rfl (lv_room (Nat.le_of_ble_eq_true rfl)) dX11_renderGear_158 ⟨Nat.le_of_ble_eq_true rfl, Nat.le_of_ble_eq_true rfl⟩) (fun ab H locs hh => ?_)
            refine lv_aload_n hx hb dX11_renderGear_161 rfl (lv_at hl 0 rfl) ?_
            refine lv_aload_n hx hb dX11_renderGear_162 rfl (lv_at hl 0 rfl) ?_
            refine am_getI X hh 141 12 11 (by decide) rfl rfl (by decide) hwRX11 (show Cond.fieldLink RX11 215 "PlanetWorkshopModel" "outputLength" "I" ∈ wsX11_renderGear by decide +kernel) rfl dX11_renderGear_163 ?_
            obtain ⟨⟨r186, w187⟩, hk185, hF⟩ := am_bind hF
            have hF := am_u2 hF
            refine am_call X hh (va_runV (As := [.int (gI w184 141 11)]) (rest := []) X.1 (c_X11_done l G hk185) (cwV 1 hts gX11_renderGear_X11_done rfl rfl rfl (by decide +kernel) ⟨Nat.le_of_ble_eq_true rfl, Nat.le_of_ble_eq_true rfl⟩) (am_preV X hh 141 12 (by decide) rfl rfl) rfl rfl hl.1 rfl (lv_room (Nat.le_of_ble_eq_true rfl)) dX11_renderGear_166 ⟨Nat.le_of_ble_eq_true rfl, Nat.le_of_ble_eq_true rfl⟩) (fun ab H locs hh => ?_)
            exact am_iret X hr hh (fun t ht => am_qw (mk := oI) hF ht) (Nat.le_of_ble_eq_true rfl) (Nat.le_of_ble_eq_true rfl) dX11_renderGear_169
          · have hF := am_pos hc181 hF
            refine lv_iconst (v := (1 : Int32)) hx hb dX11_renderGear_151 (by decide) ?_
            refine lv_goto (tgt := 156) hx hb dX11_renderGear_152 (by decide) ?_
            refine lv_bipush (v := (45 : Int32)) hx hb dX11_renderGear_156 (by decide) ?_
            obtain ⟨w191, hk189, hF⟩ := am_bind hF
            refine am_call X hh (va_runV (As := [.int (1 : Int32), .int (45 : Int32)]) (rest := []) X.1 (c_X11_writesIf l G hk189) (cwV 2 hts gX11_renderGear_X11_writesIf rfl rfl rfl (by decide +kernel) ⟨Nat.le_of_ble_eq_true rfl, Nat.le_of_ble_eq_true rfl⟩) (am_preV X hh 141 12 (by decide) rfl rfl) rfl rfl hl.1 rfl (lv_room (Nat.le_of_ble_eq_true rfl)) dX11_renderGear_158 ⟨Nat.le_of_ble_eq_true rfl, Nat.le_of_ble_eq_true rfl⟩) (fun ab H locs hh => ?_)
            refine lv_aload_n hx hb dX11_renderGear_161 rfl (lv_at hl 0 rfl) ?_
            refine lv_aload_n hx hb dX11_renderGear_162 rfl (lv_at hl 0 rfl) ?_
            refine am_getI X hh 141 12 11 (by decide) rfl rfl (by decide) hwRX11 (show Cond.fieldLink RX11 215 "PlanetWorkshopModel" "outputLength" "I" ∈ wsX11_renderGear by decide +kernel) rfl dX11_renderGear_163 ?_
            obtain ⟨⟨r193, w194⟩, hk192, hF⟩ := am_bind hF
            have hF := am_u2 hF
            refine am_call X hh (va_runV (As := [.int (gI w191 141 11)]) (rest := []) X.1 (c_X11_done l G hk192) (cwV 1 hts gX11_renderGear_X11_done rfl rfl rfl (by decide +kernel) ⟨Nat.le_of_ble_eq_true rfl, Nat.le_of_ble_eq_true rfl⟩) (am_preV X hh 141 12 (by decide) rfl rfl) rfl rfl hl.1 rfl (lv_room (Nat.le_of_ble_eq_true rfl)) dX11_renderGear_166 ⟨Nat.le_of_ble_eq_true rfl, Nat.le_of_ble_eq_true rfl⟩) (fun ab H locs hh => ?_)
            exact am_iret X hr hh (fun t ht => am_qw (mk := oI) hF ht) (Nat.le_of_ble_eq_true rfl) (Nat.le_of_ble_eq_true rfl) dX11_renderGear_169
  · have hF := am_pos hc3 hF
    refine lv_aload_n hx hb dX11_renderGear_8 rfl (lv_at hl 0 rfl) ?_
    refine lv_iconst (v := (1 : Int32)) hx hb dX11_renderGear_9 (by decide) ?_
    obtain ⟨⟨r197, w198⟩, hk196, hF⟩ := am_bind hF
    have hF := am_u2 hF
    refine am_call X hh (va_runV (As := [.int (1 : Int32)]) (rest := []) X.1 (c_X11_fails l G hk196) (cwV 1 hts gX11_renderGear_X11_fails rfl rfl rfl (by decide +kernel) ⟨Nat.le_of_ble_eq_true rfl, Nat.le_of_ble_eq_true rfl⟩) (am_preV X hh 141 12 (by decide) rfl rfl) rfl rfl hl.1 rfl (lv_room (Nat.le_of_ble_eq_true rfl)) dX11_renderGear_10 ⟨Nat.le_of_ble_eq_true rfl, Nat.le_of_ble_eq_true rfl⟩) (fun ab H locs hh => ?_)
    exact am_iret X hr hh (fun t ht => am_qw (mk := oI) hF ht) (Nat.le_of_ble_eq_true rfl) (Nat.le_of_ble_eq_true rfl) dX11_renderGear_13
set_option maxHeartbeats 4000000 in
set_option maxRecDepth 100000 in
theorem c_X11_renderTrain (l : Launch) (G : GG) {w : Wd} {x1 : Int32} {r0 : Int32} {w1 : Wd} (hF : f_X11_renderTrain w x1 = some (r0, w1)) : Met l yX11_renderTrain wsX11_renderTrain ({ frames := 4, cells := 0, slots := 0, locals := 88 } : Room) (va_Pc [.ref (gAd G 141), .int x1] (Rel G w)) (amQ G (oI r0) w1) 0 0 (gA G) := by
  refine am_met (own := RX11) (cc := cX11_renderTrain) (maxL := 3) (ret := (some .int)) (by decide +kernel) rfl rfl (Nat.le_of_ble_eq_true rfl) ?_
  intro p e s m args below meth c ab H locs ls X hr hh hl
  have hx := X.1.1; have hb := X.1.2.1; have hml := X.1.2.2.1; have hown := X.1.2.2.2.1; have hts := X.1.2.2.2.2
  have hl : lv_has ls 3 [(0, .ref (gAd G 141)), (1, .int x1)] := hl
  have hwRX11 : ∀ z ∈ u_ws RX11 TX11 18, z ∈ wsX11_renderTrain := by decide +kernel
  unfold f_X11_renderTrain at hF
  refine lv_aload_n hx hb dX11_renderTrain_0 rfl (lv_at hl 0 rfl) ?_
  refine lv_iload_n hx hb dX11_renderTrain_1 rfl (lv_at hl 1 rfl) ?_
  obtain ⟨r2, hk1, hF⟩ := am_bind hF
  refine am_call X hh (va_runV (As := [.int x1]) (rest := []) X.1 (c_X11_isGear l G hk1) (cwV 1 hts gX11_renderTrain_X11_isGear rfl rfl rfl (by decide +kernel) ⟨Nat.le_of_ble_eq_true rfl, Nat.le_of_ble_eq_true rfl⟩) (am_preV X hh 141 12 (by decide) rfl rfl) rfl rfl hl.1 rfl (lv_room (Nat.le_of_ble_eq_true rfl)) dX11_renderTrain_2 ⟨Nat.le_of_ble_eq_true rfl, Nat.le_of_ble_eq_true rfl⟩) (fun ab H locs hh => ?_)
  refine lv_if_ne (tgt := 14) hx hb dX11_renderTrain_5 (by decide) (fun hc3 => ?_) (fun hc3 => ?_)
  · have hF := am_neg hc3 hF
    refine lv_aload_n hx hb dX11_renderTrain_14 rfl (lv_at hl 0 rfl) ?_
    refine lv_iload_n hx hb dX11_renderTrain_15 rfl (lv_at hl 1 rfl) ?_
    obtain ⟨w6, hk4, hF⟩ := am_bind hF
    refine am_call X hh (va_runV (As := [.int x1]) (rest := []) X.1 (c_X11_turns l G hk4) (cwV 1 hts gX11_renderTrain_X11_turns rfl rfl rfl (by decide +kernel) ⟨Nat.le_of_ble_eq_true rfl, Nat.le_of_ble_eq_true rfl⟩) (am_preV X hh 141 12 (by decide) rfl rfl) rfl rfl hl.1 rfl (lv_room (Nat.le_of_ble_eq_true rfl)) dX11_renderTrain_16 ⟨Nat.le_of_ble_eq_true rfl, Nat.le_of_ble_eq_true rfl⟩) (fun ab H locs hh => ?_)
    refine lv_aload_n hx hb dX11_renderTrain_19 rfl (lv_at hl 0 rfl) ?_
    refine lv_iconst (v := (0 : Int32)) hx hb dX11_renderTrain_20 (by decide) ?_
    refine am_putI X hh 141 12 11 (by decide) rfl rfl (by decide) hwRX11 tyX11 tyX11_ok nmX11 (show Cond.fieldLink RX11 215 "PlanetWorkshopModel" "outputLength" "I" ∈ wsX11_renderTrain by decide +kernel) rfl rfl rfl rfl dX11_renderTrain_21 (fun H locs hh => ?_)
    obtain ⟨w7, hw7, hF⟩ := am_wl hF
    have hh := AH_eq hw7 hh
    refine lv_iconst (v := (0 : Int32)) hx hb dX11_renderTrain_24 (by decide) ?_
    refine lv_istore_n (lv' := [(2, .int (0 : Int32)), (0, .ref (gAd G 141)), (1, .int x1)]) hx hb dX11_renderTrain_25 rfl hl (by decide) rfl (fun ls hl => ?_)
    have hlp26 : ∀ (n : Nat) (y8 : Int32) (w9 : Wd) (ab : Nat) (H : Heap) (locs : List Loc) (ls : Array Slot) (z : (Int32 × Wd) ⊕ Unit), p_X11_renderTrain_26 n y8 w9 = some z → AH G s.heap w9 ab H locs → lv_has ls 3 [(2, .int y8), (0, .ref (gAd G 141)), (1, .int x1)] → (∀ (y8 : Int32) (w9 : Wd) (ab : Nat) (H : Heap) (locs : List Loc) (ls : Array Slot), z = .inl (y8, w9) → AH G s.heap w9 ab H locs → lv_has ls 3 [(2, .int y8), (0, .ref (gAd G 141)), (1, .int x1)] → W p l e ({ frames := 4, cells := 0, slots := 0, locals := 88 } : Room) s m args below meth c H locs 0 0 (MQ below (amQ G (oI r0) w1) args s 0 0 (gA G)) (F0 m 90 ls [])) → W p l e ({ frames := 4, cells := 0, slots := 0, locals := 88 } : Room) s m args below meth c H locs 0 0 (MQ below (amQ G (oI r0) w1) args s 0 0 (gA G)) (F0 m 26 ls []) := by
      intro n
      induction n with
      | zero =>
        intro y8 w9 ab H locs ls z hF
        unfold p_X11_renderTrain_26 at hF
        cases hF
      | succ n ih =>
        intro y8 w9 ab H locs ls z hF hh hl kE
        unfold p_X11_renderTrain_26 at hF
        refine lv_iload_n hx hb dX11_renderTrain_26 rfl (lv_at hl 0 rfl) ?_
        refine lv_bipush (v := (10 : Int32)) hx hb dX11_renderTrain_27 (by decide) ?_
        refine lv_icmp_ge (tgt := 90) hx hb dX11_renderTrain_29 (by decide) (fun hc11 => ?_) (fun hc11 => ?_)
        · have hF := am_pos hc11 hF
          exact kE y8 w9 ab H locs ls (Option.some.inj hF).symm hh (lv_sub hl [0, 1, 2] rfl)
        · have hF := am_neg hc11 hF
          refine lv_aload_n hx hb dX11_renderTrain_32 rfl (lv_at hl 1 rfl) ?_
          refine am_getR X hh 141 12 14 149 (by decide) rfl rfl (by decide) hwRX11 (show Cond.fieldLink RX11 39 "PlanetWorkshopModel" "isKnown" "[Z" ∈ wsX11_renderTrain by decide +kernel) rfl dX11_renderTrain_33 ?_
          refine lv_iload_n hx hb dX11_renderTrain_36 rfl (lv_at hl 0 rfl) ?_
          obtain ⟨hq12, hF⟩ := am_ifR hF
          refine am_zald X hh 149 (by decide) rfl hq12 dX11_renderTrain_37 ?_
          refine lv_if_eq (tgt := 84) hx hb dX11_renderTrain_38 (by decide) (fun hc13 => ?_) (fun hc13 => ?_)
          · have hF := am_pos hc13 hF
            refine lv_iinc (v := (y8 + (1 : Int32))) (lv' := [(2, .int (y8 + (1 : Int32))), (0, .ref (gAd G 141)), (1, .int x1)]) hx hb dX11_renderTrain_84 hl (k := 0) rfl rfl (by decide) rfl (fun ls hl => ?_)
            refine lv_goto (tgt := 26) hx hb dX11_renderTrain_87 (by decide) ?_
            exact ih (y8 + (1 : Int32)) w9 ab H locs ls _ hF hh (lv_sub hl [0, 1, 2] rfl) kE
          · have hF := am_neg hc13 hF
            refine lv_aload_n hx hb dX11_renderTrain_41 rfl (lv_at hl 1 rfl) ?_
            refine lv_aload_n hx hb dX11_renderTrain_42 rfl (lv_at hl 1 rfl) ?_
            refine am_getI X hh 141 12 11 (by decide) rfl rfl (by decide) hwRX11 (show Cond.fieldLink RX11 215 "PlanetWorkshopModel" "outputLength" "I" ∈ wsX11_renderTrain by decide +kernel) rfl dX11_renderTrain_43 ?_
            refine lv_if_le (tgt := 53) hx hb dX11_renderTrain_46 (by decide) (fun hc14 => ?_) (fun hc14 => ?_)
            · have hF := am_pos hc14 hF
              refine lv_iconst (v := (0 : Int32)) hx hb dX11_renderTrain_53 (by decide) ?_
              refine lv_bipush (v := (44 : Int32)) hx hb dX11_renderTrain_54 (by decide) ?_
              obtain ⟨w17, hk15, hF⟩ := am_bind hF
              refine am_call X hh (va_runV (As := [.int (0 : Int32), .int (44 : Int32)]) (rest := []) X.1 (c_X11_writesIf l G hk15) (cwV 2 hts gX11_renderTrain_X11_writesIf rfl rfl rfl (by decide +kernel) ⟨Nat.le_of_ble_eq_true rfl, Nat.le_of_ble_eq_true rfl⟩) (am_preV X hh 141 12 (by decide) rfl rfl) rfl rfl hl.1 rfl (lv_room (Nat.le_of_ble_eq_true rfl)) dX11_renderTrain_56 ⟨Nat.le_of_ble_eq_true rfl, Nat.le_of_ble_eq_true rfl⟩) (fun ab H locs hh => ?_)
              refine lv_aload_n hx hb dX11_renderTrain_59 rfl (lv_at hl 1 rfl) ?_
              refine lv_iload_n hx hb dX11_renderTrain_60 rfl (lv_at hl 0 rfl) ?_
              obtain ⟨w20, hk18, hF⟩ := am_bind hF
              refine am_call X hh (va_runV (As := [.int y8]) (rest := []) X.1 (c_X11_writesNumber l G hk18) (cwV 1 hts gX11_renderTrain_X11_writesNumber rfl rfl rfl (by decide +kernel) ⟨Nat.le_of_ble_eq_true rfl, Nat.le_of_ble_eq_true rfl⟩) (am_preV X hh 141 12 (by decide) rfl rfl) rfl rfl hl.1 rfl (lv_room (Nat.le_of_ble_eq_true rfl)) dX11_renderTrain_61 ⟨Nat.le_of_ble_eq_true rfl, Nat.le_of_ble_eq_true rfl⟩) (fun ab H locs hh => ?_)
              refine lv_aload_n hx hb dX11_renderTrain_64 rfl (lv_at hl 1 rfl) ?_
              refine lv_aload_n hx hb dX11_renderTrain_65 rfl (lv_at hl 1 rfl) ?_
              refine lv_iload_n hx hb dX11_renderTrain_66 rfl (lv_at hl 0 rfl) ?_
              obtain ⟨r22, hk21, hF⟩ := am_bind hF
              refine am_call X hh (va_runV (As := [.int y8]) (rest := [.ref (gAd G 141)]) X.1 (c_X11_planetOn l G hk21) (cwV 1 hts gX11_renderTrain_X11_planetOn rfl rfl rfl (by decide +kernel) ⟨Nat.le_of_ble_eq_true rfl, Nat.le_of_ble_eq_true rfl⟩) (am_preV X hh 141 12 (by decide) rfl rfl) rfl rfl hl.1 rfl (lv_room (Nat.le_of_ble_eq_true rfl)) dX11_renderTrain_67 ⟨Nat.le_of_ble_eq_true rfl, Nat.le_of_ble_eq_true rfl⟩) (fun ab H locs hh => ?_)
              refine lv_iconst (v := (-1 : Int32)) hx hb dX11_renderTrain_70 (by decide) ?_
              refine lv_icmp_eq (tgt := 78) hx hb dX11_renderTrain_71 (by decide) (fun hc23 => ?_) (fun hc23 => ?_)
              · have hF := am_pos hc23 hF
                refine lv_iconst (v := (0 : Int32)) hx hb dX11_renderTrain_78 (by decide) ?_
                refine lv_bipush (v := (42 : Int32)) hx hb dX11_renderTrain_79 (by decide) ?_
                obtain ⟨w26, hk24, hF⟩ := am_bind hF
                refine am_call X hh (va_runV (As := [.int (0 : Int32), .int (42 : Int32)]) (rest := []) X.1 (c_X11_writesIf l G hk24) (cwV 2 hts gX11_renderTrain_X11_writesIf rfl rfl rfl (by decide +kernel) ⟨Nat.le_of_ble_eq_true rfl, Nat.le_of_ble_eq_true rfl⟩) (am_preV X hh 141 12 (by decide) rfl rfl) rfl rfl hl.1 rfl (lv_room (Nat.le_of_ble_eq_true rfl)) dX11_renderTrain_81 ⟨Nat.le_of_ble_eq_true rfl, Nat.le_of_ble_eq_true rfl⟩) (fun ab H locs hh => ?_)
                refine lv_iinc (v := (y8 + (1 : Int32))) (lv' := [(2, .int (y8 + (1 : Int32))), (0, .ref (gAd G 141)), (1, .int x1)]) hx hb dX11_renderTrain_84 hl (k := 0) rfl rfl (by decide) rfl (fun ls hl => ?_)
                refine lv_goto (tgt := 26) hx hb dX11_renderTrain_87 (by decide) ?_
                exact ih (y8 + (1 : Int32)) w26 ab H locs ls _ hF hh (lv_sub hl [0, 1, 2] rfl) kE
              · have hF := am_neg hc23 hF
                refine lv_iconst (v := (1 : Int32)) hx hb dX11_renderTrain_74 (by decide) ?_
                refine lv_goto (tgt := 79) hx hb dX11_renderTrain_75 (by decide) ?_
                refine lv_bipush (v := (42 : Int32)) hx hb dX11_renderTrain_79 (by decide) ?_
                obtain ⟨w29, hk27, hF⟩ := am_bind hF
                refine am_call X hh (va_runV (As := [.int (1 : Int32), .int (42 : Int32)]) (rest := []) X.1 (c_X11_writesIf l G hk27) (cwV 2 hts gX11_renderTrain_X11_writesIf rfl rfl rfl (by decide +kernel) ⟨Nat.le_of_ble_eq_true rfl, Nat.le_of_ble_eq_true rfl⟩) (am_preV X hh 141 12 (by decide) rfl rfl) rfl rfl hl.1 rfl (lv_room (Nat.le_of_ble_eq_true rfl)) dX11_renderTrain_81 ⟨Nat.le_of_ble_eq_true rfl, Nat.le_of_ble_eq_true rfl⟩) (fun ab H locs hh => ?_)
                refine lv_iinc (v := (y8 + (1 : Int32))) (lv' := [(2, .int (y8 + (1 : Int32))), (0, .ref (gAd G 141)), (1, .int x1)]) hx hb dX11_renderTrain_84 hl (k := 0) rfl rfl (by decide) rfl (fun ls hl => ?_)
                refine lv_goto (tgt := 26) hx hb dX11_renderTrain_87 (by decide) ?_
                exact ih (y8 + (1 : Int32)) w29 ab H locs ls _ hF hh (lv_sub hl [0, 1, 2] rfl) kE
            · have hF := am_neg hc14 hF
              refine lv_iconst (v := (1 : Int32)) hx hb dX11_renderTrain_49 (by decide) ?_
              refine lv_goto (tgt := 54) hx hb dX11_renderTrain_50 (by decide) ?_
              refine lv_bipush (v := (44 : Int32)) hx hb dX11_renderTrain_54 (by decide) ?_
              obtain ⟨w32, hk30, hF⟩ := am_bind hF
              refine am_call X hh (va_runV (As := [.int (1 : Int32), .int (44 : Int32)]) (rest := []) X.1 (c_X11_writesIf l G hk30) (cwV 2 hts gX11_renderTrain_X11_writesIf rfl rfl rfl (by decide +kernel) ⟨Nat.le_of_ble_eq_true rfl, Nat.le_of_ble_eq_true rfl⟩) (am_preV X hh 141 12 (by decide) rfl rfl) rfl rfl hl.1 rfl (lv_room (Nat.le_of_ble_eq_true rfl)) dX11_renderTrain_56 ⟨Nat.le_of_ble_eq_true rfl, Nat.le_of_ble_eq_true rfl⟩) (fun ab H locs hh => ?_)
              refine lv_aload_n hx hb dX11_renderTrain_59 rfl (lv_at hl 1 rfl) ?_
              refine lv_iload_n hx hb dX11_renderTrain_60 rfl (lv_at hl 0 rfl) ?_
              obtain ⟨w35, hk33, hF⟩ := am_bind hF
              refine am_call X hh (va_runV (As := [.int y8]) (rest := []) X.1 (c_X11_writesNumber l G hk33) (cwV 1 hts gX11_renderTrain_X11_writesNumber rfl rfl rfl (by decide +kernel) ⟨Nat.le_of_ble_eq_true rfl, Nat.le_of_ble_eq_true rfl⟩) (am_preV X hh 141 12 (by decide) rfl rfl) rfl rfl hl.1 rfl (lv_room (Nat.le_of_ble_eq_true rfl)) dX11_renderTrain_61 ⟨Nat.le_of_ble_eq_true rfl, Nat.le_of_ble_eq_true rfl⟩) (fun ab H locs hh => ?_)
              refine lv_aload_n hx hb dX11_renderTrain_64 rfl (lv_at hl 1 rfl) ?_
              refine lv_aload_n hx hb dX11_renderTrain_65 rfl (lv_at hl 1 rfl) ?_
              refine lv_iload_n hx hb dX11_renderTrain_66 rfl (lv_at hl 0 rfl) ?_
              obtain ⟨r37, hk36, hF⟩ := am_bind hF
              refine am_call X hh (va_runV (As := [.int y8]) (rest := [.ref (gAd G 141)]) X.1 (c_X11_planetOn l G hk36) (cwV 1 hts gX11_renderTrain_X11_planetOn rfl rfl rfl (by decide +kernel) ⟨Nat.le_of_ble_eq_true rfl, Nat.le_of_ble_eq_true rfl⟩) (am_preV X hh 141 12 (by decide) rfl rfl) rfl rfl hl.1 rfl (lv_room (Nat.le_of_ble_eq_true rfl)) dX11_renderTrain_67 ⟨Nat.le_of_ble_eq_true rfl, Nat.le_of_ble_eq_true rfl⟩) (fun ab H locs hh => ?_)
              refine lv_iconst (v := (-1 : Int32)) hx hb dX11_renderTrain_70 (by decide) ?_
              refine lv_icmp_eq (tgt := 78) hx hb dX11_renderTrain_71 (by decide) (fun hc38 => ?_) (fun hc38 => ?_)
              · have hF := am_pos hc38 hF
                refine lv_iconst (v := (0 : Int32)) hx hb dX11_renderTrain_78 (by decide) ?_
                refine lv_bipush (v := (42 : Int32)) hx hb dX11_renderTrain_79 (by decide) ?_
                obtain ⟨w41, hk39, hF⟩ := am_bind hF
                refine am_call X hh (va_runV (As := [.int (0 : Int32), .int (42 : Int32)]) (rest := []) X.1 (c_X11_writesIf l G hk39) (cwV 2 hts gX11_renderTrain_X11_writesIf rfl rfl rfl (by decide +kernel) ⟨Nat.le_of_ble_eq_true rfl, Nat.le_of_ble_eq_true rfl⟩) (am_preV X hh 141 12 (by decide) rfl rfl) rfl rfl hl.1 rfl (lv_room (Nat.le_of_ble_eq_true rfl)) dX11_renderTrain_81 ⟨Nat.le_of_ble_eq_true rfl, Nat.le_of_ble_eq_true rfl⟩) (fun ab H locs hh => ?_)
                refine lv_iinc (v := (y8 + (1 : Int32))) (lv' := [(2, .int (y8 + (1 : Int32))), (0, .ref (gAd G 141)), (1, .int x1)]) hx hb dX11_renderTrain_84 hl (k := 0) rfl rfl (by decide) rfl (fun ls hl => ?_)
                refine lv_goto (tgt := 26) hx hb dX11_renderTrain_87 (by decide) ?_
                exact ih (y8 + (1 : Int32)) w41 ab H locs ls _ hF hh (lv_sub hl [0, 1, 2] rfl) kE
              · have hF := am_neg hc38 hF
                refine lv_iconst (v := (1 : Int32)) hx hb dX11_renderTrain_74 (by decide) ?_
                refine lv_goto (tgt := 79) hx hb dX11_renderTrain_75 (by decide) ?_
                refine lv_bipush (v := (42 : Int32)) hx hb dX11_renderTrain_79 (by decide) ?_
                obtain ⟨w44, hk42, hF⟩ := am_bind hF
                refine am_call X hh (va_runV (As := [.int (1 : Int32), .int (42 : Int32)]) (rest := []) X.1 (c_X11_writesIf l G hk42) (cwV 2 hts gX11_renderTrain_X11_writesIf rfl rfl rfl (by decide +kernel) ⟨Nat.le_of_ble_eq_true rfl, Nat.le_of_ble_eq_true rfl⟩) (am_preV X hh 141 12 (by decide) rfl rfl) rfl rfl hl.1 rfl (lv_room (Nat.le_of_ble_eq_true rfl)) dX11_renderTrain_81 ⟨Nat.le_of_ble_eq_true rfl, Nat.le_of_ble_eq_true rfl⟩) (fun ab H locs hh => ?_)
                refine lv_iinc (v := (y8 + (1 : Int32))) (lv' := [(2, .int (y8 + (1 : Int32))), (0, .ref (gAd G 141)), (1, .int x1)]) hx hb dX11_renderTrain_84 hl (k := 0) rfl rfl (by decide) rfl (fun ls hl => ?_)
                refine lv_goto (tgt := 26) hx hb dX11_renderTrain_87 (by decide) ?_
                exact ih (y8 + (1 : Int32)) w44 ab H locs ls _ hF hh (lv_sub hl [0, 1, 2] rfl) kE
    obtain ⟨z45, hz46, hF⟩ := am_bind hF
    refine hlp26 2000 (0 : Int32) w7 ab H locs ls z45 hz46 hh (lv_sub hl [0, 1, 2] rfl) (fun y8 w9 ab H locs ls hz hh hl => ?_)
    · subst hz
      have hF := am_zl hF
      have hF := am_u2 hF
      refine lv_aload_n hx hb dX11_renderTrain_90 rfl (lv_at hl 1 rfl) ?_
      refine lv_aload_n hx hb dX11_renderTrain_91 rfl (lv_at hl 1 rfl) ?_
      refine am_getI X hh 141 12 11 (by decide) rfl rfl (by decide) hwRX11 (show Cond.fieldLink RX11 215 "PlanetWorkshopModel" "outputLength" "I" ∈ wsX11_renderTrain by decide +kernel) rfl dX11_renderTrain_92 ?_
      obtain ⟨⟨r48, w49⟩, hk47, hF⟩ := am_bind hF
      have hF := am_u2 hF
      refine am_call X hh (va_runV (As := [.int (gI w9 141 11)]) (rest := []) X.1 (c_X11_done l G hk47) (cwV 1 hts gX11_renderTrain_X11_done rfl rfl rfl (by decide +kernel) ⟨Nat.le_of_ble_eq_true rfl, Nat.le_of_ble_eq_true rfl⟩) (am_preV X hh 141 12 (by decide) rfl rfl) rfl rfl hl.1 rfl (lv_room (Nat.le_of_ble_eq_true rfl)) dX11_renderTrain_95 ⟨Nat.le_of_ble_eq_true rfl, Nat.le_of_ble_eq_true rfl⟩) (fun ab H locs hh => ?_)
      exact am_iret X hr hh (fun t ht => am_qw (mk := oI) hF ht) (Nat.le_of_ble_eq_true rfl) (Nat.le_of_ble_eq_true rfl) dX11_renderTrain_98
  · have hF := am_pos hc3 hF
    refine lv_aload_n hx hb dX11_renderTrain_8 rfl (lv_at hl 0 rfl) ?_
    refine lv_iconst (v := (1 : Int32)) hx hb dX11_renderTrain_9 (by decide) ?_
    obtain ⟨⟨r52, w53⟩, hk51, hF⟩ := am_bind hF
    have hF := am_u2 hF
    refine am_call X hh (va_runV (As := [.int (1 : Int32)]) (rest := []) X.1 (c_X11_fails l G hk51) (cwV 1 hts gX11_renderTrain_X11_fails rfl rfl rfl (by decide +kernel) ⟨Nat.le_of_ble_eq_true rfl, Nat.le_of_ble_eq_true rfl⟩) (am_preV X hh 141 12 (by decide) rfl rfl) rfl rfl hl.1 rfl (lv_room (Nat.le_of_ble_eq_true rfl)) dX11_renderTrain_10 ⟨Nat.le_of_ble_eq_true rfl, Nat.le_of_ble_eq_true rfl⟩) (fun ab H locs hh => ?_)
    exact am_iret X hr hh (fun t ht => am_qw (mk := oI) hF ht) (Nat.le_of_ble_eq_true rfl) (Nat.le_of_ble_eq_true rfl) dX11_renderTrain_13
set_option maxHeartbeats 4000000 in
set_option maxRecDepth 100000 in
theorem c_X11_outputAt (l : Launch) (G : GG) {w : Wd} {x1 : Int32} {r0 : Int32} {w1 : Wd} (hF : f_X11_outputAt w x1 = some (r0, w1)) : Met l yX11_outputAt wsX11_outputAt ({ frames := 1, cells := 0, slots := 0, locals := 22 } : Room) (va_Pc [.ref (gAd G 141), .int x1] (Rel G w)) (amQ G (oI r0) w1) 0 0 (gA G) := by
  refine am_met (own := RX11) (cc := cX11_outputAt) (maxL := 2) (ret := (some .char)) (by decide +kernel) rfl rfl (Nat.le_of_ble_eq_true rfl) ?_
  intro p e s m args below meth c ab H locs ls X hr hh hl
  have hx := X.1.1; have hb := X.1.2.1; have hml := X.1.2.2.1; have hown := X.1.2.2.2.1; have hts := X.1.2.2.2.2
  have hl : lv_has ls 2 [(0, .ref (gAd G 141)), (1, .int x1)] := hl
  have hwRX11 : ∀ z ∈ u_ws RX11 TX11 18, z ∈ wsX11_outputAt := by decide +kernel
  unfold f_X11_outputAt at hF
  refine lv_aload_n hx hb dX11_outputAt_0 rfl (lv_at hl 0 rfl) ?_
  refine lv_iload_n hx hb dX11_outputAt_1 rfl (lv_at hl 1 rfl) ?_
  refine lv_iconst (v := (0 : Int32)) hx hb dX11_outputAt_2 (by decide) ?_
  refine lv_aload_n hx hb dX11_outputAt_3 rfl (lv_at hl 0 rfl) ?_
  refine am_getI X hh 141 12 11 (by decide) rfl rfl (by decide) hwRX11 (show Cond.fieldLink RX11 215 "PlanetWorkshopModel" "outputLength" "I" ∈ wsX11_outputAt by decide +kernel) rfl dX11_outputAt_4 ?_
  refine lv_iconst (v := (1 : Int32)) hx hb dX11_outputAt_7 (by decide) ?_
  refine lv_isub hx hb dX11_outputAt_8 ?_
  obtain ⟨r2, hk1, hF⟩ := am_bind hF
  refine am_call X hh (va_runS (As := [.int x1, .int (0 : Int32), .int ((gI w 141 11) - (1 : Int32))]) (rest := [.ref (gAd G 141)]) X.1 (c_X11_in l G hk1) (va_cwS 3 hts gX11_outputAt_X11_in rfl rfl rfl (by decide +kernel) ⟨Nat.le_of_ble_eq_true rfl, Nat.le_of_ble_eq_true rfl⟩) (am_preS X hh) rfl rfl hl.1 rfl (lv_room (Nat.le_of_ble_eq_true rfl)) dX11_outputAt_9 ⟨Nat.le_of_ble_eq_true rfl, Nat.le_of_ble_eq_true rfl⟩) (fun ab H locs hh => ?_)
  refine lv_if_eq (tgt := 19) hx hb dX11_outputAt_12 (by decide) (fun hc3 => ?_) (fun hc3 => ?_)
  · have hF := am_pos hc3 hF
    refine lv_iconst (v := (1 : Int32)) hx hb dX11_outputAt_19 (by decide) ?_
    refine am_putI X hh 141 12 12 (by decide) rfl rfl (by decide) hwRX11 tyX11 tyX11_ok nmX11 (show Cond.fieldLink RX11 49 "PlanetWorkshopModel" "thrown" "I" ∈ wsX11_outputAt by decide +kernel) rfl rfl rfl rfl dX11_outputAt_20 (fun H locs hh => ?_)
    obtain ⟨w4, hw4, hF⟩ := am_wl hF
    have hh := AH_eq hw4 hh
    refine lv_aload_n hx hb dX11_outputAt_23 rfl (lv_at hl 0 rfl) ?_
    refine am_getI X hh 141 12 12 (by decide) rfl rfl (by decide) hwRX11 (show Cond.fieldLink RX11 49 "PlanetWorkshopModel" "thrown" "I" ∈ wsX11_outputAt by decide +kernel) rfl dX11_outputAt_24 ?_
    refine lv_if_ne (tgt := 39) hx hb dX11_outputAt_27 (by decide) (fun hc5 => ?_) (fun hc5 => ?_)
    · have hF := am_neg hc5 hF
      refine lv_iconst (v := (0 : Int32)) hx hb dX11_outputAt_39 (by decide) ?_
      exact am_zret (v' := (0 : Int32)) X hr rfl hh (fun t ht => am_qw (mk := oI) hF ht) (Nat.le_of_ble_eq_true rfl) (Nat.le_of_ble_eq_true rfl) dX11_outputAt_40
    · have hF := am_pos hc5 hF
      refine lv_aload_n hx hb dX11_outputAt_30 rfl (lv_at hl 0 rfl) ?_
      refine am_getR X hh 141 12 10 147 (by decide) rfl rfl (by decide) hwRX11 (show Cond.fieldLink RX11 33 "PlanetWorkshopModel" "letters" "[C" ∈ wsX11_outputAt by decide +kernel) rfl dX11_outputAt_31 ?_
      refine lv_iload_n hx hb dX11_outputAt_34 rfl (lv_at hl 1 rfl) ?_
      obtain ⟨hq6, hF⟩ := am_ifR hF
      refine am_cald X hh 147 (by decide) rfl hq6 dX11_outputAt_35 ?_
      refine lv_goto (tgt := 40) hx hb dX11_outputAt_36 (by decide) ?_
      exact am_zret (v' := (vp_nar .char (gI w4 147 (x1).toNatClampNeg))) X hr (nar_c _) hh (fun t ht => am_qw (mk := oI) hF ht) (Nat.le_of_ble_eq_true rfl) (Nat.le_of_ble_eq_true rfl) dX11_outputAt_40
  · have hF := am_neg hc3 hF
    refine lv_iconst (v := (0 : Int32)) hx hb dX11_outputAt_15 (by decide) ?_
    refine lv_goto (tgt := 20) hx hb dX11_outputAt_16 (by decide) ?_
    refine am_putI X hh 141 12 12 (by decide) rfl rfl (by decide) hwRX11 tyX11 tyX11_ok nmX11 (show Cond.fieldLink RX11 49 "PlanetWorkshopModel" "thrown" "I" ∈ wsX11_outputAt by decide +kernel) rfl rfl rfl rfl dX11_outputAt_20 (fun H locs hh => ?_)
    obtain ⟨w7, hw7, hF⟩ := am_wl hF
    have hh := AH_eq hw7 hh
    refine lv_aload_n hx hb dX11_outputAt_23 rfl (lv_at hl 0 rfl) ?_
    refine am_getI X hh 141 12 12 (by decide) rfl rfl (by decide) hwRX11 (show Cond.fieldLink RX11 49 "PlanetWorkshopModel" "thrown" "I" ∈ wsX11_outputAt by decide +kernel) rfl dX11_outputAt_24 ?_
    refine lv_if_ne (tgt := 39) hx hb dX11_outputAt_27 (by decide) (fun hc8 => ?_) (fun hc8 => ?_)
    · have hF := am_neg hc8 hF
      refine lv_iconst (v := (0 : Int32)) hx hb dX11_outputAt_39 (by decide) ?_
      exact am_zret (v' := (0 : Int32)) X hr rfl hh (fun t ht => am_qw (mk := oI) hF ht) (Nat.le_of_ble_eq_true rfl) (Nat.le_of_ble_eq_true rfl) dX11_outputAt_40
    · have hF := am_pos hc8 hF
      refine lv_aload_n hx hb dX11_outputAt_30 rfl (lv_at hl 0 rfl) ?_
      refine am_getR X hh 141 12 10 147 (by decide) rfl rfl (by decide) hwRX11 (show Cond.fieldLink RX11 33 "PlanetWorkshopModel" "letters" "[C" ∈ wsX11_outputAt by decide +kernel) rfl dX11_outputAt_31 ?_
      refine lv_iload_n hx hb dX11_outputAt_34 rfl (lv_at hl 1 rfl) ?_
      obtain ⟨hq9, hF⟩ := am_ifR hF
      refine am_cald X hh 147 (by decide) rfl hq9 dX11_outputAt_35 ?_
      refine lv_goto (tgt := 40) hx hb dX11_outputAt_36 (by decide) ?_
      exact am_zret (v' := (vp_nar .char (gI w7 147 (x1).toNatClampNeg))) X hr (nar_c _) hh (fun t ht => am_qw (mk := oI) hF ht) (Nat.le_of_ble_eq_true rfl) (Nat.le_of_ble_eq_true rfl) dX11_outputAt_40
set_option maxHeartbeats 4000000 in
set_option maxRecDepth 100000 in
theorem c_X11_type (l : Launch) (G : GG) {w : Wd} {x1 : Int32} {r0 : Int32} {w1 : Wd} (hF : f_X11_type w x1 = some (r0, w1)) : Met l yX11_type wsX11_type ({ frames := 1, cells := 0, slots := 0, locals := 22 } : Room) (va_Pc [.ref (gAd G 141), .int x1] (Rel G w)) (amQ G (oI r0) w1) 0 0 (gA G) := by
  refine am_met (own := RX11) (cc := cX11_type) (maxL := 2) (ret := (some .int)) (by decide +kernel) rfl rfl (Nat.le_of_ble_eq_true rfl) ?_
  intro p e s m args below meth c ab H locs ls X hr hh hl
  have hx := X.1.1; have hb := X.1.2.1; have hml := X.1.2.2.1; have hown := X.1.2.2.2.1; have hts := X.1.2.2.2.2
  have hl : lv_has ls 2 [(0, .ref (gAd G 141)), (1, .int x1)] := hl
  have hwRX11 : ∀ z ∈ u_ws RX11 TX11 18, z ∈ wsX11_type := by decide +kernel
  unfold f_X11_type at hF
  refine lv_iload_n hx hb dX11_type_0 rfl (lv_at hl 1 rfl) ?_
  refine lv_bipush (v := (32 : Int32)) hx hb dX11_type_1 (by decide) ?_
  refine lv_bipush (v := (126 : Int32)) hx hb dX11_type_3 (by decide) ?_
  obtain ⟨r2, hk1, hF⟩ := am_bind hF
  refine am_call X hh (va_runS (As := [.int x1, .int (32 : Int32), .int (126 : Int32)]) (rest := []) X.1 (c_X11_in l G hk1) (va_cwS 3 hts gX11_type_X11_in rfl rfl rfl (by decide +kernel) ⟨Nat.le_of_ble_eq_true rfl, Nat.le_of_ble_eq_true rfl⟩) (am_preS X hh) rfl rfl hl.1 rfl (lv_room (Nat.le_of_ble_eq_true rfl)) dX11_type_5 ⟨Nat.le_of_ble_eq_true rfl, Nat.le_of_ble_eq_true rfl⟩) (fun ab H locs hh => ?_)
  refine lv_if_ne (tgt := 17) hx hb dX11_type_8 (by decide) (fun hc3 => ?_) (fun hc3 => ?_)
  · have hF := am_neg hc3 hF
    refine lv_aload_n hx hb dX11_type_17 rfl (lv_at hl 0 rfl) ?_
    refine am_getI X hh 141 12 7 (by decide) rfl rfl (by decide) hwRX11 (show Cond.fieldLink RX11 228 "PlanetWorkshopModel" "typed" "I" ∈ wsX11_type by decide +kernel) rfl dX11_type_18 ?_
    refine lv_bipush (v := (60 : Int32)) hx hb dX11_type_21 (by decide) ?_
    refine lv_icmp_ne (tgt := 32) hx hb dX11_type_23 (by decide) (fun hc4 => ?_) (fun hc4 => ?_)
    · have hF := am_neg hc4 hF
      refine lv_aload_n hx hb dX11_type_32 rfl (lv_at hl 0 rfl) ?_
      refine am_getR X hh 141 12 6 146 (by decide) rfl rfl (by decide) hwRX11 (show Cond.fieldLink RX11 22 "PlanetWorkshopModel" "buffer" "[C" ∈ wsX11_type by decide +kernel) rfl dX11_type_33 ?_
      refine lv_aload_n hx hb dX11_type_36 rfl (lv_at hl 0 rfl) ?_
      refine am_getI X hh 141 12 7 (by decide) rfl rfl (by decide) hwRX11 (show Cond.fieldLink RX11 228 "PlanetWorkshopModel" "typed" "I" ∈ wsX11_type by decide +kernel) rfl dX11_type_37 ?_
      refine lv_iload_n hx hb dX11_type_40 rfl (lv_at hl 1 rfl) ?_
      obtain ⟨hq5, hF⟩ := am_ifR hF
      refine am_cast X hh 146 (by decide) rfl hq5 dX11_type_41 (fun H locs hh => ?_)
      obtain ⟨w6, hw6, hF⟩ := am_wl hF
      have hh := AH_eq hw6 hh
      refine lv_aload_n hx hb dX11_type_42 rfl (lv_at hl 0 rfl) ?_
      refine lv_dup hx hb dX11_type_43 rfl ?_
      refine am_getI X hh 141 12 7 (by decide) rfl rfl (by decide) hwRX11 (show Cond.fieldLink RX11 228 "PlanetWorkshopModel" "typed" "I" ∈ wsX11_type by decide +kernel) rfl dX11_type_44 ?_
      refine lv_iconst (v := (1 : Int32)) hx hb dX11_type_47 (by decide) ?_
      refine lv_iadd hx hb dX11_type_48 ?_
      refine am_putI X hh 141 12 7 (by decide) rfl rfl (by decide) hwRX11 tyX11 tyX11_ok nmX11 (show Cond.fieldLink RX11 228 "PlanetWorkshopModel" "typed" "I" ∈ wsX11_type by decide +kernel) rfl rfl rfl rfl dX11_type_49 (fun H locs hh => ?_)
      obtain ⟨w7, hw7, hF⟩ := am_wl hF
      have hh := AH_eq hw7 hh
      refine lv_aload_n hx hb dX11_type_52 rfl (lv_at hl 0 rfl) ?_
      refine lv_aload_n hx hb dX11_type_53 rfl (lv_at hl 0 rfl) ?_
      refine am_getI X hh 141 12 7 (by decide) rfl rfl (by decide) hwRX11 (show Cond.fieldLink RX11 228 "PlanetWorkshopModel" "typed" "I" ∈ wsX11_type by decide +kernel) rfl dX11_type_54 ?_
      obtain ⟨⟨r9, w10⟩, hk8, hF⟩ := am_bind hF
      have hF := am_u2 hF
      refine am_call X hh (va_runV (As := [.int (gI w7 141 7)]) (rest := []) X.1 (c_X11_done l G hk8) (cwV 1 hts gX11_type_X11_done rfl rfl rfl (by decide +kernel) ⟨Nat.le_of_ble_eq_true rfl, Nat.le_of_ble_eq_true rfl⟩) (am_preV X hh 141 12 (by decide) rfl rfl) rfl rfl hl.1 rfl (lv_room (Nat.le_of_ble_eq_true rfl)) dX11_type_57 ⟨Nat.le_of_ble_eq_true rfl, Nat.le_of_ble_eq_true rfl⟩) (fun ab H locs hh => ?_)
      exact am_iret X hr hh (fun t ht => am_qw (mk := oI) hF ht) (Nat.le_of_ble_eq_true rfl) (Nat.le_of_ble_eq_true rfl) dX11_type_60
    · have hF := am_pos hc4 hF
      refine lv_aload_n hx hb dX11_type_26 rfl (lv_at hl 0 rfl) ?_
      refine lv_iconst (v := (2 : Int32)) hx hb dX11_type_27 (by decide) ?_
      obtain ⟨⟨r13, w14⟩, hk12, hF⟩ := am_bind hF
      have hF := am_u2 hF
      refine am_call X hh (va_runV (As := [.int (2 : Int32)]) (rest := []) X.1 (c_X11_fails l G hk12) (cwV 1 hts gX11_type_X11_fails rfl rfl rfl (by decide +kernel) ⟨Nat.le_of_ble_eq_true rfl, Nat.le_of_ble_eq_true rfl⟩) (am_preV X hh 141 12 (by decide) rfl rfl) rfl rfl hl.1 rfl (lv_room (Nat.le_of_ble_eq_true rfl)) dX11_type_28 ⟨Nat.le_of_ble_eq_true rfl, Nat.le_of_ble_eq_true rfl⟩) (fun ab H locs hh => ?_)
      exact am_iret X hr hh (fun t ht => am_qw (mk := oI) hF ht) (Nat.le_of_ble_eq_true rfl) (Nat.le_of_ble_eq_true rfl) dX11_type_31
  · have hF := am_pos hc3 hF
    refine lv_aload_n hx hb dX11_type_11 rfl (lv_at hl 0 rfl) ?_
    refine lv_iconst (v := (1 : Int32)) hx hb dX11_type_12 (by decide) ?_
    obtain ⟨⟨r17, w18⟩, hk16, hF⟩ := am_bind hF
    have hF := am_u2 hF
    refine am_call X hh (va_runV (As := [.int (1 : Int32)]) (rest := []) X.1 (c_X11_fails l G hk16) (cwV 1 hts gX11_type_X11_fails rfl rfl rfl (by decide +kernel) ⟨Nat.le_of_ble_eq_true rfl, Nat.le_of_ble_eq_true rfl⟩) (am_preV X hh 141 12 (by decide) rfl rfl) rfl rfl hl.1 rfl (lv_room (Nat.le_of_ble_eq_true rfl)) dX11_type_13 ⟨Nat.le_of_ble_eq_true rfl, Nat.le_of_ble_eq_true rfl⟩) (fun ab H locs hh => ?_)
    exact am_iret X hr hh (fun t ht => am_qw (mk := oI) hF ht) (Nat.le_of_ble_eq_true rfl) (Nat.le_of_ble_eq_true rfl) dX11_type_16
set_option maxHeartbeats 4000000 in
set_option maxRecDepth 100000 in
theorem c_X11_here (l : Launch) (G : GG) {w : Wd} {r0 : Int32} (hF : f_X11_here w = some r0) : Met l yX11_here wsX11_here ({ frames := 0, cells := 0, slots := 0, locals := 0 } : Room) (va_Pc [.ref (gAd G 141)] (Rel G w)) (amQ G (oI r0) w) 0 0 (gA G) := by
  refine am_met (own := RX11) (cc := cX11_here) (maxL := 1) (ret := (some .int)) (by decide +kernel) rfl rfl (Nat.le_of_ble_eq_true rfl) ?_
  intro p e s m args below meth c ab H locs ls X hr hh hl
  have hx := X.1.1; have hb := X.1.2.1; have hml := X.1.2.2.1; have hown := X.1.2.2.2.1; have hts := X.1.2.2.2.2
  have hl : lv_has ls 1 [(0, .ref (gAd G 141))] := hl
  have hwRX11 : ∀ z ∈ u_ws RX11 TX11 18, z ∈ wsX11_here := by decide +kernel
  unfold f_X11_here at hF
  refine lv_aload_n hx hb dX11_here_0 rfl (lv_at hl 0 rfl) ?_
  refine am_getI X hh 141 12 15 (by decide) rfl rfl (by decide) hwRX11 (show Cond.fieldLink RX11 231 "PlanetWorkshopModel" "spot" "I" ∈ wsX11_here by decide +kernel) rfl dX11_here_1 ?_
  refine lv_aload_n hx hb dX11_here_4 rfl (lv_at hl 0 rfl) ?_
  refine am_getI X hh 141 12 7 (by decide) rfl rfl (by decide) hwRX11 (show Cond.fieldLink RX11 228 "PlanetWorkshopModel" "typed" "I" ∈ wsX11_here by decide +kernel) rfl dX11_here_5 ?_
  refine lv_icmp_ge (tgt := 23) hx hb dX11_here_8 (by decide) (fun hc1 => ?_) (fun hc1 => ?_)
  · have hF := am_pos hc1 hF
    refine lv_iconst (v := (-1 : Int32)) hx hb dX11_here_23 (by decide) ?_
    exact am_iret X hr hh (fun t ht => am_qp (mk := oI) hF ht) (Nat.le_of_ble_eq_true rfl) (Nat.le_of_ble_eq_true rfl) dX11_here_24
  · have hF := am_neg hc1 hF
    refine lv_aload_n hx hb dX11_here_11 rfl (lv_at hl 0 rfl) ?_
    refine am_getR X hh 141 12 6 146 (by decide) rfl rfl (by decide) hwRX11 (show Cond.fieldLink RX11 22 "PlanetWorkshopModel" "buffer" "[C" ∈ wsX11_here by decide +kernel) rfl dX11_here_12 ?_
    refine lv_aload_n hx hb dX11_here_15 rfl (lv_at hl 0 rfl) ?_
    refine am_getI X hh 141 12 15 (by decide) rfl rfl (by decide) hwRX11 (show Cond.fieldLink RX11 231 "PlanetWorkshopModel" "spot" "I" ∈ wsX11_here by decide +kernel) rfl dX11_here_16 ?_
    obtain ⟨hq2, hF⟩ := am_ifR hF
    refine am_cald X hh 146 (by decide) rfl hq2 dX11_here_19 ?_
    refine lv_goto (tgt := 24) hx hb dX11_here_20 (by decide) ?_
    exact am_iret X hr hh (fun t ht => am_qp (mk := oI) hF ht) (Nat.le_of_ble_eq_true rfl) (Nat.le_of_ble_eq_true rfl) dX11_here_24
