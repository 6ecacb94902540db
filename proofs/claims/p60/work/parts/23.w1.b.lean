set_option maxHeartbeats 4000000 in
set_option maxRecDepth 100000 in
theorem c_X1_join (l : Launch) (G : GG) {w : Wd} {x1 : Int32} {x2 : Int32} {x3 : Int32} {r0 : Int32} {w1 : Wd} (hF : f_X1_join w x1 x2 x3 = some (r0, w1)) : Met l yX1_join wsX1_join ({ frames := 4, cells := 0, slots := 0, locals := 99 } : Room) (va_Pc [.ref (gAd G 127), .int x1, .int x2, .int x3] (Rel G w)) (amQ G (oI r0) w1) 0 0 (gA G) := by
  refine am_met (own := RX1) (cc := cX1_join) (maxL := 7) (ret := (some .int)) (by decide +kernel) rfl rfl (Nat.le_of_ble_eq_true rfl) ?_
  intro p e s m args below meth c ab H locs ls X hr hh hl
  have hx := X.1.1; have hb := X.1.2.1; have hml := X.1.2.2.1; have hown := X.1.2.2.2.1; have hts := X.1.2.2.2.2
  have hl : lv_has ls 7 [(0, .ref (gAd G 127)), (1, .int x1), (2, .int x2), (3, .int x3)] := hl
  have hwRX1 : ∀ z ∈ u_ws RX1 TX1 2, z ∈ wsX1_join := by decide +kernel
  have hwRX7 : ∀ z ∈ u_ws RX7 TX7 17, z ∈ wsX1_join := by decide +kernel
  have hwRX8 : ∀ z ∈ u_ws RX8 TX8 3, z ∈ wsX1_join := by decide +kernel
  unfold f_X1_join at hF
  refine lv_aload_n hx hb dX1_join_0 rfl (lv_at hl 0 rfl) ?_
  refine am_getR X hh 127 4 0 1 (by decide) rfl rfl (by decide) hwRX1 (show Cond.fieldLink RX1 9 "PlanetWorkshop$Changes" "state" "LPlanetWorkshop$State;" ∈ wsX1_join by decide +kernel) rfl dX1_join_1 ?_
  refine lv_iload_n hx hb dX1_join_4 rfl (lv_at hl 1 rfl) ?_
  obtain ⟨r2, hk1, hF⟩ := am_bind hF
  refine am_call X hh (va_runV (As := [.int x1]) (rest := []) X.1 (c_X7_isGear l G hk1) (cwV 1 hts gX1_join_X7_isGear rfl rfl rfl (by decide +kernel) ⟨Nat.le_of_ble_eq_true rfl, Nat.le_of_ble_eq_true rfl⟩) (am_preV X hh 1 9 (by decide) rfl rfl) rfl rfl hl.1 rfl (lv_room (Nat.le_of_ble_eq_true rfl)) dX1_join_5 ⟨Nat.le_of_ble_eq_true rfl, Nat.le_of_ble_eq_true rfl⟩) (fun ab H locs hh => ?_)
  refine lv_if_eq (tgt := 22) hx hb dX1_join_8 (by decide) (fun hc3 => ?_) (fun hc3 => ?_)
  · have hF := am_pos hc3 hF
    refine lv_iconst (v := (-1 : Int32)) hx hb dX1_join_22 (by decide) ?_
    exact am_iret X hr hh (fun t ht => am_qw (mk := oI) hF ht) (Nat.le_of_ble_eq_true rfl) (Nat.le_of_ble_eq_true rfl) dX1_join_23
  · have hF := am_neg hc3 hF
    refine lv_aload_n hx hb dX1_join_11 rfl (lv_at hl 0 rfl) ?_
    refine am_getR X hh 127 4 0 1 (by decide) rfl rfl (by decide) hwRX1 (show Cond.fieldLink RX1 9 "PlanetWorkshop$Changes" "state" "LPlanetWorkshop$State;" ∈ wsX1_join by decide +kernel) rfl dX1_join_12 ?_
    refine lv_iload_n hx hb dX1_join_15 rfl (lv_at hl 2 rfl) ?_
    obtain ⟨r5, hk4, hF⟩ := am_bind hF
    refine am_call X hh (va_runV (As := [.int x2]) (rest := []) X.1 (c_X7_isGear l G hk4) (cwV 1 hts gX1_join_X7_isGear rfl rfl rfl (by decide +kernel) ⟨Nat.le_of_ble_eq_true rfl, Nat.le_of_ble_eq_true rfl⟩) (am_preV X hh 1 9 (by decide) rfl rfl) rfl rfl hl.1 rfl (lv_room (Nat.le_of_ble_eq_true rfl)) dX1_join_16 ⟨Nat.le_of_ble_eq_true rfl, Nat.le_of_ble_eq_true rfl⟩) (fun ab H locs hh => ?_)
    refine lv_if_ne (tgt := 24) hx hb dX1_join_19 (by decide) (fun hc6 => ?_) (fun hc6 => ?_)
    · have hF := am_neg hc6 hF
      refine lv_iload_n hx hb dX1_join_24 rfl (lv_at hl 1 rfl) ?_
      refine lv_iload_n hx hb dX1_join_25 rfl (lv_at hl 2 rfl) ?_
      refine lv_icmp_ne (tgt := 32) hx hb dX1_join_26 (by decide) (fun hc7 => ?_) (fun hc7 => ?_)
      · have hF := am_neg hc7 hF
        refine lv_aload_n hx hb dX1_join_32 rfl (lv_at hl 0 rfl) ?_
        refine am_getR X hh 127 4 1 124 (by decide) rfl rfl (by decide) hwRX1 (show Cond.fieldLink RX1 15 "PlanetWorkshop$Changes" "train" "LPlanetWorkshop$Train;" ∈ wsX1_join by decide +kernel) rfl dX1_join_33 ?_
        refine lv_aload_n hx hb dX1_join_36 rfl (lv_at hl 0 rfl) ?_
        refine am_getR X hh 127 4 0 1 (by decide) rfl rfl (by decide) hwRX1 (show Cond.fieldLink RX1 9 "PlanetWorkshop$Changes" "state" "LPlanetWorkshop$State;" ∈ wsX1_join by decide +kernel) rfl dX1_join_37 ?_
        refine lv_iload_n hx hb dX1_join_40 rfl (lv_at hl 2 rfl) ?_
        obtain ⟨w10, hk8, hF⟩ := am_bind hF
        refine am_call X hh (va_runV (As := [.ref (gAd G 1), .int x2]) (rest := []) X.1 (c_X8_trace l G hk8) (cwV 2 hts gX1_join_X8_trace rfl rfl rfl (by decide +kernel) ⟨Nat.le_of_ble_eq_true rfl, Nat.le_of_ble_eq_true rfl⟩) (am_preV X hh 124 10 (by decide) rfl rfl) rfl rfl hl.1 rfl (lv_room (Nat.le_of_ble_eq_true rfl)) dX1_join_41 ⟨Nat.le_of_ble_eq_true rfl, Nat.le_of_ble_eq_true rfl⟩) (fun ab H locs hh => ?_)
        refine lv_aload_n hx hb dX1_join_44 rfl (lv_at hl 0 rfl) ?_
        refine am_getR X hh 127 4 1 124 (by decide) rfl rfl (by decide) hwRX1 (show Cond.fieldLink RX1 15 "PlanetWorkshop$Changes" "train" "LPlanetWorkshop$Train;" ∈ wsX1_join by decide +kernel) rfl dX1_join_45 ?_
        refine lv_aload_n hx hb dX1_join_48 rfl (lv_at hl 0 rfl) ?_
        refine am_getR X hh 127 4 0 1 (by decide) rfl rfl (by decide) hwRX1 (show Cond.fieldLink RX1 9 "PlanetWorkshop$Changes" "state" "LPlanetWorkshop$State;" ∈ wsX1_join by decide +kernel) rfl dX1_join_49 ?_
        obtain ⟨r12, hk11, hF⟩ := am_bind hF
        refine am_call X hh (va_runV (As := [.ref (gAd G 1)]) (rest := []) X.1 (c_X8_springGear l G hk11) (cwV 1 hts gX1_join_X8_springGear rfl rfl rfl (by decide +kernel) ⟨Nat.le_of_ble_eq_true rfl, Nat.le_of_ble_eq_true rfl⟩) (am_preV X hh 124 10 (by decide) rfl rfl) rfl rfl hl.1 rfl (lv_room (Nat.le_of_ble_eq_true rfl)) dX1_join_52 ⟨Nat.le_of_ble_eq_true rfl, Nat.le_of_ble_eq_true rfl⟩) (fun ab H locs hh => ?_)
        refine lv_istore (lv' := [(4, .int r12), (0, .ref (gAd G 127)), (1, .int x1), (2, .int x2), (3, .int x3)]) hx hb dX1_join_55 hl (by decide) rfl (fun ls hl => ?_)
        refine lv_aload_n hx hb dX1_join_57 rfl (lv_at hl 1 rfl) ?_
        refine am_getR X hh 127 4 1 124 (by decide) rfl rfl (by decide) hwRX1 (show Cond.fieldLink RX1 15 "PlanetWorkshop$Changes" "train" "LPlanetWorkshop$Train;" ∈ wsX1_join by decide +kernel) rfl dX1_join_58 ?_
        refine lv_aload_n hx hb dX1_join_61 rfl (lv_at hl 1 rfl) ?_
        refine am_getR X hh 127 4 0 1 (by decide) rfl rfl (by decide) hwRX1 (show Cond.fieldLink RX1 9 "PlanetWorkshop$Changes" "state" "LPlanetWorkshop$State;" ∈ wsX1_join by decide +kernel) rfl dX1_join_62 ?_
        refine lv_iload_n hx hb dX1_join_65 rfl (lv_at hl 2 rfl) ?_
        obtain ⟨w15, hk13, hF⟩ := am_bind hF
        refine am_call X hh (va_runV (As := [.ref (gAd G 1), .int x1]) (rest := []) X.1 (c_X8_trace l G hk13) (cwV 2 hts gX1_join_X8_trace rfl rfl rfl (by decide +kernel) ⟨Nat.le_of_ble_eq_true rfl, Nat.le_of_ble_eq_true rfl⟩) (am_preV X hh 124 10 (by decide) rfl rfl) rfl rfl hl.1 rfl (lv_room (Nat.le_of_ble_eq_true rfl)) dX1_join_66 ⟨Nat.le_of_ble_eq_true rfl, Nat.le_of_ble_eq_true rfl⟩) (fun ab H locs hh => ?_)
        refine lv_aload_n hx hb dX1_join_69 rfl (lv_at hl 1 rfl) ?_
        refine am_getR X hh 127 4 1 124 (by decide) rfl rfl (by decide) hwRX1 (show Cond.fieldLink RX1 15 "PlanetWorkshop$Changes" "train" "LPlanetWorkshop$Train;" ∈ wsX1_join by decide +kernel) rfl dX1_join_70 ?_
        refine lv_iload_n hx hb dX1_join_73 rfl (lv_at hl 3 rfl) ?_
        obtain ⟨r17, hk16, hF⟩ := am_bind hF
        refine am_call X hh (va_runV (As := [.int x2]) (rest := []) X.1 (c_X8_holds l G hk16) (cwV 1 hts gX1_join_X8_holds rfl rfl rfl (by decide +kernel) ⟨Nat.le_of_ble_eq_true rfl, Nat.le_of_ble_eq_true rfl⟩) (am_preV X hh 124 10 (by decide) rfl rfl) rfl rfl hl.1 rfl (lv_room (Nat.le_of_ble_eq_true rfl)) dX1_join_74 ⟨Nat.le_of_ble_eq_true rfl, Nat.le_of_ble_eq_true rfl⟩) (fun ab H locs hh => ?_)
        refine lv_istore (lv' := [(5, .int r17), (4, .int r12), (0, .ref (gAd G 127)), (1, .int x1), (2, .int x2), (3, .int x3)]) hx hb dX1_join_77 hl (by decide) rfl (fun ls hl => ?_)
        refine lv_iload hx hb dX1_join_79 (lv_at hl 0 rfl) ?_
        refine lv_if_ne (tgt := 109) hx hb dX1_join_81 (by decide) (fun hc18 => ?_) (fun hc18 => ?_)
        · have hF := am_neg hc18 hF
          refine lv_iconst (v := (0 : Int32)) hx hb dX1_join_109 (by decide) ?_
          refine lv_istore (lv' := [(6, .int (0 : Int32)), (5, .int r17), (4, .int r12), (0, .ref (gAd G 127)), (1, .int x1), (2, .int x2), (3, .int x3)]) hx hb dX1_join_110 hl (by decide) rfl (fun ls hl => ?_)
          refine lv_aload_n hx hb dX1_join_112 rfl (lv_at hl 3 rfl) ?_
          refine am_getR X hh 127 4 0 1 (by decide) rfl rfl (by decide) hwRX1 (show Cond.fieldLink RX1 9 "PlanetWorkshop$Changes" "state" "LPlanetWorkshop$State;" ∈ wsX1_join by decide +kernel) rfl dX1_join_113 ?_
          refine lv_iload_n hx hb dX1_join_116 rfl (lv_at hl 4 rfl) ?_
          refine lv_iload_n hx hb dX1_join_117 rfl (lv_at hl 5 rfl) ?_
          obtain ⟨r20, hk19, hF⟩ := am_bind hF
          refine am_call X hh (va_runV (As := [.int x1, .int x2]) (rest := []) X.1 (c_X7_jointOf l G hk19) (cwV 2 hts gX1_join_X7_jointOf rfl rfl rfl (by decide +kernel) ⟨Nat.le_of_ble_eq_true rfl, Nat.le_of_ble_eq_true rfl⟩) (am_preV X hh 1 9 (by decide) rfl rfl) rfl rfl hl.1 rfl (lv_room (Nat.le_of_ble_eq_true rfl)) dX1_join_118 ⟨Nat.le_of_ble_eq_true rfl, Nat.le_of_ble_eq_true rfl⟩) (fun ab H locs hh => ?_)
          refine lv_if_ne (tgt := 141) hx hb dX1_join_121 (by decide) (fun hc21 => ?_) (fun hc21 => ?_)
          · have hF := am_neg hc21 hF
            refine lv_bipush (v := (-3 : Int32)) hx hb dX1_join_141 (by decide) ?_
            exact am_iret X hr hh (fun t ht => am_qw (mk := oI) hF ht) (Nat.le_of_ble_eq_true rfl) (Nat.le_of_ble_eq_true rfl) dX1_join_143
          · have hF := am_pos hc21 hF
            refine lv_aload_n hx hb dX1_join_124 rfl (lv_at hl 3 rfl) ?_
            refine am_getR X hh 127 4 0 1 (by decide) rfl rfl (by decide) hwRX1 (show Cond.fieldLink RX1 9 "PlanetWorkshop$Changes" "state" "LPlanetWorkshop$State;" ∈ wsX1_join by decide +kernel) rfl dX1_join_125 ?_
            refine am_getI X hh 1 9 11 (by decide) rfl rfl (by decide) hwRX7 (show Cond.fieldLink RX1 56 "PlanetWorkshop$State" "joints" "I" ∈ wsX1_join by decide +kernel) rfl dX1_join_128 ?_
            refine lv_bipush (v := (15 : Int32)) hx hb dX1_join_131 (by decide) ?_
            refine lv_icmp_ge (tgt := 141) hx hb dX1_join_133 (by decide) (fun hc22 => ?_) (fun hc22 => ?_)
            · have hF := am_pos hc22 hF
              refine lv_bipush (v := (-3 : Int32)) hx hb dX1_join_141 (by decide) ?_
              exact am_iret X hr hh (fun t ht => am_qw (mk := oI) hF ht) (Nat.le_of_ble_eq_true rfl) (Nat.le_of_ble_eq_true rfl) dX1_join_143
            · have hF := am_neg hc22 hF
              refine lv_iload hx hb dX1_join_136 (lv_at hl 0 rfl) ?_
              refine lv_if_eq (tgt := 144) hx hb dX1_join_138 (by decide) (fun _ => ?_) (fun hz => absurd (by decide) hz)
              refine lv_iload hx hb dX1_join_144 (lv_at hl 1 rfl) ?_
              refine lv_if_eq (tgt := 178) hx hb dX1_join_146 (by decide) (fun hc23 => ?_) (fun hc23 => ?_)
              · have hF := am_pos hc23 hF
                refine lv_aload_n hx hb dX1_join_178 rfl (lv_at hl 3 rfl) ?_
                refine am_getR X hh 127 4 0 1 (by decide) rfl rfl (by decide) hwRX1 (show Cond.fieldLink RX1 9 "PlanetWorkshop$Changes" "state" "LPlanetWorkshop$State;" ∈ wsX1_join by decide +kernel) rfl dX1_join_179 ?_
                refine lv_iload_n hx hb dX1_join_182 rfl (lv_at hl 4 rfl) ?_
                refine lv_iload_n hx hb dX1_join_183 rfl (lv_at hl 5 rfl) ?_
                refine lv_iload_n hx hb dX1_join_184 rfl (lv_at hl 6 rfl) ?_
                obtain ⟨w26, hk24, hF⟩ := am_bind hF
                refine am_call X hh (va_runV (As := [.int x1, .int x2, .int x3]) (rest := []) X.1 (c_X7_putJoint l G hk24) (cwV 3 hts gX1_join_X7_putJoint rfl rfl rfl (by decide +kernel) ⟨Nat.le_of_ble_eq_true rfl, Nat.le_of_ble_eq_true rfl⟩) (am_preV X hh 1 9 (by decide) rfl rfl) rfl rfl hl.1 rfl (lv_room (Nat.le_of_ble_eq_true rfl)) dX1_join_185 ⟨Nat.le_of_ble_eq_true rfl, Nat.le_of_ble_eq_true rfl⟩) (fun ab H locs hh => ?_)
                refine lv_aload_n hx hb dX1_join_188 rfl (lv_at hl 3 rfl) ?_
                refine am_getR X hh 127 4 0 1 (by decide) rfl rfl (by decide) hwRX1 (show Cond.fieldLink RX1 9 "PlanetWorkshop$Changes" "state" "LPlanetWorkshop$State;" ∈ wsX1_join by decide +kernel) rfl dX1_join_189 ?_
                refine lv_dup hx hb dX1_join_192 rfl ?_
                refine am_getI X hh 1 9 11 (by decide) rfl rfl (by decide) hwRX7 (show Cond.fieldLink RX1 56 "PlanetWorkshop$State" "joints" "I" ∈ wsX1_join by decide +kernel) rfl dX1_join_193 ?_
                refine lv_iconst (v := (1 : Int32)) hx hb dX1_join_196 (by decide) ?_
                refine lv_iadd hx hb dX1_join_197 ?_
                refine am_putI X hh 1 9 11 (by decide) rfl rfl (by decide) hwRX7 tyX7 tyX7_ok nmX7 (show Cond.fieldLink RX1 56 "PlanetWorkshop$State" "joints" "I" ∈ wsX1_join by decide +kernel) rfl rfl rfl rfl dX1_join_198 (fun H locs hh => ?_)
                obtain ⟨w27, hw27, hF⟩ := am_wl hF
                have hh := AH_eq hw27 hh
                refine lv_aload_n hx hb dX1_join_201 rfl (lv_at hl 3 rfl) ?_
                refine am_getR X hh 127 4 1 124 (by decide) rfl rfl (by decide) hwRX1 (show Cond.fieldLink RX1 15 "PlanetWorkshop$Changes" "train" "LPlanetWorkshop$Train;" ∈ wsX1_join by decide +kernel) rfl dX1_join_202 ?_
                refine lv_aload_n hx hb dX1_join_205 rfl (lv_at hl 3 rfl) ?_
                refine am_getR X hh 127 4 0 1 (by decide) rfl rfl (by decide) hwRX1 (show Cond.fieldLink RX1 9 "PlanetWorkshop$Changes" "state" "LPlanetWorkshop$State;" ∈ wsX1_join by decide +kernel) rfl dX1_join_206 ?_
                refine lv_iload_n hx hb dX1_join_209 rfl (lv_at hl 4 rfl) ?_
                obtain ⟨w30, hk28, hF⟩ := am_bind hF
                refine am_call X hh (va_runV (As := [.ref (gAd G 1), .int x1]) (rest := []) X.1 (c_X8_trace l G hk28) (cwV 2 hts gX1_join_X8_trace rfl rfl rfl (by decide +kernel) ⟨Nat.le_of_ble_eq_true rfl, Nat.le_of_ble_eq_true rfl⟩) (am_preV X hh 124 10 (by decide) rfl rfl) rfl rfl hl.1 rfl (lv_room (Nat.le_of_ble_eq_true rfl)) dX1_join_210 ⟨Nat.le_of_ble_eq_true rfl, Nat.le_of_ble_eq_true rfl⟩) (fun ab H locs hh => ?_)
                refine lv_aload_n hx hb dX1_join_213 rfl (lv_at hl 3 rfl) ?_
                refine am_getR X hh 127 4 1 124 (by decide) rfl rfl (by decide) hwRX1 (show Cond.fieldLink RX1 15 "PlanetWorkshop$Changes" "train" "LPlanetWorkshop$Train;" ∈ wsX1_join by decide +kernel) rfl dX1_join_214 ?_
                refine am_getI X hh 124 10 2 (by decide) rfl rfl (by decide) hwRX8 (show Cond.fieldLink RX1 73 "PlanetWorkshop$Train" "size" "I" ∈ wsX1_join by decide +kernel) rfl dX1_join_217 ?_
                exact am_iret X hr hh (fun t ht => am_qw (mk := oI) hF ht) (Nat.le_of_ble_eq_true rfl) (Nat.le_of_ble_eq_true rfl) dX1_join_220
              · have hF := am_neg hc23 hF
                refine lv_aload_n hx hb dX1_join_149 rfl (lv_at hl 3 rfl) ?_
                refine am_getR X hh 127 4 1 124 (by decide) rfl rfl (by decide) hwRX1 (show Cond.fieldLink RX1 15 "PlanetWorkshop$Changes" "train" "LPlanetWorkshop$Train;" ∈ wsX1_join by decide +kernel) rfl dX1_join_150 ?_
                refine am_getR X hh 124 10 0 125 (by decide) rfl rfl (by decide) hwRX8 (show Cond.fieldLink RX1 59 "PlanetWorkshop$Train" "units" "[J" ∈ wsX1_join by decide +kernel) rfl dX1_join_153 ?_
                refine lv_iload_n hx hb dX1_join_156 rfl (lv_at hl 5 rfl) ?_
                obtain ⟨hq31, hF⟩ := am_ifR hF
                refine am_lald X hh 125 (by decide) rfl hq31 dX1_join_157 ?_
                refine lv_aload_n hx hb dX1_join_158 rfl (lv_at hl 3 rfl) ?_
                refine am_getR X hh 127 4 0 1 (by decide) rfl rfl (by decide) hwRX1 (show Cond.fieldLink RX1 9 "PlanetWorkshop$Changes" "state" "LPlanetWorkshop$State;" ∈ wsX1_join by decide +kernel) rfl dX1_join_159 ?_
                refine lv_ldc2 (v := (24883200000 : Int64)) hx hb hown (hts _ (show Cond.constantLong RX1 63 (24883200000) ∈ wsX1_join by decide +kernel)) dX1_join_162 ?_
                refine lv_iload_n hx hb dX1_join_165 rfl (lv_at hl 4 rfl) ?_
                refine lv_iload_n hx hb dX1_join_166 rfl (lv_at hl 5 rfl) ?_
                refine lv_iload_n hx hb dX1_join_167 rfl (lv_at hl 6 rfl) ?_
                obtain ⟨r33, hk32, hF⟩ := am_bind hF
                refine am_call X hh (va_runV (As := [.long (24883200000 : Int64), .int x1, .int x2, .int x3]) (rest := [.long (gL w15 125 (x2).toNatClampNeg)]) X.1 (c_X7_unitsBehind l G hk32) (cwV 4 hts gX1_join_X7_unitsBehind rfl rfl rfl (by decide +kernel) ⟨Nat.le_of_ble_eq_true rfl, Nat.le_of_ble_eq_true rfl⟩) (am_preV X hh 1 9 (by decide) rfl rfl) rfl rfl hl.1 rfl (lv_room (Nat.le_of_ble_eq_true rfl)) dX1_join_168 ⟨Nat.le_of_ble_eq_true rfl, Nat.le_of_ble_eq_true rfl⟩) (fun ab H locs hh => ?_)
                refine am_lcmp_eq (tgt := 178) hx hb dX1_join_171 dX1_join_172 (by decide) (fun hc34 => ?_) (fun hc34 => ?_)
                · have hF := am_pos hc34 hF
                  refine lv_aload_n hx hb dX1_join_178 rfl (lv_at hl 3 rfl) ?_
                  refine am_getR X hh 127 4 0 1 (by decide) rfl rfl (by decide) hwRX1 (show Cond.fieldLink RX1 9 "PlanetWorkshop$Changes" "state" "LPlanetWorkshop$State;" ∈ wsX1_join by decide +kernel) rfl dX1_join_179 ?_
                  refine lv_iload_n hx hb dX1_join_182 rfl (lv_at hl 4 rfl) ?_
                  refine lv_iload_n hx hb dX1_join_183 rfl (lv_at hl 5 rfl) ?_
                  refine lv_iload_n hx hb dX1_join_184 rfl (lv_at hl 6 rfl) ?_
                  obtain ⟨w37, hk35, hF⟩ := am_bind hF
                  refine am_call X hh (va_runV (As := [.int x1, .int x2, .int x3]) (rest := []) X.1 (c_X7_putJoint l G hk35) (cwV 3 hts gX1_join_X7_putJoint rfl rfl rfl (by decide +kernel) ⟨Nat.le_of_ble_eq_true rfl, Nat.le_of_ble_eq_true rfl⟩) (am_preV X hh 1 9 (by decide) rfl rfl) rfl rfl hl.1 rfl (lv_room (Nat.le_of_ble_eq_true rfl)) dX1_join_185 ⟨Nat.le_of_ble_eq_true rfl, Nat.le_of_ble_eq_true rfl⟩) (fun ab H locs hh => ?_)
                  refine lv_aload_n hx hb dX1_join_188 rfl (lv_at hl 3 rfl) ?_
                  refine am_getR X hh 127 4 0 1 (by decide) rfl rfl (by decide) hwRX1 (show Cond.fieldLink RX1 9 "PlanetWorkshop$Changes" "state" "LPlanetWorkshop$State;" ∈ wsX1_join by decide +kernel) rfl dX1_join_189 ?_
                  refine lv_dup hx hb dX1_join_192 rfl ?_
                  refine am_getI X hh 1 9 11 (by decide) rfl rfl (by decide) hwRX7 (show Cond.fieldLink RX1 56 "PlanetWorkshop$State" "joints" "I" ∈ wsX1_join by decide +kernel) rfl dX1_join_193 ?_
                  refine lv_iconst (v := (1 : Int32)) hx hb dX1_join_196 (by decide) ?_
                  refine lv_iadd hx hb dX1_join_197 ?_
                  refine am_putI X hh 1 9 11 (by decide) rfl rfl (by decide) hwRX7 tyX7 tyX7_ok nmX7 (show Cond.fieldLink RX1 56 "PlanetWorkshop$State" "joints" "I" ∈ wsX1_join by decide +kernel) rfl rfl rfl rfl dX1_join_198 (fun H locs hh => ?_)
                  obtain ⟨w38, hw38, hF⟩ := am_wl hF
                  have hh := AH_eq hw38 hh
                  refine lv_aload_n hx hb dX1_join_201 rfl (lv_at hl 3 rfl) ?_
                  refine am_getR X hh 127 4 1 124 (by decide) rfl rfl (by decide) hwRX1 (show Cond.fieldLink RX1 15 "PlanetWorkshop$Changes" "train" "LPlanetWorkshop$Train;" ∈ wsX1_join by decide +kernel) rfl dX1_join_202 ?_
                  refine lv_aload_n hx hb dX1_join_205 rfl (lv_at hl 3 rfl) ?_
                  refine am_getR X hh 127 4 0 1 (by decide) rfl rfl (by decide) hwRX1 (show Cond.fieldLink RX1 9 "PlanetWorkshop$Changes" "state" "LPlanetWorkshop$State;" ∈ wsX1_join by decide +kernel) rfl dX1_join_206 ?_
                  refine lv_iload_n hx hb dX1_join_209 rfl (lv_at hl 4 rfl) ?_
                  obtain ⟨w41, hk39, hF⟩ := am_bind hF
                  refine am_call X hh (va_runV (As := [.ref (gAd G 1), .int x1]) (rest := []) X.1 (c_X8_trace l G hk39) (cwV 2 hts gX1_join_X8_trace rfl rfl rfl (by decide +kernel) ⟨Nat.le_of_ble_eq_true rfl, Nat.le_of_ble_eq_true rfl⟩) (am_preV X hh 124 10 (by decide) rfl rfl) rfl rfl hl.1 rfl (lv_room (Nat.le_of_ble_eq_true rfl)) dX1_join_210 ⟨Nat.le_of_ble_eq_true rfl, Nat.le_of_ble_eq_true rfl⟩) (fun ab H locs hh => ?_)
                  refine lv_aload_n hx hb dX1_join_213 rfl (lv_at hl 3 rfl) ?_
                  refine am_getR X hh 127 4 1 124 (by decide) rfl rfl (by decide) hwRX1 (show Cond.fieldLink RX1 15 "PlanetWorkshop$Changes" "train" "LPlanetWorkshop$Train;" ∈ wsX1_join by decide +kernel) rfl dX1_join_214 ?_
                  refine am_getI X hh 124 10 2 (by decide) rfl rfl (by decide) hwRX8 (show Cond.fieldLink RX1 73 "PlanetWorkshop$Train" "size" "I" ∈ wsX1_join by decide +kernel) rfl dX1_join_217 ?_
                  exact am_iret X hr hh (fun t ht => am_qw (mk := oI) hF ht) (Nat.le_of_ble_eq_true rfl) (Nat.le_of_ble_eq_true rfl) dX1_join_220
                · have hF := am_neg hc34 hF
                  refine lv_bipush (v := (-4 : Int32)) hx hb dX1_join_175 (by decide) ?_
                  exact am_iret X hr hh (fun t ht => am_qw (mk := oI) hF ht) (Nat.le_of_ble_eq_true rfl) (Nat.le_of_ble_eq_true rfl) dX1_join_177
        · have hF := am_pos hc18 hF
          refine lv_iload hx hb dX1_join_84 (lv_at hl 1 rfl) ?_
          refine lv_iconst (v := (-1 : Int32)) hx hb dX1_join_86 (by decide) ?_
          refine lv_icmp_eq (tgt := 109) hx hb dX1_join_87 (by decide) (fun hc42 => ?_) (fun hc42 => ?_)
          · have hF := am_pos hc42 hF
            refine lv_iconst (v := (0 : Int32)) hx hb dX1_join_109 (by decide) ?_
            refine lv_istore (lv' := [(6, .int (0 : Int32)), (5, .int r17), (4, .int r12), (0, .ref (gAd G 127)), (1, .int x1), (2, .int x2), (3, .int x3)]) hx hb dX1_join_110 hl (by decide) rfl (fun ls hl => ?_)
            refine lv_aload_n hx hb dX1_join_112 rfl (lv_at hl 3 rfl) ?_
            refine am_getR X hh 127 4 0 1 (by decide) rfl rfl (by decide) hwRX1 (show Cond.fieldLink RX1 9 "PlanetWorkshop$Changes" "state" "LPlanetWorkshop$State;" ∈ wsX1_join by decide +kernel) rfl dX1_join_113 ?_
            refine lv_iload_n hx hb dX1_join_116 rfl (lv_at hl 4 rfl) ?_
            refine lv_iload_n hx hb dX1_join_117 rfl (lv_at hl 5 rfl) ?_
            obtain ⟨r44, hk43, hF⟩ := am_bind hF
            refine am_call X hh (va_runV (As := [.int x1, .int x2]) (rest := []) X.1 (c_X7_jointOf l G hk43) (cwV 2 hts gX1_join_X7_jointOf rfl rfl rfl (by decide +kernel) ⟨Nat.le_of_ble_eq_true rfl, Nat.le_of_ble_eq_true rfl⟩) (am_preV X hh 1 9 (by decide) rfl rfl) rfl rfl hl.1 rfl (lv_room (Nat.le_of_ble_eq_true rfl)) dX1_join_118 ⟨Nat.le_of_ble_eq_true rfl, Nat.le_of_ble_eq_true rfl⟩) (fun ab H locs hh => ?_)
            refine lv_if_ne (tgt := 141) hx hb dX1_join_121 (by decide) (fun hc45 => ?_) (fun hc45 => ?_)
            · have hF := am_neg hc45 hF
              refine lv_bipush (v := (-3 : Int32)) hx hb dX1_join_141 (by decide) ?_
              exact am_iret X hr hh (fun t ht => am_qw (mk := oI) hF ht) (Nat.le_of_ble_eq_true rfl) (Nat.le_of_ble_eq_true rfl) dX1_join_143
            · have hF := am_pos hc45 hF
              refine lv_aload_n hx hb dX1_join_124 rfl (lv_at hl 3 rfl) ?_
              refine am_getR X hh 127 4 0 1 (by decide) rfl rfl (by decide) hwRX1 (show Cond.fieldLink RX1 9 "PlanetWorkshop$Changes" "state" "LPlanetWorkshop$State;" ∈ wsX1_join by decide +kernel) rfl dX1_join_125 ?_
              refine am_getI X hh 1 9 11 (by decide) rfl rfl (by decide) hwRX7 (show Cond.fieldLink RX1 56 "PlanetWorkshop$State" "joints" "I" ∈ wsX1_join by decide +kernel) rfl dX1_join_128 ?_
              refine lv_bipush (v := (15 : Int32)) hx hb dX1_join_131 (by decide) ?_
              refine lv_icmp_ge (tgt := 141) hx hb dX1_join_133 (by decide) (fun hc46 => ?_) (fun hc46 => ?_)
              · have hF := am_pos hc46 hF
                refine lv_bipush (v := (-3 : Int32)) hx hb dX1_join_141 (by decide) ?_
                exact am_iret X hr hh (fun t ht => am_qw (mk := oI) hF ht) (Nat.le_of_ble_eq_true rfl) (Nat.le_of_ble_eq_true rfl) dX1_join_143
              · have hF := am_neg hc46 hF
                refine lv_iload hx hb dX1_join_136 (lv_at hl 0 rfl) ?_
                refine lv_if_eq (tgt := 144) hx hb dX1_join_138 (by decide) (fun _ => ?_) (fun hz => absurd (by decide) hz)
                refine lv_iload hx hb dX1_join_144 (lv_at hl 1 rfl) ?_
                refine lv_if_eq (tgt := 178) hx hb dX1_join_146 (by decide) (fun hc47 => ?_) (fun hc47 => ?_)
                · have hF := am_pos hc47 hF
                  refine lv_aload_n hx hb dX1_join_178 rfl (lv_at hl 3 rfl) ?_
                  refine am_getR X hh 127 4 0 1 (by decide) rfl rfl (by decide) hwRX1 (show Cond.fieldLink RX1 9 "PlanetWorkshop$Changes" "state" "LPlanetWorkshop$State;" ∈ wsX1_join by decide +kernel) rfl dX1_join_179 ?_
                  refine lv_iload_n hx hb dX1_join_182 rfl (lv_at hl 4 rfl) ?_
                  refine lv_iload_n hx hb dX1_join_183 rfl (lv_at hl 5 rfl) ?_
                  refine lv_iload_n hx hb dX1_join_184 rfl (lv_at hl 6 rfl) ?_
                  obtain ⟨w50, hk48, hF⟩ := am_bind hF
                  refine am_call X hh (va_runV (As := [.int x1, .int x2, .int x3]) (rest := []) X.1 (c_X7_putJoint l G hk48) (cwV 3 hts gX1_join_X7_putJoint rfl rfl rfl (by decide +kernel) ⟨Nat.le_of_ble_eq_true rfl, Nat.le_of_ble_eq_true rfl⟩) (am_preV X hh 1 9 (by decide) rfl rfl) rfl rfl hl.1 rfl (lv_room (Nat.le_of_ble_eq_true rfl)) dX1_join_185 ⟨Nat.le_of_ble_eq_true rfl, Nat.le_of_ble_eq_true rfl⟩) (fun ab H locs hh => ?_)
                  refine lv_aload_n hx hb dX1_join_188 rfl (lv_at hl 3 rfl) ?_
                  refine am_getR X hh 127 4 0 1 (by decide) rfl rfl (by decide) hwRX1 (show Cond.fieldLink RX1 9 "PlanetWorkshop$Changes" "state" "LPlanetWorkshop$State;" ∈ wsX1_join by decide +kernel) rfl dX1_join_189 ?_
                  refine lv_dup hx hb dX1_join_192 rfl ?_
                  refine am_getI X hh 1 9 11 (by decide) rfl rfl (by decide) hwRX7 (show Cond.fieldLink RX1 56 "PlanetWorkshop$State" "joints" "I" ∈ wsX1_join by decide +kernel) rfl dX1_join_193 ?_
                  refine lv_iconst (v := (1 : Int32)) hx hb dX1_join_196 (by decide) ?_
                  refine lv_iadd hx hb dX1_join_197 ?_
                  refine am_putI X hh 1 9 11 (by decide) rfl rfl (by decide) hwRX7 tyX7 tyX7_ok nmX7 (show Cond.fieldLink RX1 56 "PlanetWorkshop$State" "joints" "I" ∈ wsX1_join by decide +kernel) rfl rfl rfl rfl dX1_join_198 (fun H locs hh => ?_)
                  obtain ⟨w51, hw51, hF⟩ := am_wl hF
                  have hh := AH_eq hw51 hh
                  refine lv_aload_n hx hb dX1_join_201 rfl (lv_at hl 3 rfl) ?_
                  refine am_getR X hh 127 4 1 124 (by decide) rfl rfl (by decide) hwRX1 (show Cond.fieldLink RX1 15 "PlanetWorkshop$Changes" "train" "LPlanetWorkshop$Train;" ∈ wsX1_join by decide +kernel) rfl dX1_join_202 ?_
                  refine lv_aload_n hx hb dX1_join_205 rfl (lv_at hl 3 rfl) ?_
                  refine am_getR X hh 127 4 0 1 (by decide) rfl rfl (by decide) hwRX1 (show Cond.fieldLink RX1 9 "PlanetWorkshop$Changes" "state" "LPlanetWorkshop$State;" ∈ wsX1_join by decide +kernel) rfl dX1_join_206 ?_
                  refine lv_iload_n hx hb dX1_join_209 rfl (lv_at hl 4 rfl) ?_
                  obtain ⟨w54, hk52, hF⟩ := am_bind hF
                  refine am_call X hh (va_runV (As := [.ref (gAd G 1), .int x1]) (rest := []) X.1 (c_X8_trace l G hk52) (cwV 2 hts gX1_join_X8_trace rfl rfl rfl (by decide +kernel) ⟨Nat.le_of_ble_eq_true rfl, Nat.le_of_ble_eq_true rfl⟩) (am_preV X hh 124 10 (by decide) rfl rfl) rfl rfl hl.1 rfl (lv_room (Nat.le_of_ble_eq_true rfl)) dX1_join_210 ⟨Nat.le_of_ble_eq_true rfl, Nat.le_of_ble_eq_true rfl⟩) (fun ab H locs hh => ?_)
                  refine lv_aload_n hx hb dX1_join_213 rfl (lv_at hl 3 rfl) ?_
                  refine am_getR X hh 127 4 1 124 (by decide) rfl rfl (by decide) hwRX1 (show Cond.fieldLink RX1 15 "PlanetWorkshop$Changes" "train" "LPlanetWorkshop$Train;" ∈ wsX1_join by decide +kernel) rfl dX1_join_214 ?_
                  refine am_getI X hh 124 10 2 (by decide) rfl rfl (by decide) hwRX8 (show Cond.fieldLink RX1 73 "PlanetWorkshop$Train" "size" "I" ∈ wsX1_join by decide +kernel) rfl dX1_join_217 ?_
                  exact am_iret X hr hh (fun t ht => am_qw (mk := oI) hF ht) (Nat.le_of_ble_eq_true rfl) (Nat.le_of_ble_eq_true rfl) dX1_join_220
                · have hF := am_neg hc47 hF
                  refine lv_aload_n hx hb dX1_join_149 rfl (lv_at hl 3 rfl) ?_
                  refine am_getR X hh 127 4 1 124 (by decide) rfl rfl (by decide) hwRX1 (show Cond.fieldLink RX1 15 "PlanetWorkshop$Changes" "train" "LPlanetWorkshop$Train;" ∈ wsX1_join by decide +kernel) rfl dX1_join_150 ?_
                  refine am_getR X hh 124 10 0 125 (by decide) rfl rfl (by decide) hwRX8 (show Cond.fieldLink RX1 59 "PlanetWorkshop$Train" "units" "[J" ∈ wsX1_join by decide +kernel) rfl dX1_join_153 ?_
                  refine lv_iload_n hx hb dX1_join_156 rfl (lv_at hl 5 rfl) ?_
                  obtain ⟨hq55, hF⟩ := am_ifR hF
                  refine am_lald X hh 125 (by decide) rfl hq55 dX1_join_157 ?_
                  refine lv_aload_n hx hb dX1_join_158 rfl (lv_at hl 3 rfl) ?_
                  refine am_getR X hh 127 4 0 1 (by decide) rfl rfl (by decide) hwRX1 (show Cond.fieldLink RX1 9 "PlanetWorkshop$Changes" "state" "LPlanetWorkshop$State;" ∈ wsX1_join by decide +kernel) rfl dX1_join_159 ?_
                  refine lv_ldc2 (v := (24883200000 : Int64)) hx hb hown (hts _ (show Cond.constantLong RX1 63 (24883200000) ∈ wsX1_join by decide +kernel)) dX1_join_162 ?_
                  refine lv_iload_n hx hb dX1_join_165 rfl (lv_at hl 4 rfl) ?_
                  refine lv_iload_n hx hb dX1_join_166 rfl (lv_at hl 5 rfl) ?_
                  refine lv_iload_n hx hb dX1_join_167 rfl (lv_at hl 6 rfl) ?_
                  obtain ⟨r57, hk56, hF⟩ := am_bind hF
                  refine am_call X hh (va_runV (As := [.long (24883200000 : Int64), .int x1, .int x2, .int x3]) (rest := [.long (gL w15 125 (x2).toNatClampNeg)]) X.1 (c_X7_unitsBehind l G hk56) (cwV 4 hts gX1_join_X7_unitsBehind rfl rfl rfl (by decide +kernel) ⟨Nat.le_of_ble_eq_true rfl, Nat.le_of_ble_eq_true rfl⟩) (am_preV X hh 1 9 (by decide) rfl rfl) rfl rfl hl.1 rfl (lv_room (Nat.le_of_ble_eq_true rfl)) dX1_join_168 ⟨Nat.le_of_ble_eq_true rfl, Nat.le_of_ble_eq_true rfl⟩) (fun ab H locs hh => ?_)
                  refine am_lcmp_eq (tgt := 178) hx hb dX1_join_171 dX1_join_172 (by decide) (fun hc58 => ?_) (fun hc58 => ?_)
                  · have hF := am_pos hc58 hF
                    refine lv_aload_n hx hb dX1_join_178 rfl (lv_at hl 3 rfl) ?_
                    refine am_getR X hh 127 4 0 1 (by decide) rfl rfl (by decide) hwRX1 (show Cond.fieldLink RX1 9 "PlanetWorkshop$Changes" "state" "LPlanetWorkshop$State;" ∈ wsX1_join by decide +kernel) rfl dX1_join_179 ?_
                    refine lv_iload_n hx hb dX1_join_182 rfl (lv_at hl 4 rfl) ?_
                    refine lv_iload_n hx hb dX1_join_183 rfl (lv_at hl 5 rfl) ?_
                    refine lv_iload_n hx hb dX1_join_184 rfl (lv_at hl 6 rfl) ?_
                    obtain ⟨w61, hk59, hF⟩ := am_bind hF
                    refine am_call X hh (va_runV (As := [.int x1, .int x2, .int x3]) (rest := []) X.1 (c_X7_putJoint l G hk59) (cwV 3 hts gX1_join_X7_putJoint rfl rfl rfl (by decide +kernel) ⟨Nat.le_of_ble_eq_true rfl, Nat.le_of_ble_eq_true rfl⟩) (am_preV X hh 1 9 (by decide) rfl rfl) rfl rfl hl.1 rfl (lv_room (Nat.le_of_ble_eq_true rfl)) dX1_join_185 ⟨Nat.le_of_ble_eq_true rfl, Nat.le_of_ble_eq_true rfl⟩) (fun ab H locs hh => ?_)
                    refine lv_aload_n hx hb dX1_join_188 rfl (lv_at hl 3 rfl) ?_
                    refine am_getR X hh 127 4 0 1 (by decide) rfl rfl (by decide) hwRX1 (show Cond.fieldLink RX1 9 "PlanetWorkshop$Changes" "state" "LPlanetWorkshop$State;" ∈ wsX1_join by decide +kernel) rfl dX1_join_189 ?_
                    refine lv_dup hx hb dX1_join_192 rfl ?_
                    refine am_getI X hh 1 9 11 (by decide) rfl rfl (by decide) hwRX7 (show Cond.fieldLink RX1 56 "PlanetWorkshop$State" "joints" "I" ∈ wsX1_join by decide +kernel) rfl dX1_join_193 ?_
                    refine lv_iconst (v := (1 : Int32)) hx hb dX1_join_196 (by decide) ?_
                    refine lv_iadd hx hb dX1_join_197 ?_
                    refine am_putI X hh 1 9 11 (by decide) rfl rfl (by decide) hwRX7 tyX7 tyX7_ok nmX7 (show Cond.fieldLink RX1 56 "PlanetWorkshop$State" "joints" "I" ∈ wsX1_join by decide +kernel) rfl rfl rfl rfl dX1_join_198 (fun H locs hh => ?_)
                    obtain ⟨w62, hw62, hF⟩ := am_wl hF
                    have hh := AH_eq hw62 hh
                    refine lv_aload_n hx hb dX1_join_201 rfl (lv_at hl 3 rfl) ?_
                    refine am_getR X hh 127 4 1 124 (by decide) rfl rfl (by decide) hwRX1 (show Cond.fieldLink RX1 15 "PlanetWorkshop$Changes" "train" "LPlanetWorkshop$Train;" ∈ wsX1_join by decide +kernel) rfl dX1_join_202 ?_
                    refine lv_aload_n hx hb dX1_join_205 rfl (lv_at hl 3 rfl) ?_
                    refine am_getR X hh 127 4 0 1 (by decide) rfl rfl (by decide) hwRX1 (show Cond.fieldLink RX1 9 "PlanetWorkshop$Changes" "state" "LPlanetWorkshop$State;" ∈ wsX1_join by decide +kernel) rfl dX1_join_206 ?_
                    refine lv_iload_n hx hb dX1_join_209 rfl (lv_at hl 4 rfl) ?_
                    obtain ⟨w65, hk63, hF⟩ := am_bind hF
                    refine am_call X hh (va_runV (As := [.ref (gAd G 1), .int x1]) (rest := []) X.1 (c_X8_trace l G hk63) (cwV 2 hts gX1_join_X8_trace rfl rfl rfl (by decide +kernel) ⟨Nat.le_of_ble_eq_true rfl, Nat.le_of_ble_eq_true rfl⟩) (am_preV X hh 124 10 (by decide) rfl rfl) rfl rfl hl.1 rfl (lv_room (Nat.le_of_ble_eq_true rfl)) dX1_join_210 ⟨Nat.le_of_ble_eq_true rfl, Nat.le_of_ble_eq_true rfl⟩) (fun ab H locs hh => ?_)
                    refine lv_aload_n hx hb dX1_join_213 rfl (lv_at hl 3 rfl) ?_
                    refine am_getR X hh 127 4 1 124 (by decide) rfl rfl (by decide) hwRX1 (show Cond.fieldLink RX1 15 "PlanetWorkshop$Changes" "train" "LPlanetWorkshop$Train;" ∈ wsX1_join by decide +kernel) rfl dX1_join_214 ?_
                    refine am_getI X hh 124 10 2 (by decide) rfl rfl (by decide) hwRX8 (show Cond.fieldLink RX1 73 "PlanetWorkshop$Train" "size" "I" ∈ wsX1_join by decide +kernel) rfl dX1_join_217 ?_
                    exact am_iret X hr hh (fun t ht => am_qw (mk := oI) hF ht) (Nat.le_of_ble_eq_true rfl) (Nat.le_of_ble_eq_true rfl) dX1_join_220
                  · have hF := am_neg hc58 hF
                    refine lv_bipush (v := (-4 : Int32)) hx hb dX1_join_175 (by decide) ?_
                    exact am_iret X hr hh (fun t ht => am_qw (mk := oI) hF ht) (Nat.le_of_ble_eq_true rfl) (Nat.le_of_ble_eq_true rfl) dX1_join_177
          · have hF := am_neg hc42 hF
            refine lv_aload_n hx hb dX1_join_90 rfl (lv_at hl 2 rfl) ?_
            refine am_getR X hh 127 4 1 124 (by decide) rfl rfl (by decide) hwRX1 (show Cond.fieldLink RX1 15 "PlanetWorkshop$Changes" "train" "LPlanetWorkshop$Train;" ∈ wsX1_join by decide +kernel) rfl dX1_join_91 ?_
            refine lv_aload_n hx hb dX1_join_94 rfl (lv_at hl 2 rfl) ?_
            refine am_getR X hh 127 4 0 1 (by decide) rfl rfl (by decide) hwRX1 (show Cond.fieldLink RX1 9 "PlanetWorkshop$Changes" "state" "LPlanetWorkshop$State;" ∈ wsX1_join by decide +kernel) rfl dX1_join_95 ?_
            obtain ⟨r67, hk66, hF⟩ := am_bind hF
            refine am_call X hh (va_runV (As := [.ref (gAd G 1)]) (rest := []) X.1 (c_X8_springGear l G hk66) (cwV 1 hts gX1_join_X8_springGear rfl rfl rfl (by decide +kernel) ⟨Nat.le_of_ble_eq_true rfl, Nat.le_of_ble_eq_true rfl⟩) (am_preV X hh 124 10 (by decide) rfl rfl) rfl rfl hl.1 rfl (lv_room (Nat.le_of_ble_eq_true rfl)) dX1_join_98 ⟨Nat.le_of_ble_eq_true rfl, Nat.le_of_ble_eq_true rfl⟩) (fun ab H locs hh => ?_)
            refine lv_iconst (v := (-1 : Int32)) hx hb dX1_join_101 (by decide) ?_
            refine lv_icmp_eq (tgt := 109) hx hb dX1_join_102 (by decide) (fun hc68 => ?_) (fun hc68 => ?_)
            · have hF := am_pos hc68 hF
              refine lv_iconst (v := (0 : Int32)) hx hb dX1_join_109 (by decide) ?_
              refine lv_istore (lv' := [(6, .int (0 : Int32)), (5, .int r17), (4, .int r12), (0, .ref (gAd G 127)), (1, .int x1), (2, .int x2), (3, .int x3)]) hx hb dX1_join_110 hl (by decide) rfl (fun ls hl => ?_)
              refine lv_aload_n hx hb dX1_join_112 rfl (lv_at hl 3 rfl) ?_
              refine am_getR X hh 127 4 0 1 (by decide) rfl rfl (by decide) hwRX1 (show Cond.fieldLink RX1 9 "PlanetWorkshop$Changes" "state" "LPlanetWorkshop$State;" ∈ wsX1_join by decide +kernel) rfl dX1_join_113 ?_
              refine lv_iload_n hx hb dX1_join_116 rfl (lv_at hl 4 rfl) ?_
              refine lv_iload_n hx hb dX1_join_117 rfl (lv_at hl 5 rfl) ?_
              obtain ⟨r70, hk69, hF⟩ := am_bind hF
              refine am_call X hh (va_runV (As := [.int x1, .int x2]) (rest := []) X.1 (c_X7_jointOf l G hk69) (cwV 2 hts gX1_join_X7_jointOf rfl rfl rfl (by decide +kernel) ⟨Nat.le_of_ble_eq_true rfl, Nat.le_of_ble_eq_true rfl⟩) (am_preV X hh 1 9 (by decide) rfl rfl) rfl rfl hl.1 rfl (lv_room (Nat.le_of_ble_eq_true rfl)) dX1_join_118 ⟨Nat.le_of_ble_eq_true rfl, Nat.le_of_ble_eq_true rfl⟩) (fun ab H locs hh => ?_)
              refine lv_if_ne (tgt := 141) hx hb dX1_join_121 (by decide) (fun hc71 => ?_) (fun hc71 => ?_)
              · have hF := am_neg hc71 hF
                refine lv_bipush (v := (-3 : Int32)) hx hb dX1_join_141 (by decide) ?_
                exact am_iret X hr hh (fun t ht => am_qw (mk := oI) hF ht) (Nat.le_of_ble_eq_true rfl) (Nat.le_of_ble_eq_true rfl) dX1_join_143
              · have hF := am_pos hc71 hF
                refine lv_aload_n hx hb dX1_join_124 rfl (lv_at hl 3 rfl) ?_
                refine am_getR X hh 127 4 0 1 (by decide) rfl rfl (by decide) hwRX1 (show Cond.fieldLink RX1 9 "PlanetWorkshop$Changes" "state" "LPlanetWorkshop$State;" ∈ wsX1_join by decide +kernel) rfl dX1_join_125 ?_
                refine am_getI X hh 1 9 11 (by decide) rfl rfl (by decide) hwRX7 (show Cond.fieldLink RX1 56 "PlanetWorkshop$State" "joints" "I" ∈ wsX1_join by decide +kernel) rfl dX1_join_128 ?_
                refine lv_bipush (v := (15 : Int32)) hx hb dX1_join_131 (by decide) ?_
                refine lv_icmp_ge (tgt := 141) hx hb dX1_join_133 (by decide) (fun hc72 => ?_) (fun hc72 => ?_)
                · have hF := am_pos hc72 hF
                  refine lv_bipush (v := (-3 : Int32)) hx hb dX1_join_141 (by decide) ?_
                  exact am_iret X hr hh (fun t ht => am_qw (mk := oI) hF ht) (Nat.le_of_ble_eq_true rfl) (Nat.le_of_ble_eq_true rfl) dX1_join_143
                · have hF := am_neg hc72 hF
                  refine lv_iload hx hb dX1_join_136 (lv_at hl 0 rfl) ?_
                  refine lv_if_eq (tgt := 144) hx hb dX1_join_138 (by decide) (fun _ => ?_) (fun hz => absurd (by decide) hz)
                  refine lv_iload hx hb dX1_join_144 (lv_at hl 1 rfl) ?_
                  refine lv_if_eq (tgt := 178) hx hb dX1_join_146 (by decide) (fun hc73 => ?_) (fun hc73 => ?_)
                  · have hF := am_pos hc73 hF
                    refine lv_aload_n hx hb dX1_join_178 rfl (lv_at hl 3 rfl) ?_
                    refine am_getR X hh 127 4 0 1 (by decide) rfl rfl (by decide) hwRX1 (show Cond.fieldLink RX1 9 "PlanetWorkshop$Changes" "state" "LPlanetWorkshop$State;" ∈ wsX1_join by decide +kernel) rfl dX1_join_179 ?_
                    refine lv_iload_n hx hb dX1_join_182 rfl (lv_at hl 4 rfl) ?_
                    refine lv_iload_n hx hb dX1_join_183 rfl (lv_at hl 5 rfl) ?_
                    refine lv_iload_n hx hb dX1_join_184 rfl (lv_at hl 6 rfl) ?_
                    obtain ⟨w76, hk74, hF⟩ := am_bind hF
                    refine am_call X hh (va_runV (As := [.int x1, .int x2, .int x3]) (rest := []) X.1 (c_X7_putJoint l G hk74) (cwV 3 hts gX1_join_X7_putJoint rfl rfl rfl (by decide +kernel) ⟨Nat.le_of_ble_eq_true rfl, Nat.le_of_ble_eq_true rfl⟩) (am_preV X hh 1 9 (by decide) rfl rfl) rfl rfl hl.1 rfl (lv_room (Nat.le_of_ble_eq_true rfl)) dX1_join_185 ⟨Nat.le_of_ble_eq_true rfl, Nat.le_of_ble_eq_true rfl⟩) (fun ab H locs hh => ?_)
                    refine lv_aload_n hx hb dX1_join_188 rfl (lv_at hl 3 rfl) ?_
                    refine am_getR X hh 127 4 0 1 (by decide) rfl rfl (by decide) hwRX1 (show Cond.fieldLink RX1 9 "PlanetWorkshop$Changes" "state" "LPlanetWorkshop$State;" ∈ wsX1_join by decide +kernel) rfl dX1_join_189 ?_
                    refine lv_dup hx hb dX1_join_192 rfl ?_
                    refine am_getI X hh 1 9 11 (by decide) rfl rfl (by decide) hwRX7 (show Cond.fieldLink RX1 56 "PlanetWorkshop$State" "joints" "I" ∈ wsX1_join by decide +kernel) rfl dX1_join_193 ?_
                    refine lv_iconst (v := (1 : Int32)) hx hb dX1_join_196 (by decide) ?_
                    refine lv_iadd hx hb dX1_join_197 ?_
                    refine am_putI X hh 1 9 11 (by decide) rfl rfl (by decide) hwRX7 tyX7 tyX7_ok nmX7 (show Cond.fieldLink RX1 56 "PlanetWorkshop$State" "joints" "I" ∈ wsX1_join by decide +kernel) rfl rfl rfl rfl dX1_join_198 (fun H locs hh => ?_)
                    obtain ⟨w77, hw77, hF⟩ := am_wl hF
                    have hh := AH_eq hw77 hh
                    refine lv_aload_n hx hb dX1_join_201 rfl (lv_at hl 3 rfl) ?_
                    refine am_getR X hh 127 4 1 124 (by decide) rfl rfl (by decide) hwRX1 (show Cond.fieldLink RX1 15 "PlanetWorkshop$Changes" "train" "LPlanetWorkshop$Train;" ∈ wsX1_join by decide +kernel) rfl dX1_join_202 ?_
                    refine lv_aload_n hx hb dX1_join_205 rfl (lv_at hl 3 rfl) ?_
                    refine am_getR X hh 127 4 0 1 (by decide) rfl rfl (by decide) hwRX1 (show Cond.fieldLink RX1 9 "PlanetWorkshop$Changes" "state" "LPlanetWorkshop$State;" ∈ wsX1_join by decide +kernel) rfl dX1_join_206 ?_
                    refine lv_iload_n hx hb dX1_join_209 rfl (lv_at hl 4 rfl) ?_
                    obtain ⟨w80, hk78, hF⟩ := am_bind hF
                    refine am_call X hh (va_runV (As := [.ref (gAd G 1), .int x1]) (rest := []) X.1 (c_X8_trace l G hk78) (cwV 2 hts gX1_join_X8_trace rfl rfl rfl (by decide +kernel) ⟨Nat.le_of_ble_eq_true rfl, Nat.le_of_ble_eq_true rfl⟩) (am_preV X hh 124 10 (by decide) rfl rfl) rfl rfl hl.1 rfl (lv_room (Nat.le_of_ble_eq_true rfl)) dX1_join_210 ⟨Nat.le_of_ble_eq_true rfl, Nat.le_of_ble_eq_true rfl⟩) (fun ab H locs hh => ?_)
                    refine lv_aload_n hx hb dX1_join_213 rfl (lv_at hl 3 rfl) ?_
                    refine am_getR X hh 127 4 1 124 (by decide) rfl rfl (by decide) hwRX1 (show Cond.fieldLink RX1 15 "PlanetWorkshop$Changes" "train" "LPlanetWorkshop$Train;" ∈ wsX1_join by decide +kernel) rfl dX1_join_214 ?_
                    refine am_getI X hh 124 10 2 (by decide) rfl rfl (by decide) hwRX8 (show Cond.fieldLink RX1 73 "PlanetWorkshop$Train" "size" "I" ∈ wsX1_join by decide +kernel) rfl dX1_join_217 ?_
                    exact am_iret X hr hh (fun t ht => am_qw (mk := oI) hF ht) (Nat.le_of_ble_eq_true rfl) (Nat.le_of_ble_eq_true rfl) dX1_join_220
                  · have hF := am_neg hc73 hF
                    refine lv_aload_n hx hb dX1_join_149 rfl (lv_at hl 3 rfl) ?_
                    refine am_getR X hh 127 4 1 124 (by decide) rfl rfl (by decide) hwRX1 (show Cond.fieldLink RX1 15 "PlanetWorkshop$Changes" "train" "LPlanetWorkshop$Train;" ∈ wsX1_join by decide +kernel) rfl dX1_join_150 ?_
                    refine am_getR X hh 124 10 0 125 (by decide) rfl rfl (by decide) hwRX8 (show Cond.fieldLink RX1 59 "PlanetWorkshop$Train" "units" "[J" ∈ wsX1_join by decide +kernel) rfl dX1_join_153 ?_
                    refine lv_iload_n hx hb dX1_join_156 rfl (lv_at hl 5 rfl) ?_
                    obtain ⟨hq81, hF⟩ := am_ifR hF
                    refine am_lald X hh 125 (by decide) rfl hq81 dX1_join_157 ?_
                    refine lv_aload_n hx hb dX1_join_158 rfl (lv_at hl 3 rfl) ?_
                    refine am_getR X hh 127 4 0 1 (by decide) rfl rfl (by decide) hwRX1 (show Cond.fieldLink RX1 9 "PlanetWorkshop$Changes" "state" "LPlanetWorkshop$State;" ∈ wsX1_join by decide +kernel) rfl dX1_join_159 ?_
                    refine lv_ldc2 (v := (24883200000 : Int64)) hx hb hown (hts _ (show Cond.constantLong RX1 63 (24883200000) ∈ wsX1_join by decide +kernel)) dX1_join_162 ?_
                    refine lv_iload_n hx hb dX1_join_165 rfl (lv_at hl 4 rfl) ?_
                    refine lv_iload_n hx hb dX1_join_166 rfl (lv_at hl 5 rfl) ?_
                    refine lv_iload_n hx hb dX1_join_167 rfl (lv_at hl 6 rfl) ?_
                    obtain ⟨r83, hk82, hF⟩ := am_bind hF
                    refine am_call X hh (va_runV (As := [.long (24883200000 : Int64), .int x1, .int x2, .int x3]) (rest := [.long (gL w15 125 (x2).toNatClampNeg)]) X.1 (c_X7_unitsBehind l G hk82) (cwV 4 hts gX1_join_X7_unitsBehind rfl rfl rfl (by decide +kernel) ⟨Nat.le_of_ble_eq_true rfl, Nat.le_of_ble_eq_true rfl⟩) (am_preV X hh 1 9 (by decide) rfl rfl) rfl rfl hl.1 rfl (lv_room (Nat.le_of_ble_eq_true rfl)) dX1_join_168 ⟨Nat.le_of_ble_eq_true rfl, Nat.le_of_ble_eq_true rfl⟩) (fun ab H locs hh => ?_)
                    refine am_lcmp_eq (tgt := 178) hx hb dX1_join_171 dX1_join_172 (by decide) (fun hc84 => ?_) (fun hc84 => ?_)
                    · have hF := am_pos hc84 hF
                      refine lv_aload_n hx hb dX1_join_178 rfl (lv_at hl 3 rfl) ?_
                      refine am_getR X hh 127 4 0 1 (by decide) rfl rfl (by decide) hwRX1 (show Cond.fieldLink RX1 9 "PlanetWorkshop$Changes" "state" "LPlanetWorkshop$State;" ∈ wsX1_join by decide +kernel) rfl dX1_join_179 ?_
                      refine lv_iload_n hx hb dX1_join_182 rfl (lv_at hl 4 rfl) ?_
                      refine lv_iload_n hx hb dX1_join_183 rfl (lv_at hl 5 rfl) ?_
                      refine lv_iload_n hx hb dX1_join_184 rfl (lv_at hl 6 rfl) ?_
                      obtain ⟨w87, hk85, hF⟩ := am_bind hF
                      refine am_call X hh (va_runV (As := [.int x1, .int x2, .int x3]) (rest := []) X.1 (c_X7_putJoint l G hk85) (cwV 3 hts gX1_join_X7_putJoint rfl rfl rfl (by decide +kernel) ⟨Nat.le_of_ble_eq_true rfl, Nat.le_of_ble_eq_true rfl⟩) (am_preV X hh 1 9 (by decide) rfl rfl) rfl rfl hl.1 rfl (lv_room (Nat.le_of_ble_eq_true rfl)) dX1_join_185 ⟨Nat.le_of_ble_eq_true rfl, Nat.le_of_ble_eq_true rfl⟩) (fun ab H locs hh => ?_)
                      refine lv_aload_n hx hb dX1_join_188 rfl (lv_at hl 3 rfl) ?_
                      refine am_getR X hh 127 4 0 1 (by decide) rfl rfl (by decide) hwRX1 (show Cond.fieldLink RX1 9 "PlanetWorkshop$Changes" "state" "LPlanetWorkshop$State;" ∈ wsX1_join by decide +kernel) rfl dX1_join_189 ?_
                      refine lv_dup hx hb dX1_join_192 rfl ?_
                      refine am_getI X hh 1 9 11 (by decide) rfl rfl (by decide) hwRX7 (show Cond.fieldLink RX1 56 "PlanetWorkshop$State" "joints" "I" ∈ wsX1_join by decide +kernel) rfl dX1_join_193 ?_
                      refine lv_iconst (v := (1 : Int32)) hx hb dX1_join_196 (by decide) ?_
                      refine lv_iadd hx hb dX1_join_197 ?_
                      refine am_putI X hh 1 9 11 (by decide) rfl rfl (by decide) hwRX7 tyX7 tyX7_ok nmX7 (show Cond.fieldLink RX1 56 "PlanetWorkshop$State" "joints" "I" ∈ wsX1_join by decide +kernel) rfl rfl rfl rfl dX1_join_198 (fun H locs hh => ?_)
                      obtain ⟨w88, hw88, hF⟩ := am_wl hF
                      have hh := AH_eq hw88 hh
                      refine lv_aload_n hx hb dX1_join_201 rfl (lv_at hl 3 rfl) ?_
                      refine am_getR X hh 127 4 1 124 (by decide) rfl rfl (by decide) hwRX1 (show Cond.fieldLink RX1 15 "PlanetWorkshop$Changes" "train" "LPlanetWorkshop$Train;" ∈ wsX1_join by decide +kernel) rfl dX1_join_202 ?_
                      refine lv_aload_n hx hb dX1_join_205 rfl (lv_at hl 3 rfl) ?_
                      refine am_getR X hh 127 4 0 1 (by decide) rfl rfl (by decide) hwRX1 (show Cond.fieldLink RX1 9 "PlanetWorkshop$Changes" "state" "LPlanetWorkshop$State;" ∈ wsX1_join by decide +kernel) rfl dX1_join_206 ?_
                      refine lv_iload_n hx hb dX1_join_209 rfl (lv_at hl 4 rfl) ?_
                      obtain ⟨w91, hk89, hF⟩ := am_bind hF
                      refine am_call X hh (va_runV (As := [.ref (gAd G 1), .int x1]) (rest := []) X.1 (c_X8_trace l G hk89) (cwV 2 hts gX1_join_X8_trace rfl rfl rfl (by decide +kernel) ⟨Nat.le_of_ble_eq_true rfl, Nat.le_of_ble_eq_true rfl⟩) (am_preV X hh 124 10 (by decide) rfl rfl) rfl rfl hl.1 rfl (lv_room (Nat.le_of_ble_eq_true rfl)) dX1_join_210 ⟨Nat.le_of_ble_eq_true rfl, Nat.le_of_ble_eq_true rfl⟩) (fun ab H locs hh => ?_)
                      refine lv_aload_n hx hb dX1_join_213 rfl (lv_at hl 3 rfl) ?_
                      refine am_getR X hh 127 4 1 124 (by decide) rfl rfl (by decide) hwRX1 (show Cond.fieldLink RX1 15 "PlanetWorkshop$Changes" "train" "LPlanetWorkshop$Train;" ∈ wsX1_join by decide +kernel) rfl dX1_join_214 ?_
                      refine am_getI X hh 124 10 2 (by decide) rfl rfl (by decide) hwRX8 (show Cond.fieldLink RX1 73 "PlanetWorkshop$Train" "size" "I" ∈ wsX1_join by decide +kernel) rfl dX1_join_217 ?_
                      exact am_iret X hr hh (fun t ht => am_qw (mk := oI) hF ht) (Nat.le_of_ble_eq_true rfl) (Nat.le_of_ble_eq_true rfl) dX1_join_220
                    · have hF := am_neg hc84 hF
                      refine lv_bipush (v := (-4 : Int32)) hx hb dX1_join_175 (by decide) ?_
                      exact am_iret X hr hh (fun t ht => am_qw (mk := oI) hF ht) (Nat.le_of_ble_eq_true rfl) (Nat.le_of_ble_eq_true rfl) dX1_join_177
            · have hF := am_neg hc68 hF
              refine lv_iconst (v := (1 : Int32)) hx hb dX1_join_105 (by decide) ?_
              refine lv_goto (tgt := 110) hx hb dX1_join_106 (by decide) ?_
              refine lv_istore (lv' := [(6, .int (1 : Int32)), (5, .int r17), (4, .int r12), (0, .ref (gAd G 127)), (1, .int x1), (2, .int x2), (3, .int x3)]) hx hb dX1_join_110 hl (by decide) rfl (fun ls hl => ?_)
              refine lv_aload_n hx hb dX1_join_112 rfl (lv_at hl 3 rfl) ?_
              refine am_getR X hh 127 4 0 1 (by decide) rfl rfl (by decide) hwRX1 (show Cond.fieldLink RX1 9 "PlanetWorkshop$Changes" "state" "LPlanetWorkshop$State;" ∈ wsX1_join by decide +kernel) rfl dX1_join_113 ?_
              refine lv_iload_n hx hb dX1_join_116 rfl (lv_at hl 4 rfl) ?_
              refine lv_iload_n hx hb dX1_join_117 rfl (lv_at hl 5 rfl) ?_
              obtain ⟨r93, hk92, hF⟩ := am_bind hF
              refine am_call X hh (va_runV (As := [.int x1, .int x2]) (rest := []) X.1 (c_X7_jointOf l G hk92) (cwV 2 hts gX1_join_X7_jointOf rfl rfl rfl (by decide +kernel) ⟨Nat.le_of_ble_eq_true rfl, Nat.le_of_ble_eq_true rfl⟩) (am_preV X hh 1 9 (by decide) rfl rfl) rfl rfl hl.1 rfl (lv_room (Nat.le_of_ble_eq_true rfl)) dX1_join_118 ⟨Nat.le_of_ble_eq_true rfl, Nat.le_of_ble_eq_true rfl⟩) (fun ab H locs hh => ?_)
              refine lv_if_ne (tgt := 141) hx hb dX1_join_121 (by decide) (fun hc94 => ?_) (fun hc94 => ?_)
              · have hF := am_neg hc94 hF
                refine lv_bipush (v := (-3 : Int32)) hx hb dX1_join_141 (by decide) ?_
                exact am_iret X hr hh (fun t ht => am_qw (mk := oI) hF ht) (Nat.le_of_ble_eq_true rfl) (Nat.le_of_ble_eq_true rfl) dX1_join_143
              · have hF := am_pos hc94 hF
                refine lv_aload_n hx hb dX1_join_124 rfl (lv_at hl 3 rfl) ?_
                refine am_getR X hh 127 4 0 1 (by decide) rfl rfl (by decide) hwRX1 (show Cond.fieldLink RX1 9 "PlanetWorkshop$Changes" "state" "LPlanetWorkshop$State;" ∈ wsX1_join by decide +kernel) rfl dX1_join_125 ?_
                refine am_getI X hh 1 9 11 (by decide) rfl rfl (by decide) hwRX7 (show Cond.fieldLink RX1 56 "PlanetWorkshop$State" "joints" "I" ∈ wsX1_join by decide +kernel) rfl dX1_join_128 ?_
                refine lv_bipush (v := (15 : Int32)) hx hb dX1_join_131 (by decide) ?_
                refine lv_icmp_ge (tgt := 141) hx hb dX1_join_133 (by decide) (fun hc95 => ?_) (fun hc95 => ?_)
                · have hF := am_pos hc95 hF
                  refine lv_bipush (v := (-3 : Int32)) hx hb dX1_join_141 (by decide) ?_
                  exact am_iret X hr hh (fun t ht => am_qw (mk := oI) hF ht) (Nat.le_of_ble_eq_true rfl) (Nat.le_of_ble_eq_true rfl) dX1_join_143
                · have hF := am_neg hc95 hF
                  refine lv_iload hx hb dX1_join_136 (lv_at hl 0 rfl) ?_
                  refine lv_if_eq (tgt := 144) hx hb dX1_join_138 (by decide) (fun hz => absurd hz (by decide)) (fun _ => ?_)
                  refine lv_bipush (v := (-3 : Int32)) hx hb dX1_join_141 (by decide) ?_
                  exact am_iret X hr hh (fun t ht => am_qw (mk := oI) hF ht) (Nat.le_of_ble_eq_true rfl) (Nat.le_of_ble_eq_true rfl) dX1_join_143
      · have hF := am_pos hc7 hF
        refine lv_bipush (v := (-2 : Int32)) hx hb dX1_join_29 (by decide) ?_
        exact am_iret X hr hh (fun t ht => am_qw (mk := oI) hF ht) (Nat.le_of_ble_eq_true rfl) (Nat.le_of_ble_eq_true rfl) dX1_join_31
    · have hF := am_pos hc6 hF
      refine lv_iconst (v := (-1 : Int32)) hx hb dX1_join_22 (by decide) ?_
      exact am_iret X hr hh (fun t ht => am_qw (mk := oI) hF ht) (Nat.le_of_ble_eq_true rfl) (Nat.le_of_ble_eq_true rfl) dX1_join_23
set_option maxHeartbeats 4000000 in
set_option maxRecDepth 100000 in
theorem c_X1_putSpring (l : Launch) (G : GG) {w : Wd} {x1 : Int32} {x2 : Int32} {r0 : Int32} {w1 : Wd} (hF : f_X1_putSpring w x1 x2 = some (r0, w1)) : Met l yX1_putSpring wsX1_putSpring ({ frames := 4, cells := 0, slots := 0, locals := 99 } : Room) (va_Pc [.ref (gAd G 127), .int x1, .int x2] (Rel G w)) (amQ G (oI r0) w1) 0 0 (gA G) := by
  refine am_met (own := RX1) (cc := cX1_putSpring) (maxL := 3) (ret := (some .int)) (by decide +kernel) rfl rfl (Nat.le_of_ble_eq_true rfl) ?_
  intro p e s m args below meth c ab H locs ls X hr hh hl
  have hx := X.1.1; have hb := X.1.2.1; have hml := X.1.2.2.1; have hown := X.1.2.2.2.1; have hts := X.1.2.2.2.2
  have hl : lv_has ls 3 [(0, .ref (gAd G 127)), (1, .int x1), (2, .int x2)] := hl
  have hwRX1 : ∀ z ∈ u_ws RX1 TX1 2, z ∈ wsX1_putSpring := by decide +kernel
  have hwRX7 : ∀ z ∈ u_ws RX7 TX7 17, z ∈ wsX1_putSpring := by decide +kernel
  unfold f_X1_putSpring at hF
  refine lv_aload_n hx hb dX1_putSpring_0 rfl (lv_at hl 0 rfl) ?_
  refine am_getR X hh 127 4 0 1 (by decide) rfl rfl (by decide) hwRX1 (show Cond.fieldLink RX1 9 "PlanetWorkshop$Changes" "state" "LPlanetWorkshop$State;" ∈ wsX1_putSpring by decide +kernel) rfl dX1_putSpring_1 ?_
  refine lv_iload_n hx hb dX1_putSpring_4 rfl (lv_at hl 1 rfl) ?_
  obtain ⟨r2, hk1, hF⟩ := am_bind hF
  refine am_call X hh (va_runV (As := [.int x1]) (rest := []) X.1 (c_X7_isGear l G hk1) (cwV 1 hts gX1_putSpring_X7_isGear rfl rfl rfl (by decide +kernel) ⟨Nat.le_of_ble_eq_true rfl, Nat.le_of_ble_eq_true rfl⟩) (am_preV X hh 1 9 (by decide) rfl rfl) rfl rfl hl.1 rfl (lv_room (Nat.le_of_ble_eq_true rfl)) dX1_putSpring_5 ⟨Nat.le_of_ble_eq_true rfl, Nat.le_of_ble_eq_true rfl⟩) (fun ab H locs hh => ?_)
  refine lv_if_ne (tgt := 13) hx hb dX1_putSpring_8 (by decide) (fun hc3 => ?_) (fun hc3 => ?_)
  · have hF := am_neg hc3 hF
    refine lv_iload_n hx hb dX1_putSpring_13 rfl (lv_at hl 2 rfl) ?_
    refine lv_bipush (v := (10 : Int32)) hx hb dX1_putSpring_14 (by decide) ?_
    refine lv_icmp_lt (tgt := 26) hx hb dX1_putSpring_16 (by decide) (fun hc4 => ?_) (fun hc4 => ?_)
    · have hF := am_pos hc4 hF
      refine lv_bipush (v := (-2 : Int32)) hx hb dX1_putSpring_26 (by decide) ?_
      exact am_iret X hr hh (fun t ht => am_qw (mk := oI) hF ht) (Nat.le_of_ble_eq_true rfl) (Nat.le_of_ble_eq_true rfl) dX1_putSpring_28
    · have hF := am_neg hc4 hF
      refine lv_iload_n hx hb dX1_putSpring_19 rfl (lv_at hl 2 rfl) ?_
      refine lv_sipush (v := (200 : Int32)) hx hb dX1_putSpring_20 (by decide) ?_
      refine lv_icmp_le (tgt := 29) hx hb dX1_putSpring_23 (by decide) (fun hc5 => ?_) (fun hc5 => ?_)
      · have hF := am_pos hc5 hF
        refine lv_aload_n hx hb dX1_putSpring_29 rfl (lv_at hl 0 rfl) ?_
        refine am_getR X hh 127 4 1 124 (by decide) rfl rfl (by decide) hwRX1 (show Cond.fieldLink RX1 15 "PlanetWorkshop$Changes" "train" "LPlanetWorkshop$Train;" ∈ wsX1_putSpring by decide +kernel) rfl dX1_putSpring_30 ?_
        refine lv_aload_n hx hb dX1_putSpring_33 rfl (lv_at hl 0 rfl) ?_
        refine am_getR X hh 127 4 0 1 (by decide) rfl rfl (by decide) hwRX1 (show Cond.fieldLink RX1 9 "PlanetWorkshop$Changes" "state" "LPlanetWorkshop$State;" ∈ wsX1_putSpring by decide +kernel) rfl dX1_putSpring_34 ?_
        refine lv_iload_n hx hb dX1_putSpring_37 rfl (lv_at hl 1 rfl) ?_
        obtain ⟨w8, hk6, hF⟩ := am_bind hF
        refine am_call X hh (va_runV (As := [.ref (gAd G 1), .int x1]) (rest := []) X.1 (c_X8_trace l G hk6) (cwV 2 hts gX1_putSpring_X8_trace rfl rfl rfl (by decide +kernel) ⟨Nat.le_of_ble_eq_true rfl, Nat.le_of_ble_eq_true rfl⟩) (am_preV X hh 124 10 (by decide) rfl rfl) rfl rfl hl.1 rfl (lv_room (Nat.le_of_ble_eq_true rfl)) dX1_putSpring_38 ⟨Nat.le_of_ble_eq_true rfl, Nat.le_of_ble_eq_true rfl⟩) (fun ab H locs hh => ?_)
        refine lv_aload_n hx hb dX1_putSpring_41 rfl (lv_at hl 0 rfl) ?_
        refine am_getR X hh 127 4 1 124 (by decide) rfl rfl (by decide) hwRX1 (show Cond.fieldLink RX1 15 "PlanetWorkshop$Changes" "train" "LPlanetWorkshop$Train;" ∈ wsX1_putSpring by decide +kernel) rfl dX1_putSpring_42 ?_
        refine lv_aload_n hx hb dX1_putSpring_45 rfl (lv_at hl 0 rfl) ?_
        refine am_getR X hh 127 4 0 1 (by decide) rfl rfl (by decide) hwRX1 (show Cond.fieldLink RX1 9 "PlanetWorkshop$Changes" "state" "LPlanetWorkshop$State;" ∈ wsX1_putSpring by decide +kernel) rfl dX1_putSpring_46 ?_
        obtain ⟨r10, hk9, hF⟩ := am_bind hF
        refine am_call X hh (va_runV (As := [.ref (gAd G 1)]) (rest := []) X.1 (c_X8_springGear l G hk9) (cwV 1 hts gX1_putSpring_X8_springGear rfl rfl rfl (by decide +kernel) ⟨Nat.le_of_ble_eq_true rfl, Nat.le_of_ble_eq_true rfl⟩) (am_preV X hh 124 10 (by decide) rfl rfl) rfl rfl hl.1 rfl (lv_room (Nat.le_of_ble_eq_true rfl)) dX1_putSpring_49 ⟨Nat.le_of_ble_eq_true rfl, Nat.le_of_ble_eq_true rfl⟩) (fun ab H locs hh => ?_)
        refine lv_iconst (v := (-1 : Int32)) hx hb dX1_putSpring_52 (by decide) ?_
        refine lv_icmp_eq (tgt := 59) hx hb dX1_putSpring_53 (by decide) (fun hc11 => ?_) (fun hc11 => ?_)
        · have hF := am_pos hc11 hF
          refine lv_aload_n hx hb dX1_putSpring_59 rfl (lv_at hl 0 rfl) ?_
          refine am_getR X hh 127 4 0 1 (by decide) rfl rfl (by decide) hwRX1 (show Cond.fieldLink RX1 9 "PlanetWorkshop$Changes" "state" "LPlanetWorkshop$State;" ∈ wsX1_putSpring by decide +kernel) rfl dX1_putSpring_60 ?_
          refine am_getR X hh 1 9 5 7 (by decide) rfl rfl (by decide) hwRX7 (show Cond.fieldLink RX1 76 "PlanetWorkshop$State" "springSizes" "[I" ∈ wsX1_putSpring by decide +kernel) rfl dX1_putSpring_63 ?_
          refine lv_iload_n hx hb dX1_putSpring_66 rfl (lv_at hl 1 rfl) ?_
          refine lv_iload_n hx hb dX1_putSpring_67 rfl (lv_at hl 2 rfl) ?_
          obtain ⟨hq12, hF⟩ := am_ifR hF
          refine am_iast X hh 7 (by decide) rfl hq12 dX1_putSpring_68 (fun H locs hh => ?_)
          obtain ⟨w13, hw13, hF⟩ := am_wl hF
          have hh := AH_eq hw13 hh
          refine lv_aload_n hx hb dX1_putSpring_69 rfl (lv_at hl 0 rfl) ?_
          refine am_getR X hh 127 4 0 1 (by decide) rfl rfl (by decide) hwRX1 (show Cond.fieldLink RX1 9 "PlanetWorkshop$Changes" "state" "LPlanetWorkshop$State;" ∈ wsX1_putSpring by decide +kernel) rfl dX1_putSpring_70 ?_
          obtain ⟨r15, hk14, hF⟩ := am_bind hF
          refine am_call X hh (va_runV (As := []) (rest := []) X.1 (c_X7_springs l G hk14) (cwV 0 hts gX1_putSpring_X7_springs rfl rfl rfl (by decide +kernel) ⟨Nat.le_of_ble_eq_true rfl, Nat.le_of_ble_eq_true rfl⟩) (am_preV X hh 1 9 (by decide) rfl rfl) rfl rfl hl.1 rfl (lv_room (Nat.le_of_ble_eq_true rfl)) dX1_putSpring_73 ⟨Nat.le_of_ble_eq_true rfl, Nat.le_of_ble_eq_true rfl⟩) (fun ab H locs hh => ?_)
          exact am_iret X hr hh (fun t ht => am_qw (mk := oI) hF ht) (Nat.le_of_ble_eq_true rfl) (Nat.le_of_ble_eq_true rfl) dX1_putSpring_76
        · have hF := am_neg hc11 hF
          refine lv_bipush (v := (-3 : Int32)) hx hb dX1_putSpring_56 (by decide) ?_
          exact am_iret X hr hh (fun t ht => am_qw (mk := oI) hF ht) (Nat.le_of_ble_eq_true rfl) (Nat.le_of_ble_eq_true rfl) dX1_putSpring_58
      · have hF := am_neg hc5 hF
        refine lv_bipush (v := (-2 : Int32)) hx hb dX1_putSpring_26 (by decide) ?_
        exact am_iret X hr hh (fun t ht => am_qw (mk := oI) hF ht) (Nat.le_of_ble_eq_true rfl) (Nat.le_of_ble_eq_true rfl) dX1_putSpring_28
  · have hF := am_pos hc3 hF
    refine lv_iconst (v := (-1 : Int32)) hx hb dX1_putSpring_11 (by decide) ?_
    exact am_iret X hr hh (fun t ht => am_qw (mk := oI) hF ht) (Nat.le_of_ble_eq_true rfl) (Nat.le_of_ble_eq_true rfl) dX1_putSpring_12
set_option maxHeartbeats 4000000 in
set_option maxRecDepth 100000 in
theorem c_X1_turnTrain (l : Launch) (G : GG) {w : Wd} {x1 : Int32} {w1 : Wd} (hF : f_X1_turnTrain w x1 = some w1) : Met l yX1_turnTrain wsX1_turnTrain ({ frames := 2, cells := 0, slots := 0, locals := 48 } : Room) (va_Pc [.ref (gAd G 127), .int x1] (Rel G w)) (amQ G none w1) 0 0 (gA G) := by
  refine am_met (own := RX1) (cc := cX1_turnTrain) (maxL := 5) (ret := none) (by decide +kernel) rfl rfl (Nat.le_of_ble_eq_true rfl) ?_
  intro p e s m args below meth c ab H locs ls X hr hh hl
  have hx := X.1.1; have hb := X.1.2.1; have hml := X.1.2.2.1; have hown := X.1.2.2.2.1; have hts := X.1.2.2.2.2
  have hl : lv_has ls 5 [(0, .ref (gAd G 127)), (1, .int x1)] := hl
  have hwRX1 : ∀ z ∈ u_ws RX1 TX1 2, z ∈ wsX1_turnTrain := by decide +kernel
  have hwRX7 : ∀ z ∈ u_ws RX7 TX7 17, z ∈ wsX1_turnTrain := by decide +kernel
  have hwRX8 : ∀ z ∈ u_ws RX8 TX8 3, z ∈ wsX1_turnTrain := by decide +kernel
  unfold f_X1_turnTrain at hF
  refine lv_iconst (v := (0 : Int32)) hx hb dX1_turnTrain_0 (by decide) ?_
  refine lv_istore_n (lv' := [(2, .int (0 : Int32)), (0, .ref (gAd G 127)), (1, .int x1)]) hx hb dX1_turnTrain_1 rfl hl (by decide) rfl (fun ls hl => ?_)
  have hlp2 : ∀ (n : Nat) (y1 : Int32) (w2 : Wd) (ab : Nat) (H : Heap) (locs : List Loc) (ls : Array Slot) (z : (Int32 × Wd) ⊕ Unit), p_X1_turnTrain_2 x1 n y1 w2 = some z → AH G s.heap w2 ab H locs → lv_has ls 5 [(2, .int y1), (0, .ref (gAd G 127)), (1, .int x1)] → (∀ (y1 : Int32) (w2 : Wd) (ab : Nat) (H : Heap) (locs : List Loc) (ls : Array Slot), z = .inl (y1, w2) → AH G s.heap w2 ab H locs → lv_has ls 5 [(2, .int y1), (0, .ref (gAd G 127)), (1, .int x1)] → W p l e ({ frames := 2, cells := 0, slots := 0, locals := 48 } : Room) s m args below meth c H locs 0 0 (MQ below (amQ G none w1) args s 0 0 (gA G)) (F0 m 86 ls [])) → W p l e ({ frames := 2, cells := 0, slots := 0, locals := 48 } : Room) s m args below meth c H locs 0 0 (MQ below (amQ G none w1) args s 0 0 (gA G)) (F0 m 2 ls []) := by
    intro n
    induction n with
    | zero =>
      intro y1 w2 ab H locs ls z hF
      unfold p_X1_turnTrain_2 at hF
      cases hF
    | succ n ih =>
      intro y1 w2 ab H locs ls z hF hh hl kE
      unfold p_X1_turnTrain_2 at hF
      refine lv_iload_n hx hb dX1_turnTrain_2 rfl (lv_at hl 0 rfl) ?_
      refine lv_aload_n hx hb dX1_turnTrain_3 rfl (lv_at hl 1 rfl) ?_
      refine am_getR X hh 127 4 0 1 (by decide) rfl rfl (by decide) hwRX1 (show Cond.fieldLink RX1 9 "PlanetWorkshop$Changes" "state" "LPlanetWorkshop$State;" ∈ wsX1_turnTrain by decide +kernel) rfl dX1_turnTrain_4 ?_
      refine am_getI X hh 1 9 10 (by decide) rfl rfl (by decide) hwRX7 (show Cond.fieldLink RX1 23 "PlanetWorkshop$State" "gears" "I" ∈ wsX1_turnTrain by decide +kernel) rfl dX1_turnTrain_7 ?_
      refine lv_icmp_ge (tgt := 86) hx hb dX1_turnTrain_10 (by decide) (fun hc4 => ?_) (fun hc4 => ?_)
      · have hF := am_pos hc4 hF
        exact kE y1 w2 ab H locs ls (Option.some.inj hF).symm hh (lv_sub hl [0, 1, 2] rfl)
      · have hF := am_neg hc4 hF
        refine lv_aload_n hx hb dX1_turnTrain_13 rfl (lv_at hl 1 rfl) ?_
        refine am_getR X hh 127 4 1 124 (by decide) rfl rfl (by decide) hwRX1 (show Cond.fieldLink RX1 15 "PlanetWorkshop$Changes" "train" "LPlanetWorkshop$Train;" ∈ wsX1_turnTrain by decide +kernel) rfl dX1_turnTrain_14 ?_
        refine am_getR X hh 124 10 0 125 (by decide) rfl rfl (by decide) hwRX8 (show Cond.fieldLink RX1 59 "PlanetWorkshop$Train" "units" "[J" ∈ wsX1_turnTrain by decide +kernel) rfl dX1_turnTrain_17 ?_
        refine lv_iload_n hx hb dX1_turnTrain_20 rfl (lv_at hl 0 rfl) ?_
        obtain ⟨hq5, hF⟩ := am_ifR hF
        refine am_lald X hh 125 (by decide) rfl hq5 dX1_turnTrain_21 ?_
        refine lv_iload_n hx hb dX1_turnTrain_22 rfl (lv_at hl 2 rfl) ?_
        refine lv_i2l hx hb dX1_turnTrain_23 rfl ?_
        refine lv_lmul hx hb dX1_turnTrain_24 ?_
        refine lv_lstore_n (lv' := [(3, .long ((gL w2 125 (y1).toNatClampNeg) * (x1).toInt64)), (2, .int y1), (0, .ref (gAd G 127)), (1, .int x1)]) hx hb dX1_turnTrain_25 rfl hl (by decide) rfl (fun ls hl => ?_)
        refine lv_aload_n hx hb dX1_turnTrain_26 rfl (lv_at hl 2 rfl) ?_
        refine am_getR X hh 127 4 0 1 (by decide) rfl rfl (by decide) hwRX1 (show Cond.fieldLink RX1 9 "PlanetWorkshop$Changes" "state" "LPlanetWorkshop$State;" ∈ wsX1_turnTrain by decide +kernel) rfl dX1_turnTrain_27 ?_
        refine am_getR X hh 1 9 1 3 (by decide) rfl rfl (by decide) hwRX7 (show Cond.fieldLink RX1 128 "PlanetWorkshop$State" "angles" "[J" ∈ wsX1_turnTrain by decide +kernel) rfl dX1_turnTrain_30 ?_
        refine lv_iload_n hx hb dX1_turnTrain_33 rfl (lv_at hl 1 rfl) ?_
        refine lv_aload_n hx hb dX1_turnTrain_34 rfl (lv_at hl 2 rfl) ?_
        refine am_getR X hh 127 4 0 1 (by decide) rfl rfl (by decide) hwRX1 (show Cond.fieldLink RX1 9 "PlanetWorkshop$Changes" "state" "LPlanetWorkshop$State;" ∈ wsX1_turnTrain by decide +kernel) rfl dX1_turnTrain_35 ?_
        refine am_getR X hh 1 9 1 3 (by decide) rfl rfl (by decide) hwRX7 (show Cond.fieldLink RX1 128 "PlanetWorkshop$State" "angles" "[J" ∈ wsX1_turnTrain by decide +kernel) rfl dX1_turnTrain_38 ?_
        refine lv_iload_n hx hb dX1_turnTrain_41 rfl (lv_at hl 1 rfl) ?_
        obtain ⟨hq6, hF⟩ := am_ifR hF
        refine am_lald X hh 3 (by decide) rfl hq6 dX1_turnTrain_42 ?_
        refine lv_lload_n hx hb dX1_turnTrain_43 rfl (lv_at hl 0 rfl) ?_
        refine lv_ladd hx hb dX1_turnTrain_44 ?_
        refine lv_ldc2 (v := (24883200000 : Int64)) hx hb hown (hts _ (show Cond.constantLong RX1 63 (24883200000) ∈ wsX1_turnTrain by decide +kernel)) dX1_turnTrain_45 ?_
        obtain ⟨r8, hk7, hF⟩ := am_bind hF
        refine am_call X hh (va_runS (As := [.long ((gL w2 3 (y1).toNatClampNeg) + ((gL w2 125 (y1).toNatClampNeg) * (x1).toInt64)), .long (24883200000 : Int64)]) (rest := [.int y1, .ref (gAd G 3)]) X.1 (c_X4_remainder l G hk7) (va_cwS 2 hts gX1_turnTrain_X4_remainder rfl rfl rfl (by decide +kernel) ⟨Nat.le_of_ble_eq_true rfl, Nat.le_of_ble_eq_true rfl⟩) (am_preS X hh) rfl rfl hl.1 rfl (lv_room (Nat.le_of_ble_eq_true rfl)) dX1_turnTrain_48 ⟨Nat.le_of_ble_eq_true rfl, Nat.le_of_ble_eq_true rfl⟩) (fun ab H locs hh => ?_)
        obtain ⟨hq9, hF⟩ := am_ifR hF
        refine am_last X hh 3 (by decide) rfl hq9 dX1_turnTrain_51 (fun H locs hh => ?_)
        obtain ⟨w10, hw10, hF⟩ := am_wl hF
        have hh := AH_eq hw10 hh
        refine lv_aload_n hx hb dX1_turnTrain_52 rfl (lv_at hl 2 rfl) ?_
        refine am_getR X hh 127 4 0 1 (by decide) rfl rfl (by decide) hwRX1 (show Cond.fieldLink RX1 9 "PlanetWorkshop$Changes" "state" "LPlanetWorkshop$State;" ∈ wsX1_turnTrain by decide +kernel) rfl dX1_turnTrain_53 ?_
        refine am_getR X hh 1 9 2 4 (by decide) rfl rfl (by decide) hwRX7 (show Cond.fieldLink RX1 134 "PlanetWorkshop$State" "oiled" "[Z" ∈ wsX1_turnTrain by decide +kernel) rfl dX1_turnTrain_56 ?_
        refine lv_iload_n hx hb dX1_turnTrain_59 rfl (lv_at hl 1 rfl) ?_
        obtain ⟨hq11, hF⟩ := am_ifR hF
        refine am_zald X hh 4 (by decide) rfl hq11 dX1_turnTrain_60 ?_
        refine lv_if_eq (tgt := 80) hx hb dX1_turnTrain_61 (by decide) (fun hc12 => ?_) (fun hc12 => ?_)
        · have hF := am_pos hc12 hF
          refine lv_iinc (v := (y1 + (1 : Int32))) (lv' := [(2, .int (y1 + (1 : Int32))), (3, .long ((gL w2 125 (y1).toNatClampNeg) * (x1).toInt64)), (0, .ref (gAd G 127)), (1, .int x1)]) hx hb dX1_turnTrain_80 hl (k := 1) rfl rfl (by decide) rfl (fun ls hl => ?_)
          refine lv_goto (tgt := 2) hx hb dX1_turnTrain_83 (by decide) ?_
          exact ih (y1 + (1 : Int32)) w10 ab H locs ls _ hF hh (lv_sub hl [0, 2, 3] rfl) kE
        · have hF := am_neg hc12 hF
          refine lv_aload_n hx hb dX1_turnTrain_64 rfl (lv_at hl 2 rfl) ?_
          refine am_getR X hh 127 4 0 1 (by decide) rfl rfl (by decide) hwRX1 (show Cond.fieldLink RX1 9 "PlanetWorkshop$Changes" "state" "LPlanetWorkshop$State;" ∈ wsX1_turnTrain by decide +kernel) rfl dX1_turnTrain_65 ?_
          refine am_getR X hh 1 9 3 5 (by decide) rfl rfl (by decide) hwRX7 (show Cond.fieldLink RX1 137 "PlanetWorkshop$State" "wears" "[J" ∈ wsX1_turnTrain by decide +kernel) rfl dX1_turnTrain_68 ?_
          refine lv_iload_n hx hb dX1_turnTrain_71 rfl (lv_at hl 1 rfl) ?_
          refine lv_dup2_11 hx hb dX1_turnTrain_72 rfl rfl ?_
          obtain ⟨hq13, hF⟩ := am_ifR hF
          refine am_lald X hh 5 (by decide) rfl hq13 dX1_turnTrain_73 ?_
          refine lv_lload_n hx hb dX1_turnTrain_74 rfl (lv_at hl 0 rfl) ?_
          refine va_mabs_long hx hb (hml.trans hl.1.symm) hown (hts _ (show Cond.methodLink RX1 140 Lib.MathLoose.abs_long.x ∈ wsX1_turnTrain by decide +kernel)) (hts _ (show Cond.static Lib.MathLoose.abs_long.x ∈ wsX1_turnTrain by decide +kernel)) (hts _ (show Cond.initialized "java/lang/Math"  ∈ wsX1_turnTrain by decide +kernel)) (hts _ (show Cond.code Lib.MathLoose.abs_long.x Lib.MathLoose.abs_long.code 2 (some .long) ∈ wsX1_turnTrain by decide +kernel)) (Nat.le_of_ble_eq_true rfl) (Nat.le_of_ble_eq_true rfl) (Nat.le_of_ble_eq_true rfl) (Nat.le_of_ble_eq_true rfl) dX1_turnTrain_75 ?_
          refine lv_ladd hx hb dX1_turnTrain_78 ?_
          obtain ⟨hq14, hF⟩ := am_ifR hF
          refine am_last X hh 5 (by decide) rfl hq14 dX1_turnTrain_79 (fun H locs hh => ?_)
          obtain ⟨w15, hw15, hF⟩ := am_wl hF
          have hh := AH_eq hw15 hh
          refine lv_iinc (v := (y1 + (1 : Int32))) (lv' := [(2, .int (y1 + (1 : Int32))), (3, .long ((gL w2 125 (y1).toNatClampNeg) * (x1).toInt64)), (0, .ref (gAd G 127)), (1, .int x1)]) hx hb dX1_turnTrain_80 hl (k := 1) rfl rfl (by decide) rfl (fun ls hl => ?_)
          refine lv_goto (tgt := 2) hx hb dX1_turnTrain_83 (by decide) ?_
          exact ih (y1 + (1 : Int32)) w15 ab H locs ls _ hF hh (lv_sub hl [0, 2, 3] rfl) kE
  obtain ⟨z16, hz17, hF⟩ := am_bind hF
  refine hlp2 2000 (0 : Int32) w ab H locs ls z16 hz17 hh (lv_sub hl [0, 1, 2] rfl) (fun y1 w2 ab H locs ls hz hh hl => ?_)
  · subst hz
    have hF := am_zl hF
    have hF := am_u2 hF
    exact am_vret X hr hh (fun t ht => am_qv hF ht) (Nat.le_of_ble_eq_true rfl) (Nat.le_of_ble_eq_true rfl) dX1_turnTrain_86
set_option maxHeartbeats 4000000 in
set_option maxRecDepth 100000 in
theorem c_X1_letGo (l : Launch) (G : GG) {w : Wd} {x1 : Int32} {x2 : Int32} {r0 : Int32} {w1 : Wd} (hF : f_X1_letGo w x1 x2 = some (r0, w1)) : Met l yX1_letGo wsX1_letGo ({ frames := 4, cells := 0, slots := 0, locals := 99 } : Room) (va_Pc [.ref (gAd G 127), .int x1, .int x2] (Rel G w)) (amQ G (oI r0) w1) 0 0 (gA G) := by
  refine am_met (own := RX1) (cc := cX1_letGo) (maxL := 5) (ret := (some .int)) (by decide +kernel) rfl rfl (Nat.le_of_ble_eq_true rfl) ?_
  intro p e s m args below meth c ab H locs ls X hr hh hl
  have hx := X.1.1; have hb := X.1.2.1; have hml := X.1.2.2.1; have hown := X.1.2.2.2.1; have hts := X.1.2.2.2.2
  have hl : lv_has ls 5 [(0, .ref (gAd G 127)), (1, .int x1), (2, .int x2)] := hl
  have hwRX1 : ∀ z ∈ u_ws RX1 TX1 2, z ∈ wsX1_letGo := by decide +kernel
  have hwRX7 : ∀ z ∈ u_ws RX7 TX7 17, z ∈ wsX1_letGo := by decide +kernel
  unfold f_X1_letGo at hF
  refine lv_aload_n hx hb dX1_letGo_0 rfl (lv_at hl 0 rfl) ?_
  refine am_getR X hh 127 4 0 1 (by decide) rfl rfl (by decide) hwRX1 (show Cond.fieldLink RX1 9 "PlanetWorkshop$Changes" "state" "LPlanetWorkshop$State;" ∈ wsX1_letGo by decide +kernel) rfl dX1_letGo_1 ?_
  refine lv_iload_n hx hb dX1_letGo_4 rfl (lv_at hl 1 rfl) ?_
  obtain ⟨r2, hk1, hF⟩ := am_bind hF
  refine am_call X hh (va_runV (As := [.int x1]) (rest := []) X.1 (c_X7_isGear l G hk1) (cwV 1 hts gX1_letGo_X7_isGear rfl rfl rfl (by decide +kernel) ⟨Nat.le_of_ble_eq_true rfl, Nat.le_of_ble_eq_true rfl⟩) (am_preV X hh 1 9 (by decide) rfl rfl) rfl rfl hl.1 rfl (lv_room (Nat.le_of_ble_eq_true rfl)) dX1_letGo_5 ⟨Nat.le_of_ble_eq_true rfl, Nat.le_of_ble_eq_true rfl⟩) (fun ab H locs hh => ?_)
  refine lv_if_ne (tgt := 13) hx hb dX1_letGo_8 (by decide) (fun hc3 => ?_) (fun hc3 => ?_)
  · have hF := am_neg hc3 hF
    refine lv_iload_n hx hb dX1_letGo_13 rfl (lv_at hl 2 rfl) ?_
    refine lv_iconst (v := (1 : Int32)) hx hb dX1_letGo_14 (by decide) ?_
    refine lv_icmp_lt (tgt := 24) hx hb dX1_letGo_15 (by decide) (fun hc4 => ?_) (fun hc4 => ?_)
    · have hF := am_pos hc4 hF
      refine lv_bipush (v := (-2 : Int32)) hx hb dX1_letGo_24 (by decide) ?_
      exact am_iret X hr hh (fun t ht => am_qw (mk := oI) hF ht) (Nat.le_of_ble_eq_true rfl) (Nat.le_of_ble_eq_true rfl) dX1_letGo_26
    · have hF := am_neg hc4 hF
      refine lv_iload_n hx hb dX1_letGo_18 rfl (lv_at hl 2 rfl) ?_
      refine lv_bipush (v := (50 : Int32)) hx hb dX1_letGo_19 (by decide) ?_
      refine lv_icmp_le (tgt := 27) hx hb dX1_letGo_21 (by decide) (fun hc5 => ?_) (fun hc5 => ?_)
      · have hF := am_pos hc5 hF
        refine lv_aload_n hx hb dX1_letGo_27 rfl (lv_at hl 0 rfl) ?_
        refine am_getR X hh 127 4 0 1 (by decide) rfl rfl (by decide) hwRX1 (show Cond.fieldLink RX1 9 "PlanetWorkshop$Changes" "state" "LPlanetWorkshop$State;" ∈ wsX1_letGo by decide +kernel) rfl dX1_letGo_28 ?_
        refine lv_iload_n hx hb dX1_letGo_31 rfl (lv_at hl 1 rfl) ?_
        obtain ⟨r7, hk6, hF⟩ := am_bind hF
        refine am_call X hh (va_runV (As := [.int x1]) (rest := []) X.1 (c_X7_hasSpring l G hk6) (cwV 1 hts gX1_letGo_X7_hasSpring rfl rfl rfl (by decide +kernel) ⟨Nat.le_of_ble_eq_true rfl, Nat.le_of_ble_eq_true rfl⟩) (am_preV X hh 1 9 (by decide) rfl rfl) rfl rfl hl.1 rfl (lv_room (Nat.le_of_ble_eq_true rfl)) dX1_letGo_32 ⟨Nat.le_of_ble_eq_true rfl, Nat.le_of_ble_eq_true rfl⟩) (fun ab H locs hh => ?_)
        refine lv_if_ne (tgt := 41) hx hb dX1_letGo_35 (by decide) (fun hc8 => ?_) (fun hc8 => ?_)
        · have hF := am_neg hc8 hF
          refine lv_aload_n hx hb dX1_letGo_41 rfl (lv_at hl 0 rfl) ?_
          refine am_getR X hh 127 4 1 124 (by decide) rfl rfl (by decide) hwRX1 (show Cond.fieldLink RX1 15 "PlanetWorkshop$Changes" "train" "LPlanetWorkshop$Train;" ∈ wsX1_letGo by decide +kernel) rfl dX1_letGo_42 ?_
          refine lv_aload_n hx hb dX1_letGo_45 rfl (lv_at hl 0 rfl) ?_
          refine am_getR X hh 127 4 0 1 (by decide) rfl rfl (by decide) hwRX1 (show Cond.fieldLink RX1 9 "PlanetWorkshop$Changes" "state" "LPlanetWorkshop$State;" ∈ wsX1_letGo by decide +kernel) rfl dX1_letGo_46 ?_
          refine lv_iload_n hx hb dX1_letGo_49 rfl (lv_at hl 1 rfl) ?_
          obtain ⟨w11, hk9, hF⟩ := am_bind hF
          refine am_call X hh (va_runV (As := [.ref (gAd G 1), .int x1]) (rest := []) X.1 (c_X8_trace l G hk9) (cwV 2 hts gX1_letGo_X8_trace rfl rfl rfl (by decide +kernel) ⟨Nat.le_of_ble_eq_true rfl, Nat.le_of_ble_eq_true rfl⟩) (am_preV X hh 124 10 (by decide) rfl rfl) rfl rfl hl.1 rfl (lv_room (Nat.le_of_ble_eq_true rfl)) dX1_letGo_50 ⟨Nat.le_of_ble_eq_true rfl, Nat.le_of_ble_eq_true rfl⟩) (fun ab H locs hh => ?_)
          refine lv_aload_n hx hb dX1_letGo_53 rfl (lv_at hl 0 rfl) ?_
          refine am_getR X hh 127 4 1 124 (by decide) rfl rfl (by decide) hwRX1 (show Cond.fieldLink RX1 15 "PlanetWorkshop$Changes" "train" "LPlanetWorkshop$Train;" ∈ wsX1_letGo by decide +kernel) rfl dX1_letGo_54 ?_
          refine lv_aload_n hx hb dX1_letGo_57 rfl (lv_at hl 0 rfl) ?_
          refine am_getR X hh 127 4 0 1 (by decide) rfl rfl (by decide) hwRX1 (show Cond.fieldLink RX1 9 "PlanetWorkshop$Changes" "state" "LPlanetWorkshop$State;" ∈ wsX1_letGo by decide +kernel) rfl dX1_letGo_58 ?_
          refine lv_iload_n hx hb dX1_letGo_61 rfl (lv_at hl 1 rfl) ?_
          obtain ⟨r13, hk12, hF⟩ := am_bind hF
          refine am_call X hh (va_runV (As := [.ref (gAd G 1), .int x1]) (rest := []) X.1 (c_X8_isBlocked l G hk12) (cwV 2 hts gX1_letGo_X8_isBlocked rfl rfl rfl (by decide +kernel) ⟨Nat.le_of_ble_eq_true rfl, Nat.le_of_ble_eq_true rfl⟩) (am_preV X hh 124 10 (by decide) rfl rfl) rfl rfl hl.1 rfl (lv_room (Nat.le_of_ble_eq_true rfl)) dX1_letGo_62 ⟨Nat.le_of_ble_eq_true rfl, Nat.le_of_ble_eq_true rfl⟩) (fun ab H locs hh => ?_)
          refine lv_if_eq (tgt := 71) hx hb dX1_letGo_65 (by decide) (fun hc14 => ?_) (fun hc14 => ?_)
          · have hF := am_pos hc14 hF
            refine lv_aload_n hx hb dX1_letGo_71 rfl (lv_at hl 0 rfl) ?_
            refine am_getR X hh 127 4 1 124 (by decide) rfl rfl (by decide) hwRX1 (show Cond.fieldLink RX1 15 "PlanetWorkshop$Changes" "train" "LPlanetWorkshop$Train;" ∈ wsX1_letGo by decide +kernel) rfl dX1_letGo_72 ?_
            refine lv_aload_n hx hb dX1_letGo_75 rfl (lv_at hl 0 rfl) ?_
            refine am_getR X hh 127 4 0 1 (by decide) rfl rfl (by decide) hwRX1 (show Cond.fieldLink RX1 9 "PlanetWorkshop$Changes" "state" "LPlanetWorkshop$State;" ∈ wsX1_letGo by decide +kernel) rfl dX1_letGo_76 ?_
            obtain ⟨r16, hk15, hF⟩ := am_bind hF
            refine am_call X hh (va_runV (As := [.ref (gAd G 1)]) (rest := []) X.1 (c_X8_drag l G hk15) (cwV 1 hts gX1_letGo_X8_drag rfl rfl rfl (by decide +kernel) ⟨Nat.le_of_ble_eq_true rfl, Nat.le_of_ble_eq_true rfl⟩) (am_preV X hh 124 10 (by decide) rfl rfl) rfl rfl hl.1 rfl (lv_room (Nat.le_of_ble_eq_true rfl)) dX1_letGo_79 ⟨Nat.le_of_ble_eq_true rfl, Nat.le_of_ble_eq_true rfl⟩) (fun ab H locs hh => ?_)
            refine lv_istore_n (lv' := [(3, .int r16), (0, .ref (gAd G 127)), (1, .int x1), (2, .int x2)]) hx hb dX1_letGo_82 rfl hl (by decide) rfl (fun ls hl => ?_)
            refine lv_iload_n hx hb dX1_letGo_83 rfl (lv_at hl 3 rfl) ?_
            refine lv_aload_n hx hb dX1_letGo_84 rfl (lv_at hl 1 rfl) ?_
            refine am_getR X hh 127 4 0 1 (by decide) rfl rfl (by decide) hwRX1 (show Cond.fieldLink RX1 9 "PlanetWorkshop$Changes" "state" "LPlanetWorkshop$State;" ∈ wsX1_letGo by decide +kernel) rfl dX1_letGo_85 ?_
            refine am_getR X hh 1 9 6 8 (by decide) rfl rfl (by decide) hwRX7 (show Cond.fieldLink RX1 86 "PlanetWorkshop$State" "tensions" "[I" ∈ wsX1_letGo by decide +kernel) rfl dX1_letGo_88 ?_
            refine lv_iload_n hx hb dX1_letGo_91 rfl (lv_at hl 2 rfl) ?_
            obtain ⟨hq17, hF⟩ := am_ifR hF
            refine am_iald X hh 8 (by decide) rfl hq17 dX1_letGo_92 ?_
            refine lv_i2l hx hb dX1_letGo_93 rfl ?_
            refine lv_iload_n hx hb dX1_letGo_94 rfl (lv_at hl 0 rfl) ?_
            refine lv_i2l hx hb dX1_letGo_95 rfl ?_
            obtain ⟨r19, hk18, hF⟩ := am_bind hF
            refine am_call X hh (va_runS (As := [.long (((gI w11 8 (x1).toNatClampNeg)).toInt64), .long ((r16).toInt64)]) (rest := [.int x2]) X.1 (c_X4_quotient l G hk18) (va_cwS 2 hts gX1_letGo_X4_quotient rfl rfl rfl (by decide +kernel) ⟨Nat.le_of_ble_eq_true rfl, Nat.le_of_ble_eq_true rfl⟩) (am_preS X hh) rfl rfl hl.1 rfl (lv_room (Nat.le_of_ble_eq_true rfl)) dX1_letGo_96 ⟨Nat.le_of_ble_eq_true rfl, Nat.le_of_ble_eq_true rfl⟩) (fun ab H locs hh => ?_)
            refine lv_l2i hx hb dX1_letGo_99 rfl ?_
            refine va_mmin hx hb (hml.trans hl.1.symm) hown (hts _ (show Cond.methodLink RX1 109 Lib.Math.min.name ∈ wsX1_letGo by decide +kernel)) (hts _ (show Cond.static Lib.Math.min.name ∈ wsX1_letGo by decide +kernel)) (hts _ (show Cond.initialized "java/lang/Math"  ∈ wsX1_letGo by decide +kernel)) (hts _ (show Cond.code Lib.Math.min.name Lib.Math.min.code 2 (some .int) ∈ wsX1_letGo by decide +kernel)) (Nat.le_of_ble_eq_true rfl) (Nat.le_of_ble_eq_true rfl) (Nat.le_of_ble_eq_true rfl) (Nat.le_of_ble_eq_true rfl) dX1_letGo_100 ?_
            refine lv_istore (lv' := [(4, .int (if (r19).toInt32 < x2 then (r19).toInt32 else x2)), (3, .int r16), (0, .ref (gAd G 127)), (1, .int x1), (2, .int x2)]) hx hb dX1_letGo_103 hl (by decide) rfl (fun ls hl => ?_)
            refine lv_iload hx hb dX1_letGo_105 (lv_at hl 0 rfl) ?_
            refine lv_if_le (tgt := 183) hx hb dX1_letGo_107 (by decide) (fun hc20 => ?_) (fun hc20 => ?_)
            · have hF := am_pos hc20 hF
              refine lv_iload hx hb dX1_letGo_183 (lv_at hl 0 rfl) ?_
              exact am_iret X hr hh (fun t ht => am_qw (mk := oI) hF ht) (Nat.le_of_ble_eq_true rfl) (Nat.le_of_ble_eq_true rfl) dX1_letGo_185
            · have hF := am_neg hc20 hF
              refine lv_aload_n hx hb dX1_letGo_110 rfl (lv_at hl 2 rfl) ?_
              refine am_getR X hh 127 4 0 1 (by decide) rfl rfl (by decide) hwRX1 (show Cond.fieldLink RX1 9 "PlanetWorkshop$Changes" "state" "LPlanetWorkshop$State;" ∈ wsX1_letGo by decide +kernel) rfl dX1_letGo_111 ?_
              refine am_getR X hh 1 9 6 8 (by decide) rfl rfl (by decide) hwRX7 (show Cond.fieldLink RX1 86 "PlanetWorkshop$State" "tensions" "[I" ∈ wsX1_letGo by decide +kernel) rfl dX1_letGo_114 ?_
              refine lv_iload_n hx hb dX1_letGo_117 rfl (lv_at hl 3 rfl) ?_
              refine lv_dup2_11 hx hb dX1_letGo_118 rfl rfl ?_
              obtain ⟨hq21, hF⟩ := am_ifR hF
              refine am_iald X hh 8 (by decide) rfl hq21 dX1_letGo_119 ?_
              refine lv_iload_n hx hb dX1_letGo_120 rfl (lv_at hl 1 rfl) ?_
              refine lv_iload hx hb dX1_letGo_121 (lv_at hl 0 rfl) ?_
              refine lv_imul hx hb dX1_letGo_123 ?_
              refine lv_isub hx hb dX1_letGo_124 ?_
              obtain ⟨hq22, hF⟩ := am_ifR hF
              refine am_iast X hh 8 (by decide) rfl hq22 dX1_letGo_125 (fun H locs hh => ?_)
              obtain ⟨w23, hw23, hF⟩ := am_wl hF
              have hh := AH_eq hw23 hh
              refine lv_aload_n hx hb dX1_letGo_126 rfl (lv_at hl 2 rfl) ?_
              refine am_getR X hh 127 4 0 1 (by decide) rfl rfl (by decide) hwRX1 (show Cond.fieldLink RX1 9 "PlanetWorkshop$Changes" "state" "LPlanetWorkshop$State;" ∈ wsX1_letGo by decide +kernel) rfl dX1_letGo_127 ?_
              refine lv_dup hx hb dX1_letGo_130 rfl ?_
              refine am_getI X hh 1 9 15 (by decide) rfl rfl (by decide) hwRX7 (show Cond.fieldLink RX1 115 "PlanetWorkshop$State" "taken" "I" ∈ wsX1_letGo by decide +kernel) rfl dX1_letGo_131 ?_
              refine lv_iload_n hx hb dX1_letGo_134 rfl (lv_at hl 1 rfl) ?_
              refine lv_iload hx hb dX1_letGo_135 (lv_at hl 0 rfl) ?_
              refine lv_imul hx hb dX1_letGo_137 ?_
              refine lv_iadd hx hb dX1_letGo_138 ?_
              refine am_putI X hh 1 9 15 (by decide) rfl rfl (by decide) hwRX7 tyX7 tyX7_ok nmX7 (show Cond.fieldLink RX1 115 "PlanetWorkshop$State" "taken" "I" ∈ wsX1_letGo by decide +kernel) rfl rfl rfl rfl dX1_letGo_139 (fun H locs hh => ?_)
              obtain ⟨w24, hw24, hF⟩ := am_wl hF
              have hh := AH_eq hw24 hh
              refine lv_aload_n hx hb dX1_letGo_142 rfl (lv_at hl 2 rfl) ?_
              refine am_getR X hh 127 4 0 1 (by decide) rfl rfl (by decide) hwRX1 (show Cond.fieldLink RX1 9 "PlanetWorkshop$Changes" "state" "LPlanetWorkshop$State;" ∈ wsX1_letGo by decide +kernel) rfl dX1_letGo_143 ?_
              refine lv_dup hx hb dX1_letGo_146 rfl ?_
              refine am_getI X hh 1 9 16 (by decide) rfl rfl (by decide) hwRX7 (show Cond.fieldLink RX1 118 "PlanetWorkshop$State" "releases" "I" ∈ wsX1_letGo by decide +kernel) rfl dX1_letGo_147 ?_
              refine lv_iconst (v := (1 : Int32)) hx hb dX1_letGo_150 (by decide) ?_
              refine lv_iadd hx hb dX1_letGo_151 ?_
              refine am_putI X hh 1 9 16 (by decide) rfl rfl (by decide) hwRX7 tyX7 tyX7_ok nmX7 (show Cond.fieldLink RX1 118 "PlanetWorkshop$State" "releases" "I" ∈ wsX1_letGo by decide +kernel) rfl rfl rfl rfl dX1_letGo_152 (fun H locs hh => ?_)
              obtain ⟨w25, hw25, hF⟩ := am_wl hF
              have hh := AH_eq hw25 hh
              refine lv_aload_n hx hb dX1_letGo_155 rfl (lv_at hl 2 rfl) ?_
              refine lv_aload_n hx hb dX1_letGo_156 rfl (lv_at hl 2 rfl) ?_
              refine am_getR X hh 127 4 0 1 (by decide) rfl rfl (by decide) hwRX1 (show Cond.fieldLink RX1 9 "PlanetWorkshop$Changes" "state" "LPlanetWorkshop$State;" ∈ wsX1_letGo by decide +kernel) rfl dX1_letGo_157 ?_
              refine am_getR X hh 1 9 7 9 (by decide) rfl rfl (by decide) hwRX7 (show Cond.fieldLink RX1 92 "PlanetWorkshop$State" "reversed" "[Z" ∈ wsX1_letGo by decide +kernel) rfl dX1_letGo_160 ?_
              refine lv_iload_n hx hb dX1_letGo_163 rfl (lv_at hl 3 rfl) ?_
              obtain ⟨hq26, hF⟩ := am_ifR hF
              refine am_zald X hh 9 (by decide) rfl hq26 dX1_letGo_164 ?_
              refine lv_if_eq (tgt := 174) hx hb dX1_letGo_165 (by decide) (fun hc27 => ?_) (fun hc27 => ?_)
              · have hF := am_pos hc27 hF
                refine lv_iload hx hb dX1_letGo_174 (lv_at hl 0 rfl) ?_
                obtain ⟨w30, hk28, hF⟩ := am_bind hF
                refine am_call X hh (va_runV (As := [.int (if (r19).toInt32 < x2 then (r19).toInt32 else x2)]) (rest := []) X.1 (c_X1_turnTrain l G hk28) (cwV 1 hts gX1_letGo_X1_turnTrain rfl rfl rfl (by decide +kernel) ⟨Nat.le_of_ble_eq_true rfl, Nat.le_of_ble_eq_true rfl⟩) (am_preV X hh 127 4 (by decide) rfl rfl) rfl rfl hl.1 rfl (lv_room (Nat.le_of_ble_eq_true rfl)) dX1_letGo_176 ⟨Nat.le_of_ble_eq_true rfl, Nat.le_of_ble_eq_true rfl⟩) (fun ab H locs hh => ?_)
                refine lv_aload_n hx hb dX1_letGo_179 rfl (lv_at hl 2 rfl) ?_
                obtain ⟨w33, hk31, hF⟩ := am_bind hF
                refine am_call X hh (va_runV (As := []) (rest := []) X.1 (c_X1_dryWornGears l G hk31) (cwV 0 hts gX1_letGo_X1_dryWornGears rfl rfl rfl (by decide +kernel) ⟨Nat.le_of_ble_eq_true rfl, Nat.le_of_ble_eq_true rfl⟩) (am_preV X hh 127 4 (by decide) rfl rfl) rfl rfl hl.1 rfl (lv_room (Nat.le_of_ble_eq_true rfl)) dX1_letGo_180 ⟨Nat.le_of_ble_eq_true rfl, Nat.le_of_ble_eq_true rfl⟩) (fun ab H locs hh => ?_)
                refine lv_iload hx hb dX1_letGo_183 (lv_at hl 0 rfl) ?_
                exact am_iret X hr hh (fun t ht => am_qw (mk := oI) hF ht) (Nat.le_of_ble_eq_true rfl) (Nat.le_of_ble_eq_true rfl) dX1_letGo_185
              · have hF := am_neg hc27 hF
                refine lv_iload hx hb dX1_letGo_168 (lv_at hl 0 rfl) ?_
                refine lv_ineg hx hb dX1_letGo_170 ?_
                refine lv_goto (tgt := 176) hx hb dX1_letGo_171 (by decide) ?_
                obtain ⟨w36, hk34, hF⟩ := am_bind hF
                refine am_call X hh (va_runV (As := [.int (-(if (r19).toInt32 < x2 then (r19).toInt32 else x2))]) (rest := []) X.1 (c_X1_turnTrain l G hk34) (cwV 1 hts gX1_letGo_X1_turnTrain rfl rfl rfl (by decide +kernel) ⟨Nat.le_of_ble_eq_true rfl, Nat.le_of_ble_eq_true rfl⟩) (am_preV X hh 127 4 (by decide) rfl rfl) rfl rfl hl.1 rfl (lv_room (Nat.le_of_ble_eq_true rfl)) dX1_letGo_176 ⟨Nat.le_of_ble_eq_true rfl, Nat.le_of_ble_eq_true rfl⟩) (fun ab H locs hh => ?_)
                refine lv_aload_n hx hb dX1_letGo_179 rfl (lv_at hl 2 rfl) ?_
                obtain ⟨w39, hk37, hF⟩ := am_bind hF
                refine am_call X hh (va_runV (As := []) (rest := []) X.1 (c_X1_dryWornGears l G hk37) (cwV 0 hts gX1_letGo_X1_dryWornGears rfl rfl rfl (by decide +kernel) ⟨Nat.le_of_ble_eq_true rfl, Nat.le_of_ble_eq_true rfl⟩) (am_preV X hh 127 4 (by decide) rfl rfl) rfl rfl hl.1 rfl (lv_room (Nat.le_of_ble_eq_true rfl)) dX1_letGo_180 ⟨Nat.le_of_ble_eq_true rfl, Nat.le_of_ble_eq_true rfl⟩) (fun ab H locs hh => ?_)
                refine lv_iload hx hb dX1_letGo_183 (lv_at hl 0 rfl) ?_
                exact am_iret X hr hh (fun t ht => am_qw (mk := oI) hF ht) (Nat.le_of_ble_eq_true rfl) (Nat.le_of_ble_eq_true rfl) dX1_letGo_185
          · have hF := am_neg hc14 hF
            refine lv_bipush (v := (-4 : Int32)) hx hb dX1_letGo_68 (by decide) ?_
            exact am_iret X hr hh (fun t ht => am_qw (mk := oI) hF ht) (Nat.le_of_ble_eq_true rfl) (Nat.le_of_ble_eq_true rfl) dX1_letGo_70
        · have hF := am_pos hc8 hF
          refine lv_bipush (v := (-5 : Int32)) hx hb dX1_letGo_38 (by decide) ?_
          exact am_iret X hr hh (fun t ht => am_qw (mk := oI) hF ht) (Nat.le_of_ble_eq_true rfl) (Nat.le_of_ble_eq_true rfl) dX1_letGo_40
      · have hF := am_neg hc5 hF
        refine lv_bipush (v := (-2 : Int32)) hx hb dX1_letGo_24 (by decide) ?_
        exact am_iret X hr hh (fun t ht => am_qw (mk := oI) hF ht) (Nat.le_of_ble_eq_true rfl) (Nat.le_of_ble_eq_true rfl) dX1_letGo_26
  · have hF := am_pos hc3 hF
    refine lv_iconst (v := (-1 : Int32)) hx hb dX1_letGo_11 (by decide) ?_
    exact am_iret X hr hh (fun t ht => am_qw (mk := oI) hF ht) (Nat.le_of_ble_eq_true rfl) (Nat.le_of_ble_eq_true rfl) dX1_letGo_12
