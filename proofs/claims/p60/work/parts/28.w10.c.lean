set_option maxHeartbeats 4000000 in
set_option maxRecDepth 100000 in
theorem c_X10_renderTrain (l : Launch) (G : GG) (hst : l.stackTraces = false) {w : Wd} {x1 : Int32} {z0 : (Nat ⊕ Int32)} {w1 : Wd} (hF : f_X10_renderTrain w x1 = some (z0, w1)) : vx_Met l yX10_renderTrain wsX10_renderTrain ({ frames := 7, cells := 35, slots := 2182, locals := 186 } : Room) (va_Pc [.ref (gAd G 0), .int x1] (Rel G w)) (amR G oI z0 w1) (amX G z0 w1) 35 2182 (gA G) := by
  refine am_metX (own := RX10) (cc := cX10_renderTrain) (maxL := 3) (ret := (some .int)) (by decide +kernel) rfl rfl (Nat.le_of_ble_eq_true rfl) ?_
  intro p e s m args below meth c ab H locs ls X hr htb hh hl
  have hx := X.1.1; have hb := X.1.2.1; have hml := X.1.2.2.1; have hown := X.1.2.2.2.1; have hts := X.1.2.2.2.2
  have hl : lv_has ls 3 [(0, .ref (gAd G 0)), (1, .int x1)] := hl
  have hwRX10 : ∀ z ∈ u_ws RX10 TX10 13, z ∈ wsX10_renderTrain := by decide +kernel
  have hwRX7 : ∀ z ∈ u_ws RX7 TX7 17, z ∈ wsX10_renderTrain := by decide +kernel
  unfold f_X10_renderTrain at hF
  refine lv_aload_n hx hb dX10_renderTrain_0 rfl (lv_at hl 0 rfl) ?_
  refine lv_iload_n hx hb dX10_renderTrain_1 rfl (lv_at hl 1 rfl) ?_
  obtain ⟨z3, hk1, hF⟩ := am_bind hF
  refine am_callX X hh (vx_runV (As := [.int x1]) (rest := []) X.1 (c_X10_checkGear l G hst hk1) (cwV 1 hts gX10_renderTrain_X10_checkGear rfl rfl rfl (by decide +kernel) ⟨Nat.le_of_ble_eq_true rfl, Nat.le_of_ble_eq_true rfl⟩) (am_preV X hh 0 11 (by decide) rfl rfl) rfl rfl hl.1 rfl (lv_room (Nat.le_of_ble_eq_true rfl)) dX10_renderTrain_2 ⟨Nat.le_of_ble_eq_true rfl, Nat.le_of_ble_eq_true rfl⟩) (fun k ab H locs ce q hz hh hce hcv hcl => ?_) (fun r2 ab H locs hz hh => ?_)
  · subst hz
    have hF := am_zl hF
    exact am_out X htb hh (am_zw hF).1 (am_zw hF).2 hce hcv hcl (Nat.le_of_ble_eq_true rfl) (Nat.le_of_ble_eq_true rfl)
  · subst hz
    have hF := am_zr hF
    refine lv_aload_n hx hb dX10_renderTrain_5 rfl (lv_at hl 0 rfl) ?_
    refine am_getR X hh 0 11 5 124 (by decide) rfl rfl (by decide) hwRX10 (show Cond.fieldLink RX10 36 "PlanetWorkshop" "train" "LPlanetWorkshop$Train;" ∈ wsX10_renderTrain by decide +kernel) rfl dX10_renderTrain_6 ?_
    refine lv_aload_n hx hb dX10_renderTrain_9 rfl (lv_at hl 0 rfl) ?_
    refine am_getR X hh 0 11 0 1 (by decide) rfl rfl (by decide) hwRX10 (show Cond.fieldLink RX10 12 "PlanetWorkshop" "now" "LPlanetWorkshop$State;" ∈ wsX10_renderTrain by decide +kernel) rfl dX10_renderTrain_10 ?_
    refine lv_iload_n hx hb dX10_renderTrain_13 rfl (lv_at hl 1 rfl) ?_
    obtain ⟨w6, hk4, hF⟩ := am_bind hF
    refine am_call X hh (va_runV (As := [.ref (gAd G 1), .int x1]) (rest := []) X.1 (c_X8_trace l G hk4) (cwV 2 hts gX10_renderTrain_X8_trace rfl rfl rfl (by decide +kernel) ⟨Nat.le_of_ble_eq_true rfl, Nat.le_of_ble_eq_true rfl⟩) (am_preV X hh 124 10 (by decide) rfl rfl) rfl rfl hl.1 rfl (lv_room (Nat.le_of_ble_eq_true rfl)) dX10_renderTrain_14 ⟨Nat.le_of_ble_eq_true rfl, Nat.le_of_ble_eq_true rfl⟩) (fun ab H locs hh => ?_)
    refine lv_aload_n hx hb dX10_renderTrain_17 rfl (lv_at hl 0 rfl) ?_
    refine am_getR X hh 0 11 10 139 (by decide) rfl rfl (by decide) hwRX10 (show Cond.fieldLink RX10 75 "PlanetWorkshop" "output" "Ljava/lang/StringBuilder;" ∈ wsX10_renderTrain by decide +kernel) rfl dX10_renderTrain_18 ?_
    refine lv_iconst (v := (0 : Int32)) hx hb dX10_renderTrain_21 (by decide) ?_
    obtain ⟨w9, hk7, hF⟩ := am_bind hF
    refine am_call X hh (va_runV (As := [.int (0 : Int32)]) (rest := []) X.1 (c_J4_setLength_d00df l G hk7) (cwV 1 hts gX10_renderTrain_J4_setLength_d00df rfl rfl rfl (by decide +kernel) ⟨Nat.le_of_ble_eq_true rfl, Nat.le_of_ble_eq_true rfl⟩) (am_preV X hh 139 1 (by decide) rfl rfl) rfl rfl hl.1 rfl (lv_room (Nat.le_of_ble_eq_true rfl)) dX10_renderTrain_22 ⟨Nat.le_of_ble_eq_true rfl, Nat.le_of_ble_eq_true rfl⟩) (fun ab H locs hh => ?_)
    refine lv_iconst (v := (0 : Int32)) hx hb dX10_renderTrain_25 (by decide) ?_
    refine lv_istore_n (lv' := [(2, .int (0 : Int32)), (0, .ref (gAd G 0)), (1, .int x1)]) hx hb dX10_renderTrain_26 rfl hl (by decide) rfl (fun ls hl => ?_)
    have hlp27 : ∀ (n : Nat) (j : Nat) (y10 : Int32) (w11 : Wd) (ab : Nat) (H : Heap) (locs : List Loc) (ls : Array Slot) (z : (Int32 × Wd) ⊕ Unit), n + j ≤ 11 → p_X10_renderTrain_27 n y10 w11 = some z → AH G s.heap w11 ab H locs → lv_has ls 3 [(2, .int y10), (0, .ref (gAd G 0)), (1, .int x1)] → (∀ (y10 : Int32) (w11 : Wd) (ab : Nat) (H : Heap) (locs : List Loc) (ls : Array Slot), z = .inl (y10, w11) → AH G s.heap w11 ab H locs → lv_has ls 3 [(2, .int y10), (0, .ref (gAd G 0)), (1, .int x1)] → W p l e ({ frames := 7, cells := 35, slots := 2182, locals := 186 } : Room) s m args below meth c H locs (2 + 3 * 11) (70 + 192 * 11) (vx_MQ below (amR G oI z0 w1) (amX G z0 w1) args s 35 2182 (gA G)) (F0 m 105 ls [])) → W p l e ({ frames := 7, cells := 35, slots := 2182, locals := 186 } : Room) s m args below meth c H locs (2 + 3 * j) (70 + 192 * j) (vx_MQ below (amR G oI z0 w1) (amX G z0 w1) args s 35 2182 (gA G)) (F0 m 27 ls []) := by
      intro n
      induction n with
      | zero =>
        intro j y10 w11 ab H locs ls z hj hF
        unfold p_X10_renderTrain_27 at hF
        cases hF
      | succ n ih =>
        intro j y10 w11 ab H locs ls z hj hF hh hl kE
        unfold p_X10_renderTrain_27 at hF
        refine lv_iload_n hx hb dX10_renderTrain_27 rfl (lv_at hl 0 rfl) ?_
        refine lv_aload_n hx hb dX10_renderTrain_28 rfl (lv_at hl 1 rfl) ?_
        refine am_getR X hh 0 11 0 1 (by decide) rfl rfl (by decide) hwRX10 (show Cond.fieldLink RX10 12 "PlanetWorkshop" "now" "LPlanetWorkshop$State;" ∈ wsX10_renderTrain by decide +kernel) rfl dX10_renderTrain_29 ?_
        refine am_getI X hh 1 9 10 (by decide) rfl rfl (by decide) hwRX7 (show Cond.fieldLink RX10 129 "PlanetWorkshop$State" "gears" "I" ∈ wsX10_renderTrain by decide +kernel) rfl dX10_renderTrain_32 ?_
        refine lv_icmp_ge (tgt := 105) hx hb dX10_renderTrain_35 (by decide) (fun hc13 => ?_) (fun hc13 => ?_)
        · have hF := am_pos hc13 hF
          exact W.widen (by omega) (by omega) (kE y10 w11 ab H locs ls (Option.some.inj hF).symm hh (lv_sub hl [0, 1, 2] rfl))
        · have hF := am_neg hc13 hF
          refine lv_aload_n hx hb dX10_renderTrain_38 rfl (lv_at hl 1 rfl) ?_
          refine am_getR X hh 0 11 5 124 (by decide) rfl rfl (by decide) hwRX10 (show Cond.fieldLink RX10 36 "PlanetWorkshop" "train" "LPlanetWorkshop$Train;" ∈ wsX10_renderTrain by decide +kernel) rfl dX10_renderTrain_39 ?_
          refine lv_iload_n hx hb dX10_renderTrain_42 rfl (lv_at hl 0 rfl) ?_
          obtain ⟨r15, hk14, hF⟩ := am_bind hF
          refine am_call X hh (va_runV (As := [.int y10]) (rest := []) X.1 (c_X8_holds l G hk14) (cwV 1 hts gX10_renderTrain_X8_holds rfl rfl rfl (by decide +kernel) ⟨Nat.le_of_ble_eq_true rfl, Nat.le_of_ble_eq_true rfl⟩) (am_preV X hh 124 10 (by decide) rfl rfl) rfl rfl hl.1 rfl (lv_room (Nat.le_of_ble_eq_true rfl)) dX10_renderTrain_43 ⟨by show (2 + 3 * j) + 0 ≤ 35; omega, by show (70 + 192 * j) + 0 ≤ 2182; omega⟩) (fun ab H locs hh => ?_)
          refine lv_if_eq (tgt := 99) hx hb dX10_renderTrain_46 (by decide) (fun hc16 => ?_) (fun hc16 => ?_)
          · have hF := am_pos hc16 hF
            refine lv_iinc (v := (y10 + (1 : Int32))) (lv' := [(2, .int (y10 + (1 : Int32))), (0, .ref (gAd G 0)), (1, .int x1)]) hx hb dX10_renderTrain_99 hl (k := 0) rfl rfl (by decide) rfl (fun ls hl => ?_)
            refine lv_goto (tgt := 27) hx hb dX10_renderTrain_102 (by decide) ?_
            exact W.widen (by omega) (by omega) (ih (j + 1) (y10 + (1 : Int32)) w11 ab H locs ls _ (by omega) hF hh (lv_sub hl [0, 1, 2] rfl) kE)
          · have hF := am_neg hc16 hF
            refine lv_aload_n hx hb dX10_renderTrain_49 rfl (lv_at hl 1 rfl) ?_
            refine am_getR X hh 0 11 10 139 (by decide) rfl rfl (by decide) hwRX10 (show Cond.fieldLink RX10 75 "PlanetWorkshop" "output" "Ljava/lang/StringBuilder;" ∈ wsX10_renderTrain by decide +kernel) rfl dX10_renderTrain_50 ?_
            obtain ⟨r18, hk17, hF⟩ := am_bind hF
            refine am_call X hh (va_runV (As := []) (rest := []) X.1 (c_J4_length_8abf5 l G hk17) (cwV 0 hts gX10_renderTrain_J4_length_8abf5 rfl rfl rfl (by decide +kernel) ⟨Nat.le_of_ble_eq_true rfl, Nat.le_of_ble_eq_true rfl⟩) (am_preV X hh 139 1 (by decide) rfl rfl) rfl rfl hl.1 rfl (lv_room (Nat.le_of_ble_eq_true rfl)) dX10_renderTrain_53 ⟨by show (2 + 3 * j) + 0 ≤ 35; omega, by show (70 + 192 * j) + 0 ≤ 2182; omega⟩) (fun ab H locs hh => ?_)
            refine lv_if_le (tgt := 69) hx hb dX10_renderTrain_56 (by decide) (fun hc19 => ?_) (fun hc19 => ?_)
            · have hF := am_pos hc19 hF
              refine lv_aload_n hx hb dX10_renderTrain_69 rfl (lv_at hl 1 rfl) ?_
              refine am_getR X hh 0 11 10 139 (by decide) rfl rfl (by decide) hwRX10 (show Cond.fieldLink RX10 75 "PlanetWorkshop" "output" "Ljava/lang/StringBuilder;" ∈ wsX10_renderTrain by decide +kernel) rfl dX10_renderTrain_70 ?_
              refine lv_iload_n hx hb dX10_renderTrain_73 rfl (lv_at hl 0 rfl) ?_
              obtain ⟨w22, hk20, hF⟩ := am_bind hF
              refine am_call X hh (va_runV (As := [.int y10]) (rest := []) X.1 (c_J4_append_bf812 l G hk20) (cwV 1 hts gX10_renderTrain_J4_append_bf812 rfl rfl rfl (by decide +kernel) ⟨Nat.le_of_ble_eq_true rfl, Nat.le_of_ble_eq_true rfl⟩) (am_preV X hh 139 1 (by decide) rfl rfl) rfl rfl hl.1 rfl (lv_room (Nat.le_of_ble_eq_true rfl)) dX10_renderTrain_74 ⟨by show (2 + 3 * j) + 1 ≤ 35; omega, by show (70 + 192 * j) + 64 ≤ 2182; omega⟩) (fun ab H locs hh => ?_)
              refine lv_pop hx hb dX10_renderTrain_77 rfl ?_
              refine lv_aload_n hx hb dX10_renderTrain_78 rfl (lv_at hl 1 rfl) ?_
              refine am_getR X hh 0 11 0 1 (by decide) rfl rfl (by decide) hwRX10 (show Cond.fieldLink RX10 12 "PlanetWorkshop" "now" "LPlanetWorkshop$State;" ∈ wsX10_renderTrain by decide +kernel) rfl dX10_renderTrain_79 ?_
              refine lv_iload_n hx hb dX10_renderTrain_82 rfl (lv_at hl 0 rfl) ?_
              obtain ⟨r24, hk23, hF⟩ := am_bind hF
              refine am_call X hh (va_runV (As := [.int y10]) (rest := []) X.1 (c_X7_carriesPlanet l G hk23) (cwV 1 hts gX10_renderTrain_X7_carriesPlanet rfl rfl rfl (by decide +kernel) ⟨Nat.le_of_ble_eq_true rfl, Nat.le_of_ble_eq_true rfl⟩) (am_preV X hh 1 9 (by decide) rfl rfl) rfl rfl hl.1 rfl (lv_room (Nat.le_of_ble_eq_true rfl)) dX10_renderTrain_83 ⟨by show ((2 + 3 * j) + 1) + 0 ≤ 35; omega, by show ((70 + 192 * j) + 64) + 0 ≤ 2182; omega⟩) (fun ab H locs hh => ?_)
              refine lv_if_eq (tgt := 99) hx hb dX10_renderTrain_86 (by decide) (fun hc25 => ?_) (fun hc25 => ?_)
              · have hF := am_pos hc25 hF
                refine lv_iinc (v := (y10 + (1 : Int32))) (lv' := [(2, .int (y10 + (1 : Int32))), (0, .ref (gAd G 0)), (1, .int x1)]) hx hb dX10_renderTrain_99 hl (k := 0) rfl rfl (by decide) rfl (fun ls hl => ?_)
                refine lv_goto (tgt := 27) hx hb dX10_renderTrain_102 (by decide) ?_
                exact W.widen (by omega) (by omega) (ih (j + 1) (y10 + (1 : Int32)) w22 ab H locs ls _ (by omega) hF hh (lv_sub hl [0, 1, 2] rfl) kE)
              · have hF := am_neg hc25 hF
                refine lv_aload_n hx hb dX10_renderTrain_89 rfl (lv_at hl 1 rfl) ?_
                refine am_getR X hh 0 11 10 139 (by decide) rfl rfl (by decide) hwRX10 (show Cond.fieldLink RX10 75 "PlanetWorkshop" "output" "Ljava/lang/StringBuilder;" ∈ wsX10_renderTrain by decide +kernel) rfl dX10_renderTrain_90 ?_
                refine lv_bipush (v := (42 : Int32)) hx hb dX10_renderTrain_93 (by decide) ?_
                obtain ⟨w28, hk26, hF⟩ := am_bind hF
                refine am_call X hh (va_runV (As := [.int (42 : Int32)]) (rest := []) X.1 (c_J4_append_cf468 l G hk26) (cwV 1 hts gX10_renderTrain_J4_append_cf468 rfl rfl rfl (by decide +kernel) ⟨Nat.le_of_ble_eq_true rfl, Nat.le_of_ble_eq_true rfl⟩) (am_preV X hh 139 1 (by decide) rfl rfl) rfl rfl hl.1 rfl (lv_room (Nat.le_of_ble_eq_true rfl)) dX10_renderTrain_95 ⟨by show ((2 + 3 * j) + 1) + 1 ≤ 35; omega, by show ((70 + 192 * j) + 64) + 64 ≤ 2182; omega⟩) (fun ab H locs hh => ?_)
                refine lv_pop hx hb dX10_renderTrain_98 rfl ?_
                refine lv_iinc (v := (y10 + (1 : Int32))) (lv' := [(2, .int (y10 + (1 : Int32))), (0, .ref (gAd G 0)), (1, .int x1)]) hx hb dX10_renderTrain_99 hl (k := 0) rfl rfl (by decide) rfl (fun ls hl => ?_)
                refine lv_goto (tgt := 27) hx hb dX10_renderTrain_102 (by decide) ?_
                exact W.widen (by omega) (by omega) (ih (j + 1) (y10 + (1 : Int32)) w28 ab H locs ls _ (by omega) hF hh (lv_sub hl [0, 1, 2] rfl) kE)
            · have hF := am_neg hc19 hF
              refine lv_aload_n hx hb dX10_renderTrain_59 rfl (lv_at hl 1 rfl) ?_
              refine am_getR X hh 0 11 10 139 (by decide) rfl rfl (by decide) hwRX10 (show Cond.fieldLink RX10 75 "PlanetWorkshop" "output" "Ljava/lang/StringBuilder;" ∈ wsX10_renderTrain by decide +kernel) rfl dX10_renderTrain_60 ?_
              refine lv_bipush (v := (44 : Int32)) hx hb dX10_renderTrain_63 (by decide) ?_
              obtain ⟨w31, hk29, hF⟩ := am_bind hF
              refine am_call X hh (va_runV (As := [.int (44 : Int32)]) (rest := []) X.1 (c_J4_append_cf468 l G hk29) (cwV 1 hts gX10_renderTrain_J4_append_cf468 rfl rfl rfl (by decide +kernel) ⟨Nat.le_of_ble_eq_true rfl, Nat.le_of_ble_eq_true rfl⟩) (am_preV X hh 139 1 (by decide) rfl rfl) rfl rfl hl.1 rfl (lv_room (Nat.le_of_ble_eq_true rfl)) dX10_renderTrain_65 ⟨by show (2 + 3 * j) + 1 ≤ 35; omega, by show (70 + 192 * j) + 64 ≤ 2182; omega⟩) (fun ab H locs hh => ?_)
              refine lv_pop hx hb dX10_renderTrain_68 rfl ?_
              refine lv_aload_n hx hb dX10_renderTrain_69 rfl (lv_at hl 1 rfl) ?_
              refine am_getR X hh 0 11 10 139 (by decide) rfl rfl (by decide) hwRX10 (show Cond.fieldLink RX10 75 "PlanetWorkshop" "output" "Ljava/lang/StringBuilder;" ∈ wsX10_renderTrain by decide +kernel) rfl dX10_renderTrain_70 ?_
              refine lv_iload_n hx hb dX10_renderTrain_73 rfl (lv_at hl 0 rfl) ?_
              obtain ⟨w34, hk32, hF⟩ := am_bind hF
              refine am_call X hh (va_runV (As := [.int y10]) (rest := []) X.1 (c_J4_append_bf812 l G hk32) (cwV 1 hts gX10_renderTrain_J4_append_bf812 rfl rfl rfl (by decide +kernel) ⟨Nat.le_of_ble_eq_true rfl, Nat.le_of_ble_eq_true rfl⟩) (am_preV X hh 139 1 (by decide) rfl rfl) rfl rfl hl.1 rfl (lv_room (Nat.le_of_ble_eq_true rfl)) dX10_renderTrain_74 ⟨by show ((2 + 3 * j) + 1) + 1 ≤ 35; omega, by show ((70 + 192 * j) + 64) + 64 ≤ 2182; omega⟩) (fun ab H locs hh => ?_)
              refine lv_pop hx hb dX10_renderTrain_77 rfl ?_
              refine lv_aload_n hx hb dX10_renderTrain_78 rfl (lv_at hl 1 rfl) ?_
              refine am_getR X hh 0 11 0 1 (by decide) rfl rfl (by decide) hwRX10 (show Cond.fieldLink RX10 12 "PlanetWorkshop" "now" "LPlanetWorkshop$State;" ∈ wsX10_renderTrain by decide +kernel) rfl dX10_renderTrain_79 ?_
              refine lv_iload_n hx hb dX10_renderTrain_82 rfl (lv_at hl 0 rfl) ?_
              obtain ⟨r36, hk35, hF⟩ := am_bind hF
              refine am_call X hh (va_runV (As := [.int y10]) (rest := []) X.1 (c_X7_carriesPlanet l G hk35) (cwV 1 hts gX10_renderTrain_X7_carriesPlanet rfl rfl rfl (by decide +kernel) ⟨Nat.le_of_ble_eq_true rfl, Nat.le_of_ble_eq_true rfl⟩) (am_preV X hh 1 9 (by decide) rfl rfl) rfl rfl hl.1 rfl (lv_room (Nat.le_of_ble_eq_true rfl)) dX10_renderTrain_83 ⟨by show (((2 + 3 * j) + 1) + 1) + 0 ≤ 35; omega, by show (((70 + 192 * j) + 64) + 64) + 0 ≤ 2182; omega⟩) (fun ab H locs hh => ?_)
              refine lv_if_eq (tgt := 99) hx hb dX10_renderTrain_86 (by decide) (fun hc37 => ?_) (fun hc37 => ?_)
              · have hF := am_pos hc37 hF
                refine lv_iinc (v := (y10 + (1 : Int32))) (lv' := [(2, .int (y10 + (1 : Int32))), (0, .ref (gAd G 0)), (1, .int x1)]) hx hb dX10_renderTrain_99 hl (k := 0) rfl rfl (by decide) rfl (fun ls hl => ?_)
                refine lv_goto (tgt := 27) hx hb dX10_renderTrain_102 (by decide) ?_
                exact W.widen (by omega) (by omega) (ih (j + 1) (y10 + (1 : Int32)) w34 ab H locs ls _ (by omega) hF hh (lv_sub hl [0, 1, 2] rfl) kE)
              · have hF := am_neg hc37 hF
                refine lv_aload_n hx hb dX10_renderTrain_89 rfl (lv_at hl 1 rfl) ?_
                refine am_getR X hh 0 11 10 139 (by decide) rfl rfl (by decide) hwRX10 (show Cond.fieldLink RX10 75 "PlanetWorkshop" "output" "Ljava/lang/StringBuilder;" ∈ wsX10_renderTrain by decide +kernel) rfl dX10_renderTrain_90 ?_
                refine lv_bipush (v := (42 : Int32)) hx hb dX10_renderTrain_93 (by decide) ?_
                obtain ⟨w40, hk38, hF⟩ := am_bind hF
                refine am_call X hh (va_runV (As := [.int (42 : Int32)]) (rest := []) X.1 (c_J4_append_cf468 l G hk38) (cwV 1 hts gX10_renderTrain_J4_append_cf468 rfl rfl rfl (by decide +kernel) ⟨Nat.le_of_ble_eq_true rfl, Nat.le_of_ble_eq_true rfl⟩) (am_preV X hh 139 1 (by decide) rfl rfl) rfl rfl hl.1 rfl (lv_room (Nat.le_of_ble_eq_true rfl)) dX10_renderTrain_95 ⟨by show (((2 + 3 * j) + 1) + 1) + 1 ≤ 35; omega, by show (((70 + 192 * j) + 64) + 64) + 64 ≤ 2182; omega⟩) (fun ab H locs hh => ?_)
                refine lv_pop hx hb dX10_renderTrain_98 rfl ?_
                refine lv_iinc (v := (y10 + (1 : Int32))) (lv' := [(2, .int (y10 + (1 : Int32))), (0, .ref (gAd G 0)), (1, .int x1)]) hx hb dX10_renderTrain_99 hl (k := 0) rfl rfl (by decide) rfl (fun ls hl => ?_)
                refine lv_goto (tgt := 27) hx hb dX10_renderTrain_102 (by decide) ?_
                exact W.widen (by omega) (by omega) (ih (j + 1) (y10 + (1 : Int32)) w40 ab H locs ls _ (by omega) hF hh (lv_sub hl [0, 1, 2] rfl) kE)
    obtain ⟨z41, hz42, hF⟩ := am_bind hF
    refine W.widen (show 2 ≤ 2 + 3 * 0 by omega) (show 70 ≤ 70 + 192 * 0 by omega) (hlp27 11 0 (0 : Int32) w9 ab H locs ls z41 (Nat.le_refl _) hz42 hh (lv_sub hl [0, 1, 2] rfl) (fun y10 w11 ab H locs ls hz hh hl => ?_))
    · subst hz
      have hF := am_zl hF
      have hF := am_u2 hF
      refine lv_aload_n hx hb dX10_renderTrain_105 rfl (lv_at hl 1 rfl) ?_
      refine am_getR X hh 0 11 10 139 (by decide) rfl rfl (by decide) hwRX10 (show Cond.fieldLink RX10 75 "PlanetWorkshop" "output" "Ljava/lang/StringBuilder;" ∈ wsX10_renderTrain by decide +kernel) rfl dX10_renderTrain_106 ?_
      obtain ⟨r44, hk43, hF⟩ := am_bind hF
      refine am_call X hh (va_runV (As := []) (rest := []) X.1 (c_J4_length_8abf5 l G hk43) (cwV 0 hts gX10_renderTrain_J4_length_8abf5 rfl rfl rfl (by decide +kernel) ⟨Nat.le_of_ble_eq_true rfl, Nat.le_of_ble_eq_true rfl⟩) (am_preV X hh 139 1 (by decide) rfl rfl) rfl rfl hl.1 rfl (lv_room (Nat.le_of_ble_eq_true rfl)) dX10_renderTrain_109 ⟨Nat.le_of_ble_eq_true rfl, Nat.le_of_ble_eq_true rfl⟩) (fun ab H locs hh => ?_)
      exact vx_ret (am_iret X hr hh (fun t ht => am_qwX (mk := oI) hF ht) (Nat.le_of_ble_eq_true rfl) (Nat.le_of_ble_eq_true rfl) dX10_renderTrain_112)
set_option maxHeartbeats 4000000 in
set_option maxRecDepth 100000 in
theorem c_X10_undo (l : Launch) (G : GG) (hst : l.stackTraces = false) {w : Wd} {z0 : (Nat ⊕ Int32)} {w1 : Wd} (hF : f_X10_undo w = some (z0, w1)) : vx_Met l yX10_undo wsX10_undo ({ frames := 6, cells := 1, slots := 6, locals := 90 } : Room) (va_Pc [.ref (gAd G 0)] (Rel G w)) (amR G oI z0 w1) (amX G z0 w1) 1 6 (gA G) := by
  refine am_metX (own := RX10) (cc := cX10_undo) (maxL := 1) (ret := (some .int)) (by decide +kernel) rfl rfl (Nat.le_of_ble_eq_true rfl) ?_
  intro p e s m args below meth c ab H locs ls X hr htb hh hl
  have hx := X.1.1; have hb := X.1.2.1; have hml := X.1.2.2.1; have hown := X.1.2.2.2.1; have hts := X.1.2.2.2.2
  have hl : lv_has ls 1 [(0, .ref (gAd G 0))] := hl
  have hwRX10 : ∀ z ∈ u_ws RX10 TX10 13, z ∈ wsX10_undo := by decide +kernel
  have hwRX3 : ∀ z ∈ u_ws RX3 TX3 3, z ∈ wsX10_undo := by decide +kernel
  unfold f_X10_undo at hF
  refine lv_aload_n hx hb dX10_undo_0 rfl (lv_at hl 0 rfl) ?_
  refine am_getR X hh 0 11 4 34 (by decide) rfl rfl (by decide) hwRX10 (show Cond.fieldLink RX10 29 "PlanetWorkshop" "history" "LPlanetWorkshop$History;" ∈ wsX10_undo by decide +kernel) rfl dX10_undo_1 ?_
  refine am_getI X hh 34 6 2 (by decide) rfl rfl (by decide) hwRX3 (show Cond.fieldLink RX10 342 "PlanetWorkshop$History" "count" "I" ∈ wsX10_undo by decide +kernel) rfl dX10_undo_4 ?_
  refine lv_if_ne (tgt := 18) hx hb dX10_undo_7 (by decide) (fun hc1 => ?_) (fun hc1 => ?_)
  · have hF := am_neg hc1 hF
    refine lv_aload_n hx hb dX10_undo_18 rfl (lv_at hl 0 rfl) ?_
    refine am_getR X hh 0 11 4 34 (by decide) rfl rfl (by decide) hwRX10 (show Cond.fieldLink RX10 29 "PlanetWorkshop" "history" "LPlanetWorkshop$History;" ∈ wsX10_undo by decide +kernel) rfl dX10_undo_19 ?_
    refine lv_aload_n hx hb dX10_undo_22 rfl (lv_at hl 0 rfl) ?_
    refine am_getR X hh 0 11 0 1 (by decide) rfl rfl (by decide) hwRX10 (show Cond.fieldLink RX10 12 "PlanetWorkshop" "now" "LPlanetWorkshop$State;" ∈ wsX10_undo by decide +kernel) rfl dX10_undo_23 ?_
    obtain ⟨w4, hk2, hF⟩ := am_bind hF
    refine am_call X hh (va_runV (As := [.ref (gAd G 1)]) (rest := []) X.1 (c_X3_popInto l G hk2) (cwV 1 hts gX10_undo_X3_popInto rfl rfl rfl (by decide +kernel) ⟨Nat.le_of_ble_eq_true rfl, Nat.le_of_ble_eq_true rfl⟩) (am_preV X hh 34 6 (by decide) rfl rfl) rfl rfl hl.1 rfl (lv_room (Nat.le_of_ble_eq_true rfl)) dX10_undo_26 ⟨Nat.le_of_ble_eq_true rfl, Nat.le_of_ble_eq_true rfl⟩) (fun ab H locs hh => ?_)
    refine lv_aload_n hx hb dX10_undo_29 rfl (lv_at hl 0 rfl) ?_
    refine am_getR X hh 0 11 4 34 (by decide) rfl rfl (by decide) hwRX10 (show Cond.fieldLink RX10 29 "PlanetWorkshop" "history" "LPlanetWorkshop$History;" ∈ wsX10_undo by decide +kernel) rfl dX10_undo_30 ?_
    refine am_getI X hh 34 6 2 (by decide) rfl rfl (by decide) hwRX3 (show Cond.fieldLink RX10 342 "PlanetWorkshop$History" "count" "I" ∈ wsX10_undo by decide +kernel) rfl dX10_undo_33 ?_
    exact vx_ret (am_iret X hr hh (fun t ht => am_qwX (mk := oI) hF ht) (Nat.le_of_ble_eq_true rfl) (Nat.le_of_ble_eq_true rfl) dX10_undo_36)
  · have hF := am_pos hc1 hF
    exact am_throw (k := 4) (ic := 146) X hst htb hh hl (show Cond.classLink RX10 144 "java/util/NoSuchElementException" ∈ wsX10_undo by decide +kernel) (show Cond.initialized "java/util/NoSuchElementException" ∈ wsX10_undo by decide +kernel) (fun q hq => List.mem_cons_of_mem _ (List.mem_append_left _ (List.mem_append_right _ hq))) (by decide +kernel) (ng_4 _ _) (ot_4 _ _) dX10_undo_10 dX10_undo_13 dX10_undo_14 dX10_undo_17 (Nat.le_of_ble_eq_true rfl) (Nat.le_of_ble_eq_true rfl) (Nat.le_of_ble_eq_true rfl) (Nat.le_of_ble_eq_true rfl) (am_zw hF).1 (am_zw hF).2 (Nat.le_of_ble_eq_true rfl) (Nat.le_of_ble_eq_true rfl)
set_option maxHeartbeats 4000000 in
set_option maxRecDepth 100000 in
theorem c_X10_settle (l : Launch) (G : GG) (hst : l.stackTraces = false) {w : Wd} {x1 : Int32} {z0 : (Nat ⊕ Int32)} {w1 : Wd} (hF : f_X10_settle w x1 = some (z0, w1)) : vx_Met l yX10_settle wsX10_settle ({ frames := 7, cells := 1, slots := 6, locals := 110 } : Room) (va_Pc [.ref (gAd G 0), .int x1] (Rel G w)) (amR G oI z0 w1) (amX G z0 w1) 1 6 (gA G) := by
  refine am_metX (own := RX10) (cc := cX10_settle) (maxL := 2) (ret := (some .int)) (by decide +kernel) rfl rfl (Nat.le_of_ble_eq_true rfl) ?_
  intro p e s m args below meth c ab H locs ls X hr htb hh hl
  have hx := X.1.1; have hb := X.1.2.1; have hml := X.1.2.2.1; have hown := X.1.2.2.2.1; have hts := X.1.2.2.2.2
  have hl : lv_has ls 2 [(0, .ref (gAd G 0)), (1, .int x1)] := hl
  have hwRX10 : ∀ z ∈ u_ws RX10 TX10 13, z ∈ wsX10_settle := by decide +kernel
  unfold f_X10_settle at hF
  refine lv_iload_n hx hb dX10_settle_0 rfl (lv_at hl 1 rfl) ?_
  obtain ⟨z3, hk1, hF⟩ := am_bind hF
  refine am_callX X hh (vx_runS (As := [.int x1]) (rest := []) X.1 (c_X10_refuse l G hst hk1) (va_cwS 1 hts gX10_settle_X10_refuse rfl rfl rfl (by decide +kernel) ⟨Nat.le_of_ble_eq_true rfl, Nat.le_of_ble_eq_true rfl⟩) (am_preS X hh) rfl rfl hl.1 rfl (lv_room (Nat.le_of_ble_eq_true rfl)) dX10_settle_1 ⟨Nat.le_of_ble_eq_true rfl, Nat.le_of_ble_eq_true rfl⟩) (fun k ab H locs ce q hz hh hce hcv hcl => ?_) (fun r2 ab H locs hz hh => ?_)
  · subst hz
    have hF := am_zl hF
    exact am_out X htb hh (am_zw hF).1 (am_zw hF).2 hce hcv hcl (Nat.le_of_ble_eq_true rfl) (Nat.le_of_ble_eq_true rfl)
  · subst hz
    have hF := am_zr hF
    refine lv_aload_n hx hb dX10_settle_4 rfl (lv_at hl 0 rfl) ?_
    refine am_getR X hh 0 11 4 34 (by decide) rfl rfl (by decide) hwRX10 (show Cond.fieldLink RX10 29 "PlanetWorkshop" "history" "LPlanetWorkshop$History;" ∈ wsX10_settle by decide +kernel) rfl dX10_settle_5 ?_
    refine lv_aload_n hx hb dX10_settle_8 rfl (lv_at hl 0 rfl) ?_
    refine am_getR X hh 0 11 1 12 (by decide) rfl rfl (by decide) hwRX10 (show Cond.fieldLink RX10 16 "PlanetWorkshop" "before" "LPlanetWorkshop$State;" ∈ wsX10_settle by decide +kernel) rfl dX10_settle_9 ?_
    obtain ⟨w6, hk4, hF⟩ := am_bind hF
    refine am_call X hh (va_runV (As := [.ref (gAd G 12)]) (rest := []) X.1 (c_X3_push l G hk4) (cwV 1 hts gX10_settle_X3_push rfl rfl rfl (by decide +kernel) ⟨Nat.le_of_ble_eq_true rfl, Nat.le_of_ble_eq_true rfl⟩) (am_preV X hh 34 6 (by decide) rfl rfl) rfl rfl hl.1 rfl (lv_room (Nat.le_of_ble_eq_true rfl)) dX10_settle_12 ⟨Nat.le_of_ble_eq_true rfl, Nat.le_of_ble_eq_true rfl⟩) (fun ab H locs hh => ?_)
    refine lv_iload_n hx hb dX10_settle_15 rfl (lv_at hl 1 rfl) ?_
    exact vx_ret (am_iret X hr hh (fun t ht => am_qwX (mk := oI) hF ht) (Nat.le_of_ble_eq_true rfl) (Nat.le_of_ble_eq_true rfl) dX10_settle_16)
set_option maxHeartbeats 4000000 in
set_option maxRecDepth 100000 in
theorem c_X10_checkSameTrain (l : Launch) (G : GG) (hst : l.stackTraces = false) {w : Wd} {x1 : Int32} {x2 : Int32} {z0 : (Nat ⊕ Unit)} {w1 : Wd} (hF : f_X10_checkSameTrain w x1 x2 = some (z0, w1)) : vx_Met l yX10_checkSameTrain wsX10_checkSameTrain ({ frames := 7, cells := 3, slots := 18, locals := 111 } : Room) (va_Pc [.ref (gAd G 0), .int x1, .int x2] (Rel G w)) (amR G oV z0 w1) (amX G z0 w1) 3 18 (gA G) := by
  refine am_metX (own := RX10) (cc := cX10_checkSameTrain) (maxL := 3) (ret := none) (by decide +kernel) rfl rfl (Nat.le_of_ble_eq_true rfl) ?_
  intro p e s m args below meth c ab H locs ls X hr htb hh hl
  have hx := X.1.1; have hb := X.1.2.1; have hml := X.1.2.2.1; have hown := X.1.2.2.2.1; have hts := X.1.2.2.2.2
  have hl : lv_has ls 3 [(0, .ref (gAd G 0)), (1, .int x1), (2, .int x2)] := hl
  have hwRX10 : ∀ z ∈ u_ws RX10 TX10 13, z ∈ wsX10_checkSameTrain := by decide +kernel
  unfold f_X10_checkSameTrain at hF
  refine lv_aload_n hx hb dX10_checkSameTrain_0 rfl (lv_at hl 0 rfl) ?_
  refine lv_iload_n hx hb dX10_checkSameTrain_1 rfl (lv_at hl 1 rfl) ?_
  obtain ⟨z3, hk1, hF⟩ := am_bind hF
  refine am_callX X hh (vx_runV (As := [.int x1]) (rest := []) X.1 (c_X10_checkGear l G hst hk1) (cwV 1 hts gX10_checkSameTrain_X10_checkGear rfl rfl rfl (by decide +kernel) ⟨Nat.le_of_ble_eq_true rfl, Nat.le_of_ble_eq_true rfl⟩) (am_preV X hh 0 11 (by decide) rfl rfl) rfl rfl hl.1 rfl (lv_room (Nat.le_of_ble_eq_true rfl)) dX10_checkSameTrain_2 ⟨Nat.le_of_ble_eq_true rfl, Nat.le_of_ble_eq_true rfl⟩) (fun k ab H locs ce q hz hh hce hcv hcl => ?_) (fun r2 ab H locs hz hh => ?_)
  · subst hz
    have hF := am_zl hF
    exact am_out X htb hh (am_zw hF).1 (am_zw hF).2 hce hcv hcl (Nat.le_of_ble_eq_true rfl) (Nat.le_of_ble_eq_true rfl)
  · subst hz
    have hF := am_zr hF
    refine lv_aload_n hx hb dX10_checkSameTrain_5 rfl (lv_at hl 0 rfl) ?_
    refine lv_iload_n hx hb dX10_checkSameTrain_6 rfl (lv_at hl 2 rfl) ?_
    obtain ⟨z6, hk4, hF⟩ := am_bind hF
    refine am_callX X hh (vx_runV (As := [.int x2]) (rest := []) X.1 (c_X10_checkGear l G hst hk4) (cwV 1 hts gX10_checkSameTrain_X10_checkGear rfl rfl rfl (by decide +kernel) ⟨Nat.le_of_ble_eq_true rfl, Nat.le_of_ble_eq_true rfl⟩) (am_preV X hh 0 11 (by decide) rfl rfl) rfl rfl hl.1 rfl (lv_room (Nat.le_of_ble_eq_true rfl)) dX10_checkSameTrain_7 ⟨Nat.le_of_ble_eq_true rfl, Nat.le_of_ble_eq_true rfl⟩) (fun k ab H locs ce q hz hh hce hcv hcl => ?_) (fun r5 ab H locs hz hh => ?_)
    · subst hz
      have hF := am_zl hF
      exact am_out X htb hh (am_zw hF).1 (am_zw hF).2 hce hcv hcl (Nat.le_of_ble_eq_true rfl) (Nat.le_of_ble_eq_true rfl)
    · subst hz
      have hF := am_zr hF
      refine lv_aload_n hx hb dX10_checkSameTrain_10 rfl (lv_at hl 0 rfl) ?_
      refine am_getR X hh 0 11 5 124 (by decide) rfl rfl (by decide) hwRX10 (show Cond.fieldLink RX10 36 "PlanetWorkshop" "train" "LPlanetWorkshop$Train;" ∈ wsX10_checkSameTrain by decide +kernel) rfl dX10_checkSameTrain_11 ?_
      refine lv_aload_n hx hb dX10_checkSameTrain_14 rfl (lv_at hl 0 rfl) ?_
      refine am_getR X hh 0 11 0 1 (by decide) rfl rfl (by decide) hwRX10 (show Cond.fieldLink RX10 12 "PlanetWorkshop" "now" "LPlanetWorkshop$State;" ∈ wsX10_checkSameTrain by decide +kernel) rfl dX10_checkSameTrain_15 ?_
      refine lv_iload_n hx hb dX10_checkSameTrain_18 rfl (lv_at hl 1 rfl) ?_
      obtain ⟨w9, hk7, hF⟩ := am_bind hF
      refine am_call X hh (va_runV (As := [.ref (gAd G 1), .int x1]) (rest := []) X.1 (c_X8_trace l G hk7) (cwV 2 hts gX10_checkSameTrain_X8_trace rfl rfl rfl (by decide +kernel) ⟨Nat.le_of_ble_eq_true rfl, Nat.le_of_ble_eq_true rfl⟩) (am_preV X hh 124 10 (by decide) rfl rfl) rfl rfl hl.1 rfl (lv_room (Nat.le_of_ble_eq_true rfl)) dX10_checkSameTrain_19 ⟨Nat.le_of_ble_eq_true rfl, Nat.le_of_ble_eq_true rfl⟩) (fun ab H locs hh => ?_)
      refine lv_aload_n hx hb dX10_checkSameTrain_22 rfl (lv_at hl 0 rfl) ?_
      refine am_getR X hh 0 11 5 124 (by decide) rfl rfl (by decide) hwRX10 (show Cond.fieldLink RX10 36 "PlanetWorkshop" "train" "LPlanetWorkshop$Train;" ∈ wsX10_checkSameTrain by decide +kernel) rfl dX10_checkSameTrain_23 ?_
      refine lv_iload_n hx hb dX10_checkSameTrain_26 rfl (lv_at hl 2 rfl) ?_
      obtain ⟨r11, hk10, hF⟩ := am_bind hF
      refine am_call X hh (va_runV (As := [.int x2]) (rest := []) X.1 (c_X8_holds l G hk10) (cwV 1 hts gX10_checkSameTrain_X8_holds rfl rfl rfl (by decide +kernel) ⟨Nat.le_of_ble_eq_true rfl, Nat.le_of_ble_eq_true rfl⟩) (am_preV X hh 124 10 (by decide) rfl rfl) rfl rfl hl.1 rfl (lv_room (Nat.le_of_ble_eq_true rfl)) dX10_checkSameTrain_27 ⟨Nat.le_of_ble_eq_true rfl, Nat.le_of_ble_eq_true rfl⟩) (fun ab H locs hh => ?_)
      refine lv_if_ne (tgt := 41) hx hb dX10_checkSameTrain_30 (by decide) (fun hc12 => ?_) (fun hc12 => ?_)
      · have hF := am_neg hc12 hF
        exact vx_ret (am_vret X hr hh (fun t ht => am_qwX (mk := oV) hF ht) (Nat.le_of_ble_eq_true rfl) (Nat.le_of_ble_eq_true rfl) dX10_checkSameTrain_41)
      · have hF := am_pos hc12 hF
        exact am_throw (k := 4) (ic := 146) X hst htb hh hl (show Cond.classLink RX10 144 "java/util/NoSuchElementException" ∈ wsX10_checkSameTrain by decide +kernel) (show Cond.initialized "java/util/NoSuchElementException" ∈ wsX10_checkSameTrain by decide +kernel) (fun q hq => List.mem_cons_of_mem _ (List.mem_append_left _ (List.mem_append_left _ (List.mem_append_right _ hq)))) (by decide +kernel) (ng_4 _ _) (ot_4 _ _) dX10_checkSameTrain_33 dX10_checkSameTrain_36 dX10_checkSameTrain_37 dX10_checkSameTrain_40 (Nat.le_of_ble_eq_true rfl) (Nat.le_of_ble_eq_true rfl) (Nat.le_of_ble_eq_true rfl) (Nat.le_of_ble_eq_true rfl) (am_zw hF).1 (am_zw hF).2 (Nat.le_of_ble_eq_true rfl) (Nat.le_of_ble_eq_true rfl)
set_option maxHeartbeats 4000000 in
set_option maxRecDepth 100000 in
theorem c_X10_unitsByChain (l : Launch) (G : GG) {w : Wd} {x1 : Int32} {x2 : Int32} {r0 : Int64} {w1 : Wd} (hF : f_X10_unitsByChain w x1 x2 = some (r0, w1)) : Met l yX10_unitsByChain wsX10_unitsByChain ({ frames := 4, cells := 0, slots := 0, locals := 99 } : Room) (va_Pc [.ref (gAd G 0), .int x1, .int x2] (Rel G w)) (amQ G (oL r0) w1) 0 0 (gA G) := by
  refine am_met (own := RX10) (cc := cX10_unitsByChain) (maxL := 3) (ret := (some .long)) (by decide +kernel) rfl rfl (Nat.le_of_ble_eq_true rfl) ?_
  intro p e s m args below meth c ab H locs ls X hr hh hl
  have hx := X.1.1; have hb := X.1.2.1; have hml := X.1.2.2.1; have hown := X.1.2.2.2.1; have hts := X.1.2.2.2.2
  have hl : lv_has ls 3 [(0, .ref (gAd G 0)), (1, .int x1), (2, .int x2)] := hl
  have hwRX10 : ∀ z ∈ u_ws RX10 TX10 13, z ∈ wsX10_unitsByChain := by decide +kernel
  have hwRX8 : ∀ z ∈ u_ws RX8 TX8 3, z ∈ wsX10_unitsByChain := by decide +kernel
  unfold f_X10_unitsByChain at hF
  refine lv_aload_n hx hb dX10_unitsByChain_0 rfl (lv_at hl 0 rfl) ?_
  refine am_getR X hh 0 11 5 124 (by decide) rfl rfl (by decide) hwRX10 (show Cond.fieldLink RX10 36 "PlanetWorkshop" "train" "LPlanetWorkshop$Train;" ∈ wsX10_unitsByChain by decide +kernel) rfl dX10_unitsByChain_1 ?_
  refine lv_aload_n hx hb dX10_unitsByChain_4 rfl (lv_at hl 0 rfl) ?_
  refine am_getR X hh 0 11 0 1 (by decide) rfl rfl (by decide) hwRX10 (show Cond.fieldLink RX10 12 "PlanetWorkshop" "now" "LPlanetWorkshop$State;" ∈ wsX10_unitsByChain by decide +kernel) rfl dX10_unitsByChain_5 ?_
  refine lv_iload_n hx hb dX10_unitsByChain_8 rfl (lv_at hl 1 rfl) ?_
  obtain ⟨w3, hk1, hF⟩ := am_bind hF
  refine am_call X hh (va_runV (As := [.ref (gAd G 1), .int x1]) (rest := []) X.1 (c_X8_trace l G hk1) (cwV 2 hts gX10_unitsByChain_X8_trace rfl rfl rfl (by decide +kernel) ⟨Nat.le_of_ble_eq_true rfl, Nat.le_of_ble_eq_true rfl⟩) (am_preV X hh 124 10 (by decide) rfl rfl) rfl rfl hl.1 rfl (lv_room (Nat.le_of_ble_eq_true rfl)) dX10_unitsByChain_9 ⟨Nat.le_of_ble_eq_true rfl, Nat.le_of_ble_eq_true rfl⟩) (fun ab H locs hh => ?_)
  refine lv_aload_n hx hb dX10_unitsByChain_12 rfl (lv_at hl 0 rfl) ?_
  refine am_getR X hh 0 11 5 124 (by decide) rfl rfl (by decide) hwRX10 (show Cond.fieldLink RX10 36 "PlanetWorkshop" "train" "LPlanetWorkshop$Train;" ∈ wsX10_unitsByChain by decide +kernel) rfl dX10_unitsByChain_13 ?_
  refine am_getR X hh 124 10 0 125 (by decide) rfl rfl (by decide) hwRX8 (show Cond.fieldLink RX10 358 "PlanetWorkshop$Train" "units" "[J" ∈ wsX10_unitsByChain by decide +kernel) rfl dX10_unitsByChain_16 ?_
  refine lv_iload_n hx hb dX10_unitsByChain_19 rfl (lv_at hl 2 rfl) ?_
  obtain ⟨hq4, hF⟩ := am_ifR hF
  refine am_lald X hh 125 (by decide) rfl hq4 dX10_unitsByChain_20 ?_
  exact am_lret X hr hh (fun t ht => am_qw (mk := oL) hF ht) (Nat.le_of_ble_eq_true rfl) (Nat.le_of_ble_eq_true rfl) dX10_unitsByChain_21
set_option maxHeartbeats 4000000 in
set_option maxRecDepth 100000 in
theorem c_X10_unitsByLowest (l : Launch) (G : GG) {w : Wd} {x1 : Int32} {x2 : Int32} {r0 : Int64} {w1 : Wd} (hF : f_X10_unitsByLowest w x1 x2 = some (r0, w1)) : Met l yX10_unitsByLowest wsX10_unitsByLowest ({ frames := 4, cells := 0, slots := 0, locals := 99 } : Room) (va_Pc [.ref (gAd G 0), .int x1, .int x2] (Rel G w)) (amQ G (oL r0) w1) 0 0 (gA G) := by
  refine am_met (own := RX10) (cc := cX10_unitsByLowest) (maxL := 13) (ret := (some .long)) (by decide +kernel) rfl rfl (Nat.le_of_ble_eq_true rfl) ?_
  intro p e s m args below meth c ab H locs ls X hr hh hl
  have hx := X.1.1; have hb := X.1.2.1; have hml := X.1.2.2.1; have hown := X.1.2.2.2.1; have hts := X.1.2.2.2.2
  have hl : lv_has ls 13 [(0, .ref (gAd G 0)), (1, .int x1), (2, .int x2)] := hl
  have hwRX10 : ∀ z ∈ u_ws RX10 TX10 13, z ∈ wsX10_unitsByLowest := by decide +kernel
  have hwRX8 : ∀ z ∈ u_ws RX8 TX8 3, z ∈ wsX10_unitsByLowest := by decide +kernel
  unfold f_X10_unitsByLowest at hF
  refine lv_aload_n hx hb dX10_unitsByLowest_0 rfl (lv_at hl 0 rfl) ?_
  refine am_getR X hh 0 11 5 124 (by decide) rfl rfl (by decide) hwRX10 (show Cond.fieldLink RX10 36 "PlanetWorkshop" "train" "LPlanetWorkshop$Train;" ∈ wsX10_unitsByLowest by decide +kernel) rfl dX10_unitsByLowest_1 ?_
  refine lv_aload_n hx hb dX10_unitsByLowest_4 rfl (lv_at hl 0 rfl) ?_
  refine am_getR X hh 0 11 0 1 (by decide) rfl rfl (by decide) hwRX10 (show Cond.fieldLink RX10 12 "PlanetWorkshop" "now" "LPlanetWorkshop$State;" ∈ wsX10_unitsByLowest by decide +kernel) rfl dX10_unitsByLowest_5 ?_
  refine lv_iload_n hx hb dX10_unitsByLowest_8 rfl (lv_at hl 1 rfl) ?_
  obtain ⟨w3, hk1, hF⟩ := am_bind hF
  refine am_call X hh (va_runV (As := [.ref (gAd G 1), .int x1]) (rest := []) X.1 (c_X8_trace l G hk1) (cwV 2 hts gX10_unitsByLowest_X8_trace rfl rfl rfl (by decide +kernel) ⟨Nat.le_of_ble_eq_true rfl, Nat.le_of_ble_eq_true rfl⟩) (am_preV X hh 124 10 (by decide) rfl rfl) rfl rfl hl.1 rfl (lv_room (Nat.le_of_ble_eq_true rfl)) dX10_unitsByLowest_9 ⟨Nat.le_of_ble_eq_true rfl, Nat.le_of_ble_eq_true rfl⟩) (fun ab H locs hh => ?_)
  refine lv_aload_n hx hb dX10_unitsByLowest_12 rfl (lv_at hl 0 rfl) ?_
  refine am_getR X hh 0 11 5 124 (by decide) rfl rfl (by decide) hwRX10 (show Cond.fieldLink RX10 36 "PlanetWorkshop" "train" "LPlanetWorkshop$Train;" ∈ wsX10_unitsByLowest by decide +kernel) rfl dX10_unitsByLowest_13 ?_
  refine lv_aload_n hx hb dX10_unitsByLowest_16 rfl (lv_at hl 0 rfl) ?_
  refine am_getR X hh 0 11 0 1 (by decide) rfl rfl (by decide) hwRX10 (show Cond.fieldLink RX10 12 "PlanetWorkshop" "now" "LPlanetWorkshop$State;" ∈ wsX10_unitsByLowest by decide +kernel) rfl dX10_unitsByLowest_17 ?_
  refine lv_aload_n hx hb dX10_unitsByLowest_20 rfl (lv_at hl 0 rfl) ?_
  refine am_getR X hh 0 11 5 124 (by decide) rfl rfl (by decide) hwRX10 (show Cond.fieldLink RX10 36 "PlanetWorkshop" "train" "LPlanetWorkshop$Train;" ∈ wsX10_unitsByLowest by decide +kernel) rfl dX10_unitsByLowest_21 ?_
  obtain ⟨r5, hk4, hF⟩ := am_bind hF
  refine am_call X hh (va_runV (As := []) (rest := [.ref (gAd G 1), .ref (gAd G 124)]) X.1 (c_X8_lowestGear l G hk4) (cwV 0 hts gX10_unitsByLowest_X8_lowestGear rfl rfl rfl (by decide +kernel) ⟨Nat.le_of_ble_eq_true rfl, Nat.le_of_ble_eq_true rfl⟩) (am_preV X hh 124 10 (by decide) rfl rfl) rfl rfl hl.1 rfl (lv_room (Nat.le_of_ble_eq_true rfl)) dX10_unitsByLowest_24 ⟨Nat.le_of_ble_eq_true rfl, Nat.le_of_ble_eq_true rfl⟩) (fun ab H locs hh => ?_)
  obtain ⟨w8, hk6, hF⟩ := am_bind hF
  refine am_call X hh (va_runV (As := [.ref (gAd G 1), .int r5]) (rest := []) X.1 (c_X8_trace l G hk6) (cwV 2 hts gX10_unitsByLowest_X8_trace rfl rfl rfl (by decide +kernel) ⟨Nat.le_of_ble_eq_true rfl, Nat.le_of_ble_eq_true rfl⟩) (am_preV X hh 124 10 (by decide) rfl rfl) rfl rfl hl.1 rfl (lv_room (Nat.le_of_ble_eq_true rfl)) dX10_unitsByLowest_27 ⟨Nat.le_of_ble_eq_true rfl, Nat.le_of_ble_eq_true rfl⟩) (fun ab H locs hh => ?_)
  refine lv_aload_n hx hb dX10_unitsByLowest_30 rfl (lv_at hl 0 rfl) ?_
  refine am_getR X hh 0 11 5 124 (by decide) rfl rfl (by decide) hwRX10 (show Cond.fieldLink RX10 36 "PlanetWorkshop" "train" "LPlanetWorkshop$Train;" ∈ wsX10_unitsByLowest by decide +kernel) rfl dX10_unitsByLowest_31 ?_
  refine am_getR X hh 124 10 0 125 (by decide) rfl rfl (by decide) hwRX8 (show Cond.fieldLink RX10 358 "PlanetWorkshop$Train" "units" "[J" ∈ wsX10_unitsByLowest by decide +kernel) rfl dX10_unitsByLowest_34 ?_
  refine lv_iload_n hx hb dX10_unitsByLowest_37 rfl (lv_at hl 1 rfl) ?_
  obtain ⟨hq9, hF⟩ := am_ifR hF
  refine am_lald X hh 125 (by decide) rfl hq9 dX10_unitsByLowest_38 ?_
  refine lv_lstore_n (lv' := [(3, .long (gL w8 125 (x1).toNatClampNeg)), (0, .ref (gAd G 0)), (1, .int x1), (2, .int x2)]) hx hb dX10_unitsByLowest_39 rfl hl (by decide) rfl (fun ls hl => ?_)
  refine lv_aload_n hx hb dX10_unitsByLowest_40 rfl (lv_at hl 1 rfl) ?_
  refine am_getR X hh 0 11 5 124 (by decide) rfl rfl (by decide) hwRX10 (show Cond.fieldLink RX10 36 "PlanetWorkshop" "train" "LPlanetWorkshop$Train;" ∈ wsX10_unitsByLowest by decide +kernel) rfl dX10_unitsByLowest_41 ?_
  refine am_getR X hh 124 10 0 125 (by decide) rfl rfl (by decide) hwRX8 (show Cond.fieldLink RX10 358 "PlanetWorkshop$Train" "units" "[J" ∈ wsX10_unitsByLowest by decide +kernel) rfl dX10_unitsByLowest_44 ?_
  refine lv_iload_n hx hb dX10_unitsByLowest_47 rfl (lv_at hl 3 rfl) ?_
  obtain ⟨hq10, hF⟩ := am_ifR hF
  refine am_lald X hh 125 (by decide) rfl hq10 dX10_unitsByLowest_48 ?_
  refine lv_lstore (lv' := [(5, .long (gL w8 125 (x2).toNatClampNeg)), (3, .long (gL w8 125 (x1).toNatClampNeg)), (0, .ref (gAd G 0)), (1, .int x1), (2, .int x2)]) hx hb dX10_unitsByLowest_49 hl (by decide) rfl (fun ls hl => ?_)
  refine lv_lload_n hx hb dX10_unitsByLowest_51 rfl (lv_at hl 1 rfl) ?_
  refine lv_lload hx hb dX10_unitsByLowest_52 (lv_at hl 0 rfl) ?_
  obtain ⟨r12, hk11, hF⟩ := am_bind hF
  refine am_call X hh (va_runS (As := [.long (gL w8 125 (x1).toNatClampNeg), .long (gL w8 125 (x2).toNatClampNeg)]) (rest := []) X.1 (c_X4_commonDivisor l G hk11) (va_cwS 2 hts gX10_unitsByLowest_X4_commonDivisor rfl rfl rfl (by decide +kernel) ⟨Nat.le_of_ble_eq_true rfl, Nat.le_of_ble_eq_true rfl⟩) (am_preS X hh) rfl rfl hl.1 rfl (lv_room (Nat.le_of_ble_eq_true rfl)) dX10_unitsByLowest_54 ⟨Nat.le_of_ble_eq_true rfl, Nat.le_of_ble_eq_true rfl⟩) (fun ab H locs hh => ?_)
  refine lv_lstore (lv' := [(7, .long r12), (5, .long (gL w8 125 (x2).toNatClampNeg)), (3, .long (gL w8 125 (x1).toNatClampNeg)), (0, .ref (gAd G 0)), (1, .int x1), (2, .int x2)]) hx hb dX10_unitsByLowest_57 hl (by decide) rfl (fun ls hl => ?_)
  refine lv_lload hx hb dX10_unitsByLowest_59 (lv_at hl 1 rfl) ?_
  refine lv_lload hx hb dX10_unitsByLowest_61 (lv_at hl 0 rfl) ?_
  obtain ⟨r14, hk13, hF⟩ := am_bind hF
  refine am_call X hh (va_runS (As := [.long (gL w8 125 (x2).toNatClampNeg), .long r12]) (rest := []) X.1 (c_X4_quotient l G hk13) (va_cwS 2 hts gX10_unitsByLowest_X4_quotient rfl rfl rfl (by decide +kernel) ⟨Nat.le_of_ble_eq_true rfl, Nat.le_of_ble_eq_true rfl⟩) (am_preS X hh) rfl rfl hl.1 rfl (lv_room (Nat.le_of_ble_eq_true rfl)) dX10_unitsByLowest_63 ⟨Nat.le_of_ble_eq_true rfl, Nat.le_of_ble_eq_true rfl⟩) (fun ab H locs hh => ?_)
  refine lv_lstore (lv' := [(9, .long r14), (7, .long r12), (5, .long (gL w8 125 (x2).toNatClampNeg)), (3, .long (gL w8 125 (x1).toNatClampNeg)), (0, .ref (gAd G 0)), (1, .int x1), (2, .int x2)]) hx hb dX10_unitsByLowest_66 hl (by decide) rfl (fun ls hl => ?_)
  refine lv_lload_n hx hb dX10_unitsByLowest_68 rfl (lv_at hl 3 rfl) ?_
  refine lv_lload hx hb dX10_unitsByLowest_69 (lv_at hl 1 rfl) ?_
  obtain ⟨r16, hk15, hF⟩ := am_bind hF
  refine am_call X hh (va_runS (As := [.long (gL w8 125 (x1).toNatClampNeg), .long r12]) (rest := []) X.1 (c_X4_quotient l G hk15) (va_cwS 2 hts gX10_unitsByLowest_X4_quotient rfl rfl rfl (by decide +kernel) ⟨Nat.le_of_ble_eq_true rfl, Nat.le_of_ble_eq_true rfl⟩) (am_preS X hh) rfl rfl hl.1 rfl (lv_room (Nat.le_of_ble_eq_true rfl)) dX10_unitsByLowest_71 ⟨Nat.le_of_ble_eq_true rfl, Nat.le_of_ble_eq_true rfl⟩) (fun ab H locs hh => ?_)
  refine lv_lstore (lv' := [(11, .long r16), (9, .long r14), (7, .long r12), (5, .long (gL w8 125 (x2).toNatClampNeg)), (3, .long (gL w8 125 (x1).toNatClampNeg)), (0, .ref (gAd G 0)), (1, .int x1), (2, .int x2)]) hx hb dX10_unitsByLowest_74 hl (by decide) rfl (fun ls hl => ?_)
  refine lv_ldc2 (v := (24883200000 : Int64)) hx hb hown (hts _ (show Cond.constantLong RX10 217 (24883200000) ∈ wsX10_unitsByLowest by decide +kernel)) dX10_unitsByLowest_76 ?_
  refine lv_lload hx hb dX10_unitsByLowest_79 (lv_at hl 0 rfl) ?_
  obtain ⟨r18, hk17, hF⟩ := am_bind hF
  refine am_call X hh (va_runS (As := [.long (24883200000 : Int64), .long r16]) (rest := []) X.1 (c_X4_quotient l G hk17) (va_cwS 2 hts gX10_unitsByLowest_X4_quotient rfl rfl rfl (by decide +kernel) ⟨Nat.le_of_ble_eq_true rfl, Nat.le_of_ble_eq_true rfl⟩) (am_preS X hh) rfl rfl hl.1 rfl (lv_room (Nat.le_of_ble_eq_true rfl)) dX10_unitsByLowest_81 ⟨Nat.le_of_ble_eq_true rfl, Nat.le_of_ble_eq_true rfl⟩) (fun ab H locs hh => ?_)
  refine lv_lload hx hb dX10_unitsByLowest_84 (lv_at hl 1 rfl) ?_
  refine lv_lmul hx hb dX10_unitsByLowest_86 ?_
  exact am_lret X hr hh (fun t ht => am_qw (mk := oL) hF ht) (Nat.le_of_ble_eq_true rfl) (Nat.le_of_ble_eq_true rfl) dX10_unitsByLowest_87
set_option maxHeartbeats 4000000 in
set_option maxRecDepth 100000 in
theorem c_X10_unitsAgree (l : Launch) (G : GG) {w : Wd} {r0 : Int32} {w1 : Wd} (hF : f_X10_unitsAgree w = some (r0, w1)) : Met l yX10_unitsAgree wsX10_unitsAgree ({ frames := 5, cells := 0, slots := 0, locals := 131 } : Room) (va_Pc [.ref (gAd G 0)] (Rel G w)) (amQ G (oI r0) w1) 0 0 (gA G) := by
  refine am_met (own := RX10) (cc := cX10_unitsAgree) (maxL := 5) (ret := (some .boolean)) (by decide +kernel) rfl rfl (Nat.le_of_ble_eq_true rfl) ?_
  intro p e s m args below meth c ab H locs ls X hr hh hl
  have hx := X.1.1; have hb := X.1.2.1; have hml := X.1.2.2.1; have hown := X.1.2.2.2.1; have hts := X.1.2.2.2.2
  have hl : lv_has ls 5 [(0, .ref (gAd G 0))] := hl
  have hwRX10 : ∀ z ∈ u_ws RX10 TX10 13, z ∈ wsX10_unitsAgree := by decide +kernel
  have hwRX7 : ∀ z ∈ u_ws RX7 TX7 17, z ∈ wsX10_unitsAgree := by decide +kernel
  unfold f_X10_unitsAgree at hF
  refine lv_iconst (v := (0 : Int32)) hx hb dX10_unitsAgree_0 (by decide) ?_
  refine lv_istore_n (lv' := [(1, .int (0 : Int32)), (0, .ref (gAd G 0))]) hx hb dX10_unitsAgree_1 rfl hl (by decide) rfl (fun ls hl => ?_)
  have hlp2 : ∀ (n : Nat) (y1 : Int32) (w2 : Wd) (ab : Nat) (H : Heap) (locs : List Loc) (ls : Array Slot) (z : (Int32 × Wd) ⊕ (Int32 × Wd)), p_X10_unitsAgree_2 n y1 w2 = some z → AH G s.heap w2 ab H locs → lv_has ls 5 [(1, .int y1), (0, .ref (gAd G 0))] → (∀ (y1 : Int32) (w2 : Wd) (ab : Nat) (H : Heap) (locs : List Loc) (ls : Array Slot), z = .inl (y1, w2) → AH G s.heap w2 ab H locs → lv_has ls 5 [(1, .int y1), (0, .ref (gAd G 0))] → W p l e ({ frames := 5, cells := 0, slots := 0, locals := 131 } : Room) s m args below meth c H locs 0 0 (MQ below (amQ G (oI r0) w1) args s 0 0 (gA G)) (F0 m 64 ls [])) → (∀ r, z = .inr r → some r = some (r0, w1)) → W p l e ({ frames := 5, cells := 0, slots := 0, locals := 131 } : Room) s m args below meth c H locs 0 0 (MQ below (amQ G (oI r0) w1) args s 0 0 (gA G)) (F0 m 2 ls []) := by
    intro n
    induction n with
    | zero =>
      intro y1 w2 ab H locs ls z hF
      unfold p_X10_unitsAgree_2 at hF
      cases hF
    | succ n ih =>
      intro y1 w2 ab H locs ls z hF hh hl kE kR
      unfold p_X10_unitsAgree_2 at hF
      refine lv_iload_n hx hb dX10_unitsAgree_2 rfl (lv_at hl 0 rfl) ?_
      refine lv_aload_n hx hb dX10_unitsAgree_3 rfl (lv_at hl 1 rfl) ?_
      refine am_getR X hh 0 11 0 1 (by decide) rfl rfl (by decide) hwRX10 (show Cond.fieldLink RX10 12 "PlanetWorkshop" "now" "LPlanetWorkshop$State;" ∈ wsX10_unitsAgree by decide +kernel) rfl dX10_unitsAgree_4 ?_
      refine am_getI X hh 1 9 10 (by decide) rfl rfl (by decide) hwRX7 (show Cond.fieldLink RX10 129 "PlanetWorkshop$State" "gears" "I" ∈ wsX10_unitsAgree by decide +kernel) rfl dX10_unitsAgree_7 ?_
      refine lv_icmp_ge (tgt := 64) hx hb dX10_unitsAgree_10 (by decide) (fun hc4 => ?_) (fun hc4 => ?_)
      · have hF := am_pos hc4 hF
        exact kE y1 w2 ab H locs ls (Option.some.inj hF).symm hh (lv_sub hl [0, 1] rfl)
      · have hF := am_neg hc4 hF
        refine lv_iconst (v := (0 : Int32)) hx hb dX10_unitsAgree_13 (by decide) ?_
        refine lv_istore_n (lv' := [(2, .int (0 : Int32)), (1, .int y1), (0, .ref (gAd G 0))]) hx hb dX10_unitsAgree_14 rfl hl (by decide) rfl (fun ls hl => ?_)
        have hlp15 : ∀ (n : Nat) (y5 : Int32) (w6 : Wd) (ab : Nat) (H : Heap) (locs : List Loc) (ls : Array Slot) (z : (Int32 × Wd) ⊕ (Int32 × Wd)), p_X10_unitsAgree_15 y1 n y5 w6 = some z → AH G s.heap w6 ab H locs → lv_has ls 5 [(2, .int y5), (1, .int y1), (0, .ref (gAd G 0))] → (∀ (y5 : Int32) (w6 : Wd) (ab : Nat) (H : Heap) (locs : List Loc) (ls : Array Slot), z = .inl (y5, w6) → AH G s.heap w6 ab H locs → lv_has ls 5 [(2, .int y5), (1, .int y1), (0, .ref (gAd G 0))] → W p l e ({ frames := 5, cells := 0, slots := 0, locals := 131 } : Room) s m args below meth c H locs 0 0 (MQ below (amQ G (oI r0) w1) args s 0 0 (gA G)) (F0 m 58 ls [])) → (∀ r, z = .inr r → some r = some (r0, w1)) → W p l e ({ frames := 5, cells := 0, slots := 0, locals := 131 } : Room) s m args below meth c H locs 0 0 (MQ below (amQ G (oI r0) w1) args s 0 0 (gA G)) (F0 m 15 ls []) := by
          intro n
          induction n with
          | zero =>
            intro y5 w6 ab H locs ls z hF
            unfold p_X10_unitsAgree_15 at hF
            cases hF
          | succ n ih =>
            intro y5 w6 ab H locs ls z hF hh hl kE kR
            unfold p_X10_unitsAgree_15 at hF
            refine lv_iload_n hx hb dX10_unitsAgree_15 rfl (lv_at hl 0 rfl) ?_
            refine lv_aload_n hx hb dX10_unitsAgree_16 rfl (lv_at hl 2 rfl) ?_
            refine am_getR X hh 0 11 0 1 (by decide) rfl rfl (by decide) hwRX10 (show Cond.fieldLink RX10 12 "PlanetWorkshop" "now" "LPlanetWorkshop$State;" ∈ wsX10_unitsAgree by decide +kernel) rfl dX10_unitsAgree_17 ?_
            refine am_getI X hh 1 9 10 (by decide) rfl rfl (by decide) hwRX7 (show Cond.fieldLink RX10 129 "PlanetWorkshop$State" "gears" "I" ∈ wsX10_unitsAgree by decide +kernel) rfl dX10_unitsAgree_20 ?_
            refine lv_icmp_ge (tgt := 58) hx hb dX10_unitsAgree_23 (by decide) (fun hc8 => ?_) (fun hc8 => ?_)
            · have hF := am_pos hc8 hF
              exact kE y5 w6 ab H locs ls (Option.some.inj hF).symm hh (lv_sub hl [0, 1, 2] rfl)
            · have hF := am_neg hc8 hF
              refine lv_aload_n hx hb dX10_unitsAgree_26 rfl (lv_at hl 2 rfl) ?_
              refine lv_iload_n hx hb dX10_unitsAgree_27 rfl (lv_at hl 1 rfl) ?_
              refine lv_iload_n hx hb dX10_unitsAgree_28 rfl (lv_at hl 0 rfl) ?_
              obtain ⟨⟨r10, w11⟩, hk9, hF⟩ := am_bind hF
              have hF := am_u2 hF
              refine am_call X hh (va_runV (As := [.int y1, .int y5]) (rest := []) X.1 (c_X10_unitsByChain l G hk9) (cwV 2 hts gX10_unitsAgree_X10_unitsByChain rfl rfl rfl (by decide +kernel) ⟨Nat.le_of_ble_eq_true rfl, Nat.le_of_ble_eq_true rfl⟩) (am_preV X hh 0 11 (by decide) rfl rfl) rfl rfl hl.1 rfl (lv_room (Nat.le_of_ble_eq_true rfl)) dX10_unitsAgree_29 ⟨Nat.le_of_ble_eq_true rfl, Nat.le_of_ble_eq_true rfl⟩) (fun ab H locs hh => ?_)
              refine lv_lstore_n (lv' := [(3, .long r10), (2, .int y5), (1, .int y1), (0, .ref (gAd G 0))]) hx hb dX10_unitsAgree_32 rfl hl (by decide) rfl (fun ls hl => ?_)
              refine lv_lload_n hx hb dX10_unitsAgree_33 rfl (lv_at hl 0 rfl) ?_
              refine lv_lconst (v := (0 : Int64)) hx hb dX10_unitsAgree_34 (by decide) ?_
              refine am_lcmp_eq (tgt := 52) hx hb dX10_unitsAgree_35 dX10_unitsAgree_36 (by decide) (fun hc13 => ?_) (fun hc13 => ?_)
              · have hF := am_pos hc13 hF
                refine lv_iinc (v := (y5 + (1 : Int32))) (lv' := [(2, .int (y5 + (1 : Int32))), (3, .long r10), (1, .int y1), (0, .ref (gAd G 0))]) hx hb dX10_unitsAgree_52 hl (k := 1) rfl rfl (by decide) rfl (fun ls hl => ?_)
                refine lv_goto (tgt := 15) hx hb dX10_unitsAgree_55 (by decide) ?_
                exact ih (y5 + (1 : Int32)) w11 ab H locs ls _ hF hh (lv_sub hl [0, 2, 3] rfl) kE kR
              · have hF := am_neg hc13 hF
                refine lv_lload_n hx hb dX10_unitsAgree_39 rfl (lv_at hl 0 rfl) ?_
                refine lv_aload_n hx hb dX10_unitsAgree_40 rfl (lv_at hl 3 rfl) ?_
                refine lv_iload_n hx hb dX10_unitsAgree_41 rfl (lv_at hl 2 rfl) ?_
                refine lv_iload_n hx hb dX10_unitsAgree_42 rfl (lv_at hl 1 rfl) ?_
                obtain ⟨⟨r15, w16⟩, hk14, hF⟩ := am_bind hF
                have hF := am_u2 hF
                refine am_call X hh (va_runV (As := [.int y1, .int y5]) (rest := [.long r10]) X.1 (c_X10_unitsByLowest l G hk14) (cwV 2 hts gX10_unitsAgree_X10_unitsByLowest rfl rfl rfl (by decide +kernel) ⟨Nat.le_of_ble_eq_true rfl, Nat.le_of_ble_eq_true rfl⟩) (am_preV X hh 0 11 (by decide) rfl rfl) rfl rfl hl.1 rfl (lv_room (Nat.le_of_ble_eq_true rfl)) dX10_unitsAgree_43 ⟨Nat.le_of_ble_eq_true rfl, Nat.le_of_ble_eq_true rfl⟩) (fun ab H locs hh => ?_)
                refine am_lcmp_eq (tgt := 52) hx hb dX10_unitsAgree_46 dX10_unitsAgree_47 (by decide) (fun hc18 => ?_) (fun hc18 => ?_)
                · have hF := am_pos hc18 hF
                  refine lv_iinc (v := (y5 + (1 : Int32))) (lv' := [(2, .int (y5 + (1 : Int32))), (3, .long r10), (1, .int y1), (0, .ref (gAd G 0))]) hx hb dX10_unitsAgree_52 hl (k := 1) rfl rfl (by decide) rfl (fun ls hl => ?_)
                  refine lv_goto (tgt := 15) hx hb dX10_unitsAgree_55 (by decide) ?_
                  exact ih (y5 + (1 : Int32)) w16 ab H locs ls _ hF hh (lv_sub hl [0, 2, 3] rfl) kE kR
                · have hF := am_neg hc18 hF
                  refine lv_iconst (v := (0 : Int32)) hx hb dX10_unitsAgree_50 (by decide) ?_
                  have hF := kR _ (Option.some.inj hF).symm
                  exact am_zret (v' := (0 : Int32)) X hr rfl hh (fun t ht => am_qw (mk := oI) hF ht) (Nat.le_of_ble_eq_true rfl) (Nat.le_of_ble_eq_true rfl) dX10_unitsAgree_51
        obtain ⟨z19, hz20, hF⟩ := am_bind hF
        refine hlp15 2000 (0 : Int32) w2 ab H locs ls z19 hz20 hh (lv_sub hl [0, 1, 2] rfl) (fun y5 w6 ab H locs ls hz hh hl => ?_) (fun r hz => ?_)
        · subst hz
          have hF := am_zl hF
          have hF := am_u2 hF
          refine lv_iinc (v := (y1 + (1 : Int32))) (lv' := [(1, .int (y1 + (1 : Int32))), (2, .int y5), (0, .ref (gAd G 0))]) hx hb dX10_unitsAgree_58 hl (k := 1) rfl rfl (by decide) rfl (fun ls hl => ?_)
          refine lv_goto (tgt := 2) hx hb dX10_unitsAgree_61 (by decide) ?_
          exact ih (y1 + (1 : Int32)) w6 ab H locs ls _ hF hh (lv_sub hl [0, 2] rfl) kE kR
        · subst hz
          have hF := am_zr hF
          exact kR _ (Option.some.inj hF).symm
  obtain ⟨z21, hz22, hF⟩ := am_bind hF
  refine hlp2 2000 (0 : Int32) w ab H locs ls z21 hz22 hh (lv_sub hl [0, 1] rfl) (fun y1 w2 ab H locs ls hz hh hl => ?_) (fun r hz => ?_)
  · subst hz
    have hF := am_zl hF
    have hF := am_u2 hF
    refine lv_iconst (v := (1 : Int32)) hx hb dX10_unitsAgree_64 (by decide) ?_
    exact am_zret (v' := (1 : Int32)) X hr rfl hh (fun t ht => am_qw (mk := oI) hF ht) (Nat.le_of_ble_eq_true rfl) (Nat.le_of_ble_eq_true rfl) dX10_unitsAgree_65
  · subst hz
    have hF := am_zr hF
    exact hF
set_option maxHeartbeats 4000000 in
set_option maxRecDepth 100000 in
theorem c_X10_addGear (l : Launch) (G : GG) (hst : l.stackTraces = false) {w : Wd} {x1 : Int32} {z0 : (Nat ⊕ Int32)} {w1 : Wd} (hF : f_X10_addGear w x1 = some (z0, w1)) : vx_Met l yX10_addGear wsX10_addGear ({ frames := 8, cells := 1, slots := 6, locals := 131 } : Room) (va_Pc [.ref (gAd G 0), .int x1] (Rel G w)) (amR G oI z0 w1) (amX G z0 w1) 1 6 (gA G) := by
  refine am_metX (own := RX10) (cc := cX10_addGear) (maxL := 2) (ret := (some .int)) (by decide +kernel) rfl rfl (Nat.le_of_ble_eq_true rfl) ?_
  intro p e s m args below meth c ab H locs ls X hr htb hh hl
  have hx := X.1.1; have hb := X.1.2.1; have hml := X.1.2.2.1; have hown := X.1.2.2.2.1; have hts := X.1.2.2.2.2
  have hl : lv_has ls 2 [(0, .ref (gAd G 0)), (1, .int x1)] := hl
  have hwRX10 : ∀ z ∈ u_ws RX10 TX10 13, z ∈ wsX10_addGear := by decide +kernel
  unfold f_X10_addGear at hF
  refine lv_aload_n hx hb dX10_addGear_0 rfl (lv_at hl 0 rfl) ?_
  refine am_getR X hh 0 11 1 12 (by decide) rfl rfl (by decide) hwRX10 (show Cond.fieldLink RX10 16 "PlanetWorkshop" "before" "LPlanetWorkshop$State;" ∈ wsX10_addGear by decide +kernel) rfl dX10_addGear_1 ?_
  refine lv_aload_n hx hb dX10_addGear_4 rfl (lv_at hl 0 rfl) ?_
  refine am_getR X hh 0 11 0 1 (by decide) rfl rfl (by decide) hwRX10 (show Cond.fieldLink RX10 12 "PlanetWorkshop" "now" "LPlanetWorkshop$State;" ∈ wsX10_addGear by decide +kernel) rfl dX10_addGear_5 ?_
  obtain ⟨w3, hk1, hF⟩ := am_bind hF
  refine am_call X hh (va_runV (As := [.ref (gAd G 1)]) (rest := []) X.1 (c_X7_copyFrom l G st_12 st_1 hk1) (cwV 1 hts gX10_addGear_X7_copyFrom rfl rfl rfl (by decide +kernel) ⟨Nat.le_of_ble_eq_true rfl, Nat.le_of_ble_eq_true rfl⟩) (am_preV X hh 12 9 (by decide) rfl rfl) rfl rfl hl.1 rfl (lv_room (Nat.le_of_ble_eq_true rfl)) dX10_addGear_8 ⟨Nat.le_of_ble_eq_true rfl, Nat.le_of_ble_eq_true rfl⟩) (fun ab H locs hh => ?_)
  refine lv_aload_n hx hb dX10_addGear_11 rfl (lv_at hl 0 rfl) ?_
  refine lv_aload_n hx hb dX10_addGear_12 rfl (lv_at hl 0 rfl) ?_
  refine am_getR X hh 0 11 6 127 (by decide) rfl rfl (by decide) hwRX10 (show Cond.fieldLink RX10 45 "PlanetWorkshop" "changes" "LPlanetWorkshop$Changes;" ∈ wsX10_addGear by decide +kernel) rfl dX10_addGear_13 ?_
  refine lv_iload_n hx hb dX10_addGear_16 rfl (lv_at hl 1 rfl) ?_
  obtain ⟨⟨r5, w6⟩, hk4, hF⟩ := am_bind hF
  have hF := am_u2 hF
  refine am_call X hh (va_runV (As := [.int x1]) (rest := [.ref (gAd G 0)]) X.1 (c_X1_putGear l G hk4) (cwV 1 hts gX10_addGear_X1_putGear rfl rfl rfl (by decide +kernel) ⟨Nat.le_of_ble_eq_true rfl, Nat.le_of_ble_eq_true rfl⟩) (am_preV X hh 127 4 (by decide) rfl rfl) rfl rfl hl.1 rfl (lv_room (Nat.le_of_ble_eq_true rfl)) dX10_addGear_17 ⟨Nat.le_of_ble_eq_true rfl, Nat.le_of_ble_eq_true rfl⟩) (fun ab H locs hh => ?_)
  obtain ⟨⟨z11, w10⟩, hk8, hF⟩ := am_bind hF
  have hF := am_u2 hF
  refine am_callX X hh (vx_runV (As := [.int r5]) (rest := []) X.1 (c_X10_settle l G hst hk8) (cwV 1 hts gX10_addGear_X10_settle rfl rfl rfl (by decide +kernel) ⟨Nat.le_of_ble_eq_true rfl, Nat.le_of_ble_eq_true rfl⟩) (am_preV X hh 0 11 (by decide) rfl rfl) rfl rfl hl.1 rfl (lv_room (Nat.le_of_ble_eq_true rfl)) dX10_addGear_20 ⟨Nat.le_of_ble_eq_true rfl, Nat.le_of_ble_eq_true rfl⟩) (fun k ab H locs ce q hz hh hce hcv hcl => ?_) (fun r9 ab H locs hz hh => ?_)
  · subst hz
    have hF := am_zl hF
    exact am_out X htb hh (am_zw hF).1 (am_zw hF).2 hce hcv hcl (Nat.le_of_ble_eq_true rfl) (Nat.le_of_ble_eq_true rfl)
  · subst hz
    have hF := am_zr hF
    exact vx_ret (am_iret X hr hh (fun t ht => am_qwX (mk := oI) hF ht) (Nat.le_of_ble_eq_true rfl) (Nat.le_of_ble_eq_true rfl) dX10_addGear_23)
set_option maxHeartbeats 4000000 in
set_option maxRecDepth 100000 in
theorem c_X10_mesh (l : Launch) (G : GG) (hst : l.stackTraces = false) {w : Wd} {x1 : Int32} {x2 : Int32} {z0 : (Nat ⊕ Int32)} {w1 : Wd} (hF : f_X10_mesh w x1 x2 = some (z0, w1)) : vx_Met l yX10_mesh wsX10_mesh ({ frames := 8, cells := 1, slots := 6, locals := 131 } : Room) (va_Pc [.ref (gAd G 0), .int x1, .int x2] (Rel G w)) (amR G oI z0 w1) (amX G z0 w1) 1 6 (gA G) := by
  refine am_metX (own := RX10) (cc := cX10_mesh) (maxL := 3) (ret := (some .int)) (by decide +kernel) rfl rfl (Nat.le_of_ble_eq_true rfl) ?_
  intro p e s m args below meth c ab H locs ls X hr htb hh hl
  have hx := X.1.1; have hb := X.1.2.1; have hml := X.1.2.2.1; have hown := X.1.2.2.2.1; have hts := X.1.2.2.2.2
  have hl : lv_has ls 3 [(0, .ref (gAd G 0)), (1, .int x1), (2, .int x2)] := hl
  have hwRX10 : ∀ z ∈ u_ws RX10 TX10 13, z ∈ wsX10_mesh := by decide +kernel
  unfold f_X10_mesh at hF
  refine lv_aload_n hx hb dX10_mesh_0 rfl (lv_at hl 0 rfl) ?_
  refine am_getR X hh 0 11 1 12 (by decide) rfl rfl (by decide) hwRX10 (show Cond.fieldLink RX10 16 "PlanetWorkshop" "before" "LPlanetWorkshop$State;" ∈ wsX10_mesh by decide +kernel) rfl dX10_mesh_1 ?_
  refine lv_aload_n hx hb dX10_mesh_4 rfl (lv_at hl 0 rfl) ?_
  refine am_getR X hh 0 11 0 1 (by decide) rfl rfl (by decide) hwRX10 (show Cond.fieldLink RX10 12 "PlanetWorkshop" "now" "LPlanetWorkshop$State;" ∈ wsX10_mesh by decide +kernel) rfl dX10_mesh_5 ?_
  obtain ⟨w3, hk1, hF⟩ := am_bind hF
  refine am_call X hh (va_runV (As := [.ref (gAd G 1)]) (rest := []) X.1 (c_X7_copyFrom l G st_12 st_1 hk1) (cwV 1 hts gX10_mesh_X7_copyFrom rfl rfl rfl (by decide +kernel) ⟨Nat.le_of_ble_eq_true rfl, Nat.le_of_ble_eq_true rfl⟩) (am_preV X hh 12 9 (by decide) rfl rfl) rfl rfl hl.1 rfl (lv_room (Nat.le_of_ble_eq_true rfl)) dX10_mesh_8 ⟨Nat.le_of_ble_eq_true rfl, Nat.le_of_ble_eq_true rfl⟩) (fun ab H locs hh => ?_)
  refine lv_aload_n hx hb dX10_mesh_11 rfl (lv_at hl 0 rfl) ?_
  refine lv_aload_n hx hb dX10_mesh_12 rfl (lv_at hl 0 rfl) ?_
  refine am_getR X hh 0 11 6 127 (by decide) rfl rfl (by decide) hwRX10 (show Cond.fieldLink RX10 45 "PlanetWorkshop" "changes" "LPlanetWorkshop$Changes;" ∈ wsX10_mesh by decide +kernel) rfl dX10_mesh_13 ?_
  refine lv_iload_n hx hb dX10_mesh_16 rfl (lv_at hl 1 rfl) ?_
  refine lv_iload_n hx hb dX10_mesh_17 rfl (lv_at hl 2 rfl) ?_
  refine lv_bipush (v := (109 : Int32)) hx hb dX10_mesh_18 (by decide) ?_
  obtain ⟨⟨r5, w6⟩, hk4, hF⟩ := am_bind hF
  have hF := am_u2 hF
  refine am_call X hh (va_runV (As := [.int x1, .int x2, .int (109 : Int32)]) (rest := [.ref (gAd G 0)]) X.1 (c_X1_join l G hk4) (cwV 3 hts gX10_mesh_X1_join rfl rfl rfl (by decide +kernel) ⟨Nat.le_of_ble_eq_true rfl, Nat.le_of_ble_eq_true rfl⟩) (am_preV X hh 127 4 (by decide) rfl rfl) rfl rfl hl.1 rfl (lv_room (Nat.le_of_ble_eq_true rfl)) dX10_mesh_20 ⟨Nat.le_of_ble_eq_true rfl, Nat.le_of_ble_eq_true rfl⟩) (fun ab H locs hh => ?_)
  obtain ⟨⟨z11, w10⟩, hk8, hF⟩ := am_bind hF
  have hF := am_u2 hF
  refine am_callX X hh (vx_runV (As := [.int r5]) (rest := []) X.1 (c_X10_settle l G hst hk8) (cwV 1 hts gX10_mesh_X10_settle rfl rfl rfl (by decide +kernel) ⟨Nat.le_of_ble_eq_true rfl, Nat.le_of_ble_eq_true rfl⟩) (am_preV X hh 0 11 (by decide) rfl rfl) rfl rfl hl.1 rfl (lv_room (Nat.le_of_ble_eq_true rfl)) dX10_mesh_23 ⟨Nat.le_of_ble_eq_true rfl, Nat.le_of_ble_eq_true rfl⟩) (fun k ab H locs ce q hz hh hce hcv hcl => ?_) (fun r9 ab H locs hz hh => ?_)
  · subst hz
    have hF := am_zl hF
    exact am_out X htb hh (am_zw hF).1 (am_zw hF).2 hce hcv hcl (Nat.le_of_ble_eq_true rfl) (Nat.le_of_ble_eq_true rfl)
  · subst hz
    have hF := am_zr hF
    exact vx_ret (am_iret X hr hh (fun t ht => am_qwX (mk := oI) hF ht) (Nat.le_of_ble_eq_true rfl) (Nat.le_of_ble_eq_true rfl) dX10_mesh_26)
set_option maxHeartbeats 4000000 in
set_option maxRecDepth 100000 in
theorem c_X10_shareAxle (l : Launch) (G : GG) (hst : l.stackTraces = false) {w : Wd} {x1 : Int32} {x2 : Int32} {z0 : (Nat ⊕ Int32)} {w1 : Wd} (hF : f_X10_shareAxle w x1 x2 = some (z0, w1)) : vx_Met l yX10_shareAxle wsX10_shareAxle ({ frames := 8, cells := 1, slots := 6, locals := 131 } : Room) (va_Pc [.ref (gAd G 0), .int x1, .int x2] (Rel G w)) (amR G oI z0 w1) (amX G z0 w1) 1 6 (gA G) := by
  refine am_metX (own := RX10) (cc := cX10_shareAxle) (maxL := 3) (ret := (some .int)) (by decide +kernel) rfl rfl (Nat.le_of_ble_eq_true rfl) ?_
  intro p e s m args below meth c ab H locs ls X hr htb hh hl
  have hx := X.1.1; have hb := X.1.2.1; have hml := X.1.2.2.1; have hown := X.1.2.2.2.1; have hts := X.1.2.2.2.2
  have hl : lv_has ls 3 [(0, .ref (gAd G 0)), (1, .int x1), (2, .int x2)] := hl
  have hwRX10 : ∀ z ∈ u_ws RX10 TX10 13, z ∈ wsX10_shareAxle := by decide +kernel
  unfold f_X10_shareAxle at hF
  refine lv_aload_n hx hb dX10_shareAxle_0 rfl (lv_at hl 0 rfl) ?_
  refine am_getR X hh 0 11 1 12 (by decide) rfl rfl (by decide) hwRX10 (show Cond.fieldLink RX10 16 "PlanetWorkshop" "before" "LPlanetWorkshop$State;" ∈ wsX10_shareAxle by decide +kernel) rfl dX10_shareAxle_1 ?_
  refine lv_aload_n hx hb dX10_shareAxle_4 rfl (lv_at hl 0 rfl) ?_
  refine am_getR X hh 0 11 0 1 (by decide) rfl rfl (by decide) hwRX10 (show Cond.fieldLink RX10 12 "PlanetWorkshop" "now" "LPlanetWorkshop$State;" ∈ wsX10_shareAxle by decide +kernel) rfl dX10_shareAxle_5 ?_
  obtain ⟨w3, hk1, hF⟩ := am_bind hF
  refine am_call X hh (va_runV (As := [.ref (gAd G 1)]) (rest := []) X.1 (c_X7_copyFrom l G st_12 st_1 hk1) (cwV 1 hts gX10_shareAxle_X7_copyFrom rfl rfl rfl (by decide +kernel) ⟨Nat.le_of_ble_eq_true rfl, Nat.le_of_ble_eq_true rfl⟩) (am_preV X hh 12 9 (by decide) rfl rfl) rfl rfl hl.1 rfl (lv_room (Nat.le_of_ble_eq_true rfl)) dX10_shareAxle_8 ⟨Nat.le_of_ble_eq_true rfl, Nat.le_of_ble_eq_true rfl⟩) (fun ab H locs hh => ?_)
  refine lv_aload_n hx hb dX10_shareAxle_11 rfl (lv_at hl 0 rfl) ?_
  refine lv_aload_n hx hb dX10_shareAxle_12 rfl (lv_at hl 0 rfl) ?_
  refine am_getR X hh 0 11 6 127 (by decide) rfl rfl (by decide) hwRX10 (show Cond.fieldLink RX10 45 "PlanetWorkshop" "changes" "LPlanetWorkshop$Changes;" ∈ wsX10_shareAxle by decide +kernel) rfl dX10_shareAxle_13 ?_
  refine lv_iload_n hx hb dX10_shareAxle_16 rfl (lv_at hl 1 rfl) ?_
  refine lv_iload_n hx hb dX10_shareAxle_17 rfl (lv_at hl 2 rfl) ?_
  refine lv_bipush (v := (97 : Int32)) hx hb dX10_shareAxle_18 (by decide) ?_
  obtain ⟨⟨r5, w6⟩, hk4, hF⟩ := am_bind hF
  have hF := am_u2 hF
  refine am_call X hh (va_runV (As := [.int x1, .int x2, .int (97 : Int32)]) (rest := [.ref (gAd G 0)]) X.1 (c_X1_join l G hk4) (cwV 3 hts gX10_shareAxle_X1_join rfl rfl rfl (by decide +kernel) ⟨Nat.le_of_ble_eq_true rfl, Nat.le_of_ble_eq_true rfl⟩) (am_preV X hh 127 4 (by decide) rfl rfl) rfl rfl hl.1 rfl (lv_room (Nat.le_of_ble_eq_true rfl)) dX10_shareAxle_20 ⟨Nat.le_of_ble_eq_true rfl, Nat.le_of_ble_eq_true rfl⟩) (fun ab H locs hh => ?_)
  obtain ⟨⟨z11, w10⟩, hk8, hF⟩ := am_bind hF
  have hF := am_u2 hF
  refine am_callX X hh (vx_runV (As := [.int r5]) (rest := []) X.1 (c_X10_settle l G hst hk8) (cwV 1 hts gX10_shareAxle_X10_settle rfl rfl rfl (by decide +kernel) ⟨Nat.le_of_ble_eq_true rfl, Nat.le_of_ble_eq_true rfl⟩) (am_preV X hh 0 11 (by decide) rfl rfl) rfl rfl hl.1 rfl (lv_room (Nat.le_of_ble_eq_true rfl)) dX10_shareAxle_23 ⟨Nat.le_of_ble_eq_true rfl, Nat.le_of_ble_eq_true rfl⟩) (fun k ab H locs ce q hz hh hce hcv hcl => ?_) (fun r9 ab H locs hz hh => ?_)
  · subst hz
    have hF := am_zl hF
    exact am_out X htb hh (am_zw hF).1 (am_zw hF).2 hce hcv hcl (Nat.le_of_ble_eq_true rfl) (Nat.le_of_ble_eq_true rfl)
  · subst hz
    have hF := am_zr hF
    exact vx_ret (am_iret X hr hh (fun t ht => am_qwX (mk := oI) hF ht) (Nat.le_of_ble_eq_true rfl) (Nat.le_of_ble_eq_true rfl) dX10_shareAxle_26)
set_option maxHeartbeats 4000000 in
set_option maxRecDepth 100000 in
theorem c_X10_separate (l : Launch) (G : GG) (hst : l.stackTraces = false) {w : Wd} {x1 : Int32} {x2 : Int32} {z0 : (Nat ⊕ Int32)} {w1 : Wd} (hF : f_X10_separate w x1 x2 = some (z0, w1)) : vx_Met l yX10_separate wsX10_separate ({ frames := 8, cells := 1, slots := 6, locals := 131 } : Room) (va_Pc [.ref (gAd G 0), .int x1, .int x2] (Rel G w)) (amR G oI z0 w1) (amX G z0 w1) 1 6 (gA G) := by
  refine am_metX (own := RX10) (cc := cX10_separate) (maxL := 3) (ret := (some .int)) (by decide +kernel) rfl rfl (Nat.le_of_ble_eq_true rfl) ?_
  intro p e s m args below meth c ab H locs ls X hr htb hh hl
  have hx := X.1.1; have hb := X.1.2.1; have hml := X.1.2.2.1; have hown := X.1.2.2.2.1; have hts := X.1.2.2.2.2
  have hl : lv_has ls 3 [(0, .ref (gAd G 0)), (1, .int x1), (2, .int x2)] := hl
  have hwRX10 : ∀ z ∈ u_ws RX10 TX10 13, z ∈ wsX10_separate := by decide +kernel
  unfold f_X10_separate at hF
  refine lv_aload_n hx hb dX10_separate_0 rfl (lv_at hl 0 rfl) ?_
  refine am_getR X hh 0 11 1 12 (by decide) rfl rfl (by decide) hwRX10 (show Cond.fieldLink RX10 16 "PlanetWorkshop" "before" "LPlanetWorkshop$State;" ∈ wsX10_separate by decide +kernel) rfl dX10_separate_1 ?_
  refine lv_aload_n hx hb dX10_separate_4 rfl (lv_at hl 0 rfl) ?_
  refine am_getR X hh 0 11 0 1 (by decide) rfl rfl (by decide) hwRX10 (show Cond.fieldLink RX10 12 "PlanetWorkshop" "now" "LPlanetWorkshop$State;" ∈ wsX10_separate by decide +kernel) rfl dX10_separate_5 ?_
  obtain ⟨w3, hk1, hF⟩ := am_bind hF
  refine am_call X hh (va_runV (As := [.ref (gAd G 1)]) (rest := []) X.1 (c_X7_copyFrom l G st_12 st_1 hk1) (cwV 1 hts gX10_separate_X7_copyFrom rfl rfl rfl (by decide +kernel) ⟨Nat.le_of_ble_eq_true rfl, Nat.le_of_ble_eq_true rfl⟩) (am_preV X hh 12 9 (by decide) rfl rfl) rfl rfl hl.1 rfl (lv_room (Nat.le_of_ble_eq_true rfl)) dX10_separate_8 ⟨Nat.le_of_ble_eq_true rfl, Nat.le_of_ble_eq_true rfl⟩) (fun ab H locs hh => ?_)
  refine lv_aload_n hx hb dX10_separate_11 rfl (lv_at hl 0 rfl) ?_
  refine lv_aload_n hx hb dX10_separate_12 rfl (lv_at hl 0 rfl) ?_
  refine am_getR X hh 0 11 6 127 (by decide) rfl rfl (by decide) hwRX10 (show Cond.fieldLink RX10 45 "PlanetWorkshop" "changes" "LPlanetWorkshop$Changes;" ∈ wsX10_separate by decide +kernel) rfl dX10_separate_13 ?_
  refine lv_iload_n hx hb dX10_separate_16 rfl (lv_at hl 1 rfl) ?_
  refine lv_iload_n hx hb dX10_separate_17 rfl (lv_at hl 2 rfl) ?_
  obtain ⟨⟨r5, w6⟩, hk4, hF⟩ := am_bind hF
  have hF := am_u2 hF
  refine am_call X hh (va_runV (As := [.int x1, .int x2]) (rest := [.ref (gAd G 0)]) X.1 (c_X1_cut l G hk4) (cwV 2 hts gX10_separate_X1_cut rfl rfl rfl (by decide +kernel) ⟨Nat.le_of_ble_eq_true rfl, Nat.le_of_ble_eq_true rfl⟩) (am_preV X hh 127 4 (by decide) rfl rfl) rfl rfl hl.1 rfl (lv_room (Nat.le_of_ble_eq_true rfl)) dX10_separate_18 ⟨Nat.le_of_ble_eq_true rfl, Nat.le_of_ble_eq_true rfl⟩) (fun ab H locs hh => ?_)
  obtain ⟨⟨z11, w10⟩, hk8, hF⟩ := am_bind hF
  have hF := am_u2 hF
  refine am_callX X hh (vx_runV (As := [.int r5]) (rest := []) X.1 (c_X10_settle l G hst hk8) (cwV 1 hts gX10_separate_X10_settle rfl rfl rfl (by decide +kernel) ⟨Nat.le_of_ble_eq_true rfl, Nat.le_of_ble_eq_true rfl⟩) (am_preV X hh 0 11 (by decide) rfl rfl) rfl rfl hl.1 rfl (lv_room (Nat.le_of_ble_eq_true rfl)) dX10_separate_21 ⟨Nat.le_of_ble_eq_true rfl, Nat.le_of_ble_eq_true rfl⟩) (fun k ab H locs ce q hz hh hce hcv hcl => ?_) (fun r9 ab H locs hz hh => ?_)
  · subst hz
    have hF := am_zl hF
    exact am_out X htb hh (am_zw hF).1 (am_zw hF).2 hce hcv hcl (Nat.le_of_ble_eq_true rfl) (Nat.le_of_ble_eq_true rfl)
  · subst hz
    have hF := am_zr hF
    exact vx_ret (am_iret X hr hh (fun t ht => am_qwX (mk := oI) hF ht) (Nat.le_of_ble_eq_true rfl) (Nat.le_of_ble_eq_true rfl) dX10_separate_24)
set_option maxHeartbeats 4000000 in
set_option maxRecDepth 100000 in
theorem c_X10_setSpring (l : Launch) (G : GG) (hst : l.stackTraces = false) {w : Wd} {x1 : Int32} {x2 : Int32} {z0 : (Nat ⊕ Int32)} {w1 : Wd} (hF : f_X10_setSpring w x1 x2 = some (z0, w1)) : vx_Met l yX10_setSpring wsX10_setSpring ({ frames := 8, cells := 1, slots := 6, locals := 131 } : Room) (va_Pc [.ref (gAd G 0), .int x1, .int x2] (Rel G w)) (amR G oI z0 w1) (amX G z0 w1) 1 6 (gA G) := by
  refine am_metX (own := RX10) (cc := cX10_setSpring) (maxL := 3) (ret := (some .int)) (by decide +kernel) rfl rfl (Nat.le_of_ble_eq_true rfl) ?_
  intro p e s m args below meth c ab H locs ls X hr htb hh hl
  have hx := X.1.1; have hb := X.1.2.1; have hml := X.1.2.2.1; have hown := X.1.2.2.2.1; have hts := X.1.2.2.2.2
  have hl : lv_has ls 3 [(0, .ref (gAd G 0)), (1, .int x1), (2, .int x2)] := hl
  have hwRX10 : ∀ z ∈ u_ws RX10 TX10 13, z ∈ wsX10_setSpring := by decide +kernel
  unfold f_X10_setSpring at hF
  refine lv_aload_n hx hb dX10_setSpring_0 rfl (lv_at hl 0 rfl) ?_
  refine am_getR X hh 0 11 1 12 (by decide) rfl rfl (by decide) hwRX10 (show Cond.fieldLink RX10 16 "PlanetWorkshop" "before" "LPlanetWorkshop$State;" ∈ wsX10_setSpring by decide +kernel) rfl dX10_setSpring_1 ?_
  refine lv_aload_n hx hb dX10_setSpring_4 rfl (lv_at hl 0 rfl) ?_
  refine am_getR X hh 0 11 0 1 (by decide) rfl rfl (by decide) hwRX10 (show Cond.fieldLink RX10 12 "PlanetWorkshop" "now" "LPlanetWorkshop$State;" ∈ wsX10_setSpring by decide +kernel) rfl dX10_setSpring_5 ?_
  obtain ⟨w3, hk1, hF⟩ := am_bind hF
  refine am_call X hh (va_runV (As := [.ref (gAd G 1)]) (rest := []) X.1 (c_X7_copyFrom l G st_12 st_1 hk1) (cwV 1 hts gX10_setSpring_X7_copyFrom rfl rfl rfl (by decide +kernel) ⟨Nat.le_of_ble_eq_true rfl, Nat.le_of_ble_eq_true rfl⟩) (am_preV X hh 12 9 (by decide) rfl rfl) rfl rfl hl.1 rfl (lv_room (Nat.le_of_ble_eq_true rfl)) dX10_setSpring_8 ⟨Nat.le_of_ble_eq_true rfl, Nat.le_of_ble_eq_true rfl⟩) (fun ab H locs hh => ?_)
  refine lv_aload_n hx hb dX10_setSpring_11 rfl (lv_at hl 0 rfl) ?_
  refine lv_aload_n hx hb dX10_setSpring_12 rfl (lv_at hl 0 rfl) ?_
  refine am_getR X hh 0 11 6 127 (by decide) rfl rfl (by decide) hwRX10 (show Cond.fieldLink RX10 45 "PlanetWorkshop" "changes" "LPlanetWorkshop$Changes;" ∈ wsX10_setSpring by decide +kernel) rfl dX10_setSpring_13 ?_
  refine lv_iload_n hx hb dX10_setSpring_16 rfl (lv_at hl 1 rfl) ?_
  refine lv_iload_n hx hb dX10_setSpring_17 rfl (lv_at hl 2 rfl) ?_
  obtain ⟨⟨r5, w6⟩, hk4, hF⟩ := am_bind hF
  have hF := am_u2 hF
  refine am_call X hh (va_runV (As := [.int x1, .int x2]) (rest := [.ref (gAd G 0)]) X.1 (c_X1_putSpring l G hk4) (cwV 2 hts gX10_setSpring_X1_putSpring rfl rfl rfl (by decide +kernel) ⟨Nat.le_of_ble_eq_true rfl, Nat.le_of_ble_eq_true rfl⟩) (am_preV X hh 127 4 (by decide) rfl rfl) rfl rfl hl.1 rfl (lv_room (Nat.le_of_ble_eq_true rfl)) dX10_setSpring_18 ⟨Nat.le_of_ble_eq_true rfl, Nat.le_of_ble_eq_true rfl⟩) (fun ab H locs hh => ?_)
  obtain ⟨⟨z11, w10⟩, hk8, hF⟩ := am_bind hF
  have hF := am_u2 hF
  refine am_callX X hh (vx_runV (As := [.int r5]) (rest := []) X.1 (c_X10_settle l G hst hk8) (cwV 1 hts gX10_setSpring_X10_settle rfl rfl rfl (by decide +kernel) ⟨Nat.le_of_ble_eq_true rfl, Nat.le_of_ble_eq_true rfl⟩) (am_preV X hh 0 11 (by decide) rfl rfl) rfl rfl hl.1 rfl (lv_room (Nat.le_of_ble_eq_true rfl)) dX10_setSpring_21 ⟨Nat.le_of_ble_eq_true rfl, Nat.le_of_ble_eq_true rfl⟩) (fun k ab H locs ce q hz hh hce hcv hcl => ?_) (fun r9 ab H locs hz hh => ?_)
  · subst hz
    have hF := am_zl hF
    exact am_out X htb hh (am_zw hF).1 (am_zw hF).2 hce hcv hcl (Nat.le_of_ble_eq_true rfl) (Nat.le_of_ble_eq_true rfl)
  · subst hz
    have hF := am_zr hF
    exact vx_ret (am_iret X hr hh (fun t ht => am_qwX (mk := oI) hF ht) (Nat.le_of_ble_eq_true rfl) (Nat.le_of_ble_eq_true rfl) dX10_setSpring_24)
set_option maxHeartbeats 4000000 in
set_option maxRecDepth 100000 in
theorem c_X10_wind (l : Launch) (G : GG) (hst : l.stackTraces = false) {w : Wd} {x1 : Int32} {x2 : Int32} {z0 : (Nat ⊕ Int32)} {w1 : Wd} (hF : f_X10_wind w x1 x2 = some (z0, w1)) : vx_Met l yX10_wind wsX10_wind ({ frames := 8, cells := 1, slots := 6, locals := 131 } : Room) (va_Pc [.ref (gAd G 0), .int x1, .int x2] (Rel G w)) (amR G oI z0 w1) (amX G z0 w1) 1 6 (gA G) := by
  refine am_metX (own := RX10) (cc := cX10_wind) (maxL := 3) (ret := (some .int)) (by decide +kernel) rfl rfl (Nat.le_of_ble_eq_true rfl) ?_
  intro p e s m args below meth c ab H locs ls X hr htb hh hl
  have hx := X.1.1; have hb := X.1.2.1; have hml := X.1.2.2.1; have hown := X.1.2.2.2.1; have hts := X.1.2.2.2.2
  have hl : lv_has ls 3 [(0, .ref (gAd G 0)), (1, .int x1), (2, .int x2)] := hl
  have hwRX10 : ∀ z ∈ u_ws RX10 TX10 13, z ∈ wsX10_wind := by decide +kernel
  unfold f_X10_wind at hF
  refine lv_aload_n hx hb dX10_wind_0 rfl (lv_at hl 0 rfl) ?_
  refine am_getR X hh 0 11 1 12 (by decide) rfl rfl (by decide) hwRX10 (show Cond.fieldLink RX10 16 "PlanetWorkshop" "before" "LPlanetWorkshop$State;" ∈ wsX10_wind by decide +kernel) rfl dX10_wind_1 ?_
  refine lv_aload_n hx hb dX10_wind_4 rfl (lv_at hl 0 rfl) ?_
  refine am_getR X hh 0 11 0 1 (by decide) rfl rfl (by decide) hwRX10 (show Cond.fieldLink RX10 12 "PlanetWorkshop" "now" "LPlanetWorkshop$State;" ∈ wsX10_wind by decide +kernel) rfl dX10_wind_5 ?_
  obtain ⟨w3, hk1, hF⟩ := am_bind hF
  refine am_call X hh (va_runV (As := [.ref (gAd G 1)]) (rest := []) X.1 (c_X7_copyFrom l G st_12 st_1 hk1) (cwV 1 hts gX10_wind_X7_copyFrom rfl rfl rfl (by decide +kernel) ⟨Nat.le_of_ble_eq_true rfl, Nat.le_of_ble_eq_true rfl⟩) (am_preV X hh 12 9 (by decide) rfl rfl) rfl rfl hl.1 rfl (lv_room (Nat.le_of_ble_eq_true rfl)) dX10_wind_8 ⟨Nat.le_of_ble_eq_true rfl, Nat.le_of_ble_eq_true rfl⟩) (fun ab H locs hh => ?_)
  refine lv_aload_n hx hb dX10_wind_11 rfl (lv_at hl 0 rfl) ?_
  refine lv_aload_n hx hb dX10_wind_12 rfl (lv_at hl 0 rfl) ?_
  refine am_getR X hh 0 11 6 127 (by decide) rfl rfl (by decide) hwRX10 (show Cond.fieldLink RX10 45 "PlanetWorkshop" "changes" "LPlanetWorkshop$Changes;" ∈ wsX10_wind by decide +kernel) rfl dX10_wind_13 ?_
  refine lv_iload_n hx hb dX10_wind_16 rfl (lv_at hl 1 rfl) ?_
  refine lv_iload_n hx hb dX10_wind_17 rfl (lv_at hl 2 rfl) ?_
  obtain ⟨⟨r5, w6⟩, hk4, hF⟩ := am_bind hF
  have hF := am_u2 hF
  refine am_call X hh (va_runV (As := [.int x1, .int x2]) (rest := [.ref (gAd G 0)]) X.1 (c_X1_tighten l G hk4) (cwV 2 hts gX10_wind_X1_tighten rfl rfl rfl (by decide +kernel) ⟨Nat.le_of_ble_eq_true rfl, Nat.le_of_ble_eq_true rfl⟩) (am_preV X hh 127 4 (by decide) rfl rfl) rfl rfl hl.1 rfl (lv_room (Nat.le_of_ble_eq_true rfl)) dX10_wind_18 ⟨Nat.le_of_ble_eq_true rfl, Nat.le_of_ble_eq_true rfl⟩) (fun ab H locs hh => ?_)
  obtain ⟨⟨z11, w10⟩, hk8, hF⟩ := am_bind hF
  have hF := am_u2 hF
  refine am_callX X hh (vx_runV (As := [.int r5]) (rest := []) X.1 (c_X10_settle l G hst hk8) (cwV 1 hts gX10_wind_X10_settle rfl rfl rfl (by decide +kernel) ⟨Nat.le_of_ble_eq_true rfl, Nat.le_of_ble_eq_true rfl⟩) (am_preV X hh 0 11 (by decide) rfl rfl) rfl rfl hl.1 rfl (lv_room (Nat.le_of_ble_eq_true rfl)) dX10_wind_21 ⟨Nat.le_of_ble_eq_true rfl, Nat.le_of_ble_eq_true rfl⟩) (fun k ab H locs ce q hz hh hce hcv hcl => ?_) (fun r9 ab H locs hz hh => ?_)
  · subst hz
    have hF := am_zl hF
    exact am_out X htb hh (am_zw hF).1 (am_zw hF).2 hce hcv hcl (Nat.le_of_ble_eq_true rfl) (Nat.le_of_ble_eq_true rfl)
  · subst hz
    have hF := am_zr hF
    exact vx_ret (am_iret X hr hh (fun t ht => am_qwX (mk := oI) hF ht) (Nat.le_of_ble_eq_true rfl) (Nat.le_of_ble_eq_true rfl) dX10_wind_24)
set_option maxHeartbeats 4000000 in
set_option maxRecDepth 100000 in
theorem c_X10_reverse (l : Launch) (G : GG) (hst : l.stackTraces = false) {w : Wd} {x1 : Int32} {z0 : (Nat ⊕ Int32)} {w1 : Wd} (hF : f_X10_reverse w x1 = some (z0, w1)) : vx_Met l yX10_reverse wsX10_reverse ({ frames := 8, cells := 1, slots := 6, locals := 131 } : Room) (va_Pc [.ref (gAd G 0), .int x1] (Rel G w)) (amR G oI z0 w1) (amX G z0 w1) 1 6 (gA G) := by
  refine am_metX (own := RX10) (cc := cX10_reverse) (maxL := 2) (ret := (some .boolean)) (by decide +kernel) rfl rfl (Nat.le_of_ble_eq_true rfl) ?_
  intro p e s m args below meth c ab H locs ls X hr htb hh hl
  have hx := X.1.1; have hb := X.1.2.1; have hml := X.1.2.2.1; have hown := X.1.2.2.2.1; have hts := X.1.2.2.2.2
  have hl : lv_has ls 2 [(0, .ref (gAd G 0)), (1, .int x1)] := hl
  have hwRX10 : ∀ z ∈ u_ws RX10 TX10 13, z ∈ wsX10_reverse := by decide +kernel
  unfold f_X10_reverse at hF
  refine lv_aload_n hx hb dX10_reverse_0 rfl (lv_at hl 0 rfl) ?_
  refine am_getR X hh 0 11 1 12 (by decide) rfl rfl (by decide) hwRX10 (show Cond.fieldLink RX10 16 "PlanetWorkshop" "before" "LPlanetWorkshop$State;" ∈ wsX10_reverse by decide +kernel) rfl dX10_reverse_1 ?_
  refine lv_aload_n hx hb dX10_reverse_4 rfl (lv_at hl 0 rfl) ?_
  refine am_getR X hh 0 11 0 1 (by decide) rfl rfl (by decide) hwRX10 (show Cond.fieldLink RX10 12 "PlanetWorkshop" "now" "LPlanetWorkshop$State;" ∈ wsX10_reverse by decide +kernel) rfl dX10_reverse_5 ?_
  obtain ⟨w3, hk1, hF⟩ := am_bind hF
  refine am_call X hh (va_runV (As := [.ref (gAd G 1)]) (rest := []) X.1 (c_X7_copyFrom l G st_12 st_1 hk1) (cwV 1 hts gX10_reverse_X7_copyFrom rfl rfl rfl (by decide +kernel) ⟨Nat.le_of_ble_eq_true rfl, Nat.le_of_ble_eq_true rfl⟩) (am_preV X hh 12 9 (by decide) rfl rfl) rfl rfl hl.1 rfl (lv_room (Nat.le_of_ble_eq_true rfl)) dX10_reverse_8 ⟨Nat.le_of_ble_eq_true rfl, Nat.le_of_ble_eq_true rfl⟩) (fun ab H locs hh => ?_)
  refine lv_aload_n hx hb dX10_reverse_11 rfl (lv_at hl 0 rfl) ?_
  refine lv_aload_n hx hb dX10_reverse_12 rfl (lv_at hl 0 rfl) ?_
  refine am_getR X hh 0 11 6 127 (by decide) rfl rfl (by decide) hwRX10 (show Cond.fieldLink RX10 45 "PlanetWorkshop" "changes" "LPlanetWorkshop$Changes;" ∈ wsX10_reverse by decide +kernel) rfl dX10_reverse_13 ?_
  refine lv_iload_n hx hb dX10_reverse_16 rfl (lv_at hl 1 rfl) ?_
  obtain ⟨⟨r5, w6⟩, hk4, hF⟩ := am_bind hF
  have hF := am_u2 hF
  refine am_call X hh (va_runV (As := [.int x1]) (rest := [.ref (gAd G 0)]) X.1 (c_X1_turnRound l G hk4) (cwV 1 hts gX10_reverse_X1_turnRound rfl rfl rfl (by decide +kernel) ⟨Nat.le_of_ble_eq_true rfl, Nat.le_of_ble_eq_true rfl⟩) (am_preV X hh 127 4 (by decide) rfl rfl) rfl rfl hl.1 rfl (lv_room (Nat.le_of_ble_eq_true rfl)) dX10_reverse_17 ⟨Nat.le_of_ble_eq_true rfl, Nat.le_of_ble_eq_true rfl⟩) (fun ab H locs hh => ?_)
  obtain ⟨⟨z11, w10⟩, hk8, hF⟩ := am_bind hF
  have hF := am_u2 hF
  refine am_callX X hh (vx_runV (As := [.int r5]) (rest := []) X.1 (c_X10_settle l G hst hk8) (cwV 1 hts gX10_reverse_X10_settle rfl rfl rfl (by decide +kernel) ⟨Nat.le_of_ble_eq_true rfl, Nat.le_of_ble_eq_true rfl⟩) (am_preV X hh 0 11 (by decide) rfl rfl) rfl rfl hl.1 rfl (lv_room (Nat.le_of_ble_eq_true rfl)) dX10_reverse_20 ⟨Nat.le_of_ble_eq_true rfl, Nat.le_of_ble_eq_true rfl⟩) (fun k ab H locs ce q hz hh hce hcv hcl => ?_) (fun r9 ab H locs hz hh => ?_)
  · subst hz
    have hF := am_zl hF
    exact am_out X htb hh (am_zw hF).1 (am_zw hF).2 hce hcv hcl (Nat.le_of_ble_eq_true rfl) (Nat.le_of_ble_eq_true rfl)
  · subst hz
    have hF := am_zr hF
    refine lv_iconst (v := (1 : Int32)) hx hb dX10_reverse_23 (by decide) ?_
    refine lv_icmp_ne (tgt := 31) hx hb dX10_reverse_24 (by decide) (fun hc12 => ?_) (fun hc12 => ?_)
    · have hF := am_neg hc12 hF
      refine lv_iconst (v := (0 : Int32)) hx hb dX10_reverse_31 (by decide) ?_
      exact vx_ret (am_zret (v' := (0 : Int32)) X hr rfl hh (fun t ht => am_qwX (mk := oI) hF ht) (Nat.le_of_ble_eq_true rfl) (Nat.le_of_ble_eq_true rfl) dX10_reverse_32)
    · have hF := am_pos hc12 hF
      refine lv_iconst (v := (1 : Int32)) hx hb dX10_reverse_27 (by decide) ?_
      refine lv_goto (tgt := 32) hx hb dX10_reverse_28 (by decide) ?_
      exact vx_ret (am_zret (v' := (1 : Int32)) X hr rfl hh (fun t ht => am_qwX (mk := oI) hF ht) (Nat.le_of_ble_eq_true rfl) (Nat.le_of_ble_eq_true rfl) dX10_reverse_32)
set_option maxHeartbeats 4000000 in
set_option maxRecDepth 100000 in
theorem c_X10_setRatchet (l : Launch) (G : GG) (hst : l.stackTraces = false) {w : Wd} {x1 : Int32} {x2 : Int32} {z0 : (Nat ⊕ Int32)} {w1 : Wd} (hF : f_X10_setRatchet w x1 x2 = some (z0, w1)) : vx_Met l yX10_setRatchet wsX10_setRatchet ({ frames := 8, cells := 1, slots := 6, locals := 131 } : Room) (va_Pc [.ref (gAd G 0), .int x1, .int x2] (Rel G w)) (amR G oI z0 w1) (amX G z0 w1) 1 6 (gA G) := by
  refine am_metX (own := RX10) (cc := cX10_setRatchet) (maxL := 3) (ret := (some .boolean)) (by decide +kernel) rfl rfl (Nat.le_of_ble_eq_true rfl) ?_
  intro p e s m args below meth c ab H locs ls X hr htb hh hl
  have hx := X.1.1; have hb := X.1.2.1; have hml := X.1.2.2.1; have hown := X.1.2.2.2.1; have hts := X.1.2.2.2.2
  have hl : lv_has ls 3 [(0, .ref (gAd G 0)), (1, .int x1), (2, .int x2)] := hl
  have hwRX10 : ∀ z ∈ u_ws RX10 TX10 13, z ∈ wsX10_setRatchet := by decide +kernel
  unfold f_X10_setRatchet at hF
  refine lv_aload_n hx hb dX10_setRatchet_0 rfl (lv_at hl 0 rfl) ?_
  refine am_getR X hh 0 11 1 12 (by decide) rfl rfl (by decide) hwRX10 (show Cond.fieldLink RX10 16 "PlanetWorkshop" "before" "LPlanetWorkshop$State;" ∈ wsX10_setRatchet by decide +kernel) rfl dX10_setRatchet_1 ?_
  refine lv_aload_n hx hb dX10_setRatchet_4 rfl (lv_at hl 0 rfl) ?_
  refine am_getR X hh 0 11 0 1 (by decide) rfl rfl (by decide) hwRX10 (show Cond.fieldLink RX10 12 "PlanetWorkshop" "now" "LPlanetWorkshop$State;" ∈ wsX10_setRatchet by decide +kernel) rfl dX10_setRatchet_5 ?_
  obtain ⟨w3, hk1, hF⟩ := am_bind hF
  refine am_call X hh (va_runV (As := [.ref (gAd G 1)]) (rest := []) X.1 (c_X7_copyFrom l G st_12 st_1 hk1) (cwV 1 hts gX10_setRatchet_X7_copyFrom rfl rfl rfl (by decide +kernel) ⟨Nat.le_of_ble_eq_true rfl, Nat.le_of_ble_eq_true rfl⟩) (am_preV X hh 12 9 (by decide) rfl rfl) rfl rfl hl.1 rfl (lv_room (Nat.le_of_ble_eq_true rfl)) dX10_setRatchet_8 ⟨Nat.le_of_ble_eq_true rfl, Nat.le_of_ble_eq_true rfl⟩) (fun ab H locs hh => ?_)
  refine lv_aload_n hx hb dX10_setRatchet_11 rfl (lv_at hl 0 rfl) ?_
  refine lv_aload_n hx hb dX10_setRatchet_12 rfl (lv_at hl 0 rfl) ?_
  refine am_getR X hh 0 11 6 127 (by decide) rfl rfl (by decide) hwRX10 (show Cond.fieldLink RX10 45 "PlanetWorkshop" "changes" "LPlanetWorkshop$Changes;" ∈ wsX10_setRatchet by decide +kernel) rfl dX10_setRatchet_13 ?_
  refine lv_iload_n hx hb dX10_setRatchet_16 rfl (lv_at hl 1 rfl) ?_
  refine lv_iload_n hx hb dX10_setRatchet_17 rfl (lv_at hl 2 rfl) ?_
  obtain ⟨⟨r5, w6⟩, hk4, hF⟩ := am_bind hF
  have hF := am_u2 hF
  refine am_call X hh (va_runV (As := [.int x1, .int x2]) (rest := [.ref (gAd G 0)]) X.1 (c_X1_putRatchet l G hk4) (cwV 2 hts gX10_setRatchet_X1_putRatchet rfl rfl rfl (by decide +kernel) ⟨Nat.le_of_ble_eq_true rfl, Nat.le_of_ble_eq_true rfl⟩) (am_preV X hh 127 4 (by decide) rfl rfl) rfl rfl hl.1 rfl (lv_room (Nat.le_of_ble_eq_true rfl)) dX10_setRatchet_18 ⟨Nat.le_of_ble_eq_true rfl, Nat.le_of_ble_eq_true rfl⟩) (fun ab H locs hh => ?_)
  obtain ⟨⟨z11, w10⟩, hk8, hF⟩ := am_bind hF
  have hF := am_u2 hF
  refine am_callX X hh (vx_runV (As := [.int r5]) (rest := []) X.1 (c_X10_settle l G hst hk8) (cwV 1 hts gX10_setRatchet_X10_settle rfl rfl rfl (by decide +kernel) ⟨Nat.le_of_ble_eq_true rfl, Nat.le_of_ble_eq_true rfl⟩) (am_preV X hh 0 11 (by decide) rfl rfl) rfl rfl hl.1 rfl (lv_room (Nat.le_of_ble_eq_true rfl)) dX10_setRatchet_21 ⟨Nat.le_of_ble_eq_true rfl, Nat.le_of_ble_eq_true rfl⟩) (fun k ab H locs ce q hz hh hce hcv hcl => ?_) (fun r9 ab H locs hz hh => ?_)
  · subst hz
    have hF := am_zl hF
    exact am_out X htb hh (am_zw hF).1 (am_zw hF).2 hce hcv hcl (Nat.le_of_ble_eq_true rfl) (Nat.le_of_ble_eq_true rfl)
  · subst hz
    have hF := am_zr hF
    refine lv_iconst (v := (1 : Int32)) hx hb dX10_setRatchet_24 (by decide) ?_
    refine lv_icmp_ne (tgt := 32) hx hb dX10_setRatchet_25 (by decide) (fun hc12 => ?_) (fun hc12 => ?_)
    · have hF := am_neg hc12 hF
      refine lv_iconst (v := (0 : Int32)) hx hb dX10_setRatchet_32 (by decide) ?_
      exact vx_ret (am_zret (v' := (0 : Int32)) X hr rfl hh (fun t ht => am_qwX (mk := oI) hF ht) (Nat.le_of_ble_eq_true rfl) (Nat.le_of_ble_eq_true rfl) dX10_setRatchet_33)
    · have hF := am_pos hc12 hF
      refine lv_iconst (v := (1 : Int32)) hx hb dX10_setRatchet_28 (by decide) ?_
      refine lv_goto (tgt := 33) hx hb dX10_setRatchet_29 (by decide) ?_
      exact vx_ret (am_zret (v' := (1 : Int32)) X hr rfl hh (fun t ht => am_qwX (mk := oI) hF ht) (Nat.le_of_ble_eq_true rfl) (Nat.le_of_ble_eq_true rfl) dX10_setRatchet_33)
set_option maxHeartbeats 4000000 in
set_option maxRecDepth 100000 in
theorem c_X10_oil (l : Launch) (G : GG) (hst : l.stackTraces = false) {w : Wd} {x1 : Int32} {z0 : (Nat ⊕ Int32)} {w1 : Wd} (hF : f_X10_oil w x1 = some (z0, w1)) : vx_Met l yX10_oil wsX10_oil ({ frames := 8, cells := 1, slots := 6, locals := 131 } : Room) (va_Pc [.ref (gAd G 0), .int x1] (Rel G w)) (amR G oI z0 w1) (amX G z0 w1) 1 6 (gA G) := by
  refine am_metX (own := RX10) (cc := cX10_oil) (maxL := 2) (ret := (some .int)) (by decide +kernel) rfl rfl (Nat.le_of_ble_eq_true rfl) ?_
  intro p e s m args below meth c ab H locs ls X hr htb hh hl
  have hx := X.1.1; have hb := X.1.2.1; have hml := X.1.2.2.1; have hown := X.1.2.2.2.1; have hts := X.1.2.2.2.2
  have hl : lv_has ls 2 [(0, .ref (gAd G 0)), (1, .int x1)] := hl
  have hwRX10 : ∀ z ∈ u_ws RX10 TX10 13, z ∈ wsX10_oil := by decide +kernel
  unfold f_X10_oil at hF
  refine lv_aload_n hx hb dX10_oil_0 rfl (lv_at hl 0 rfl) ?_
  refine am_getR X hh 0 11 1 12 (by decide) rfl rfl (by decide) hwRX10 (show Cond.fieldLink RX10 16 "PlanetWorkshop" "before" "LPlanetWorkshop$State;" ∈ wsX10_oil by decide +kernel) rfl dX10_oil_1 ?_
  refine lv_aload_n hx hb dX10_oil_4 rfl (lv_at hl 0 rfl) ?_
  refine am_getR X hh 0 11 0 1 (by decide) rfl rfl (by decide) hwRX10 (show Cond.fieldLink RX10 12 "PlanetWorkshop" "now" "LPlanetWorkshop$State;" ∈ wsX10_oil by decide +kernel) rfl dX10_oil_5 ?_
  obtain ⟨w3, hk1, hF⟩ := am_bind hF
  refine am_call X hh (va_runV (As := [.ref (gAd G 1)]) (rest := []) X.1 (c_X7_copyFrom l G st_12 st_1 hk1) (cwV 1 hts gX10_oil_X7_copyFrom rfl rfl rfl (by decide +kernel) ⟨Nat.le_of_ble_eq_true rfl, Nat.le_of_ble_eq_true rfl⟩) (am_preV X hh 12 9 (by decide) rfl rfl) rfl rfl hl.1 rfl (lv_room (Nat.le_of_ble_eq_true rfl)) dX10_oil_8 ⟨Nat.le_of_ble_eq_true rfl, Nat.le_of_ble_eq_true rfl⟩) (fun ab H locs hh => ?_)
  refine lv_aload_n hx hb dX10_oil_11 rfl (lv_at hl 0 rfl) ?_
  refine lv_aload_n hx hb dX10_oil_12 rfl (lv_at hl 0 rfl) ?_
  refine am_getR X hh 0 11 6 127 (by decide) rfl rfl (by decide) hwRX10 (show Cond.fieldLink RX10 45 "PlanetWorkshop" "changes" "LPlanetWorkshop$Changes;" ∈ wsX10_oil by decide +kernel) rfl dX10_oil_13 ?_
  refine lv_iload_n hx hb dX10_oil_16 rfl (lv_at hl 1 rfl) ?_
  obtain ⟨⟨r5, w6⟩, hk4, hF⟩ := am_bind hF
  have hF := am_u2 hF
  refine am_call X hh (va_runV (As := [.int x1]) (rest := [.ref (gAd G 0)]) X.1 (c_X1_putOil l G hk4) (cwV 1 hts gX10_oil_X1_putOil rfl rfl rfl (by decide +kernel) ⟨Nat.le_of_ble_eq_true rfl, Nat.le_of_ble_eq_true rfl⟩) (am_preV X hh 127 4 (by decide) rfl rfl) rfl rfl hl.1 rfl (lv_room (Nat.le_of_ble_eq_true rfl)) dX10_oil_17 ⟨Nat.le_of_ble_eq_true rfl, Nat.le_of_ble_eq_true rfl⟩) (fun ab H locs hh => ?_)
  obtain ⟨⟨z11, w10⟩, hk8, hF⟩ := am_bind hF
  have hF := am_u2 hF
  refine am_callX X hh (vx_runV (As := [.int r5]) (rest := []) X.1 (c_X10_settle l G hst hk8) (cwV 1 hts gX10_oil_X10_settle rfl rfl rfl (by decide +kernel) ⟨Nat.le_of_ble_eq_true rfl, Nat.le_of_ble_eq_true rfl⟩) (am_preV X hh 0 11 (by decide) rfl rfl) rfl rfl hl.1 rfl (lv_room (Nat.le_of_ble_eq_true rfl)) dX10_oil_20 ⟨Nat.le_of_ble_eq_true rfl, Nat.le_of_ble_eq_true rfl⟩) (fun k ab H locs ce q hz hh hce hcv hcl => ?_) (fun r9 ab H locs hz hh => ?_)
  · subst hz
    have hF := am_zl hF
    exact am_out X htb hh (am_zw hF).1 (am_zw hF).2 hce hcv hcl (Nat.le_of_ble_eq_true rfl) (Nat.le_of_ble_eq_true rfl)
  · subst hz
    have hF := am_zr hF
    exact vx_ret (am_iret X hr hh (fun t ht => am_qwX (mk := oI) hF ht) (Nat.le_of_ble_eq_true rfl) (Nat.le_of_ble_eq_true rfl) dX10_oil_23)
