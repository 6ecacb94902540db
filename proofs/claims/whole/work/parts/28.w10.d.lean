set_option maxHeartbeats 4000000 in
set_option maxRecDepth 100000 in
theorem c_X10_unitsAgree (l : Launch) (G : GG) {w : Wd} {r0 : Int32} {w1 : Wd} (hF : f_X10_unitsAgree w = some (r0, w1)) : Met l yX10_unitsAgree wsX10_unitsAgree ({ frames := 5, cells := 0, slots := 0, locals := 131 } : Room) (va_Pc [.ref (gAd G 0)] (Rel G w)) (amQ G (oI r0) w1) 0 0 (gA G) := by
  refine am_met (own := RX10) (cc := cX10_unitsAgree) (maxL := 5) (ret := (some .boolean)) (by decide +kernel) rfl rfl (Nat.le_of_ble_eq_true rfl) ?_
  intro p e s m args below meth c ab H locs ls X hr hh hl
  have hx := X.1.1; have hb := X.1.2.1; have hml := X.1.2.2.1; have hown := X.1.2.2.2.1; have hts := X.1.2.2.2.2
  have hl : lv_has ls 5 [(0, .ref (gAd G 0))] := hl
  have hwRX10 : ∀ z ∈ u_ws RX10 TX10 13, z ∈ wsX10_unitsAgree := by decide +kernel
  have hwRX7 : ∀ z ∈ u_ws RX7 TX7 17, z ∈ wsX10_unitsAgree := by decide +kernel
  unfold f_X10_unitsAgree at hF
  refine lv_iconst (v := (0 : Int32)) hx hb dX10_unitsAgree_0 (by decide) ?_
  refine lv_istore_n (lv' := [(1, .int (0 : Int32)), (0, .ref (gAd G 0))]) hx hb dX10_unitsAgree_1 rfl hl (by decide) rfl (fun ls hl => ?_)
  have hlp2 : ∀ (n : Nat) (y1 : Int32) (w2 : Wd) (ab : Nat) (H : Heap) (locs : List Loc) (ls : Array Slot) (z : (Int32 × Wd) ⊕ (Int32 × Wd)), p_X10_unitsAgree_2 n y1 w2 = some z → AH G s.heap w2 ab H locs → lv_has ls 5 [(1, .int y1), (0, .ref (gAd G 0))] → (∀ (y1 : Int32) (w2 : Wd) (ab : Nat) (H : Heap) (locs : List Loc) (ls : Array Slot), z = .inl (y1, w2) → AH G s.heap w2 ab H locs → lv_has ls 5 [(1, .int y1), (0, .ref (gAd G 0))] → W p l e ({ frames := 5, cells := 0, slots := 0, locals := 131 } : Room) s m args below meth c H locs 0 0 (MQ below (amQ G (oI r0) w1) args s 0 0 (gA G)) (F0 m 64 ls [])) → (∀ r, z = .inr r → some r = some (r0, w1)) → W p l e ({ frames := 5, cells := 0, slots := 0, locals := 131 } : Room) s m args below meth c H locs 0 0 (MQ below (amQ G (oI r0) w1) args s 0 0 (gA G)) (F0 m 2 ls []) := by
    intro n
    induction n with
    | zero =>
      intro y1 w2 ab H locs ls z hF
      unfold p_X10_unitsAgree_2 at hF
      cases hF
    | succ n ih =>
      intro y1 w2 ab H locs ls z hF hh hl kE kR
      unfold p_X10_unitsAgree_2 at hF
      refine lv_iload_n hx hb dX10_unitsAgree_2 rfl (lv_at hl 0 rfl) ?_
      refine lv_aload_n hx hb dX10_unitsAgree_3 rfl (lv_at hl 1 rfl) ?_
      refine am_getR X hh 0 11 0 1 (by decide) rfl rfl (by decide) hwRX10 (show Cond.fieldLink RX10 12 "PlanetWorkshop" "now" "LPlanetWorkshop$State;" ∈ wsX10_unitsAgree by decide +kernel) rfl dX10_unitsAgree_4 ?_
      refine am_getI X hh 1 9 10 (by decide) rfl rfl (by decide) hwRX7 (show Cond.fieldLink RX10 129 "PlanetWorkshop$State" "gears" "I" ∈ wsX10_unitsAgree by decide +kernel) rfl dX10_unitsAgree_7 ?_
      refine lv_icmp_ge (tgt := 64) hx hb dX10_unitsAgree_10 (by decide) (fun hc4 => ?_) (fun hc4 => ?_)
      · have hF := am_pos hc4 hF
        exact kE y1 w2 ab H locs ls (Option.some.inj hF).symm hh (lv_sub hl [0, 1] rfl)
      · have hF := am_neg hc4 hF
        refine lv_iconst (v := (0 : Int32)) hx hb dX10_unitsAgree_13 (by decide) ?_
        refine lv_istore_n (lv' := [(2, .int (0 : Int32)), (1, .int y1), (0, .ref (gAd G 0))]) hx hb dX10_unitsAgree_14 rfl hl (by decide) rfl (fun ls hl => ?_)
        have hlp15 : ∀ (n : Nat) (y5 : Int32) (w6 : Wd) (ab : Nat) (H : Heap) (locs : List Loc) (ls : Array Slot) (z : (Int32 × Wd) ⊕ (Int32 × Wd)), p_X10_unitsAgree_15 y1 n y5 w6 = some z → AH G s.heap w6 ab H locs → lv_has ls 5 [(2, .int y5), (1, .int y1), (0, .ref (gAd G 0))] → (∀ (y5 : Int32) (w6 : Wd) (ab : Nat) (H : Heap) (locs : List Loc) (ls : Array Slot), z = .inl (y5, w6) → AH G s.heap w6 ab H locs → lv_has ls 5 [(2, .int y5), (1, .int y1), (0, .ref (gAd G 0))] → W p l e ({ frames := 5, cells := 0, slots := 0, locals := 131 } : Room) s m args below meth c H locs 0 0 (MQ below (amQ G (oI r0) w1) args s 0 0 (gA G)) (F0 m 58 ls [])) → (∀ r, z = .inr r → some r = some (r0, w1)) → W p l e ({ frames := 5, cells := 0, slots := 0, locals := 131 } : Room) s m args below meth c H locs 0 0 (MQ below (amQ G (oI r0) w1) args s 0 0 (gA G)) (F0 m 15 ls []) := by
          intro n
          induction n with
          | zero =>
            intro y5 w6 ab H locs ls z hF
            unfold p_X10_unitsAgree_15 at hF
            cases hF
          | succ n ih =>
            intro y5 w6 ab H locs ls z hF hh hl kE kR
            unfold p_X10_unitsAgree_15 at hF
            refine lv_iload_n hx hb dX10_unitsAgree_15 rfl (lv_at hl 0 rfl) ?_
            refine lv_aload_n hx hb dX10_unitsAgree_16 rfl (lv_at hl 2 rfl) ?_
            refine am_getR X hh 0 11 0 1 (by decide) rfl rfl (by decide) hwRX10 (show Cond.fieldLink RX10 12 "PlanetWorkshop" "now" "LPlanetWorkshop$State;" ∈ wsX10_unitsAgree by decide +kernel) rfl dX10_unitsAgree_17 ?_
            refine am_getI X hh 1 9 10 (by decide) rfl rfl (by decide) hwRX7 (show Cond.fieldLink RX10 129 "PlanetWorkshop$State" "gears" "I" ∈ wsX10_unitsAgree by decide +kernel) rfl dX10_unitsAgree_20 ?_
            refine lv_icmp_ge (tgt := 58) hx hb dX10_unitsAgree_23 (by decide) (fun hc8 => ?_) (fun hc8 => ?_)
            · have hF := am_pos hc8 hF
              exact kE y5 w6 ab H locs ls (Option.some.inj hF).symm hh (lv_sub hl [0, 1, 2] rfl)
            · have hF := am_neg hc8 hF
              refine lv_aload_n hx hb dX10_unitsAgree_26 rfl (lv_at hl 2 rfl) ?_
              refine lv_iload_n hx hb dX10_unitsAgree_27 rfl (lv_at hl 1 rfl) ?_
              refine lv_iload_n hx hb dX10_unitsAgree_28 rfl (lv_at hl 0 rfl) ?_
              obtain ⟨⟨r10, w11⟩, hk9, hF⟩ := am_bind hF
              have hF := am_u2 hF
              refine am_call X hh (va_runV (As := [.int y1, .int y5]) (rest := []) X.1 (c_X10_unitsByChain l G hk9) (cwV 2 hts gX10_unitsAgree_X10_unitsByChain rfl rfl rfl (by decide +kernel) ⟨Nat.le_of_ble_eq_true rfl, Nat.le_of_ble_eq_true rfl⟩) (am_preV X hh 0 11 (by decide) rfl rfl) rfl rfl hl.1 rfl (lv_room (Nat.le_of_ble_eq_true rfl)) dX10_unitsAgree_29 ⟨Nat.le_of_ble_eq_true rfl, Nat.le_of_ble_eq_true rfl⟩) (fun ab H locs hh => ?_)
              refine lv_lstore_n (lv' := [(3, .long r10), (2, .int y5), (1, .int y1), (0, .ref (gAd G 0))]) hx hb dX10_unitsAgree_32 rfl hl (by decide) rfl (fun ls hl => ?_)
              refine lv_lload_n hx hb dX10_unitsAgree_33 rfl (lv_at hl 0 rfl) ?_
              refine lv_lconst (v := (0 : Int64)) hx hb dX10_unitsAgree_34 (by decide) ?_
              refine am_lcmp_eq (tgt := 52) hx hb dX10_unitsAgree_35 dX10_unitsAgree_36 (by decide) (fun hc13 => ?_) (fun hc13 => ?_)
              · have hF := am_pos hc13 hF
                refine lv_iinc (v := (y5 + (1 : Int32))) (lv' := [(2, .int (y5 + (1 : Int32))), (3, .long r10), (1, .int y1), (0, .ref (gAd G 0))]) hx hb dX10_unitsAgree_52 hl (k := 1) rfl rfl (by decide) rfl (fun ls hl => ?_)
                refine lv_goto (tgt := 15) hx hb dX10_unitsAgree_55 (by decide) ?_
                exact ih (y5 + (1 : Int32)) w11 ab H locs ls _ hF hh (lv_sub hl [0, 2, 3] rfl) kE kR
              · have hF := am_neg hc13 hF
                refine lv_lload_n hx hb dX10_unitsAgree_39 rfl (lv_at hl 0 rfl) ?_
                refine lv_aload_n hx hb dX10_unitsAgree_40 rfl (lv_at hl 3 rfl) ?_
                refine lv_iload_n hx hb dX10_unitsAgree_41 rfl (lv_at hl 2 rfl) ?_
                refine lv_iload_n hx hb dX10_unitsAgree_42 rfl (lv_at hl 1 rfl) ?_
                obtain ⟨⟨r15, w16⟩, hk14, hF⟩ := am_bind hF
                have hF := am_u2 hF
                refine am_call X hh (va_runV (As := [.int y1, .int y5]) (rest := [.long r10]) X.1 (c_X10_unitsByLowest l G hk14) (cwV 2 hts gX10_unitsAgree_X10_unitsByLowest rfl rfl rfl (by decide +kernel) ⟨Nat.le_of_ble_eq_true rfl, Nat.le_of_ble_eq_true rfl⟩) (am_preV X hh 0 11 (by decide) rfl rfl) rfl rfl hl.1 rfl (lv_room (Nat.le_of_ble_eq_true rfl)) dX10_unitsAgree_43 ⟨Nat.le_of_ble_eq_true rfl, Nat.le_of_ble_eq_true rfl⟩) (fun ab H locs hh => ?_)
                refine am_lcmp_eq (tgt := 52) hx hb dX10_unitsAgree_46 dX10_unitsAgree_47 (by decide) (fun hc18 => ?_) (fun hc18 => ?_)
                · have hF := am_pos hc18 hF
                  refine lv_iinc (v := (y5 + (1 : Int32))) (lv' := [(2, .int (y5 + (1 : Int32))), (3, .long r10), (1, .int y1), (0, .ref (gAd G 0))]) hx hb dX10_unitsAgree_52 hl (k := 1) rfl rfl (by decide) rfl (fun ls hl => ?_)
                  refine lv_goto (tgt := 15) hx hb dX10_unitsAgree_55 (by decide) ?_
                  exact ih (y5 + (1 : Int32)) w16 ab H locs ls _ hF hh (lv_sub hl [0, 2, 3] rfl) kE kR
                · have hF := am_neg hc18 hF
                  refine lv_iconst (v := (0 : Int32)) hx hb dX10_unitsAgree_50 (by decide) ?_
                  have hF := kR _ (Option.some.inj hF).symm
                  exact am_zret (v' := (0 : Int32)) X hr rfl hh (fun t ht => am_qw (mk := oI) hF ht) (Nat.le_of_ble_eq_true rfl) (Nat.le_of_ble_eq_true rfl) dX10_unitsAgree_51
        obtain ⟨z19, hz20, hF⟩ := am_bind hF
        refine hlp15 2000 (0 : Int32) w2 ab H locs ls z19 hz20 hh (lv_sub hl [0, 1, 2] rfl) (fun y5 w6 ab H locs ls hz hh hl => ?_) (fun r hz => ?_)
        · subst hz
          have hF := am_zl hF
          have hF := am_u2 hF
          refine lv_iinc (v := (y1 + (1 : Int32))) (lv' := [(1, .int (y1 + (1 : Int32))), (2, .int y5), (0, .ref (gAd G 0))]) hx hb dX10_unitsAgree_58 hl (k := 1) rfl rfl (by decide) rfl (fun ls hl => ?_)
          refine lv_goto (tgt := 2) hx hb dX10_unitsAgree_61 (by decide) ?_
          exact ih (y1 + (1 : Int32)) w6 ab H locs ls _ hF hh (lv_sub hl [0, 2] rfl) kE kR
        · subst hz
          have hF := am_zr hF
          exact kR _ (Option.some.inj hF).symm
  obtain ⟨z21, hz22, hF⟩ := am_bind hF
  refine hlp2 2000 (0 : Int32) w ab H locs ls z21 hz22 hh (lv_sub hl [0, 1] rfl) (fun y1 w2 ab H locs ls hz hh hl => ?_) (fun r hz => ?_)
  · subst hz
    have hF := am_zl hF
    have hF := am_u2 hF
    refine lv_iconst (v := (1 : Int32)) hx hb dX10_unitsAgree_64 (by decide) ?_
    exact am_zret (v' := (1 : Int32)) X hr rfl hh (fun t ht => am_qw (mk := oI) hF ht) (Nat.le_of_ble_eq_true rfl) (Nat.le_of_ble_eq_true rfl) dX10_unitsAgree_65
  · subst hz
    have hF := am_zr hF
    exact hF
set_option maxHeartbeats 4000000 in
set_option maxRecDepth 100000 in
theorem c_X10_addGear (l : Launch) (G : GG) (hst : l.stackTraces = false) {w : Wd} {x1 : Int32} {z0 : (Nat ⊕ Int32)} {w1 : Wd} (hF : f_X10_addGear w x1 = some (z0, w1)) : vx_Met l yX10_addGear wsX10_addGear ({ frames := 8, cells := 1, slots := 6, locals := 131 } : Room) (va_Pc [.ref (gAd G 0), .int x1] (Rel G w)) (amR G oI z0 w1) (amX G z0 w1) 1 6 (gA G) := by
  refine am_metX (own := RX10) (cc := cX10_addGear) (maxL := 2) (ret := (some .int)) (by decide +kernel) rfl rfl (Nat.le_of_ble_eq_true rfl) ?_
  intro p e s m args below meth c ab H locs ls X hr htb hh hl
  have hx := X.1.1; have hb := X.1.2.1; have hml := X.1.2.2.1; have hown := X.1.2.2.2.1; have hts := X.1.2.2.2.2
  have hl : lv_has ls 2 [(0, .ref (gAd G 0)), (1, .int x1)] := hl
  have hwRX10 : ∀ z ∈ u_ws RX10 TX10 13, z ∈ wsX10_addGear := by decide +kernel
  unfold f_X10_addGear at hF
  refine lv_aload_n hx hb dX10_addGear_0 rfl (lv_at hl 0 rfl) ?_
  refine am_getR X hh 0 11 1 12 (by decide) rfl rfl (by decide) hwRX10 (show Cond.fieldLink RX10 16 "PlanetWorkshop" "before" "LPlanetWorkshop$State;" ∈ wsX10_addGear by decide +kernel) rfl dX10_addGear_1 ?_
  refine lv_aload_n hx hb dX10_addGear_4 rfl (lv_at hl 0 rfl) ?_
  refine am_getR X hh 0 11 0 1 (by decide) rfl rfl (by decide) hwRX10 (show Cond.fieldLink RX10 12 "PlanetWorkshop" "now" "LPlanetWorkshop$State;" ∈ wsX10_addGear by decide +kernel) rfl dX10_addGear_5 ?_
  obtain ⟨w3, hk1, hF⟩ := am_bind hF
  refine am_call X hh (va_runV (As := [.ref (gAd G 1)]) (rest := []) X.1 (c_X7_copyFrom l G st_12 st_1 hk1) (cwV 1 hts gX10_addGear_X7_copyFrom rfl rfl rfl (by decide +kernel) ⟨Nat.le_of_ble_eq_true rfl, Nat.le_of_ble_eq_true rfl⟩) (am_preV X hh 12 9 (by decide) rfl rfl) rfl rfl hl.1 rfl (lv_room (Nat.le_of_ble_eq_true rfl)) dX10_addGear_8 ⟨Nat.le_of_ble_eq_true rfl, Nat.le_of_ble_eq_true rfl⟩) (fun ab H locs hh => ?_)
  refine lv_aload_n hx hb dX10_addGear_11 rfl (lv_at hl 0 rfl) ?_
  refine lv_aload_n hx hb dX10_addGear_12 rfl (lv_at hl 0 rfl) ?_
  refine am_getR X hh 0 11 6 127 (by decide) rfl rfl (by decide) hwRX10 (show Cond.fieldLink RX10 45 "PlanetWorkshop" "changes" "LPlanetWorkshop$Changes;" ∈ wsX10_addGear by decide +kernel) rfl dX10_addGear_13 ?_
  refine lv_iload_n hx hb dX10_addGear_16 rfl (lv_at hl 1 rfl) ?_
  obtain ⟨⟨r5, w6⟩, hk4, hF⟩ := am_bind hF
  have hF := am_u2 hF
  refine am_call X hh (va_runV (As := [.int x1]) (rest := [.ref (gAd G 0)]) X.1 (c_X1_putGear l G hk4) (cwV 1 hts gX10_addGear_X1_putGear rfl rfl rfl (by decide +kernel) ⟨Nat.le_of_ble_eq_true rfl, Nat.le_of_ble_eq_true rfl⟩) (am_preV X hh 127 4 (by decide) rfl rfl) rfl rfl hl.1 rfl (lv_room (Nat.le_of_ble_eq_true rfl)) dX10_addGear_17 ⟨Nat.le_of_ble_eq_true rfl, Nat.le_of_ble_eq_true rfl⟩) (fun ab H locs hh => ?_)
  obtain ⟨⟨z11, w10⟩, hk8, hF⟩ := am_bind hF
  have hF := am_u2 hF
  refine am_callX X hh (vx_runV (As := [.int r5]) (rest := []) X.1 (c_X10_settle l G hst hk8) (cwV 1 hts gX10_addGear_X10_settle rfl rfl rfl (by decide +kernel) ⟨Nat.le_of_ble_eq_true rfl, Nat.le_of_ble_eq_true rfl⟩) (am_preV X hh 0 11 (by decide) rfl rfl) rfl rfl hl.1 rfl (lv_room (Nat.le_of_ble_eq_true rfl)) dX10_addGear_20 ⟨Nat.le_of_ble_eq_true rfl, Nat.le_of_ble_eq_true rfl⟩) (fun k ab H locs ce q hz hh hce hcv hcl => ?_) (fun r9 ab H locs hz hh => ?_)
  · subst hz
    have hF := am_zl hF
    exact am_out X htb hh (am_zw hF).1 (am_zw hF).2 hce hcv hcl (Nat.le_of_ble_eq_true rfl) (Nat.le_of_ble_eq_true rfl)
  · subst hz
    have hF := am_zr hF
    exact vx_ret (am_iret X hr hh (fun t ht => am_qwX (mk := oI) hF ht) (Nat.le_of_ble_eq_true rfl) (Nat.le_of_ble_eq_true rfl) dX10_addGear_23)
set_option maxHeartbeats 4000000 in
set_option maxRecDepth 100000 in
theorem c_X10_mesh (l : Launch) (G : GG) (hst : l.stackTraces = false) {w : Wd} {x1 : Int32} {x2 : Int32} {z0 : (Nat ⊕ Int32)} {w1 : Wd} (hF : f_X10_mesh w x1 x2 = some (z0, w1)) : vx_Met l yX10_mesh wsX10_mesh ({ frames := 8, cells := 1, slots := 6, locals := 131 } : Room) (va_Pc [.ref (gAd G 0), .int x1, .int x2] (Rel G w)) (amR G oI z0 w1) (amX G z0 w1) 1 6 (gA G) := by
  refine am_metX (own := RX10) (cc := cX10_mesh) (maxL := 3) (ret := (some .int)) (by decide +kernel) rfl rfl (Nat.le_of_ble_eq_true rfl) ?_
  intro p e s m args below meth c ab H locs ls X hr htb hh hl
  have hx := X.1.1; have hb := X.1.2.1; have hml := X.1.2.2.1; have hown := X.1.2.2.2.1; have hts := X.1.2.2.2.2
  have hl : lv_has ls 3 [(0, .ref (gAd G 0)), (1, .int x1), (2, .int x2)] := hl
  have hwRX10 : ∀ z ∈ u_ws RX10 TX10 13, z ∈ wsX10_mesh := by decide +kernel
  unfold f_X10_mesh at hF
  refine lv_aload_n hx hb dX10_mesh_0 rfl (lv_at hl 0 rfl) ?_
  refine am_getR X hh 0 11 1 12 (by decide) rfl rfl (by decide) hwRX10 (show Cond.fieldLink RX10 16 "PlanetWorkshop" "before" "LPlanetWorkshop$State;" ∈ wsX10_mesh by decide +kernel) rfl dX10_mesh_1 ?_
  refine lv_aload_n hx hb dX10_mesh_4 rfl (lv_at hl 0 rfl) ?_
  refine am_getR X hh 0 11 0 1 (by decide) rfl rfl (by decide) hwRX10 (show Cond.fieldLink RX10 12 "PlanetWorkshop" "now" "LPlanetWorkshop$State;" ∈ wsX10_mesh by decide +kernel) rfl dX10_mesh_5 ?_
  obtain ⟨w3, hk1, hF⟩ := am_bind hF
  refine am_call X hh (va_runV (As := [.ref (gAd G 1)]) (rest := []) X.1 (c_X7_copyFrom l G st_12 st_1 hk1) (cwV 1 hts gX10_mesh_X7_copyFrom rfl rfl rfl (by decide +kernel) ⟨Nat.le_of_ble_eq_true rfl, Nat.le_of_ble_eq_true rfl⟩) (am_preV X hh 12 9 (by decide) rfl rfl) rfl rfl hl.1 rfl (lv_room (Nat.le_of_ble_eq_true rfl)) dX10_mesh_8 ⟨Nat.le_of_ble_eq_true rfl, Nat.le_of_ble_eq_true rfl⟩) (fun ab H locs hh => ?_)
  refine lv_aload_n hx hb dX10_mesh_11 rfl (lv_at hl 0 rfl) ?_
  refine lv_aload_n hx hb dX10_mesh_12 rfl (lv_at hl 0 rfl) ?_
  refine am_getR X hh 0 11 6 127 (by decide) rfl rfl (by decide) hwRX10 (show Cond.fieldLink RX10 45 "PlanetWorkshop" "changes" "LPlanetWorkshop$Changes;" ∈ wsX10_mesh by decide +kernel) rfl dX10_mesh_13 ?_
  refine lv_iload_n hx hb dX10_mesh_16 rfl (lv_at hl 1 rfl) ?_
  refine lv_iload_n hx hb dX10_mesh_17 rfl (lv_at hl 2 rfl) ?_
  refine lv_bipush (v := (109 : Int32)) hx hb dX10_mesh_18 (by decide) ?_
  obtain ⟨⟨r5, w6⟩, hk4, hF⟩ := am_bind hF
  have hF := am_u2 hF
  refine am_call X hh (va_runV (As := [.int x1, .int x2, .int (109 : Int32)]) (rest := [.ref (gAd G 0)]) X.1 (c_X1_join l G hk4) (cwV 3 hts gX10_mesh_X1_join rfl rfl rfl (by decide +kernel) ⟨Nat.le_of_ble_eq_true rfl, Nat.le_of_ble_eq_true rfl⟩) (am_preV X hh 127 4 (by decide) rfl rfl) rfl rfl hl.1 rfl (lv_room (Nat.le_of_ble_eq_true rfl)) dX10_mesh_20 ⟨Nat.le_of_ble_eq_true rfl, Nat.le_of_ble_eq_true rfl⟩) (fun ab H locs hh => ?_)
  obtain ⟨⟨z11, w10⟩, hk8, hF⟩ := am_bind hF
  have hF := am_u2 hF
  refine am_callX X hh (vx_runV (As := [.int r5]) (rest := []) X.1 (c_X10_settle l G hst hk8) (cwV 1 hts gX10_mesh_X10_settle rfl rfl rfl (by decide +kernel) ⟨Nat.le_of_ble_eq_true rfl, Nat.le_of_ble_eq_true rfl⟩) (am_preV X hh 0 11 (by decide) rfl rfl) rfl rfl hl.1 rfl (lv_room (Nat.le_of_ble_eq_true rfl)) dX10_mesh_23 ⟨Nat.le_of_ble_eq_true rfl, Nat.le_of_ble_eq_true rfl⟩) (fun k ab H locs ce q hz hh hce hcv hcl => ?_) (fun r9 ab H locs hz hh => ?_)
  · subst hz
    have hF := am_zl hF
    exact am_out X htb hh (am_zw hF).1 (am_zw hF).2 hce hcv hcl (Nat.le_of_ble_eq_true rfl) (Nat.le_of_ble_eq_true rfl)
  · subst hz
    have hF := am_zr hF
    exact vx_ret (am_iret X hr hh (fun t ht => am_qwX (mk := oI) hF ht) (Nat.le_of_ble_eq_true rfl) (Nat.le_of_ble_eq_true rfl) dX10_mesh_26)
set_option maxHeartbeats 4000000 in
set_option maxRecDepth 100000 in
theorem c_X10_shareAxle (l : Launch) (G : GG) (hst : l.stackTraces = false) {w : Wd} {x1 : Int32} {x2 : Int32} {z0 : (Nat ⊕ Int32)} {w1 : Wd} (hF : f_X10_shareAxle w x1 x2 = some (z0, w1)) : vx_Met l yX10_shareAxle wsX10_shareAxle ({ frames := 8, cells := 1, slots := 6, locals := 131 } : Room) (va_Pc [.ref (gAd G 0), .int x1, .int x2] (Rel G w)) (amR G oI z0 w1) (amX G z0 w1) 1 6 (gA G) := by
  refine am_metX (own := RX10) (cc := cX10_shareAxle) (maxL := 3) (ret := (some .int)) (by decide +kernel) rfl rfl (Nat.le_of_ble_eq_true rfl) ?_
  intro p e s m args below meth c ab H locs ls X hr htb hh hl
  have hx := X.1.1; have hb := X.1.2.1; have hml := X.1.2.2.1; have hown := X.1.2.2.2.1; have hts := X.1.2.2.2.2
  have hl : lv_has ls 3 [(0, .ref (gAd G 0)), (1, .int x1), (2, .int x2)] := hl
  have hwRX10 : ∀ z ∈ u_ws RX10 TX10 13, z ∈ wsX10_shareAxle := by decide +kernel
  unfold f_X10_shareAxle at hF
  refine lv_aload_n hx hb dX10_shareAxle_0 rfl (lv_at hl 0 rfl) ?_
  refine am_getR X hh 0 11 1 12 (by decide) rfl rfl (by decide) hwRX10 (show Cond.fieldLink RX10 16 "PlanetWorkshop" "before" "LPlanetWorkshop$State;" ∈ wsX10_shareAxle by decide +kernel) rfl dX10_shareAxle_1 ?_
  refine lv_aload_n hx hb dX10_shareAxle_4 rfl (lv_at hl 0 rfl) ?_
  refine am_getR X hh 0 11 0 1 (by decide) rfl rfl (by decide) hwRX10 (show Cond.fieldLink RX10 12 "PlanetWorkshop" "now" "LPlanetWorkshop$State;" ∈ wsX10_shareAxle by decide +kernel) rfl dX10_shareAxle_5 ?_
  obtain ⟨w3, hk1, hF⟩ := am_bind hF
  refine am_call X hh (va_runV (As := [.ref (gAd G 1)]) (rest := []) X.1 (c_X7_copyFrom l G st_12 st_1 hk1) (cwV 1 hts gX10_shareAxle_X7_copyFrom rfl rfl rfl (by decide +kernel) ⟨Nat.le_of_ble_eq_true rfl, Nat.le_of_ble_eq_true rfl⟩) (am_preV X hh 12 9 (by decide) rfl rfl) rfl rfl hl.1 rfl (lv_room (Nat.le_of_ble_eq_true rfl)) dX10_shareAxle_8 ⟨Nat.le_of_ble_eq_true rfl, Nat.le_of_ble_eq_true rfl⟩) (fun ab H locs hh => ?_)
  refine lv_aload_n hx hb dX10_shareAxle_11 rfl (lv_at hl 0 rfl) ?_
  refine lv_aload_n hx hb dX10_shareAxle_12 rfl (lv_at hl 0 rfl) ?_
  refine am_getR X hh 0 11 6 127 (by decide) rfl rfl (by decide) hwRX10 (show Cond.fieldLink RX10 45 "PlanetWorkshop" "changes" "LPlanetWorkshop$Changes;" ∈ wsX10_shareAxle by decide +kernel) rfl dX10_shareAxle_13 ?_
  refine lv_iload_n hx hb dX10_shareAxle_16 rfl (lv_at hl 1 rfl) ?_
  refine lv_iload_n hx hb dX10_shareAxle_17 rfl (lv_at hl 2 rfl) ?_
  refine lv_bipush (v := (97 : Int32)) hx hb dX10_shareAxle_18 (by decide) ?_
  obtain ⟨⟨r5, w6⟩, hk4, hF⟩ := am_bind hF
  have hF := am_u2 hF
  refine am_call X hh (va_runV (As := [.int x1, .int x2, .int (97 : Int32)]) (rest := [.ref (gAd G 0)]) X.1 (c_X1_join l G hk4) (cwV 3 hts gX10_shareAxle_X1_join rfl rfl rfl (by decide +kernel) ⟨Nat.le_of_ble_eq_true rfl, Nat.le_of_ble_eq_true rfl⟩) (am_preV X hh 127 4 (by decide) rfl rfl) rfl rfl hl.1 rfl (lv_room (Nat.le_of_ble_eq_true rfl)) dX10_shareAxle_20 ⟨Nat.le_of_ble_eq_true rfl, Nat.le_of_ble_eq_true rfl⟩) (fun ab H locs hh => ?_)
  obtain ⟨⟨z11, w10⟩, hk8, hF⟩ := am_bind hF
  have hF := am_u2 hF
  refine am_callX X hh (vx_runV (As := [.int r5]) (rest := []) X.1 (c_X10_settle l G hst hk8) (cwV 1 hts gX10_shareAxle_X10_settle rfl rfl rfl (by decide +kernel) ⟨Nat.le_of_ble_eq_true rfl, Nat.le_of_ble_eq_true rfl⟩) (am_preV X hh 0 11 (by decide) rfl rfl) rfl rfl hl.1 rfl (lv_room (Nat.le_of_ble_eq_true rfl)) dX10_shareAxle_23 ⟨Nat.le_of_ble_eq_true rfl, Nat.le_of_ble_eq_true rfl⟩) (fun k ab H locs ce q hz hh hce hcv hcl => ?_) (fun r9 ab H locs hz hh => ?_)
  · subst hz
    have hF := am_zl hF
    exact am_out X htb hh (am_zw hF).1 (am_zw hF).2 hce hcv hcl (Nat.le_of_ble_eq_true rfl) (Nat.le_of_ble_eq_true rfl)
  · subst hz
    have hF := am_zr hF
    exact vx_ret (am_iret X hr hh (fun t ht => am_qwX (mk := oI) hF ht) (Nat.le_of_ble_eq_true rfl) (Nat.le_of_ble_eq_true rfl) dX10_shareAxle_26)
set_option maxHeartbeats 4000000 in
set_option maxRecDepth 100000 in
theorem c_X10_separate (l : Launch) (G : GG) (hst : l.stackTraces = false) {w : Wd} {x1 : Int32} {x2 : Int32} {z0 : (Nat ⊕ Int32)} {w1 : Wd} (hF : f_X10_separate w x1 x2 = some (z0, w1)) : vx_Met l yX10_separate wsX10_separate ({ frames := 8, cells := 1, slots := 6, locals := 131 } : Room) (va_Pc [.ref (gAd G 0), .int x1, .int x2] (Rel G w)) (amR G oI z0 w1) (amX G z0 w1) 1 6 (gA G) := by
  refine am_metX (own := RX10) (cc := cX10_separate) (maxL := 3) (ret := (some .int)) (by decide +kernel) rfl rfl (Nat.le_of_ble_eq_true rfl) ?_
  intro p e s m args below meth c ab H locs ls X hr htb hh hl
  have hx := X.1.1; have hb := X.1.2.1; have hml := X.1.2.2.1; have hown := X.1.2.2.2.1; have hts := X.1.2.2.2.2
  have hl : lv_has ls 3 [(0, .ref (gAd G 0)), (1, .int x1), (2, .int x2)] := hl
  have hwRX10 : ∀ z ∈ u_ws RX10 TX10 13, z ∈ wsX10_separate := by decide +kernel
  unfold f_X10_separate at hF
  refine lv_aload_n hx hb dX10_separate_0 rfl (lv_at hl 0 rfl) ?_
  refine am_getR X hh 0 11 1 12 (by decide) rfl rfl (by decide) hwRX10 (show Cond.fieldLink RX10 16 "PlanetWorkshop" "before" "LPlanetWorkshop$State;" ∈ wsX10_separate by decide +kernel) rfl dX10_separate_1 ?_
  refine lv_aload_n hx hb dX10_separate_4 rfl (lv_at hl 0 rfl) ?_
  refine am_getR X hh 0 11 0 1 (by decide) rfl rfl (by decide) hwRX10 (show Cond.fieldLink RX10 12 "PlanetWorkshop" "now" "LPlanetWorkshop$State;" ∈ wsX10_separate by decide +kernel) rfl dX10_separate_5 ?_
  obtain ⟨w3, hk1, hF⟩ := am_bind hF
  refine am_call X hh (va_runV (As := [.ref (gAd G 1)]) (rest := []) X.1 (c_X7_copyFrom l G st_12 st_1 hk1) (cwV 1 hts gX10_separate_X7_copyFrom rfl rfl rfl (by decide +kernel) ⟨Nat.le_of_ble_eq_true rfl, Nat.le_of_ble_eq_true rfl⟩) (am_preV X hh 12 9 (by decide) rfl rfl) rfl rfl hl.1 rfl (lv_room (Nat.le_of_ble_eq_true rfl)) dX10_separate_8 ⟨Nat.le_of_ble_eq_true rfl, Nat.le_of_ble_eq_true rfl⟩) (fun ab H locs hh => ?_)
  refine lv_aload_n hx hb dX10_separate_11 rfl (lv_at hl 0 rfl) ?_
  refine lv_aload_n hx hb dX10_separate_12 rfl (lv_at hl 0 rfl) ?_
  refine am_getR X hh 0 11 6 127 (by decide) rfl rfl (by decide) hwRX10 (show Cond.fieldLink RX10 45 "PlanetWorkshop" "changes" "LPlanetWorkshop$Changes;" ∈ wsX10_separate by decide +kernel) rfl dX10_separate_13 ?_
  refine lv_iload_n hx hb dX10_separate_16 rfl (lv_at hl 1 rfl) ?_
  refine lv_iload_n hx hb dX10_separate_17 rfl (lv_at hl 2 rfl) ?_
  obtain ⟨⟨r5, w6⟩, hk4, hF⟩ := am_bind hF
  have hF := am_u2 hF
  refine am_call X hh (va_runV (As := [.int x1, .int x2]) (rest := [.ref (gAd G 0)]) X.1 (c_X1_cut l G hk4) (cwV 2 hts gX10_separate_X1_cut rfl rfl rfl (by decide +kernel) ⟨Nat.le_of_ble_eq_true rfl, Nat.le_of_ble_eq_true rfl⟩) (am_preV X hh 127 4 (by decide) rfl rfl) rfl rfl hl.1 rfl (lv_room (Nat.le_of_ble_eq_true rfl)) dX10_separate_18 ⟨Nat.le_of_ble_eq_true rfl, Nat.le_of_ble_eq_true rfl⟩) (fun ab H locs hh => ?_)
  obtain ⟨⟨z11, w10⟩, hk8, hF⟩ := am_bind hF
  have hF := am_u2 hF
  refine am_callX X hh (vx_runV (As := [.int r5]) (rest := []) X.1 (c_X10_settle l G hst hk8) (cwV 1 hts gX10_separate_X10_settle rfl rfl rfl (by decide +kernel) ⟨Nat.le_of_ble_eq_true rfl, Nat.le_of_ble_eq_true rfl⟩) (am_preV X hh 0 11 (by decide) rfl rfl) rfl rfl hl.1 rfl (lv_room (Nat.le_of_ble_eq_true rfl)) dX10_separate_21 ⟨Nat.le_of_ble_eq_true rfl, Nat.le_of_ble_eq_true rfl⟩) (fun k ab H locs ce q hz hh hce hcv hcl => ?_) (fun r9 ab H locs hz hh => ?_)
  · subst hz
    have hF := am_zl hF
    exact am_out X htb hh (am_zw hF).1 (am_zw hF).2 hce hcv hcl (Nat.le_of_ble_eq_true rfl) (Nat.le_of_ble_eq_true rfl)
  · subst hz
    have hF := am_zr hF
    exact vx_ret (am_iret X hr hh (fun t ht => am_qwX (mk := oI) hF ht) (Nat.le_of_ble_eq_true rfl) (Nat.le_of_ble_eq_true rfl) dX10_separate_24)
set_option maxHeartbeats 4000000 in
set_option maxRecDepth 100000 in
theorem c_X10_setSpring (l : Launch) (G : GG) (hst : l.stackTraces = false) {w : Wd} {x1 : Int32} {x2 : Int32} {z0 : (Nat ⊕ Int32)} {w1 : Wd} (hF : f_X10_setSpring w x1 x2 = some (z0, w1)) : vx_Met l yX10_setSpring wsX10_setSpring ({ frames := 8, cells := 1, slots := 6, locals := 131 } : Room) (va_Pc [.ref (gAd G 0), .int x1, .int x2] (Rel G w)) (amR G oI z0 w1) (amX G z0 w1) 1 6 (gA G) := by
  refine am_metX (own := RX10) (cc := cX10_setSpring) (maxL := 3) (ret := (some .int)) (by decide +kernel) rfl rfl (Nat.le_of_ble_eq_true rfl) ?_
  intro p e s m args below meth c ab H locs ls X hr htb hh hl
  have hx := X.1.1; have hb := X.1.2.1; have hml := X.1.2.2.1; have hown := X.1.2.2.2.1; have hts := X.1.2.2.2.2
  have hl : lv_has ls 3 [(0, .ref (gAd G 0)), (1, .int x1), (2, .int x2)] := hl
  have hwRX10 : ∀ z ∈ u_ws RX10 TX10 13, z ∈ wsX10_setSpring := by decide +kernel
  unfold f_X10_setSpring at hF
  refine lv_aload_n hx hb dX10_setSpring_0 rfl (lv_at hl 0 rfl) ?_
  refine am_getR X hh 0 11 1 12 (by decide) rfl rfl (by decide) hwRX10 (show Cond.fieldLink RX10 16 "PlanetWorkshop" "before" "LPlanetWorkshop$State;" ∈ wsX10_setSpring by decide +kernel) rfl dX10_setSpring_1 ?_
  refine lv_aload_n hx hb dX10_setSpring_4 rfl (lv_at hl 0 rfl) ?_
  refine am_getR X hh 0 11 0 1 (by decide) rfl rfl (by decide) hwRX10 (show Cond.fieldLink RX10 12 "PlanetWorkshop" "now" "LPlanetWorkshop$State;" ∈ wsX10_setSpring by decide +kernel) rfl dX10_setSpring_5 ?_
  obtain ⟨w3, hk1, hF⟩ := am_bind hF
  refine am_call X hh (va_runV (As := [.ref (gAd G 1)]) (rest := []) X.1 (c_X7_copyFrom l G st_12 st_1 hk1) (cwV 1 hts gX10_setSpring_X7_copyFrom rfl rfl rfl (by decide +kernel) ⟨Nat.le_of_ble_eq_true rfl, Nat.le_of_ble_eq_true rfl⟩) (am_preV X hh 12 9 (by decide) rfl rfl) rfl rfl hl.1 rfl (lv_room (Nat.le_of_ble_eq_true rfl)) dX10_setSpring_8 ⟨Nat.le_of_ble_eq_true rfl, Nat.le_of_ble_eq_true rfl⟩) (fun ab H locs hh => ?_)
  refine lv_aload_n hx hb dX10_setSpring_11 rfl (lv_at hl 0 rfl) ?_
  refine lv_aload_n hx hb dX10_setSpring_12 rfl (lv_at hl 0 rfl) ?_
  refine am_getR X hh 0 11 6 127 (by decide) rfl rfl (by decide) hwRX10 (show Cond.fieldLink RX10 45 "PlanetWorkshop" "changes" "LPlanetWorkshop$Changes;" ∈ wsX10_setSpring by decide +kernel) rfl dX10_setSpring_13 ?_
  refine lv_iload_n hx hb dX10_setSpring_16 rfl (lv_at hl 1 rfl) ?_
  refine lv_iload_n hx hb dX10_setSpring_17 rfl (lv_at hl 2 rfl) ?_
  obtain ⟨⟨r5, w6⟩, hk4, hF⟩ := am_bind hF
  have hF := am_u2 hF
  refine am_call X hh (va_runV (As := [.int x1, .int x2]) (rest := [.ref (gAd G 0)]) X.1 (c_X1_putSpring l G hk4) (cwV 2 hts gX10_setSpring_X1_putSpring rfl rfl rfl (by decide +kernel) ⟨Nat.le_of_ble_eq_true rfl, Nat.le_of_ble_eq_true rfl⟩) (am_preV X hh 127 4 (by decide) rfl rfl) rfl rfl hl.1 rfl (lv_room (Nat.le_of_ble_eq_true rfl)) dX10_setSpring_18 ⟨Nat.le_of_ble_eq_true rfl, Nat.le_of_ble_eq_true rfl⟩) (fun ab H locs hh => ?_)
  obtain ⟨⟨z11, w10⟩, hk8, hF⟩ := am_bind hF
  have hF := am_u2 hF
  refine am_callX X hh (vx_runV (As := [.int r5]) (rest := []) X.1 (c_X10_settle l G hst hk8) (cwV 1 hts gX10_setSpring_X10_settle rfl rfl rfl (by decide +kernel) ⟨Nat.le_of_ble_eq_true rfl, Nat.le_of_ble_eq_true rfl⟩) (am_preV X hh 0 11 (by decide) rfl rfl) rfl rfl hl.1 rfl (lv_room (Nat.le_of_ble_eq_true rfl)) dX10_setSpring_21 ⟨Nat.le_of_ble_eq_true rfl, Nat.le_of_ble_eq_true rfl⟩) (fun k ab H locs ce q hz hh hce hcv hcl => ?_) (fun r9 ab H locs hz hh => ?_)
  · subst hz
    have hF := am_zl hF
    exact am_out X htb hh (am_zw hF).1 (am_zw hF).2 hce hcv hcl (Nat.le_of_ble_eq_true rfl) (Nat.le_of_ble_eq_true rfl)
  · subst hz
    have hF := am_zr hF
    exact vx_ret (am_iret X hr hh (fun t ht => am_qwX (mk := oI) hF ht) (Nat.le_of_ble_eq_true rfl) (Nat.le_of_ble_eq_true rfl) dX10_setSpring_24)
set_option maxHeartbeats 4000000 in
set_option maxRecDepth 100000 in
theorem c_X10_wind (l : Launch) (G : GG) (hst : l.stackTraces = false) {w : Wd} {x1 : Int32} {x2 : Int32} {z0 : (Nat ⊕ Int32)} {w1 : Wd} (hF : f_X10_wind w x1 x2 = some (z0, w1)) : vx_Met l yX10_wind wsX10_wind ({ frames := 8, cells := 1, slots := 6, locals := 131 } : Room) (va_Pc [.ref (gAd G 0), .int x1, .int x2] (Rel G w)) (amR G oI z0 w1) (amX G z0 w1) 1 6 (gA G) := by
  refine am_metX (own := RX10) (cc := cX10_wind) (maxL := 3) (ret := (some .int)) (by decide +kernel) rfl rfl (Nat.le_of_ble_eq_true rfl) ?_
  intro p e s m args below meth c ab H locs ls X hr htb hh hl
  have hx := X.1.1; have hb := X.1.2.1; have hml := X.1.2.2.1; have hown := X.1.2.2.2.1; have hts := X.1.2.2.2.2
  have hl : lv_has ls 3 [(0, .ref (gAd G 0)), (1, .int x1), (2, .int x2)] := hl
  have hwRX10 : ∀ z ∈ u_ws RX10 TX10 13, z ∈ wsX10_wind := by decide +kernel
  unfold f_X10_wind at hF
  refine lv_aload_n hx hb dX10_wind_0 rfl (lv_at hl 0 rfl) ?_
  refine am_getR X hh 0 11 1 12 (by decide) rfl rfl (by decide) hwRX10 (show Cond.fieldLink RX10 16 "PlanetWorkshop" "before" "LPlanetWorkshop$State;" ∈ wsX10_wind by decide +kernel) rfl dX10_wind_1 ?_
  refine lv_aload_n hx hb dX10_wind_4 rfl (lv_at hl 0 rfl) ?_
  refine am_getR X hh 0 11 0 1 (by decide) rfl rfl (by decide) hwRX10 (show Cond.fieldLink RX10 12 "PlanetWorkshop" "now" "LPlanetWorkshop$State;" ∈ wsX10_wind by decide +kernel) rfl dX10_wind_5 ?_
  obtain ⟨w3, hk1, hF⟩ := am_bind hF
  refine am_call X hh (va_runV (As := [.ref (gAd G 1)]) (rest := []) X.1 (c_X7_copyFrom l G st_12 st_1 hk1) (cwV 1 hts gX10_wind_X7_copyFrom rfl rfl rfl (by decide +kernel) ⟨Nat.le_of_ble_eq_true rfl, Nat.le_of_ble_eq_true rfl⟩) (am_preV X hh 12 9 (by decide) rfl rfl) rfl rfl hl.1 rfl (lv_room (Nat.le_of_ble_eq_true rfl)) dX10_wind_8 ⟨Nat.le_of_ble_eq_true rfl, Nat.le_of_ble_eq_true rfl⟩) (fun ab H locs hh => ?_)
  refine lv_aload_n hx hb dX10_wind_11 rfl (lv_at hl 0 rfl) ?_
  refine lv_aload_n hx hb dX10_wind_12 rfl (lv_at hl 0 rfl) ?_
  refine am_getR X hh 0 11 6 127 (by decide) rfl rfl (by decide) hwRX10 (show Cond.fieldLink RX10 45 "PlanetWorkshop" "changes" "LPlanetWorkshop$Changes;" ∈ wsX10_wind by decide +kernel) rfl dX10_wind_13 ?_
  refine lv_iload_n hx hb dX10_wind_16 rfl (lv_at hl 1 rfl) ?_
  refine lv_iload_n hx hb dX10_wind_17 rfl (lv_at hl 2 rfl) ?_
  obtain ⟨⟨r5, w6⟩, hk4, hF⟩ := am_bind hF
  have hF := am_u2 hF
  refine am_call X hh (va_runV (As := [.int x1, .int x2]) (rest := [.ref (gAd G 0)]) X.1 (c_X1_tighten l G hk4) (cwV 2 hts gX10_wind_X1_tighten rfl rfl rfl (by decide +kernel) ⟨Nat.le_of_ble_eq_true rfl, Nat.le_of_ble_eq_true rfl⟩) (am_preV X hh 127 4 (by decide) rfl rfl) rfl rfl hl.1 rfl (lv_room (Nat.le_of_ble_eq_true rfl)) dX10_wind_18 ⟨Nat.le_of_ble_eq_true rfl, Nat.le_of_ble_eq_true rfl⟩) (fun ab H locs hh => ?_)
  obtain ⟨⟨z11, w10⟩, hk8, hF⟩ := am_bind hF
  have hF := am_u2 hF
  refine am_callX X hh (vx_runV (As := [.int r5]) (rest := []) X.1 (c_X10_settle l G hst hk8) (cwV 1 hts gX10_wind_X10_settle rfl rfl rfl (by decide +kernel) ⟨Nat.le_of_ble_eq_true rfl, Nat.le_of_ble_eq_true rfl⟩) (am_preV X hh 0 11 (by decide) rfl rfl) rfl rfl hl.1 rfl (lv_room (Nat.le_of_ble_eq_true rfl)) dX10_wind_21 ⟨Nat.le_of_ble_eq_true rfl, Nat.le_of_ble_eq_true rfl⟩) (fun k ab H locs ce q hz hh hce hcv hcl => ?_) (fun r9 ab H locs hz hh => ?_)
  · subst hz
    have hF := am_zl hF
    exact am_out X htb hh (am_zw hF).1 (am_zw hF).2 hce hcv hcl (Nat.le_of_ble_eq_true rfl) (Nat.le_of_ble_eq_true rfl)
  · subst hz
    have hF := am_zr hF
    exact vx_ret (am_iret X hr hh (fun t ht => am_qwX (mk := oI) hF ht) (Nat.le_of_ble_eq_true rfl) (Nat.le_of_ble_eq_true rfl) dX10_wind_24)
set_option maxHeartbeats 4000000 in
set_option maxRecDepth 100000 in
theorem c_X10_reverse (l : Launch) (G : GG) (hst : l.stackTraces = false) {w : Wd} {x1 : Int32} {z0 : (Nat ⊕ Int32)} {w1 : Wd} (hF : f_X10_reverse w x1 = some (z0, w1)) : vx_Met l yX10_reverse wsX10_reverse ({ frames := 8, cells := 1, slots := 6, locals := 131 } : Room) (va_Pc [.ref (gAd G 0), .int x1] (Rel G w)) (amR G oI z0 w1) (amX G z0 w1) 1 6 (gA G) := by
  refine am_metX (own := RX10) (cc := cX10_reverse) (maxL := 2) (ret := (some .boolean)) (by decide +kernel) rfl rfl (Nat.le_of_ble_eq_true rfl) ?_
  intro p e s m args below meth c ab H locs ls X hr htb hh hl
  have hx := X.1.1; have hb := X.1.2.1; have hml := X.1.2.2.1; have hown := X.1.2.2.2.1; have hts := X.1.2.2.2.2
  have hl : lv_has ls 2 [(0, .ref (gAd G 0)), (1, .int x1)] := hl
  have hwRX10 : ∀ z ∈ u_ws RX10 TX10 13, z ∈ wsX10_reverse := by decide +kernel
  unfold f_X10_reverse at hF
  refine lv_aload_n hx hb dX10_reverse_0 rfl (lv_at hl 0 rfl) ?_
  refine am_getR X hh 0 11 1 12 (by decide) rfl rfl (by decide) hwRX10 (show Cond.fieldLink RX10 16 "PlanetWorkshop" "before" "LPlanetWorkshop$State;" ∈ wsX10_reverse by decide +kernel) rfl dX10_reverse_1 ?_
  refine lv_aload_n hx hb dX10_reverse_4 rfl (lv_at hl 0 rfl) ?_
  refine am_getR X hh 0 11 0 1 (by decide) rfl rfl (by decide) hwRX10 (show Cond.fieldLink RX10 12 "PlanetWorkshop" "now" "LPlanetWorkshop$State;" ∈ wsX10_reverse by decide +kernel) rfl dX10_reverse_5 ?_
  obtain ⟨w3, hk1, hF⟩ := am_bind hF
  refine am_call X hh (va_runV (As := [.ref (gAd G 1)]) (rest := []) X.1 (c_X7_copyFrom l G st_12 st_1 hk1) (cwV 1 hts gX10_reverse_X7_copyFrom rfl rfl rfl (by decide +kernel) ⟨Nat.le_of_ble_eq_true rfl, Nat.le_of_ble_eq_true rfl⟩) (am_preV X hh 12 9 (by decide) rfl rfl) rfl rfl hl.1 rfl (lv_room (Nat.le_of_ble_eq_true rfl)) dX10_reverse_8 ⟨Nat.le_of_ble_eq_true rfl, Nat.le_of_ble_eq_true rfl⟩) (fun ab H locs hh => ?_)
  refine lv_aload_n hx hb dX10_reverse_11 rfl (lv_at hl 0 rfl) ?_
  refine lv_aload_n hx hb dX10_reverse_12 rfl (lv_at hl 0 rfl) ?_
  refine am_getR X hh 0 11 6 127 (by decide) rfl rfl (by decide) hwRX10 (show Cond.fieldLink RX10 45 "PlanetWorkshop" "changes" "LPlanetWorkshop$Changes;" ∈ wsX10_reverse by decide +kernel) rfl dX10_reverse_13 ?_
  refine lv_iload_n hx hb dX10_reverse_16 rfl (lv_at hl 1 rfl) ?_
  obtain ⟨⟨r5, w6⟩, hk4, hF⟩ := am_bind hF
  have hF := am_u2 hF
  refine am_call X hh (va_runV (As := [.int x1]) (rest := [.ref (gAd G 0)]) X.1 (c_X1_turnRound l G hk4) (cwV 1 hts gX10_reverse_X1_turnRound rfl rfl rfl (by decide +kernel) ⟨Nat.le_of_ble_eq_true rfl, Nat.le_of_ble_eq_true rfl⟩) (am_preV X hh 127 4 (by decide) rfl rfl) rfl rfl hl.1 rfl (lv_room (Nat.le_of_ble_eq_true rfl)) dX10_reverse_17 ⟨Nat.le_of_ble_eq_true rfl, Nat.le_of_ble_eq_true rfl⟩) (fun ab H locs hh => ?_)
  obtain ⟨⟨z11, w10⟩, hk8, hF⟩ := am_bind hF
  have hF := am_u2 hF
  refine am_callX X hh (vx_runV (As := [.int r5]) (rest := []) X.1 (c_X10_settle l G hst hk8) (cwV 1 hts gX10_reverse_X10_settle rfl rfl rfl (by decide +kernel) ⟨Nat.le_of_ble_eq_true rfl, Nat.le_of_ble_eq_true rfl⟩) (am_preV X hh 0 11 (by decide) rfl rfl) rfl rfl hl.1 rfl (lv_room (Nat.le_of_ble_eq_true rfl)) dX10_reverse_20 ⟨Nat.le_of_ble_eq_true rfl, Nat.le_of_ble_eq_true rfl⟩) (fun k ab H locs ce q hz hh hce hcv hcl => ?_) (fun r9 ab H locs hz hh => ?_)
  · subst hz
    have hF := am_zl hF
    exact am_out X htb hh (am_zw hF).1 (am_zw hF).2 hce hcv hcl (Nat.le_of_ble_eq_true rfl) (Nat.le_of_ble_eq_true rfl)
  · subst hz
    have hF := am_zr hF
    refine lv_iconst (v := (1 : Int32)) hx hb dX10_reverse_23 (by decide) ?_
    refine lv_icmp_ne (tgt := 31) hx hb dX10_reverse_24 (by decide) (fun hc12 => ?_) (fun hc12 => ?_)
    · have hF := am_neg hc12 hF
      refine lv_iconst (v := (0 : Int32)) hx hb dX10_reverse_31 (by decide) ?_
      exact vx_ret (am_zret (v' := (0 : Int32)) X hr rfl hh (fun t ht => am_qwX (mk := oI) hF ht) (Nat.le_of_ble_eq_true rfl) (Nat.le_of_ble_eq_true rfl) dX10_reverse_32)
    · have hF := am_pos hc12 hF
      refine lv_iconst (v := (1 : Int32)) hx hb dX10_reverse_27 (by decide) ?_
      refine lv_goto (tgt := 32) hx hb dX10_reverse_28 (by decide) ?_
      exact vx_ret (am_zret (v' := (1 : Int32)) X hr rfl hh (fun t ht => am_qwX (mk := oI) hF ht) (Nat.le_of_ble_eq_true rfl) (Nat.le_of_ble_eq_true rfl) dX10_reverse_32)
set_option maxHeartbeats 4000000 in
set_option maxRecDepth 100000 in
theorem c_X10_setRatchet (l : Launch) (G : GG) (hst : l.stackTraces = false) {w : Wd} {x1 : Int32} {x2 : Int32} {z0 : (Nat ⊕ Int32)} {w1 : Wd} (hF : f_X10_setRatchet w x1 x2 = some (z0, w1)) : vx_Met l yX10_setRatchet wsX10_setRatchet ({ frames := 8, cells := 1, slots := 6, locals := 131 } : Room) (va_Pc [.ref (gAd G 0), .int x1, .int x2] (Rel G w)) (amR G oI z0 w1) (amX G z0 w1) 1 6 (gA G) := by
  refine am_metX (own := RX10) (cc := cX10_setRatchet) (maxL := 3) (ret := (some .boolean)) (by decide +kernel) rfl rfl (Nat.le_of_ble_eq_true rfl) ?_
  intro p e s m args below meth c ab H locs ls X hr htb hh hl
  have hx := X.1.1; have hb := X.1.2.1; have hml := X.1.2.2.1; have hown := X.1.2.2.2.1; have hts := X.1.2.2.2.2
  have hl : lv_has ls 3 [(0, .ref (gAd G 0)), (1, .int x1), (2, .int x2)] := hl
  have hwRX10 : ∀ z ∈ u_ws RX10 TX10 13, z ∈ wsX10_setRatchet := by decide +kernel
  unfold f_X10_setRatchet at hF
  refine lv_aload_n hx hb dX10_setRatchet_0 rfl (lv_at hl 0 rfl) ?_
  refine am_getR X hh 0 11 1 12 (by decide) rfl rfl (by decide) hwRX10 (show Cond.fieldLink RX10 16 "PlanetWorkshop" "before" "LPlanetWorkshop$State;" ∈ wsX10_setRatchet by decide +kernel) rfl dX10_setRatchet_1 ?_
  refine lv_aload_n hx hb dX10_setRatchet_4 rfl (lv_at hl 0 rfl) ?_
  refine am_getR X hh 0 11 0 1 (by decide) rfl rfl (by decide) hwRX10 (show Cond.fieldLink RX10 12 "PlanetWorkshop" "now" "LPlanetWorkshop$State;" ∈ wsX10_setRatchet by decide +kernel) rfl dX10_setRatchet_5 ?_
  obtain ⟨w3, hk1, hF⟩ := am_bind hF
  refine am_call X hh (va_runV (As := [.ref (gAd G 1)]) (rest := []) X.1 (c_X7_copyFrom l G st_12 st_1 hk1) (cwV 1 hts gX10_setRatchet_X7_copyFrom rfl rfl rfl (by decide +kernel) ⟨Nat.le_of_ble_eq_true rfl, Nat.le_of_ble_eq_true rfl⟩) (am_preV X hh 12 9 (by decide) rfl rfl) rfl rfl hl.1 rfl (lv_room (Nat.le_of_ble_eq_true rfl)) dX10_setRatchet_8 ⟨Nat.le_of_ble_eq_true rfl, Nat.le_of_ble_eq_true rfl⟩) (fun ab H locs hh => ?_)
  refine lv_aload_n hx hb dX10_setRatchet_11 rfl (lv_at hl 0 rfl) ?_
  refine lv_aload_n hx hb dX10_setRatchet_12 rfl (lv_at hl 0 rfl) ?_
  refine am_getR X hh 0 11 6 127 (by decide) rfl rfl (by decide) hwRX10 (show Cond.fieldLink RX10 45 "PlanetWorkshop" "changes" "LPlanetWorkshop$Changes;" ∈ wsX10_setRatchet by decide +kernel) rfl dX10_setRatchet_13 ?_
  refine lv_iload_n hx hb dX10_setRatchet_16 rfl (lv_at hl 1 rfl) ?_
  refine lv_iload_n hx hb dX10_setRatchet_17 rfl (lv_at hl 2 rfl) ?_
  obtain ⟨⟨r5, w6⟩, hk4, hF⟩ := am_bind hF
  have hF := am_u2 hF
  refine am_call X hh (va_runV (As := [.int x1, .int x2]) (rest := [.ref (gAd G 0)]) X.1 (c_X1_putRatchet l G hk4) (cwV 2 hts gX10_setRatchet_X1_putRatchet rfl rfl rfl (by decide +kernel) ⟨Nat.le_of_ble_eq_true rfl, Nat.le_of_ble_eq_true rfl⟩) (am_preV X hh 127 4 (by decide) rfl rfl) rfl rfl hl.1 rfl (lv_room (Nat.le_of_ble_eq_true rfl)) dX10_setRatchet_18 ⟨Nat.le_of_ble_eq_true rfl, Nat.le_of_ble_eq_true rfl⟩) (fun ab H locs hh => ?_)
  obtain ⟨⟨z11, w10⟩, hk8, hF⟩ := am_bind hF
  have hF := am_u2 hF
  refine am_callX X hh (vx_runV (As := [.int r5]) (rest := []) X.1 (c_X10_settle l G hst hk8) (cwV 1 hts gX10_setRatchet_X10_settle rfl rfl rfl (by decide +kernel) ⟨Nat.le_of_ble_eq_true rfl, Nat.le_of_ble_eq_true rfl⟩) (am_preV X hh 0 11 (by decide) rfl rfl) rfl rfl hl.1 rfl (lv_room (Nat.le_of_ble_eq_true rfl)) dX10_setRatchet_21 ⟨Nat.le_of_ble_eq_true rfl, Nat.le_of_ble_eq_true rfl⟩) (fun k ab H locs ce q hz hh hce hcv hcl => ?_) (fun r9 ab H locs hz hh => ?_)
  · subst hz
    have hF := am_zl hF
    exact am_out X htb hh (am_zw hF).1 (am_zw hF).2 hce hcv hcl (Nat.le_of_ble_eq_true rfl) (Nat.le_of_ble_eq_true rfl)
  · subst hz
    have hF := am_zr hF
    refine lv_iconst (v := (1 : Int32)) hx hb dX10_setRatchet_24 (by decide) ?_
    refine lv_icmp_ne (tgt := 32) hx hb dX10_setRatchet_25 (by decide) (fun hc12 => ?_) (fun hc12 => ?_)
    · have hF := am_neg hc12 hF
      refine lv_iconst (v := (0 : Int32)) hx hb dX10_setRatchet_32 (by decide) ?_
      exact vx_ret (am_zret (v' := (0 : Int32)) X hr rfl hh (fun t ht => am_qwX (mk := oI) hF ht) (Nat.le_of_ble_eq_true rfl) (Nat.le_of_ble_eq_true rfl) dX10_setRatchet_33)
    · have hF := am_pos hc12 hF
      refine lv_iconst (v := (1 : Int32)) hx hb dX10_setRatchet_28 (by decide) ?_
      refine lv_goto (tgt := 33) hx hb dX10_setRatchet_29 (by decide) ?_
      exact vx_ret (am_zret (v' := (1 : Int32)) X hr rfl hh (fun t ht => am_qwX (mk := oI) hF ht) (Nat.le_of_ble_eq_true rfl) (Nat.le_of_ble_eq_true rfl) dX10_setRatchet_33)
set_option maxHeartbeats 4000000 in
set_option maxRecDepth 100000 in
theorem c_X10_oil (l : Launch) (G : GG) (hst : l.stackTraces = false) {w : Wd} {x1 : Int32} {z0 : (Nat ⊕ Int32)} {w1 : Wd} (hF : f_X10_oil w x1 = some (z0, w1)) : vx_Met l yX10_oil wsX10_oil ({ frames := 8, cells := 1, slots := 6, locals := 131 } : Room) (va_Pc [.ref (gAd G 0), .int x1] (Rel G w)) (amR G oI z0 w1) (amX G z0 w1) 1 6 (gA G) := by
  refine am_metX (own := RX10) (cc := cX10_oil) (maxL := 2) (ret := (some .int)) (by decide +kernel) rfl rfl (Nat.le_of_ble_eq_true rfl) ?_
  intro p e s m args below meth c ab H locs ls X hr htb hh hl
  have hx := X.1.1; have hb := X.1.2.1; have hml := X.1.2.2.1; have hown := X.1.2.2.2.1; have hts := X.1.2.2.2.2
  have hl : lv_has ls 2 [(0, .ref (gAd G 0)), (1, .int x1)] := hl
  have hwRX10 : ∀ z ∈ u_ws RX10 TX10 13, z ∈ wsX10_oil := by decide +kernel
  unfold f_X10_oil at hF
  refine lv_aload_n hx hb dX10_oil_0 rfl (lv_at hl 0 rfl) ?_
  refine am_getR X hh 0 11 1 12 (by decide) rfl rfl (by decide) hwRX10 (show Cond.fieldLink RX10 16 "PlanetWorkshop" "before" "LPlanetWorkshop$State;" ∈ wsX10_oil by decide +kernel) rfl dX10_oil_1 ?_
  refine lv_aload_n hx hb dX10_oil_4 rfl (lv_at hl 0 rfl) ?_
  refine am_getR X hh 0 11 0 1 (by decide) rfl rfl (by decide) hwRX10 (show Cond.fieldLink RX10 12 "PlanetWorkshop" "now" "LPlanetWorkshop$State;" ∈ wsX10_oil by decide +kernel) rfl dX10_oil_5 ?_
  obtain ⟨w3, hk1, hF⟩ := am_bind hF
  refine am_call X hh (va_runV (As := [.ref (gAd G 1)]) (rest := []) X.1 (c_X7_copyFrom l G st_12 st_1 hk1) (cwV 1 hts gX10_oil_X7_copyFrom rfl rfl rfl (by decide +kernel) ⟨Nat.le_of_ble_eq_true rfl, Nat.le_of_ble_eq_true rfl⟩) (am_preV X hh 12 9 (by decide) rfl rfl) rfl rfl hl.1 rfl (lv_room (Nat.le_of_ble_eq_true rfl)) dX10_oil_8 ⟨Nat.le_of_ble_eq_true rfl, Nat.le_of_ble_eq_true rfl⟩) (fun ab H locs hh => ?_)
  refine lv_aload_n hx hb dX10_oil_11 rfl (lv_at hl 0 rfl) ?_
  refine lv_aload_n hx hb dX10_oil_12 rfl (lv_at hl 0 rfl) ?_
  refine am_getR X hh 0 11 6 127 (by decide) rfl rfl (by decide) hwRX10 (show Cond.fieldLink RX10 45 "PlanetWorkshop" "changes" "LPlanetWorkshop$Changes;" ∈ wsX10_oil by decide +kernel) rfl dX10_oil_13 ?_
  refine lv_iload_n hx hb dX10_oil_16 rfl (lv_at hl 1 rfl) ?_
  obtain ⟨⟨r5, w6⟩, hk4, hF⟩ := am_bind hF
  have hF := am_u2 hF
  refine am_call X hh (va_runV (As := [.int x1]) (rest := [.ref (gAd G 0)]) X.1 (c_X1_putOil l G hk4) (cwV 1 hts gX10_oil_X1_putOil rfl rfl rfl (by decide +kernel) ⟨Nat.le_of_ble_eq_true rfl, Nat.le_of_ble_eq_true rfl⟩) (am_preV X hh 127 4 (by decide) rfl rfl) rfl rfl hl.1 rfl (lv_room (Nat.le_of_ble_eq_true rfl)) dX10_oil_17 ⟨Nat.le_of_ble_eq_true rfl, Nat.le_of_ble_eq_true rfl⟩) (fun ab H locs hh => ?_)
  obtain ⟨⟨z11, w10⟩, hk8, hF⟩ := am_bind hF
  have hF := am_u2 hF
  refine am_callX X hh (vx_runV (As := [.int r5]) (rest := []) X.1 (c_X10_settle l G hst hk8) (cwV 1 hts gX10_oil_X10_settle rfl rfl rfl (by decide +kernel) ⟨Nat.le_of_ble_eq_true rfl, Nat.le_of_ble_eq_true rfl⟩) (am_preV X hh 0 11 (by decide) rfl rfl) rfl rfl hl.1 rfl (lv_room (Nat.le_of_ble_eq_true rfl)) dX10_oil_20 ⟨Nat.le_of_ble_eq_true rfl, Nat.le_of_ble_eq_true rfl⟩) (fun k ab H locs ce q hz hh hce hcv hcl => ?_) (fun r9 ab H locs hz hh => ?_)
  · subst hz
    have hF := am_zl hF
    exact am_out X htb hh (am_zw hF).1 (am_zw hF).2 hce hcv hcl (Nat.le_of_ble_eq_true rfl) (Nat.le_of_ble_eq_true rfl)
  · subst hz
    have hF := am_zr hF
    exact vx_ret (am_iret X hr hh (fun t ht => am_qwX (mk := oI) hF ht) (Nat.le_of_ble_eq_true rfl) (Nat.le_of_ble_eq_true rfl) dX10_oil_23)
set_option maxHeartbeats 4000000 in
set_option maxRecDepth 100000 in
theorem c_X10_buyOil (l : Launch) (G : GG) (hst : l.stackTraces = false) {w : Wd} {x1 : Int32} {z0 : (Nat ⊕ Int32)} {w1 : Wd} (hF : f_X10_buyOil w x1 = some (z0, w1)) : vx_Met l yX10_buyOil wsX10_buyOil ({ frames := 8, cells := 1, slots := 6, locals := 131 } : Room) (va_Pc [.ref (gAd G 0), .int x1] (Rel G w)) (amR G oI z0 w1) (amX G z0 w1) 1 6 (gA G) := by
  refine am_metX (own := RX10) (cc := cX10_buyOil) (maxL := 2) (ret := (some .int)) (by decide +kernel) rfl rfl (Nat.le_of_ble_eq_true rfl) ?_
  intro p e s m args below meth c ab H locs ls X hr htb hh hl
  have hx := X.1.1; have hb := X.1.2.1; have hml := X.1.2.2.1; have hown := X.1.2.2.2.1; have hts := X.1.2.2.2.2
  have hl : lv_has ls 2 [(0, .ref (gAd G 0)), (1, .int x1)] := hl
  have hwRX10 : ∀ z ∈ u_ws RX10 TX10 13, z ∈ wsX10_buyOil := by decide +kernel
  unfold f_X10_buyOil at hF
  refine lv_aload_n hx hb dX10_buyOil_0 rfl (lv_at hl 0 rfl) ?_
  refine am_getR X hh 0 11 1 12 (by decide) rfl rfl (by decide) hwRX10 (show Cond.fieldLink RX10 16 "PlanetWorkshop" "before" "LPlanetWorkshop$State;" ∈ wsX10_buyOil by decide +kernel) rfl dX10_buyOil_1 ?_
  refine lv_aload_n hx hb dX10_buyOil_4 rfl (lv_at hl 0 rfl) ?_
  refine am_getR X hh 0 11 0 1 (by decide) rfl rfl (by decide) hwRX10 (show Cond.fieldLink RX10 12 "PlanetWorkshop" "now" "LPlanetWorkshop$State;" ∈ wsX10_buyOil by decide +kernel) rfl dX10_buyOil_5 ?_
  obtain ⟨w3, hk1, hF⟩ := am_bind hF
  refine am_call X hh (va_runV (As := [.ref (gAd G 1)]) (rest := []) X.1 (c_X7_copyFrom l G st_12 st_1 hk1) (cwV 1 hts gX10_buyOil_X7_copyFrom rfl rfl rfl (by decide +kernel) ⟨Nat.le_of_ble_eq_true rfl, Nat.le_of_ble_eq_true rfl⟩) (am_preV X hh 12 9 (by decide) rfl rfl) rfl rfl hl.1 rfl (lv_room (Nat.le_of_ble_eq_true rfl)) dX10_buyOil_8 ⟨Nat.le_of_ble_eq_true rfl, Nat.le_of_ble_eq_true rfl⟩) (fun ab H locs hh => ?_)
  refine lv_aload_n hx hb dX10_buyOil_11 rfl (lv_at hl 0 rfl) ?_
  refine lv_aload_n hx hb dX10_buyOil_12 rfl (lv_at hl 0 rfl) ?_
  refine am_getR X hh 0 11 6 127 (by decide) rfl rfl (by decide) hwRX10 (show Cond.fieldLink RX10 45 "PlanetWorkshop" "changes" "LPlanetWorkshop$Changes;" ∈ wsX10_buyOil by decide +kernel) rfl dX10_buyOil_13 ?_
  refine lv_iload_n hx hb dX10_buyOil_16 rfl (lv_at hl 1 rfl) ?_
  obtain ⟨⟨r5, w6⟩, hk4, hF⟩ := am_bind hF
  have hF := am_u2 hF
  refine am_call X hh (va_runV (As := [.int x1]) (rest := [.ref (gAd G 0)]) X.1 (c_X1_addDrops l G hk4) (cwV 1 hts gX10_buyOil_X1_addDrops rfl rfl rfl (by decide +kernel) ⟨Nat.le_of_ble_eq_true rfl, Nat.le_of_ble_eq_true rfl⟩) (am_preV X hh 127 4 (by decide) rfl rfl) rfl rfl hl.1 rfl (lv_room (Nat.le_of_ble_eq_true rfl)) dX10_buyOil_17 ⟨Nat.le_of_ble_eq_true rfl, Nat.le_of_ble_eq_true rfl⟩) (fun ab H locs hh => ?_)
  obtain ⟨⟨z11, w10⟩, hk8, hF⟩ := am_bind hF
  have hF := am_u2 hF
  refine am_callX X hh (vx_runV (As := [.int r5]) (rest := []) X.1 (c_X10_settle l G hst hk8) (cwV 1 hts gX10_buyOil_X10_settle rfl rfl rfl (by decide +kernel) ⟨Nat.le_of_ble_eq_true rfl, Nat.le_of_ble_eq_true rfl⟩) (am_preV X hh 0 11 (by decide) rfl rfl) rfl rfl hl.1 rfl (lv_room (Nat.le_of_ble_eq_true rfl)) dX10_buyOil_20 ⟨Nat.le_of_ble_eq_true rfl, Nat.le_of_ble_eq_true rfl⟩) (fun k ab H locs ce q hz hh hce hcv hcl => ?_) (fun r9 ab H locs hz hh => ?_)
  · subst hz
    have hF := am_zl hF
    exact am_out X htb hh (am_zw hF).1 (am_zw hF).2 hce hcv hcl (Nat.le_of_ble_eq_true rfl) (Nat.le_of_ble_eq_true rfl)
  · subst hz
    have hF := am_zr hF
    exact vx_ret (am_iret X hr hh (fun t ht => am_qwX (mk := oI) hF ht) (Nat.le_of_ble_eq_true rfl) (Nat.le_of_ble_eq_true rfl) dX10_buyOil_23)
set_option maxHeartbeats 4000000 in
set_option maxRecDepth 100000 in
theorem c_X10_addPlanet (l : Launch) (G : GG) (hst : l.stackTraces = false) {w : Wd} {x1 : Int32} {z0 : (Nat ⊕ Int32)} {w1 : Wd} (hF : f_X10_addPlanet w x1 = some (z0, w1)) : vx_Met l yX10_addPlanet wsX10_addPlanet ({ frames := 8, cells := 1, slots := 6, locals := 131 } : Room) (va_Pc [.ref (gAd G 0), .int x1] (Rel G w)) (amR G oI z0 w1) (amX G z0 w1) 1 6 (gA G) := by
  refine am_metX (own := RX10) (cc := cX10_addPlanet) (maxL := 2) (ret := (some .int)) (by decide +kernel) rfl rfl (Nat.le_of_ble_eq_true rfl) ?_
  intro p e s m args below meth c ab H locs ls X hr htb hh hl
  have hx := X.1.1; have hb := X.1.2.1; have hml := X.1.2.2.1; have hown := X.1.2.2.2.1; have hts := X.1.2.2.2.2
  have hl : lv_has ls 2 [(0, .ref (gAd G 0)), (1, .int x1)] := hl
  have hwRX10 : ∀ z ∈ u_ws RX10 TX10 13, z ∈ wsX10_addPlanet := by decide +kernel
  unfold f_X10_addPlanet at hF
  refine lv_aload_n hx hb dX10_addPlanet_0 rfl (lv_at hl 0 rfl) ?_
  refine am_getR X hh 0 11 1 12 (by decide) rfl rfl (by decide) hwRX10 (show Cond.fieldLink RX10 16 "PlanetWorkshop" "before" "LPlanetWorkshop$State;" ∈ wsX10_addPlanet by decide +kernel) rfl dX10_addPlanet_1 ?_
  refine lv_aload_n hx hb dX10_addPlanet_4 rfl (lv_at hl 0 rfl) ?_
  refine am_getR X hh 0 11 0 1 (by decide) rfl rfl (by decide) hwRX10 (show Cond.fieldLink RX10 12 "PlanetWorkshop" "now" "LPlanetWorkshop$State;" ∈ wsX10_addPlanet by decide +kernel) rfl dX10_addPlanet_5 ?_
  obtain ⟨w3, hk1, hF⟩ := am_bind hF
  refine am_call X hh (va_runV (As := [.ref (gAd G 1)]) (rest := []) X.1 (c_X7_copyFrom l G st_12 st_1 hk1) (cwV 1 hts gX10_addPlanet_X7_copyFrom rfl rfl rfl (by decide +kernel) ⟨Nat.le_of_ble_eq_true rfl, Nat.le_of_ble_eq_true rfl⟩) (am_preV X hh 12 9 (by decide) rfl rfl) rfl rfl hl.1 rfl (lv_room (Nat.le_of_ble_eq_true rfl)) dX10_addPlanet_8 ⟨Nat.le_of_ble_eq_true rfl, Nat.le_of_ble_eq_true rfl⟩) (fun ab H locs hh => ?_)
  refine lv_aload_n hx hb dX10_addPlanet_11 rfl (lv_at hl 0 rfl) ?_
  refine lv_aload_n hx hb dX10_addPlanet_12 rfl (lv_at hl 0 rfl) ?_
  refine am_getR X hh 0 11 6 127 (by decide) rfl rfl (by decide) hwRX10 (show Cond.fieldLink RX10 45 "PlanetWorkshop" "changes" "LPlanetWorkshop$Changes;" ∈ wsX10_addPlanet by decide +kernel) rfl dX10_addPlanet_13 ?_
  refine lv_iload_n hx hb dX10_addPlanet_16 rfl (lv_at hl 1 rfl) ?_
  obtain ⟨⟨r5, w6⟩, hk4, hF⟩ := am_bind hF
  have hF := am_u2 hF
  refine am_call X hh (va_runV (As := [.int x1]) (rest := [.ref (gAd G 0)]) X.1 (c_X1_putPlanet l G hk4) (cwV 1 hts gX10_addPlanet_X1_putPlanet rfl rfl rfl (by decide +kernel) ⟨Nat.le_of_ble_eq_true rfl, Nat.le_of_ble_eq_true rfl⟩) (am_preV X hh 127 4 (by decide) rfl rfl) rfl rfl hl.1 rfl (lv_room (Nat.le_of_ble_eq_true rfl)) dX10_addPlanet_17 ⟨Nat.le_of_ble_eq_true rfl, Nat.le_of_ble_eq_true rfl⟩) (fun ab H locs hh => ?_)
  obtain ⟨⟨z11, w10⟩, hk8, hF⟩ := am_bind hF
  have hF := am_u2 hF
  refine am_callX X hh (vx_runV (As := [.int r5]) (rest := []) X.1 (c_X10_settle l G hst hk8) (cwV 1 hts gX10_addPlanet_X10_settle rfl rfl rfl (by decide +kernel) ⟨Nat.le_of_ble_eq_true rfl, Nat.le_of_ble_eq_true rfl⟩) (am_preV X hh 0 11 (by decide) rfl rfl) rfl rfl hl.1 rfl (lv_room (Nat.le_of_ble_eq_true rfl)) dX10_addPlanet_20 ⟨Nat.le_of_ble_eq_true rfl, Nat.le_of_ble_eq_true rfl⟩) (fun k ab H locs ce q hz hh hce hcv hcl => ?_) (fun r9 ab H locs hz hh => ?_)
  · subst hz
    have hF := am_zl hF
    exact am_out X htb hh (am_zw hF).1 (am_zw hF).2 hce hcv hcl (Nat.le_of_ble_eq_true rfl) (Nat.le_of_ble_eq_true rfl)
  · subst hz
    have hF := am_zr hF
    exact vx_ret (am_iret X hr hh (fun t ht => am_qwX (mk := oI) hF ht) (Nat.le_of_ble_eq_true rfl) (Nat.le_of_ble_eq_true rfl) dX10_addPlanet_23)
set_option maxHeartbeats 4000000 in
set_option maxRecDepth 100000 in
theorem c_X10_unitsPerTurn (l : Launch) (G : GG) (hst : l.stackTraces = false) {w : Wd} {x1 : Int32} {x2 : Int32} {z0 : (Nat ⊕ Int64)} {w1 : Wd} (hF : f_X10_unitsPerTurn w x1 x2 = some (z0, w1)) : vx_Met l yX10_unitsPerTurn wsX10_unitsPerTurn ({ frames := 8, cells := 3, slots := 18, locals := 133 } : Room) (va_Pc [.ref (gAd G 0), .int x1, .int x2] (Rel G w)) (amR G oL z0 w1) (amX G z0 w1) 3 18 (gA G) := by
  refine am_metX (own := RX10) (cc := cX10_unitsPerTurn) (maxL := 3) (ret := (some .long)) (by decide +kernel) rfl rfl (Nat.le_of_ble_eq_true rfl) ?_
  intro p e s m args below meth c ab H locs ls X hr htb hh hl
  have hx := X.1.1; have hb := X.1.2.1; have hml := X.1.2.2.1; have hown := X.1.2.2.2.1; have hts := X.1.2.2.2.2
  have hl : lv_has ls 3 [(0, .ref (gAd G 0)), (1, .int x1), (2, .int x2)] := hl
  unfold f_X10_unitsPerTurn at hF
  refine lv_aload_n hx hb dX10_unitsPerTurn_0 rfl (lv_at hl 0 rfl) ?_
  refine lv_iload_n hx hb dX10_unitsPerTurn_1 rfl (lv_at hl 1 rfl) ?_
  refine lv_iload_n hx hb dX10_unitsPerTurn_2 rfl (lv_at hl 2 rfl) ?_
  obtain ⟨⟨z4, w3⟩, hk1, hF⟩ := am_bind hF
  have hF := am_u2 hF
  refine am_callX X hh (vx_runV (As := [.int x1, .int x2]) (rest := []) X.1 (c_X10_checkSameTrain l G hst hk1) (cwV 2 hts gX10_unitsPerTurn_X10_checkSameTrain rfl rfl rfl (by decide +kernel) ⟨Nat.le_of_ble_eq_true rfl, Nat.le_of_ble_eq_true rfl⟩) (am_preV X hh 0 11 (by decide) rfl rfl) rfl rfl hl.1 rfl (lv_room (Nat.le_of_ble_eq_true rfl)) dX10_unitsPerTurn_3 ⟨Nat.le_of_ble_eq_true rfl, Nat.le_of_ble_eq_true rfl⟩) (fun k ab H locs ce q hz hh hce hcv hcl => ?_) (fun r2 ab H locs hz hh => ?_)
  · subst hz
    have hF := am_zl hF
    exact am_out X htb hh (am_zw hF).1 (am_zw hF).2 hce hcv hcl (Nat.le_of_ble_eq_true rfl) (Nat.le_of_ble_eq_true rfl)
  · subst hz
    have hF := am_zr hF
    refine lv_aload_n hx hb dX10_unitsPerTurn_6 rfl (lv_at hl 0 rfl) ?_
    refine lv_iload_n hx hb dX10_unitsPerTurn_7 rfl (lv_at hl 1 rfl) ?_
    refine lv_iload_n hx hb dX10_unitsPerTurn_8 rfl (lv_at hl 2 rfl) ?_
    obtain ⟨⟨r6, w7⟩, hk5, hF⟩ := am_bind hF
    have hF := am_u2 hF
    refine am_call X hh (va_runV (As := [.int x1, .int x2]) (rest := []) X.1 (c_X10_unitsByChain l G hk5) (cwV 2 hts gX10_unitsPerTurn_X10_unitsByChain rfl rfl rfl (by decide +kernel) ⟨Nat.le_of_ble_eq_true rfl, Nat.le_of_ble_eq_true rfl⟩) (am_preV X hh 0 11 (by decide) rfl rfl) rfl rfl hl.1 rfl (lv_room (Nat.le_of_ble_eq_true rfl)) dX10_unitsPerTurn_9 ⟨Nat.le_of_ble_eq_true rfl, Nat.le_of_ble_eq_true rfl⟩) (fun ab H locs hh => ?_)
    exact vx_ret (am_lret X hr hh (fun t ht => am_qwX (mk := oL) hF ht) (Nat.le_of_ble_eq_true rfl) (Nat.le_of_ble_eq_true rfl) dX10_unitsPerTurn_12)
set_option maxHeartbeats 4000000 in
set_option maxRecDepth 100000 in
theorem c_X10_unitsPerTurnByLowest (l : Launch) (G : GG) (hst : l.stackTraces = false) {w : Wd} {x1 : Int32} {x2 : Int32} {z0 : (Nat ⊕ Int64)} {w1 : Wd} (hF : f_X10_unitsPerTurnByLowest w x1 x2 = some (z0, w1)) : vx_Met l yX10_unitsPerTurnByLowest wsX10_unitsPerTurnByLowest ({ frames := 8, cells := 3, slots := 18, locals := 133 } : Room) (va_Pc [.ref (gAd G 0), .int x1, .int x2] (Rel G w)) (amR G oL z0 w1) (amX G z0 w1) 3 18 (gA G) := by
  refine am_metX (own := RX10) (cc := cX10_unitsPerTurnByLowest) (maxL := 3) (ret := (some .long)) (by decide +kernel) rfl rfl (Nat.le_of_ble_eq_true rfl) ?_
  intro p e s m args below meth c ab H locs ls X hr htb hh hl
  have hx := X.1.1; have hb := X.1.2.1; have hml := X.1.2.2.1; have hown := X.1.2.2.2.1; have hts := X.1.2.2.2.2
  have hl : lv_has ls 3 [(0, .ref (gAd G 0)), (1, .int x1), (2, .int x2)] := hl
  unfold f_X10_unitsPerTurnByLowest at hF
  refine lv_aload_n hx hb dX10_unitsPerTurnByLowest_0 rfl (lv_at hl 0 rfl) ?_
  refine lv_iload_n hx hb dX10_unitsPerTurnByLowest_1 rfl (lv_at hl 1 rfl) ?_
  refine lv_iload_n hx hb dX10_unitsPerTurnByLowest_2 rfl (lv_at hl 2 rfl) ?_
  obtain ⟨⟨z4, w3⟩, hk1, hF⟩ := am_bind hF
  have hF := am_u2 hF
  refine am_callX X hh (vx_runV (As := [.int x1, .int x2]) (rest := []) X.1 (c_X10_checkSameTrain l G hst hk1) (cwV 2 hts gX10_unitsPerTurnByLowest_X10_checkSameTrain rfl rfl rfl (by decide +kernel) ⟨Nat.le_of_ble_eq_true rfl, Nat.le_of_ble_eq_true rfl⟩) (am_preV X hh 0 11 (by decide) rfl rfl) rfl rfl hl.1 rfl (lv_room (Nat.le_of_ble_eq_true rfl)) dX10_unitsPerTurnByLowest_3 ⟨Nat.le_of_ble_eq_true rfl, Nat.le_of_ble_eq_true rfl⟩) (fun k ab H locs ce q hz hh hce hcv hcl => ?_) (fun r2 ab H locs hz hh => ?_)
  · subst hz
    have hF := am_zl hF
    exact am_out X htb hh (am_zw hF).1 (am_zw hF).2 hce hcv hcl (Nat.le_of_ble_eq_true rfl) (Nat.le_of_ble_eq_true rfl)
  · subst hz
    have hF := am_zr hF
    refine lv_aload_n hx hb dX10_unitsPerTurnByLowest_6 rfl (lv_at hl 0 rfl) ?_
    refine lv_iload_n hx hb dX10_unitsPerTurnByLowest_7 rfl (lv_at hl 1 rfl) ?_
    refine lv_iload_n hx hb dX10_unitsPerTurnByLowest_8 rfl (lv_at hl 2 rfl) ?_
    obtain ⟨⟨r6, w7⟩, hk5, hF⟩ := am_bind hF
    have hF := am_u2 hF
    refine am_call X hh (va_runV (As := [.int x1, .int x2]) (rest := []) X.1 (c_X10_unitsByLowest l G hk5) (cwV 2 hts gX10_unitsPerTurnByLowest_X10_unitsByLowest rfl rfl rfl (by decide +kernel) ⟨Nat.le_of_ble_eq_true rfl, Nat.le_of_ble_eq_true rfl⟩) (am_preV X hh 0 11 (by decide) rfl rfl) rfl rfl hl.1 rfl (lv_room (Nat.le_of_ble_eq_true rfl)) dX10_unitsPerTurnByLowest_9 ⟨Nat.le_of_ble_eq_true rfl, Nat.le_of_ble_eq_true rfl⟩) (fun ab H locs hh => ?_)
    exact vx_ret (am_lret X hr hh (fun t ht => am_qwX (mk := oL) hF ht) (Nat.le_of_ble_eq_true rfl) (Nat.le_of_ble_eq_true rfl) dX10_unitsPerTurnByLowest_12)
set_option maxHeartbeats 4000000 in
set_option maxRecDepth 100000 in
theorem c_X10_nextEclipse (l : Launch) (G : GG) (hst : l.stackTraces = false) {w : Wd} {x1 : Int32} {x2 : Int32} {x3 : Int32} {z0 : (Nat ⊕ Int32)} {w1 : Wd} (hF : f_X10_nextEclipse w x1 x2 x3 = some (z0, w1)) : vx_Met l yX10_nextEclipse wsX10_nextEclipse ({ frames := 7, cells := 2, slots := 12, locals := 134 } : Room) (va_Pc [.ref (gAd G 0), .int x1, .int x2, .int x3] (Rel G w)) (amR G oI z0 w1) (amX G z0 w1) 2 12 (gA G) := by
  refine am_metX (own := RX10) (cc := cX10_nextEclipse) (maxL := 4) (ret := (some .int)) (by decide +kernel) rfl rfl (Nat.le_of_ble_eq_true rfl) ?_
  intro p e s m args below meth c ab H locs ls X hr htb hh hl
  have hx := X.1.1; have hb := X.1.2.1; have hml := X.1.2.2.1; have hown := X.1.2.2.2.1; have hts := X.1.2.2.2.2
  have hl : lv_has ls 4 [(0, .ref (gAd G 0)), (1, .int x1), (2, .int x2), (3, .int x3)] := hl
  have hwRX10 : ∀ z ∈ u_ws RX10 TX10 13, z ∈ wsX10_nextEclipse := by decide +kernel
  unfold f_X10_nextEclipse at hF
  refine lv_aload_n hx hb dX10_nextEclipse_0 rfl (lv_at hl 0 rfl) ?_
  refine am_getR X hh 0 11 7 128 (by decide) rfl rfl (by decide) hwRX10 (show Cond.fieldLink RX10 52 "PlanetWorkshop" "eclipses" "LPlanetWorkshop$Eclipses;" ∈ wsX10_nextEclipse by decide +kernel) rfl dX10_nextEclipse_1 ?_
  refine lv_iload_n hx hb dX10_nextEclipse_4 rfl (lv_at hl 1 rfl) ?_
  refine lv_iload_n hx hb dX10_nextEclipse_5 rfl (lv_at hl 2 rfl) ?_
  refine lv_iload_n hx hb dX10_nextEclipse_6 rfl (lv_at hl 3 rfl) ?_
  obtain ⟨⟨r2, w3⟩, hk1, hF⟩ := am_bind hF
  have hF := am_u2 hF
  refine am_call X hh (va_runV (As := [.int x1, .int x2, .int x3]) (rest := []) X.1 (c_X2_judge l G hk1) (cwV 3 hts gX10_nextEclipse_X2_judge rfl rfl rfl (by decide +kernel) ⟨Nat.le_of_ble_eq_true rfl, Nat.le_of_ble_eq_true rfl⟩) (am_preV X hh 128 5 (by decide) rfl rfl) rfl rfl hl.1 rfl (lv_room (Nat.le_of_ble_eq_true rfl)) dX10_nextEclipse_7 ⟨Nat.le_of_ble_eq_true rfl, Nat.le_of_ble_eq_true rfl⟩) (fun ab H locs hh => ?_)
  obtain ⟨z7, hk5, hF⟩ := am_bind hF
  refine am_callX X hh (vx_runS (As := [.int r2]) (rest := []) X.1 (c_X10_refuse l G hst hk5) (va_cwS 1 hts gX10_nextEclipse_X10_refuse rfl rfl rfl (by decide +kernel) ⟨Nat.le_of_ble_eq_true rfl, Nat.le_of_ble_eq_true rfl⟩) (am_preS X hh) rfl rfl hl.1 rfl (lv_room (Nat.le_of_ble_eq_true rfl)) dX10_nextEclipse_10 ⟨Nat.le_of_ble_eq_true rfl, Nat.le_of_ble_eq_true rfl⟩) (fun k ab H locs ce q hz hh hce hcv hcl => ?_) (fun r6 ab H locs hz hh => ?_)
  · subst hz
    have hF := am_zl hF
    exact am_out X htb hh (am_zw hF).1 (am_zw hF).2 hce hcv hcl (Nat.le_of_ble_eq_true rfl) (Nat.le_of_ble_eq_true rfl)
  · subst hz
    have hF := am_zr hF
    refine lv_aload_n hx hb dX10_nextEclipse_13 rfl (lv_at hl 0 rfl) ?_
    refine am_getR X hh 0 11 7 128 (by decide) rfl rfl (by decide) hwRX10 (show Cond.fieldLink RX10 52 "PlanetWorkshop" "eclipses" "LPlanetWorkshop$Eclipses;" ∈ wsX10_nextEclipse by decide +kernel) rfl dX10_nextEclipse_14 ?_
    refine lv_iload_n hx hb dX10_nextEclipse_17 rfl (lv_at hl 1 rfl) ?_
    refine lv_iload_n hx hb dX10_nextEclipse_18 rfl (lv_at hl 2 rfl) ?_
    refine lv_iload_n hx hb dX10_nextEclipse_19 rfl (lv_at hl 3 rfl) ?_
    obtain ⟨⟨r9, w10⟩, hk8, hF⟩ := am_bind hF
    have hF := am_u2 hF
    refine am_call X hh (va_runV (As := [.int x1, .int x2, .int x3]) (rest := []) X.1 (c_X2_bySolving l G hk8) (cwV 3 hts gX10_nextEclipse_X2_bySolving rfl rfl rfl (by decide +kernel) ⟨Nat.le_of_ble_eq_true rfl, Nat.le_of_ble_eq_true rfl⟩) (am_preV X hh 128 5 (by decide) rfl rfl) rfl rfl hl.1 rfl (lv_room (Nat.le_of_ble_eq_true rfl)) dX10_nextEclipse_20 ⟨Nat.le_of_ble_eq_true rfl, Nat.le_of_ble_eq_true rfl⟩) (fun ab H locs hh => ?_)
    obtain ⟨z14, hk12, hF⟩ := am_bind hF
    refine am_callX X hh (vx_runS (As := [.int r9]) (rest := []) X.1 (c_X10_found l G hst hk12) (va_cwS 1 hts gX10_nextEclipse_X10_found rfl rfl rfl (by decide +kernel) ⟨Nat.le_of_ble_eq_true rfl, Nat.le_of_ble_eq_true rfl⟩) (am_preS X hh) rfl rfl hl.1 rfl (lv_room (Nat.le_of_ble_eq_true rfl)) dX10_nextEclipse_23 ⟨Nat.le_of_ble_eq_true rfl, Nat.le_of_ble_eq_true rfl⟩) (fun k ab H locs ce q hz hh hce hcv hcl => ?_) (fun r13 ab H locs hz hh => ?_)
    · subst hz
      have hF := am_zl hF
      exact am_out X htb hh (am_zw hF).1 (am_zw hF).2 hce hcv hcl (Nat.le_of_ble_eq_true rfl) (Nat.le_of_ble_eq_true rfl)
    · subst hz
      have hF := am_zr hF
      exact vx_ret (am_iret X hr hh (fun t ht => am_qwX (mk := oI) hF ht) (Nat.le_of_ble_eq_true rfl) (Nat.le_of_ble_eq_true rfl) dX10_nextEclipse_26)
set_option maxHeartbeats 4000000 in
set_option maxRecDepth 100000 in
theorem c_X10_nextEclipseByTurns (l : Launch) (G : GG) (hst : l.stackTraces = false) {w : Wd} {x1 : Int32} {x2 : Int32} {x3 : Int32} {z0 : (Nat ⊕ Int32)} {w1 : Wd} (hF : f_X10_nextEclipseByTurns w x1 x2 x3 = some (z0, w1)) : vx_Met l yX10_nextEclipseByTurns wsX10_nextEclipseByTurns ({ frames := 7, cells := 2, slots := 12, locals := 129 } : Room) (va_Pc [.ref (gAd G 0), .int x1, .int x2, .int x3] (Rel G w)) (amR G oI z0 w1) (amX G z0 w1) 2 12 (gA G) := by
  refine am_metX (own := RX10) (cc := cX10_nextEclipseByTurns) (maxL := 4) (ret := (some .int)) (by decide +kernel) rfl rfl (Nat.le_of_ble_eq_true rfl) ?_
  intro p e s m args below meth c ab H locs ls X hr htb hh hl
  have hx := X.1.1; have hb := X.1.2.1; have hml := X.1.2.2.1; have hown := X.1.2.2.2.1; have hts := X.1.2.2.2.2
  have hl : lv_has ls 4 [(0, .ref (gAd G 0)), (1, .int x1), (2, .int x2), (3, .int x3)] := hl
  have hwRX10 : ∀ z ∈ u_ws RX10 TX10 13, z ∈ wsX10_nextEclipseByTurns := by decide +kernel
  unfold f_X10_nextEclipseByTurns at hF
  refine lv_aload_n hx hb dX10_nextEclipseByTurns_0 rfl (lv_at hl 0 rfl) ?_
  refine am_getR X hh 0 11 7 128 (by decide) rfl rfl (by decide) hwRX10 (show Cond.fieldLink RX10 52 "PlanetWorkshop" "eclipses" "LPlanetWorkshop$Eclipses;" ∈ wsX10_nextEclipseByTurns by decide +kernel) rfl dX10_nextEclipseByTurns_1 ?_
  refine lv_iload_n hx hb dX10_nextEclipseByTurns_4 rfl (lv_at hl 1 rfl) ?_
  refine lv_iload_n hx hb dX10_nextEclipseByTurns_5 rfl (lv_at hl 2 rfl) ?_
  refine lv_iload_n hx hb dX10_nextEclipseByTurns_6 rfl (lv_at hl 3 rfl) ?_
  obtain ⟨⟨r2, w3⟩, hk1, hF⟩ := am_bind hF
  have hF := am_u2 hF
  refine am_call X hh (va_runV (As := [.int x1, .int x2, .int x3]) (rest := []) X.1 (c_X2_judge l G hk1) (cwV 3 hts gX10_nextEclipseByTurns_X2_judge rfl rfl rfl (by decide +kernel) ⟨Nat.le_of_ble_eq_true rfl, Nat.le_of_ble_eq_true rfl⟩) (am_preV X hh 128 5 (by decide) rfl rfl) rfl rfl hl.1 rfl (lv_room (Nat.le_of_ble_eq_true rfl)) dX10_nextEclipseByTurns_7 ⟨Nat.le_of_ble_eq_true rfl, Nat.le_of_ble_eq_true rfl⟩) (fun ab H locs hh => ?_)
  obtain ⟨z7, hk5, hF⟩ := am_bind hF
  refine am_callX X hh (vx_runS (As := [.int r2]) (rest := []) X.1 (c_X10_refuse l G hst hk5) (va_cwS 1 hts gX10_nextEclipseByTurns_X10_refuse rfl rfl rfl (by decide +kernel) ⟨Nat.le_of_ble_eq_true rfl, Nat.le_of_ble_eq_true rfl⟩) (am_preS X hh) rfl rfl hl.1 rfl (lv_room (Nat.le_of_ble_eq_true rfl)) dX10_nextEclipseByTurns_10 ⟨Nat.le_of_ble_eq_true rfl, Nat.le_of_ble_eq_true rfl⟩) (fun k ab H locs ce q hz hh hce hcv hcl => ?_) (fun r6 ab H locs hz hh => ?_)
  · subst hz
    have hF := am_zl hF
    exact am_out X htb hh (am_zw hF).1 (am_zw hF).2 hce hcv hcl (Nat.le_of_ble_eq_true rfl) (Nat.le_of_ble_eq_true rfl)
  · subst hz
    have hF := am_zr hF
    refine lv_aload_n hx hb dX10_nextEclipseByTurns_13 rfl (lv_at hl 0 rfl) ?_
    refine am_getR X hh 0 11 7 128 (by decide) rfl rfl (by decide) hwRX10 (show Cond.fieldLink RX10 52 "PlanetWorkshop" "eclipses" "LPlanetWorkshop$Eclipses;" ∈ wsX10_nextEclipseByTurns by decide +kernel) rfl dX10_nextEclipseByTurns_14 ?_
    refine lv_iload_n hx hb dX10_nextEclipseByTurns_17 rfl (lv_at hl 1 rfl) ?_
    refine lv_iload_n hx hb dX10_nextEclipseByTurns_18 rfl (lv_at hl 2 rfl) ?_
    refine lv_iload_n hx hb dX10_nextEclipseByTurns_19 rfl (lv_at hl 3 rfl) ?_
    obtain ⟨⟨r9, w10⟩, hk8, hF⟩ := am_bind hF
    have hF := am_u2 hF
    refine am_call X hh (va_runV (As := [.int x1, .int x2, .int x3]) (rest := []) X.1 (c_X2_byTurning l G hk8) (cwV 3 hts gX10_nextEclipseByTurns_X2_byTurning rfl rfl rfl (by decide +kernel) ⟨Nat.le_of_ble_eq_true rfl, Nat.le_of_ble_eq_true rfl⟩) (am_preV X hh 128 5 (by decide) rfl rfl) rfl rfl hl.1 rfl (lv_room (Nat.le_of_ble_eq_true rfl)) dX10_nextEclipseByTurns_20 ⟨Nat.le_of_ble_eq_true rfl, Nat.le_of_ble_eq_true rfl⟩) (fun ab H locs hh => ?_)
    obtain ⟨z14, hk12, hF⟩ := am_bind hF
    refine am_callX X hh (vx_runS (As := [.int r9]) (rest := []) X.1 (c_X10_found l G hst hk12) (va_cwS 1 hts gX10_nextEclipseByTurns_X10_found rfl rfl rfl (by decide +kernel) ⟨Nat.le_of_ble_eq_true rfl, Nat.le_of_ble_eq_true rfl⟩) (am_preS X hh) rfl rfl hl.1 rfl (lv_room (Nat.le_of_ble_eq_true rfl)) dX10_nextEclipseByTurns_23 ⟨Nat.le_of_ble_eq_true rfl, Nat.le_of_ble_eq_true rfl⟩) (fun k ab H locs ce q hz hh hce hcv hcl => ?_) (fun r13 ab H locs hz hh => ?_)
    · subst hz
      have hF := am_zl hF
      exact am_out X htb hh (am_zw hF).1 (am_zw hF).2 hce hcv hcl (Nat.le_of_ble_eq_true rfl) (Nat.le_of_ble_eq_true rfl)
    · subst hz
      have hF := am_zr hF
      exact vx_ret (am_iret X hr hh (fun t ht => am_qwX (mk := oI) hF ht) (Nat.le_of_ble_eq_true rfl) (Nat.le_of_ble_eq_true rfl) dX10_nextEclipseByTurns_26)
set_option maxHeartbeats 4000000 in
set_option maxRecDepth 100000 in
theorem c_X10_release (l : Launch) (G : GG) (hst : l.stackTraces = false) {w : Wd} {x1 : Int32} {x2 : Int32} {z0 : (Nat ⊕ Int32)} {w1 : Wd} (hF : f_X10_release w x1 x2 = some (z0, w1)) : vx_Met l yX10_release wsX10_release ({ frames := 8, cells := 1, slots := 6, locals := 131 } : Room) (va_Pc [.ref (gAd G 0), .int x1, .int x2] (Rel G w)) (amR G oI z0 w1) (amX G z0 w1) 1 6 (gA G) := by
  refine am_metX (own := RX10) (cc := cX10_release) (maxL := 3) (ret := (some .int)) (by decide +kernel) rfl rfl (Nat.le_of_ble_eq_true rfl) ?_
  intro p e s m args below meth c ab H locs ls X hr htb hh hl
  have hx := X.1.1; have hb := X.1.2.1; have hml := X.1.2.2.1; have hown := X.1.2.2.2.1; have hts := X.1.2.2.2.2
  have hl : lv_has ls 3 [(0, .ref (gAd G 0)), (1, .int x1), (2, .int x2)] := hl
  have hwRX10 : ∀ z ∈ u_ws RX10 TX10 13, z ∈ wsX10_release := by decide +kernel
  unfold f_X10_release at hF
  refine lv_aload_n hx hb dX10_release_0 rfl (lv_at hl 0 rfl) ?_
  refine am_getR X hh 0 11 1 12 (by decide) rfl rfl (by decide) hwRX10 (show Cond.fieldLink RX10 16 "PlanetWorkshop" "before" "LPlanetWorkshop$State;" ∈ wsX10_release by decide +kernel) rfl dX10_release_1 ?_
  refine lv_aload_n hx hb dX10_release_4 rfl (lv_at hl 0 rfl) ?_
  refine am_getR X hh 0 11 0 1 (by decide) rfl rfl (by decide) hwRX10 (show Cond.fieldLink RX10 12 "PlanetWorkshop" "now" "LPlanetWorkshop$State;" ∈ wsX10_release by decide +kernel) rfl dX10_release_5 ?_
  obtain ⟨w3, hk1, hF⟩ := am_bind hF
  refine am_call X hh (va_runV (As := [.ref (gAd G 1)]) (rest := []) X.1 (c_X7_copyFrom l G st_12 st_1 hk1) (cwV 1 hts gX10_release_X7_copyFrom rfl rfl rfl (by decide +kernel) ⟨Nat.le_of_ble_eq_true rfl, Nat.le_of_ble_eq_true rfl⟩) (am_preV X hh 12 9 (by decide) rfl rfl) rfl rfl hl.1 rfl (lv_room (Nat.le_of_ble_eq_true rfl)) dX10_release_8 ⟨Nat.le_of_ble_eq_true rfl, Nat.le_of_ble_eq_true rfl⟩) (fun ab H locs hh => ?_)
  refine lv_aload_n hx hb dX10_release_11 rfl (lv_at hl 0 rfl) ?_
  refine lv_aload_n hx hb dX10_release_12 rfl (lv_at hl 0 rfl) ?_
  refine am_getR X hh 0 11 6 127 (by decide) rfl rfl (by decide) hwRX10 (show Cond.fieldLink RX10 45 "PlanetWorkshop" "changes" "LPlanetWorkshop$Changes;" ∈ wsX10_release by decide +kernel) rfl dX10_release_13 ?_
  refine lv_iload_n hx hb dX10_release_16 rfl (lv_at hl 1 rfl) ?_
  refine lv_iload_n hx hb dX10_release_17 rfl (lv_at hl 2 rfl) ?_
  obtain ⟨⟨r5, w6⟩, hk4, hF⟩ := am_bind hF
  have hF := am_u2 hF
  refine am_call X hh (va_runV (As := [.int x1, .int x2]) (rest := [.ref (gAd G 0)]) X.1 (c_X1_letGo l G hk4) (cwV 2 hts gX10_release_X1_letGo rfl rfl rfl (by decide +kernel) ⟨Nat.le_of_ble_eq_true rfl, Nat.le_of_ble_eq_true rfl⟩) (am_preV X hh 127 4 (by decide) rfl rfl) rfl rfl hl.1 rfl (lv_room (Nat.le_of_ble_eq_true rfl)) dX10_release_18 ⟨Nat.le_of_ble_eq_true rfl, Nat.le_of_ble_eq_true rfl⟩) (fun ab H locs hh => ?_)
  obtain ⟨⟨z11, w10⟩, hk8, hF⟩ := am_bind hF
  have hF := am_u2 hF
  refine am_callX X hh (vx_runV (As := [.int r5]) (rest := []) X.1 (c_X10_settle l G hst hk8) (cwV 1 hts gX10_release_X10_settle rfl rfl rfl (by decide +kernel) ⟨Nat.le_of_ble_eq_true rfl, Nat.le_of_ble_eq_true rfl⟩) (am_preV X hh 0 11 (by decide) rfl rfl) rfl rfl hl.1 rfl (lv_room (Nat.le_of_ble_eq_true rfl)) dX10_release_21 ⟨Nat.le_of_ble_eq_true rfl, Nat.le_of_ble_eq_true rfl⟩) (fun k ab H locs ce q hz hh hce hcv hcl => ?_) (fun r9 ab H locs hz hh => ?_)
  · subst hz
    have hF := am_zl hF
    exact am_out X htb hh (am_zw hF).1 (am_zw hF).2 hce hcv hcl (Nat.le_of_ble_eq_true rfl) (Nat.le_of_ble_eq_true rfl)
  · subst hz
    have hF := am_zr hF
    exact vx_ret (am_iret X hr hh (fun t ht => am_qwX (mk := oI) hF ht) (Nat.le_of_ble_eq_true rfl) (Nat.le_of_ble_eq_true rfl) dX10_release_24)
set_option maxHeartbeats 4000000 in
set_option maxRecDepth 100000 in
theorem c_X10_fewestPairsByTable (l : Launch) (G : GG) (hst : l.stackTraces = false) {w : Wd} {x1 : Int32} {x2 : Int32} {z0 : (Nat ⊕ Int32)} {w1 : Wd} (hF : f_X10_fewestPairsByTable w x1 x2 = some (z0, w1)) : vx_Met l yX10_fewestPairsByTable wsX10_fewestPairsByTable ({ frames := 7, cells := 2, slots := 12, locals := 149 } : Room) (va_Pc [.ref (gAd G 0), .int x1, .int x2] (Rel G w)) (amR G oI z0 w1) (amX G z0 w1) 2 12 (gA G) := by
  refine am_metX (own := RX10) (cc := cX10_fewestPairsByTable) (maxL := 3) (ret := (some .int)) (by decide +kernel) rfl rfl (Nat.le_of_ble_eq_true rfl) ?_
  intro p e s m args below meth c ab H locs ls X hr htb hh hl
  have hx := X.1.1; have hb := X.1.2.1; have hml := X.1.2.2.1; have hown := X.1.2.2.2.1; have hts := X.1.2.2.2.2
  have hl : lv_has ls 3 [(0, .ref (gAd G 0)), (1, .int x1), (2, .int x2)] := hl
  have hwRX10 : ∀ z ∈ u_ws RX10 TX10 13, z ∈ wsX10_fewestPairsByTable := by decide +kernel
  unfold f_X10_fewestPairsByTable at hF
  refine lv_iload_n hx hb dX10_fewestPairsByTable_0 rfl (lv_at hl 1 rfl) ?_
  refine lv_iload_n hx hb dX10_fewestPairsByTable_1 rfl (lv_at hl 2 rfl) ?_
  obtain ⟨z3, hk1, hF⟩ := am_bind hF
  refine am_callX X hh (vx_runS (As := [.int x1, .int x2]) (rest := []) X.1 (c_X10_checkRatio l G hst hk1) (va_cwS 2 hts gX10_fewestPairsByTable_X10_checkRatio rfl rfl rfl (by decide +kernel) ⟨Nat.le_of_ble_eq_true rfl, Nat.le_of_ble_eq_true rfl⟩) (am_preS X hh) rfl rfl hl.1 rfl (lv_room (Nat.le_of_ble_eq_true rfl)) dX10_fewestPairsByTable_2 ⟨Nat.le_of_ble_eq_true rfl, Nat.le_of_ble_eq_true rfl⟩) (fun k ab H locs ce q hz hh hce hcv hcl => ?_) (fun r2 ab H locs hz hh => ?_)
  · subst hz
    have hF := am_zl hF
    exact am_out X htb hh (am_zw hF).1 (am_zw hF).2 hce hcv hcl (Nat.le_of_ble_eq_true rfl) (Nat.le_of_ble_eq_true rfl)
  · subst hz
    have hF := am_zr hF
    refine lv_aload_n hx hb dX10_fewestPairsByTable_5 rfl (lv_at hl 0 rfl) ?_
    refine am_getR X hh 0 11 8 129 (by decide) rfl rfl (by decide) hwRX10 (show Cond.fieldLink RX10 61 "PlanetWorkshop" "ratios" "LPlanetWorkshop$Ratios;" ∈ wsX10_fewestPairsByTable by decide +kernel) rfl dX10_fewestPairsByTable_6 ?_
    refine lv_iload_n hx hb dX10_fewestPairsByTable_9 rfl (lv_at hl 1 rfl) ?_
    refine lv_iload_n hx hb dX10_fewestPairsByTable_10 rfl (lv_at hl 2 rfl) ?_
    obtain ⟨⟨r5, w6⟩, hk4, hF⟩ := am_bind hF
    have hF := am_u2 hF
    refine am_call X hh (va_runV (As := [.int x1, .int x2]) (rest := []) X.1 (c_X5_byTable l G hk4) (cwV 2 hts gX10_fewestPairsByTable_X5_byTable rfl rfl rfl (by decide +kernel) ⟨Nat.le_of_ble_eq_true rfl, Nat.le_of_ble_eq_true rfl⟩) (am_preV X hh 129 7 (by decide) rfl rfl) rfl rfl hl.1 rfl (lv_room (Nat.le_of_ble_eq_true rfl)) dX10_fewestPairsByTable_11 ⟨Nat.le_of_ble_eq_true rfl, Nat.le_of_ble_eq_true rfl⟩) (fun ab H locs hh => ?_)
    obtain ⟨z10, hk8, hF⟩ := am_bind hF
    refine am_callX X hh (vx_runS (As := [.int r5]) (rest := []) X.1 (c_X10_found l G hst hk8) (va_cwS 1 hts gX10_fewestPairsByTable_X10_found rfl rfl rfl (by decide +kernel) ⟨Nat.le_of_ble_eq_true rfl, Nat.le_of_ble_eq_true rfl⟩) (am_preS X hh) rfl rfl hl.1 rfl (lv_room (Nat.le_of_ble_eq_true rfl)) dX10_fewestPairsByTable_14 ⟨Nat.le_of_ble_eq_true rfl, Nat.le_of_ble_eq_true rfl⟩) (fun k ab H locs ce q hz hh hce hcv hcl => ?_) (fun r9 ab H locs hz hh => ?_)
    · subst hz
      have hF := am_zl hF
      exact am_out X htb hh (am_zw hF).1 (am_zw hF).2 hce hcv hcl (Nat.le_of_ble_eq_true rfl) (Nat.le_of_ble_eq_true rfl)
    · subst hz
      have hF := am_zr hF
      exact vx_ret (am_iret X hr hh (fun t ht => am_qwX (mk := oI) hF ht) (Nat.le_of_ble_eq_true rfl) (Nat.le_of_ble_eq_true rfl) dX10_fewestPairsByTable_17)
set_option maxHeartbeats 4000000 in
set_option maxRecDepth 100000 in
theorem c_X10_isConsistent (l : Launch) (G : GG) {w : Wd} {r0 : Int32} {w1 : Wd} (hF : f_X10_isConsistent w = some (r0, w1)) : Met l yX10_isConsistent wsX10_isConsistent ({ frames := 7, cells := 0, slots := 0, locals := 170 } : Room) (va_Pc [.ref (gAd G 0)] (Rel G w)) (amQ G (oI r0) w1) 0 0 (gA G) := by
  refine am_met (own := RX10) (cc := cX10_isConsistent) (maxL := 1) (ret := (some .boolean)) (by decide +kernel) rfl rfl (Nat.le_of_ble_eq_true rfl) ?_
  intro p e s m args below meth c ab H locs ls X hr hh hl
  have hx := X.1.1; have hb := X.1.2.1; have hml := X.1.2.2.1; have hown := X.1.2.2.2.1; have hts := X.1.2.2.2.2
  have hl : lv_has ls 1 [(0, .ref (gAd G 0))] := hl
  have hwRX10 : ∀ z ∈ u_ws RX10 TX10 13, z ∈ wsX10_isConsistent := by decide +kernel
  have hwRX7 : ∀ z ∈ u_ws RX7 TX7 17, z ∈ wsX10_isConsistent := by decide +kernel
  unfold f_X10_isConsistent at hF
  refine lv_aload_n hx hb dX10_isConsistent_0 rfl (lv_at hl 0 rfl) ?_
  obtain ⟨⟨r2, w3⟩, hk1, hF⟩ := am_bind hF
  have hF := am_u2 hF
  refine am_call X hh (va_runV (As := []) (rest := []) X.1 (c_X10_unitsAgree l G hk1) (cwV 0 hts gX10_isConsistent_X10_unitsAgree rfl rfl rfl (by decide +kernel) ⟨Nat.le_of_ble_eq_true rfl, Nat.le_of_ble_eq_true rfl⟩) (am_preV X hh 0 11 (by decide) rfl rfl) rfl rfl hl.1 rfl (lv_room (Nat.le_of_ble_eq_true rfl)) dX10_isConsistent_1 ⟨Nat.le_of_ble_eq_true rfl, Nat.le_of_ble_eq_true rfl⟩) (fun ab H locs hh => ?_)
  refine lv_if_eq (tgt := 56) hx hb dX10_isConsistent_4 (by decide) (fun hc5 => ?_) (fun hc5 => ?_)
  · have hF := am_pos hc5 hF
    refine lv_iconst (v := (0 : Int32)) hx hb dX10_isConsistent_56 (by decide) ?_
    exact am_zret (v' := (0 : Int32)) X hr rfl hh (fun t ht => am_qw (mk := oI) hF ht) (Nat.le_of_ble_eq_true rfl) (Nat.le_of_ble_eq_true rfl) dX10_isConsistent_57
  · have hF := am_neg hc5 hF
    refine lv_aload_n hx hb dX10_isConsistent_7 rfl (lv_at hl 0 rfl) ?_
    refine am_getR X hh 0 11 7 128 (by decide) rfl rfl (by decide) hwRX10 (show Cond.fieldLink RX10 52 "PlanetWorkshop" "eclipses" "LPlanetWorkshop$Eclipses;" ∈ wsX10_isConsistent by decide +kernel) rfl dX10_isConsistent_8 ?_
    obtain ⟨⟨r7, w8⟩, hk6, hF⟩ := am_bind hF
    have hF := am_u2 hF
    refine am_call X hh (va_runV (As := []) (rest := []) X.1 (c_X2_bothWaysAgree l G hk6) (cwV 0 hts gX10_isConsistent_X2_bothWaysAgree rfl rfl rfl (by decide +kernel) ⟨Nat.le_of_ble_eq_true rfl, Nat.le_of_ble_eq_true rfl⟩) (am_preV X hh 128 5 (by decide) rfl rfl) rfl rfl hl.1 rfl (lv_room (Nat.le_of_ble_eq_true rfl)) dX10_isConsistent_11 ⟨Nat.le_of_ble_eq_true rfl, Nat.le_of_ble_eq_true rfl⟩) (fun ab H locs hh => ?_)
    refine lv_if_eq (tgt := 56) hx hb dX10_isConsistent_14 (by decide) (fun hc10 => ?_) (fun hc10 => ?_)
    · have hF := am_pos hc10 hF
      refine lv_iconst (v := (0 : Int32)) hx hb dX10_isConsistent_56 (by decide) ?_
      exact am_zret (v' := (0 : Int32)) X hr rfl hh (fun t ht => am_qw (mk := oI) hF ht) (Nat.le_of_ble_eq_true rfl) (Nat.le_of_ble_eq_true rfl) dX10_isConsistent_57
    · have hF := am_neg hc10 hF
      refine lv_aload_n hx hb dX10_isConsistent_17 rfl (lv_at hl 0 rfl) ?_
      refine am_getR X hh 0 11 8 129 (by decide) rfl rfl (by decide) hwRX10 (show Cond.fieldLink RX10 61 "PlanetWorkshop" "ratios" "LPlanetWorkshop$Ratios;" ∈ wsX10_isConsistent by decide +kernel) rfl dX10_isConsistent_18 ?_
      obtain ⟨⟨r12, w13⟩, hk11, hF⟩ := am_bind hF
      have hF := am_u2 hF
      refine am_call X hh (va_runV (As := []) (rest := []) X.1 (c_X5_bothWaysAgree l G hk11) (cwV 0 hts gX10_isConsistent_X5_bothWaysAgree rfl rfl rfl (by decide +kernel) ⟨Nat.le_of_ble_eq_true rfl, Nat.le_of_ble_eq_true rfl⟩) (am_preV X hh 129 7 (by decide) rfl rfl) rfl rfl hl.1 rfl (lv_room (Nat.le_of_ble_eq_true rfl)) dX10_isConsistent_21 ⟨Nat.le_of_ble_eq_true rfl, Nat.le_of_ble_eq_true rfl⟩) (fun ab H locs hh => ?_)
      refine lv_if_eq (tgt := 56) hx hb dX10_isConsistent_24 (by decide) (fun hc15 => ?_) (fun hc15 => ?_)
      · have hF := am_pos hc15 hF
        refine lv_iconst (v := (0 : Int32)) hx hb dX10_isConsistent_56 (by decide) ?_
        exact am_zret (v' := (0 : Int32)) X hr rfl hh (fun t ht => am_qw (mk := oI) hF ht) (Nat.le_of_ble_eq_true rfl) (Nat.le_of_ble_eq_true rfl) dX10_isConsistent_57
      · have hF := am_neg hc15 hF
        refine lv_aload_n hx hb dX10_isConsistent_27 rfl (lv_at hl 0 rfl) ?_
        refine am_getR X hh 0 11 0 1 (by decide) rfl rfl (by decide) hwRX10 (show Cond.fieldLink RX10 12 "PlanetWorkshop" "now" "LPlanetWorkshop$State;" ∈ wsX10_isConsistent by decide +kernel) rfl dX10_isConsistent_28 ?_
        obtain ⟨r17, hk16, hF⟩ := am_bind hF
        refine am_call X hh (va_runV (As := []) (rest := []) X.1 (c_X7_sumOfTensions l G hk16) (cwV 0 hts gX10_isConsistent_X7_sumOfTensions rfl rfl rfl (by decide +kernel) ⟨Nat.le_of_ble_eq_true rfl, Nat.le_of_ble_eq_true rfl⟩) (am_preV X hh 1 9 (by decide) rfl rfl) rfl rfl hl.1 rfl (lv_room (Nat.le_of_ble_eq_true rfl)) dX10_isConsistent_31 ⟨Nat.le_of_ble_eq_true rfl, Nat.le_of_ble_eq_true rfl⟩) (fun ab H locs hh => ?_)
        refine lv_aload_n hx hb dX10_isConsistent_34 rfl (lv_at hl 0 rfl) ?_
        refine am_getR X hh 0 11 0 1 (by decide) rfl rfl (by decide) hwRX10 (show Cond.fieldLink RX10 12 "PlanetWorkshop" "now" "LPlanetWorkshop$State;" ∈ wsX10_isConsistent by decide +kernel) rfl dX10_isConsistent_35 ?_
        refine am_getI X hh 1 9 14 (by decide) rfl rfl (by decide) hwRX7 (show Cond.fieldLink RX10 262 "PlanetWorkshop$State" "wound" "I" ∈ wsX10_isConsistent by decide +kernel) rfl dX10_isConsistent_38 ?_
        refine lv_aload_n hx hb dX10_isConsistent_41 rfl (lv_at hl 0 rfl) ?_
        refine am_getR X hh 0 11 0 1 (by decide) rfl rfl (by decide) hwRX10 (show Cond.fieldLink RX10 12 "PlanetWorkshop" "now" "LPlanetWorkshop$State;" ∈ wsX10_isConsistent by decide +kernel) rfl dX10_isConsistent_42 ?_
        refine am_getI X hh 1 9 15 (by decide) rfl rfl (by decide) hwRX7 (show Cond.fieldLink RX10 269 "PlanetWorkshop$State" "taken" "I" ∈ wsX10_isConsistent by decide +kernel) rfl dX10_isConsistent_45 ?_
        refine lv_isub hx hb dX10_isConsistent_48 ?_
        refine lv_icmp_ne (tgt := 56) hx hb dX10_isConsistent_49 (by decide) (fun hc18 => ?_) (fun hc18 => ?_)
        · have hF := am_neg hc18 hF
          refine lv_iconst (v := (0 : Int32)) hx hb dX10_isConsistent_56 (by decide) ?_
          exact am_zret (v' := (0 : Int32)) X hr rfl hh (fun t ht => am_qw (mk := oI) hF ht) (Nat.le_of_ble_eq_true rfl) (Nat.le_of_ble_eq_true rfl) dX10_isConsistent_57
        · have hF := am_pos hc18 hF
          refine lv_iconst (v := (1 : Int32)) hx hb dX10_isConsistent_52 (by decide) ?_
          refine lv_goto (tgt := 57) hx hb dX10_isConsistent_53 (by decide) ?_
          exact am_zret (v' := (1 : Int32)) X hr rfl hh (fun t ht => am_qw (mk := oI) hF ht) (Nat.le_of_ble_eq_true rfl) (Nat.le_of_ble_eq_true rfl) dX10_isConsistent_57
