set_option maxHeartbeats 4000000 in
set_option maxRecDepth 100000 in
theorem c_X1_isToothNumber (l : Launch) (G : GG) {w : Wd} {x0 : Int32} {r0 : Int32} (hF : f_X1_isToothNumber w x0 = some r0) : Met l yX1_isToothNumber wsX1_isToothNumber ({ frames := 0, cells := 0, slots := 0, locals := 0 } : Room) (va_Pc [.int x0] (Rel G w)) (amQ G (oI r0) w) 0 0 (gA G) := by
  refine am_met (own := RX1) (cc := cX1_isToothNumber) (maxL := 5) (ret := (some .boolean)) (by decide +kernel) rfl rfl (Nat.le_of_ble_eq_true rfl) ?_
  intro p e s m args below meth c ab H locs ls X hr hh hl
  have hx := X.1.1; have hb := X.1.2.1; have hml := X.1.2.2.1; have hown := X.1.2.2.2.1; have hts := X.1.2.2.2.2
  have hl : lv_has ls 5 [(0, .int x0)] := hl
  unfold f_X1_isToothNumber at hF
  refine va_getsN hx hb X.2.2.1.1.1 hh.2.2 hown (X.2.2.1.2.2.2.2.2.1.use rfl) (fun _ h9 => h9) dX1_isToothNumber_0 ?_
  refine lv_astore_n (lv' := [(1, .ref (gAv G 20)), (0, .int x0)]) hx hb dX1_isToothNumber_3 rfl hl (by decide) rfl (fun ls hl => ?_)
  refine lv_aload_n hx hb dX1_isToothNumber_4 rfl (lv_at hl 0 rfl) ?_
  refine va_tlen (v := (10 : Int32)) hx hb X.2.2.1.1.2.1 hh.2.2 (by decide) dX1_isToothNumber_5 ?_
  refine lv_istore_n (lv' := [(2, .int (10 : Int32)), (1, .ref (gAv G 20)), (0, .int x0)]) hx hb dX1_isToothNumber_6 rfl hl (by decide) rfl (fun ls hl => ?_)
  refine lv_iconst (v := (0 : Int32)) hx hb dX1_isToothNumber_7 (by decide) ?_
  refine lv_istore_n (lv' := [(3, .int (0 : Int32)), (2, .int (10 : Int32)), (1, .ref (gAv G 20)), (0, .int x0)]) hx hb dX1_isToothNumber_8 rfl hl (by decide) rfl (fun ls hl => ?_)
  have hlp9 : ∀ (c2 : Int32) (n : Nat) (y1 : Int32) (ab : Nat) (H : Heap) (locs : List Loc) (ls : Array Slot) (z : (Int32) ⊕ Int32), p_X1_isToothNumber_9 c2 x0 n y1 = some z → AH G s.heap w ab H locs → lv_has ls 5 [(3, .int y1), (2, .int c2), (1, .ref (gAv G 20)), (0, .int x0)] → (∀ (y1 : Int32) (ab : Nat) (H : Heap) (locs : List Loc) (ls : Array Slot), z = .inl y1 → AH G s.heap w ab H locs → lv_has ls 5 [(3, .int y1), (2, .int c2), (1, .ref (gAv G 20)), (0, .int x0)] → W p l e ({ frames := 0, cells := 0, slots := 0, locals := 0 } : Room) s m args below meth c H locs 0 0 (MQ below (amQ G (oI r0) w) args s 0 0 (gA G)) (F0 m 33 ls [])) → (∀ r, z = .inr r → some r = some r0) → W p l e ({ frames := 0, cells := 0, slots := 0, locals := 0 } : Room) s m args below meth c H locs 0 0 (MQ below (amQ G (oI r0) w) args s 0 0 (gA G)) (F0 m 9 ls []) := by
    intro c2 n
    induction n with
    | zero =>
      intro y1 ab H locs ls z hF
      unfold p_X1_isToothNumber_9 at hF
      cases hF
    | succ n ih =>
      intro y1 ab H locs ls z hF hh hl kE kR
      unfold p_X1_isToothNumber_9 at hF
      refine lv_iload_n hx hb dX1_isToothNumber_9 rfl (lv_at hl 0 rfl) ?_
      refine lv_iload_n hx hb dX1_isToothNumber_10 rfl (lv_at hl 1 rfl) ?_
      refine lv_icmp_ge (tgt := 33) hx hb dX1_isToothNumber_11 (by decide) (fun hc4 => ?_) (fun hc4 => ?_)
      · have hF := am_pos hc4 hF
        exact kE y1 ab H locs ls (Option.some.inj hF).symm hh (lv_sub hl [0, 1, 2, 3] rfl)
      · have hF := am_neg hc4 hF
        refine lv_aload_n hx hb dX1_isToothNumber_14 rfl (lv_at hl 2 rfl) ?_
        refine lv_iload_n hx hb dX1_isToothNumber_15 rfl (lv_at hl 0 rfl) ?_
        obtain ⟨hq5, hF⟩ := am_ifR hF
        refine va_ti hx hb X.2.2.1.1.2.1 hh.2.2 hq5 rfl dX1_isToothNumber_16 ?_
        refine lv_istore (lv' := [(4, .int (cTeeth.getD (y1).toNatClampNeg 0)), (3, .int y1), (2, .int c2), (1, .ref (gAv G 20)), (0, .int x0)]) hx hb dX1_isToothNumber_17 hl (by decide) rfl (fun ls hl => ?_)
        refine lv_iload hx hb dX1_isToothNumber_19 (lv_at hl 0 rfl) ?_
        refine lv_iload_n hx hb dX1_isToothNumber_21 rfl (lv_at hl 4 rfl) ?_
        refine lv_icmp_ne (tgt := 27) hx hb dX1_isToothNumber_22 (by decide) (fun hc6 => ?_) (fun hc6 => ?_)
        · have hF := am_neg hc6 hF
          refine lv_iinc (v := (y1 + (1 : Int32))) (lv' := [(3, .int (y1 + (1 : Int32))), (4, .int (cTeeth.getD (y1).toNatClampNeg 0)), (2, .int c2), (1, .ref (gAv G 20)), (0, .int x0)]) hx hb dX1_isToothNumber_27 hl (k := 1) rfl rfl (by decide) rfl (fun ls hl => ?_)
          refine lv_goto (tgt := 9) hx hb dX1_isToothNumber_30 (by decide) ?_
          exact ih (y1 + (1 : Int32)) ab H locs ls _ hF hh (lv_sub hl [0, 2, 3, 4] rfl) kE kR
        · have hF := am_pos hc6 hF
          refine lv_iconst (v := (1 : Int32)) hx hb dX1_isToothNumber_25 (by decide) ?_
          have hF := kR _ (Option.some.inj hF).symm
          exact am_zret (v' := (1 : Int32)) X hr rfl hh (fun t ht => am_qp (mk := oI) hF ht) (Nat.le_of_ble_eq_true rfl) (Nat.le_of_ble_eq_true rfl) dX1_isToothNumber_26
  obtain ⟨z7, hz8, hF⟩ := am_bind hF
  refine hlp9 (10 : Int32) 2000 (0 : Int32) ab H locs ls z7 hz8 hh (lv_sub hl [0, 1, 2, 3] rfl) (fun y1 ab H locs ls hz hh hl => ?_) (fun r hz => ?_)
  · subst hz
    have hF := am_zl hF
    refine lv_iconst (v := (0 : Int32)) hx hb dX1_isToothNumber_33 (by decide) ?_
    exact am_zret (v' := (0 : Int32)) X hr rfl hh (fun t ht => am_qp (mk := oI) hF ht) (Nat.le_of_ble_eq_true rfl) (Nat.le_of_ble_eq_true rfl) dX1_isToothNumber_34
  · subst hz
    have hF := am_zr hF
    exact hF
set_option maxHeartbeats 4000000 in
set_option maxRecDepth 100000 in
theorem c_X1_dryWornGears (l : Launch) (G : GG) {w : Wd} {w1 : Wd} (hF : f_X1_dryWornGears w = some w1) : Met l yX1_dryWornGears wsX1_dryWornGears ({ frames := 0, cells := 0, slots := 0, locals := 0 } : Room) (va_Pc [.ref (gAd G 127)] (Rel G w)) (amQ G none w1) 0 0 (gA G) := by
  refine am_met (own := RX1) (cc := cX1_dryWornGears) (maxL := 2) (ret := none) (by decide +kernel) rfl rfl (Nat.le_of_ble_eq_true rfl) ?_
  intro p e s m args below meth c ab H locs ls X hr hh hl
  have hx := X.1.1; have hb := X.1.2.1; have hml := X.1.2.2.1; have hown := X.1.2.2.2.1; have hts := X.1.2.2.2.2
  have hl : lv_has ls 2 [(0, .ref (gAd G 127))] := hl
  have hwRX1 : ∀ z ∈ u_ws RX1 TX1 2, z ∈ wsX1_dryWornGears := by decide +kernel
  have hwRX7 : ∀ z ∈ u_ws RX7 TX7 17, z ∈ wsX1_dryWornGears := by decide +kernel
  unfold f_X1_dryWornGears at hF
  refine lv_iconst (v := (0 : Int32)) hx hb dX1_dryWornGears_0 (by decide) ?_
  refine lv_istore_n (lv' := [(1, .int (0 : Int32)), (0, .ref (gAd G 127))]) hx hb dX1_dryWornGears_1 rfl hl (by decide) rfl (fun ls hl => ?_)
  have hlp2 : ∀ (n : Nat) (y1 : Int32) (w2 : Wd) (ab : Nat) (H : Heap) (locs : List Loc) (ls : Array Slot) (z : (Int32 × Wd) ⊕ Unit), p_X1_dryWornGears_2 n y1 w2 = some z → AH G s.heap w2 ab H locs → lv_has ls 2 [(1, .int y1), (0, .ref (gAd G 127))] → (∀ (y1 : Int32) (w2 : Wd) (ab : Nat) (H : Heap) (locs : List Loc) (ls : Array Slot), z = .inl (y1, w2) → AH G s.heap w2 ab H locs → lv_has ls 2 [(1, .int y1), (0, .ref (gAd G 127))] → W p l e ({ frames := 0, cells := 0, slots := 0, locals := 0 } : Room) s m args below meth c H locs 0 0 (MQ below (amQ G none w1) args s 0 0 (gA G)) (F0 m 57 ls [])) → W p l e ({ frames := 0, cells := 0, slots := 0, locals := 0 } : Room) s m args below meth c H locs 0 0 (MQ below (amQ G none w1) args s 0 0 (gA G)) (F0 m 2 ls []) := by
    intro n
    induction n with
    | zero =>
      intro y1 w2 ab H locs ls z hF
      unfold p_X1_dryWornGears_2 at hF
      cases hF
    | succ n ih =>
      intro y1 w2 ab H locs ls z hF hh hl kE
      unfold p_X1_dryWornGears_2 at hF
      refine lv_iload_n hx hb dX1_dryWornGears_2 rfl (lv_at hl 0 rfl) ?_
      refine lv_aload_n hx hb dX1_dryWornGears_3 rfl (lv_at hl 1 rfl) ?_
      refine am_getR X hh 127 4 0 1 (by decide) rfl rfl (by decide) hwRX1 (show Cond.fieldLink RX1 9 "PlanetWorkshop$Changes" "state" "LPlanetWorkshop$State;" ∈ wsX1_dryWornGears by decide +kernel) rfl dX1_dryWornGears_4 ?_
      refine am_getI X hh 1 9 10 (by decide) rfl rfl (by decide) hwRX7 (show Cond.fieldLink RX1 23 "PlanetWorkshop$State" "gears" "I" ∈ wsX1_dryWornGears by decide +kernel) rfl dX1_dryWornGears_7 ?_
      refine lv_icmp_ge (tgt := 57) hx hb dX1_dryWornGears_10 (by decide) (fun hc4 => ?_) (fun hc4 => ?_)
      · have hF := am_pos hc4 hF
        exact kE y1 w2 ab H locs ls (Option.some.inj hF).symm hh (lv_sub hl [0, 1] rfl)
      · have hF := am_neg hc4 hF
        refine lv_aload_n hx hb dX1_dryWornGears_13 rfl (lv_at hl 1 rfl) ?_
        refine am_getR X hh 127 4 0 1 (by decide) rfl rfl (by decide) hwRX1 (show Cond.fieldLink RX1 9 "PlanetWorkshop$Changes" "state" "LPlanetWorkshop$State;" ∈ wsX1_dryWornGears by decide +kernel) rfl dX1_dryWornGears_14 ?_
        refine am_getR X hh 1 9 2 4 (by decide) rfl rfl (by decide) hwRX7 (show Cond.fieldLink RX1 134 "PlanetWorkshop$State" "oiled" "[Z" ∈ wsX1_dryWornGears by decide +kernel) rfl dX1_dryWornGears_17 ?_
        refine lv_iload_n hx hb dX1_dryWornGears_20 rfl (lv_at hl 0 rfl) ?_
        obtain ⟨hq5, hF⟩ := am_ifR hF
        refine am_zald X hh 4 (by decide) rfl hq5 dX1_dryWornGears_21 ?_
        refine lv_if_eq (tgt := 51) hx hb dX1_dryWornGears_22 (by decide) (fun hc6 => ?_) (fun hc6 => ?_)
        · have hF := am_pos hc6 hF
          refine lv_iinc (v := (y1 + (1 : Int32))) (lv' := [(1, .int (y1 + (1 : Int32))), (0, .ref (gAd G 127))]) hx hb dX1_dryWornGears_51 hl (k := 0) rfl rfl (by decide) rfl (fun ls hl => ?_)
          refine lv_goto (tgt := 2) hx hb dX1_dryWornGears_54 (by decide) ?_
          exact ih (y1 + (1 : Int32)) w2 ab H locs ls _ hF hh (lv_sub hl [0, 1] rfl) kE
        · have hF := am_neg hc6 hF
          refine lv_aload_n hx hb dX1_dryWornGears_25 rfl (lv_at hl 1 rfl) ?_
          refine am_getR X hh 127 4 0 1 (by decide) rfl rfl (by decide) hwRX1 (show Cond.fieldLink RX1 9 "PlanetWorkshop$Changes" "state" "LPlanetWorkshop$State;" ∈ wsX1_dryWornGears by decide +kernel) rfl dX1_dryWornGears_26 ?_
          refine am_getR X hh 1 9 3 5 (by decide) rfl rfl (by decide) hwRX7 (show Cond.fieldLink RX1 137 "PlanetWorkshop$State" "wears" "[J" ∈ wsX1_dryWornGears by decide +kernel) rfl dX1_dryWornGears_29 ?_
          refine lv_iload_n hx hb dX1_dryWornGears_32 rfl (lv_at hl 0 rfl) ?_
          obtain ⟨hq7, hF⟩ := am_ifR hF
          refine am_lald X hh 5 (by decide) rfl hq7 dX1_dryWornGears_33 ?_
          refine lv_ldc2 (v := (746496000000 : Int64)) hx hb hown (hts _ (show Cond.constantLong RX1 144 (746496000000) ∈ wsX1_dryWornGears by decide +kernel)) dX1_dryWornGears_34 ?_
          refine am_lcmp_lt (tgt := 51) hx hb dX1_dryWornGears_37 dX1_dryWornGears_38 (by decide) (fun hc8 => ?_) (fun hc8 => ?_)
          · have hF := am_pos hc8 hF
            refine lv_iinc (v := (y1 + (1 : Int32))) (lv' := [(1, .int (y1 + (1 : Int32))), (0, .ref (gAd G 127))]) hx hb dX1_dryWornGears_51 hl (k := 0) rfl rfl (by decide) rfl (fun ls hl => ?_)
            refine lv_goto (tgt := 2) hx hb dX1_dryWornGears_54 (by decide) ?_
            exact ih (y1 + (1 : Int32)) w2 ab H locs ls _ hF hh (lv_sub hl [0, 1] rfl) kE
          · have hF := am_neg hc8 hF
            refine lv_aload_n hx hb dX1_dryWornGears_41 rfl (lv_at hl 1 rfl) ?_
            refine am_getR X hh 127 4 0 1 (by decide) rfl rfl (by decide) hwRX1 (show Cond.fieldLink RX1 9 "PlanetWorkshop$Changes" "state" "LPlanetWorkshop$State;" ∈ wsX1_dryWornGears by decide +kernel) rfl dX1_dryWornGears_42 ?_
            refine am_getR X hh 1 9 2 4 (by decide) rfl rfl (by decide) hwRX7 (show Cond.fieldLink RX1 134 "PlanetWorkshop$State" "oiled" "[Z" ∈ wsX1_dryWornGears by decide +kernel) rfl dX1_dryWornGears_45 ?_
            refine lv_iload_n hx hb dX1_dryWornGears_48 rfl (lv_at hl 0 rfl) ?_
            refine lv_iconst (v := (0 : Int32)) hx hb dX1_dryWornGears_49 (by decide) ?_
            obtain ⟨hq9, hF⟩ := am_ifR hF
            refine am_zast X hh 4 (by decide) rfl hq9 dX1_dryWornGears_50 (fun H locs hh => ?_)
            obtain ⟨w10, hw10, hF⟩ := am_wl hF
            have hh := AH_eq hw10 hh
            refine lv_iinc (v := (y1 + (1 : Int32))) (lv' := [(1, .int (y1 + (1 : Int32))), (0, .ref (gAd G 127))]) hx hb dX1_dryWornGears_51 hl (k := 0) rfl rfl (by decide) rfl (fun ls hl => ?_)
            refine lv_goto (tgt := 2) hx hb dX1_dryWornGears_54 (by decide) ?_
            exact ih (y1 + (1 : Int32)) w10 ab H locs ls _ hF hh (lv_sub hl [0, 1] rfl) kE
  obtain ⟨z11, hz12, hF⟩ := am_bind hF
  refine hlp2 2000 (0 : Int32) w ab H locs ls z11 hz12 hh (lv_sub hl [0, 1] rfl) (fun y1 w2 ab H locs ls hz hh hl => ?_)
  · subst hz
    have hF := am_zl hF
    have hF := am_u2 hF
    exact am_vret X hr hh (fun t ht => am_qv hF ht) (Nat.le_of_ble_eq_true rfl) (Nat.le_of_ble_eq_true rfl) dX1_dryWornGears_57
set_option maxHeartbeats 4000000 in
set_option maxRecDepth 100000 in
theorem c_X1_addDrops (l : Launch) (G : GG) {w : Wd} {x1 : Int32} {r0 : Int32} {w1 : Wd} (hF : f_X1_addDrops w x1 = some (r0, w1)) : Met l yX1_addDrops wsX1_addDrops ({ frames := 0, cells := 0, slots := 0, locals := 0 } : Room) (va_Pc [.ref (gAd G 127), .int x1] (Rel G w)) (amQ G (oI r0) w1) 0 0 (gA G) := by
  refine am_met (own := RX1) (cc := cX1_addDrops) (maxL := 2) (ret := (some .int)) (by decide +kernel) rfl rfl (Nat.le_of_ble_eq_true rfl) ?_
  intro p e s m args below meth c ab H locs ls X hr hh hl
  have hx := X.1.1; have hb := X.1.2.1; have hml := X.1.2.2.1; have hown := X.1.2.2.2.1; have hts := X.1.2.2.2.2
  have hl : lv_has ls 2 [(0, .ref (gAd G 127)), (1, .int x1)] := hl
  have hwRX1 : ∀ z ∈ u_ws RX1 TX1 2, z ∈ wsX1_addDrops := by decide +kernel
  have hwRX7 : ∀ z ∈ u_ws RX7 TX7 17, z ∈ wsX1_addDrops := by decide +kernel
  unfold f_X1_addDrops at hF
  refine lv_iload_n hx hb dX1_addDrops_0 rfl (lv_at hl 1 rfl) ?_
  refine lv_iconst (v := (1 : Int32)) hx hb dX1_addDrops_1 (by decide) ?_
  refine lv_icmp_lt (tgt := 11) hx hb dX1_addDrops_2 (by decide) (fun hc1 => ?_) (fun hc1 => ?_)
  · have hF := am_pos hc1 hF
    refine lv_bipush (v := (-2 : Int32)) hx hb dX1_addDrops_11 (by decide) ?_
    exact am_iret X hr hh (fun t ht => am_qw (mk := oI) hF ht) (Nat.le_of_ble_eq_true rfl) (Nat.le_of_ble_eq_true rfl) dX1_addDrops_13
  · have hF := am_neg hc1 hF
    refine lv_iload_n hx hb dX1_addDrops_5 rfl (lv_at hl 1 rfl) ?_
    refine lv_bipush (v := (50 : Int32)) hx hb dX1_addDrops_6 (by decide) ?_
    refine lv_icmp_le (tgt := 14) hx hb dX1_addDrops_8 (by decide) (fun hc2 => ?_) (fun hc2 => ?_)
    · have hF := am_pos hc2 hF
      refine lv_aload_n hx hb dX1_addDrops_14 rfl (lv_at hl 0 rfl) ?_
      refine am_getR X hh 127 4 0 1 (by decide) rfl rfl (by decide) hwRX1 (show Cond.fieldLink RX1 9 "PlanetWorkshop$Changes" "state" "LPlanetWorkshop$State;" ∈ wsX1_addDrops by decide +kernel) rfl dX1_addDrops_15 ?_
      refine am_getI X hh 1 9 13 (by decide) rfl rfl (by decide) hwRX7 (show Cond.fieldLink RX1 149 "PlanetWorkshop$State" "drops" "I" ∈ wsX1_addDrops by decide +kernel) rfl dX1_addDrops_18 ?_
      refine lv_iload_n hx hb dX1_addDrops_21 rfl (lv_at hl 1 rfl) ?_
      refine lv_iadd hx hb dX1_addDrops_22 ?_
      refine lv_bipush (v := (99 : Int32)) hx hb dX1_addDrops_23 (by decide) ?_
      refine lv_icmp_le (tgt := 31) hx hb dX1_addDrops_25 (by decide) (fun hc3 => ?_) (fun hc3 => ?_)
      · have hF := am_pos hc3 hF
        refine lv_aload_n hx hb dX1_addDrops_31 rfl (lv_at hl 0 rfl) ?_
        refine am_getR X hh 127 4 0 1 (by decide) rfl rfl (by decide) hwRX1 (show Cond.fieldLink RX1 9 "PlanetWorkshop$Changes" "state" "LPlanetWorkshop$State;" ∈ wsX1_addDrops by decide +kernel) rfl dX1_addDrops_32 ?_
        refine lv_dup hx hb dX1_addDrops_35 rfl ?_
        refine am_getI X hh 1 9 13 (by decide) rfl rfl (by decide) hwRX7 (show Cond.fieldLink RX1 149 "PlanetWorkshop$State" "drops" "I" ∈ wsX1_addDrops by decide +kernel) rfl dX1_addDrops_36 ?_
        refine lv_iload_n hx hb dX1_addDrops_39 rfl (lv_at hl 1 rfl) ?_
        refine lv_iadd hx hb dX1_addDrops_40 ?_
        refine am_putI X hh 1 9 13 (by decide) rfl rfl (by decide) hwRX7 tyX7 tyX7_ok nmX7 (show Cond.fieldLink RX1 149 "PlanetWorkshop$State" "drops" "I" ∈ wsX1_addDrops by decide +kernel) rfl rfl rfl rfl dX1_addDrops_41 (fun H locs hh => ?_)
        obtain ⟨w4, hw4, hF⟩ := am_wl hF
        have hh := AH_eq hw4 hh
        refine lv_aload_n hx hb dX1_addDrops_44 rfl (lv_at hl 0 rfl) ?_
        refine am_getR X hh 127 4 0 1 (by decide) rfl rfl (by decide) hwRX1 (show Cond.fieldLink RX1 9 "PlanetWorkshop$Changes" "state" "LPlanetWorkshop$State;" ∈ wsX1_addDrops by decide +kernel) rfl dX1_addDrops_45 ?_
        refine am_getI X hh 1 9 13 (by decide) rfl rfl (by decide) hwRX7 (show Cond.fieldLink RX1 149 "PlanetWorkshop$State" "drops" "I" ∈ wsX1_addDrops by decide +kernel) rfl dX1_addDrops_48 ?_
        exact am_iret X hr hh (fun t ht => am_qw (mk := oI) hF ht) (Nat.le_of_ble_eq_true rfl) (Nat.le_of_ble_eq_true rfl) dX1_addDrops_51
      · have hF := am_neg hc3 hF
        refine lv_bipush (v := (-3 : Int32)) hx hb dX1_addDrops_28 (by decide) ?_
        exact am_iret X hr hh (fun t ht => am_qw (mk := oI) hF ht) (Nat.le_of_ble_eq_true rfl) (Nat.le_of_ble_eq_true rfl) dX1_addDrops_30
    · have hF := am_neg hc2 hF
      refine lv_bipush (v := (-2 : Int32)) hx hb dX1_addDrops_11 (by decide) ?_
      exact am_iret X hr hh (fun t ht => am_qw (mk := oI) hF ht) (Nat.le_of_ble_eq_true rfl) (Nat.le_of_ble_eq_true rfl) dX1_addDrops_13
set_option maxHeartbeats 4000000 in
set_option maxRecDepth 100000 in
theorem c_X1_putGear (l : Launch) (G : GG) {w : Wd} {x1 : Int32} {r0 : Int32} {w1 : Wd} (hF : f_X1_putGear w x1 = some (r0, w1)) : Met l yX1_putGear wsX1_putGear ({ frames := 1, cells := 0, slots := 0, locals := 24 } : Room) (va_Pc [.ref (gAd G 127), .int x1] (Rel G w)) (amQ G (oI r0) w1) 0 0 (gA G) := by
  refine am_met (own := RX1) (cc := cX1_putGear) (maxL := 3) (ret := (some .int)) (by decide +kernel) rfl rfl (Nat.le_of_ble_eq_true rfl) ?_
  intro p e s m args below meth c ab H locs ls X hr hh hl
  have hx := X.1.1; have hb := X.1.2.1; have hml := X.1.2.2.1; have hown := X.1.2.2.2.1; have hts := X.1.2.2.2.2
  have hl : lv_has ls 3 [(0, .ref (gAd G 127)), (1, .int x1)] := hl
  have hwRX1 : ∀ z ∈ u_ws RX1 TX1 2, z ∈ wsX1_putGear := by decide +kernel
  have hwRX7 : ∀ z ∈ u_ws RX7 TX7 17, z ∈ wsX1_putGear := by decide +kernel
  unfold f_X1_putGear at hF
  refine lv_iload_n hx hb dX1_putGear_0 rfl (lv_at hl 1 rfl) ?_
  obtain ⟨r2, hk1, hF⟩ := am_bind hF
  refine am_call X hh (va_runS (As := [.int x1]) (rest := []) X.1 (c_X1_isToothNumber l G hk1) (va_cwS 1 hts gX1_putGear_X1_isToothNumber rfl rfl rfl (by decide +kernel) ⟨Nat.le_of_ble_eq_true rfl, Nat.le_of_ble_eq_true rfl⟩) (am_preS X hh) rfl rfl hl.1 rfl (lv_room (Nat.le_of_ble_eq_true rfl)) dX1_putGear_1 ⟨Nat.le_of_ble_eq_true rfl, Nat.le_of_ble_eq_true rfl⟩) (fun ab H locs hh => ?_)
  refine lv_if_ne (tgt := 10) hx hb dX1_putGear_4 (by decide) (fun hc3 => ?_) (fun hc3 => ?_)
  · have hF := am_neg hc3 hF
    refine lv_aload_n hx hb dX1_putGear_10 rfl (lv_at hl 0 rfl) ?_
    refine am_getR X hh 127 4 0 1 (by decide) rfl rfl (by decide) hwRX1 (show Cond.fieldLink RX1 9 "PlanetWorkshop$Changes" "state" "LPlanetWorkshop$State;" ∈ wsX1_putGear by decide +kernel) rfl dX1_putGear_11 ?_
    refine am_getI X hh 1 9 10 (by decide) rfl rfl (by decide) hwRX7 (show Cond.fieldLink RX1 23 "PlanetWorkshop$State" "gears" "I" ∈ wsX1_putGear by decide +kernel) rfl dX1_putGear_14 ?_
    refine lv_bipush (v := (10 : Int32)) hx hb dX1_putGear_17 (by decide) ?_
    refine lv_icmp_lt (tgt := 25) hx hb dX1_putGear_19 (by decide) (fun hc4 => ?_) (fun hc4 => ?_)
    · have hF := am_pos hc4 hF
      refine lv_aload_n hx hb dX1_putGear_25 rfl (lv_at hl 0 rfl) ?_
      refine am_getR X hh 127 4 0 1 (by decide) rfl rfl (by decide) hwRX1 (show Cond.fieldLink RX1 9 "PlanetWorkshop$Changes" "state" "LPlanetWorkshop$State;" ∈ wsX1_putGear by decide +kernel) rfl dX1_putGear_26 ?_
      refine am_getI X hh 1 9 10 (by decide) rfl rfl (by decide) hwRX7 (show Cond.fieldLink RX1 23 "PlanetWorkshop$State" "gears" "I" ∈ wsX1_putGear by decide +kernel) rfl dX1_putGear_29 ?_
      refine lv_istore_n (lv' := [(2, .int (gI w 1 10)), (0, .ref (gAd G 127)), (1, .int x1)]) hx hb dX1_putGear_32 rfl hl (by decide) rfl (fun ls hl => ?_)
      refine lv_aload_n hx hb dX1_putGear_33 rfl (lv_at hl 1 rfl) ?_
      refine am_getR X hh 127 4 0 1 (by decide) rfl rfl (by decide) hwRX1 (show Cond.fieldLink RX1 9 "PlanetWorkshop$Changes" "state" "LPlanetWorkshop$State;" ∈ wsX1_putGear by decide +kernel) rfl dX1_putGear_34 ?_
      refine am_getR X hh 1 9 0 2 (by decide) rfl rfl (by decide) hwRX7 (show Cond.fieldLink RX1 29 "PlanetWorkshop$State" "teeth" "[I" ∈ wsX1_putGear by decide +kernel) rfl dX1_putGear_37 ?_
      refine lv_iload_n hx hb dX1_putGear_40 rfl (lv_at hl 0 rfl) ?_
      refine lv_iload_n hx hb dX1_putGear_41 rfl (lv_at hl 2 rfl) ?_
      obtain ⟨hq5, hF⟩ := am_ifR hF
      refine am_iast X hh 2 (by decide) rfl hq5 dX1_putGear_42 (fun H locs hh => ?_)
      obtain ⟨w6, hw6, hF⟩ := am_wl hF
      have hh := AH_eq hw6 hh
      refine lv_aload_n hx hb dX1_putGear_43 rfl (lv_at hl 1 rfl) ?_
      refine am_getR X hh 127 4 0 1 (by decide) rfl rfl (by decide) hwRX1 (show Cond.fieldLink RX1 9 "PlanetWorkshop$Changes" "state" "LPlanetWorkshop$State;" ∈ wsX1_putGear by decide +kernel) rfl dX1_putGear_44 ?_
      refine lv_iload_n hx hb dX1_putGear_47 rfl (lv_at hl 0 rfl) ?_
      refine lv_iconst (v := (1 : Int32)) hx hb dX1_putGear_48 (by decide) ?_
      refine lv_iadd hx hb dX1_putGear_49 ?_
      refine am_putI X hh 1 9 10 (by decide) rfl rfl (by decide) hwRX7 tyX7 tyX7_ok nmX7 (show Cond.fieldLink RX1 23 "PlanetWorkshop$State" "gears" "I" ∈ wsX1_putGear by decide +kernel) rfl rfl rfl rfl dX1_putGear_50 (fun H locs hh => ?_)
      obtain ⟨w7, hw7, hF⟩ := am_wl hF
      have hh := AH_eq hw7 hh
      refine lv_iload_n hx hb dX1_putGear_53 rfl (lv_at hl 0 rfl) ?_
      exact am_iret X hr hh (fun t ht => am_qw (mk := oI) hF ht) (Nat.le_of_ble_eq_true rfl) (Nat.le_of_ble_eq_true rfl) dX1_putGear_54
    · have hF := am_neg hc4 hF
      refine lv_bipush (v := (-3 : Int32)) hx hb dX1_putGear_22 (by decide) ?_
      exact am_iret X hr hh (fun t ht => am_qw (mk := oI) hF ht) (Nat.le_of_ble_eq_true rfl) (Nat.le_of_ble_eq_true rfl) dX1_putGear_24
  · have hF := am_pos hc3 hF
    refine lv_bipush (v := (-2 : Int32)) hx hb dX1_putGear_7 (by decide) ?_
    exact am_iret X hr hh (fun t ht => am_qw (mk := oI) hF ht) (Nat.le_of_ble_eq_true rfl) (Nat.le_of_ble_eq_true rfl) dX1_putGear_9
set_option maxHeartbeats 4000000 in
set_option maxRecDepth 100000 in
theorem c_X1_cut (l : Launch) (G : GG) {w : Wd} {x1 : Int32} {x2 : Int32} {r0 : Int32} {w1 : Wd} (hF : f_X1_cut w x1 x2 = some (r0, w1)) : Met l yX1_cut wsX1_cut ({ frames := 1, cells := 0, slots := 0, locals := 23 } : Room) (va_Pc [.ref (gAd G 127), .int x1, .int x2] (Rel G w)) (amQ G (oI r0) w1) 0 0 (gA G) := by
  refine am_met (own := RX1) (cc := cX1_cut) (maxL := 3) (ret := (some .int)) (by decide +kernel) rfl rfl (Nat.le_of_ble_eq_true rfl) ?_
  intro p e s m args below meth c ab H locs ls X hr hh hl
  have hx := X.1.1; have hb := X.1.2.1; have hml := X.1.2.2.1; have hown := X.1.2.2.2.1; have hts := X.1.2.2.2.2
  have hl : lv_has ls 3 [(0, .ref (gAd G 127)), (1, .int x1), (2, .int x2)] := hl
  have hwRX1 : ∀ z ∈ u_ws RX1 TX1 2, z ∈ wsX1_cut := by decide +kernel
  have hwRX7 : ∀ z ∈ u_ws RX7 TX7 17, z ∈ wsX1_cut := by decide +kernel
  unfold f_X1_cut at hF
  refine lv_aload_n hx hb dX1_cut_0 rfl (lv_at hl 0 rfl) ?_
  refine am_getR X hh 127 4 0 1 (by decide) rfl rfl (by decide) hwRX1 (show Cond.fieldLink RX1 9 "PlanetWorkshop$Changes" "state" "LPlanetWorkshop$State;" ∈ wsX1_cut by decide +kernel) rfl dX1_cut_1 ?_
  refine lv_iload_n hx hb dX1_cut_4 rfl (lv_at hl 1 rfl) ?_
  obtain ⟨r2, hk1, hF⟩ := am_bind hF
  refine am_call X hh (va_runV (As := [.int x1]) (rest := []) X.1 (c_X7_isGear l G hk1) (cwV 1 hts gX1_cut_X7_isGear rfl rfl rfl (by decide +kernel) ⟨Nat.le_of_ble_eq_true rfl, Nat.le_of_ble_eq_true rfl⟩) (am_preV X hh 1 9 (by decide) rfl rfl) rfl rfl hl.1 rfl (lv_room (Nat.le_of_ble_eq_true rfl)) dX1_cut_5 ⟨Nat.le_of_ble_eq_true rfl, Nat.le_of_ble_eq_true rfl⟩) (fun ab H locs hh => ?_)
  refine lv_if_eq (tgt := 22) hx hb dX1_cut_8 (by decide) (fun hc3 => ?_) (fun hc3 => ?_)
  · have hF := am_pos hc3 hF
    refine lv_iconst (v := (-1 : Int32)) hx hb dX1_cut_22 (by decide) ?_
    exact am_iret X hr hh (fun t ht => am_qw (mk := oI) hF ht) (Nat.le_of_ble_eq_true rfl) (Nat.le_of_ble_eq_true rfl) dX1_cut_23
  · have hF := am_neg hc3 hF
    refine lv_aload_n hx hb dX1_cut_11 rfl (lv_at hl 0 rfl) ?_
    refine am_getR X hh 127 4 0 1 (by decide) rfl rfl (by decide) hwRX1 (show Cond.fieldLink RX1 9 "PlanetWorkshop$Changes" "state" "LPlanetWorkshop$State;" ∈ wsX1_cut by decide +kernel) rfl dX1_cut_12 ?_
    refine lv_iload_n hx hb dX1_cut_15 rfl (lv_at hl 2 rfl) ?_
    obtain ⟨r5, hk4, hF⟩ := am_bind hF
    refine am_call X hh (va_runV (As := [.int x2]) (rest := []) X.1 (c_X7_isGear l G hk4) (cwV 1 hts gX1_cut_X7_isGear rfl rfl rfl (by decide +kernel) ⟨Nat.le_of_ble_eq_true rfl, Nat.le_of_ble_eq_true rfl⟩) (am_preV X hh 1 9 (by decide) rfl rfl) rfl rfl hl.1 rfl (lv_room (Nat.le_of_ble_eq_true rfl)) dX1_cut_16 ⟨Nat.le_of_ble_eq_true rfl, Nat.le_of_ble_eq_true rfl⟩) (fun ab H locs hh => ?_)
    refine lv_if_ne (tgt := 24) hx hb dX1_cut_19 (by decide) (fun hc6 => ?_) (fun hc6 => ?_)
    · have hF := am_neg hc6 hF
      refine lv_aload_n hx hb dX1_cut_24 rfl (lv_at hl 0 rfl) ?_
      refine am_getR X hh 127 4 0 1 (by decide) rfl rfl (by decide) hwRX1 (show Cond.fieldLink RX1 9 "PlanetWorkshop$Changes" "state" "LPlanetWorkshop$State;" ∈ wsX1_cut by decide +kernel) rfl dX1_cut_25 ?_
      refine lv_iload_n hx hb dX1_cut_28 rfl (lv_at hl 1 rfl) ?_
      refine lv_iload_n hx hb dX1_cut_29 rfl (lv_at hl 2 rfl) ?_
      obtain ⟨r8, hk7, hF⟩ := am_bind hF
      refine am_call X hh (va_runV (As := [.int x1, .int x2]) (rest := []) X.1 (c_X7_jointOf l G hk7) (cwV 2 hts gX1_cut_X7_jointOf rfl rfl rfl (by decide +kernel) ⟨Nat.le_of_ble_eq_true rfl, Nat.le_of_ble_eq_true rfl⟩) (am_preV X hh 1 9 (by decide) rfl rfl) rfl rfl hl.1 rfl (lv_room (Nat.le_of_ble_eq_true rfl)) dX1_cut_30 ⟨Nat.le_of_ble_eq_true rfl, Nat.le_of_ble_eq_true rfl⟩) (fun ab H locs hh => ?_)
      refine lv_if_ne (tgt := 39) hx hb dX1_cut_33 (by decide) (fun hc9 => ?_) (fun hc9 => ?_)
      · have hF := am_neg hc9 hF
        refine lv_aload_n hx hb dX1_cut_39 rfl (lv_at hl 0 rfl) ?_
        refine am_getR X hh 127 4 0 1 (by decide) rfl rfl (by decide) hwRX1 (show Cond.fieldLink RX1 9 "PlanetWorkshop$Changes" "state" "LPlanetWorkshop$State;" ∈ wsX1_cut by decide +kernel) rfl dX1_cut_40 ?_
        refine lv_iload_n hx hb dX1_cut_43 rfl (lv_at hl 1 rfl) ?_
        refine lv_iload_n hx hb dX1_cut_44 rfl (lv_at hl 2 rfl) ?_
        refine lv_iconst (v := (0 : Int32)) hx hb dX1_cut_45 (by decide) ?_
        obtain ⟨w12, hk10, hF⟩ := am_bind hF
        refine am_call X hh (va_runV (As := [.int x1, .int x2, .int (0 : Int32)]) (rest := []) X.1 (c_X7_putJoint l G hk10) (cwV 3 hts gX1_cut_X7_putJoint rfl rfl rfl (by decide +kernel) ⟨Nat.le_of_ble_eq_true rfl, Nat.le_of_ble_eq_true rfl⟩) (am_preV X hh 1 9 (by decide) rfl rfl) rfl rfl hl.1 rfl (lv_room (Nat.le_of_ble_eq_true rfl)) dX1_cut_46 ⟨Nat.le_of_ble_eq_true rfl, Nat.le_of_ble_eq_true rfl⟩) (fun ab H locs hh => ?_)
        refine lv_aload_n hx hb dX1_cut_49 rfl (lv_at hl 0 rfl) ?_
        refine am_getR X hh 127 4 0 1 (by decide) rfl rfl (by decide) hwRX1 (show Cond.fieldLink RX1 9 "PlanetWorkshop$Changes" "state" "LPlanetWorkshop$State;" ∈ wsX1_cut by decide +kernel) rfl dX1_cut_50 ?_
        refine lv_dup hx hb dX1_cut_53 rfl ?_
        refine am_getI X hh 1 9 11 (by decide) rfl rfl (by decide) hwRX7 (show Cond.fieldLink RX1 56 "PlanetWorkshop$State" "joints" "I" ∈ wsX1_cut by decide +kernel) rfl dX1_cut_54 ?_
        refine lv_iconst (v := (1 : Int32)) hx hb dX1_cut_57 (by decide) ?_
        refine lv_isub hx hb dX1_cut_58 ?_
        refine am_putI X hh 1 9 11 (by decide) rfl rfl (by decide) hwRX7 tyX7 tyX7_ok nmX7 (show Cond.fieldLink RX1 56 "PlanetWorkshop$State" "joints" "I" ∈ wsX1_cut by decide +kernel) rfl rfl rfl rfl dX1_cut_59 (fun H locs hh => ?_)
        obtain ⟨w13, hw13, hF⟩ := am_wl hF
        have hh := AH_eq hw13 hh
        refine lv_aload_n hx hb dX1_cut_62 rfl (lv_at hl 0 rfl) ?_
        refine am_getR X hh 127 4 0 1 (by decide) rfl rfl (by decide) hwRX1 (show Cond.fieldLink RX1 9 "PlanetWorkshop$Changes" "state" "LPlanetWorkshop$State;" ∈ wsX1_cut by decide +kernel) rfl dX1_cut_63 ?_
        refine am_getI X hh 1 9 11 (by decide) rfl rfl (by decide) hwRX7 (show Cond.fieldLink RX1 56 "PlanetWorkshop$State" "joints" "I" ∈ wsX1_cut by decide +kernel) rfl dX1_cut_66 ?_
        exact am_iret X hr hh (fun t ht => am_qw (mk := oI) hF ht) (Nat.le_of_ble_eq_true rfl) (Nat.le_of_ble_eq_true rfl) dX1_cut_69
      · have hF := am_pos hc9 hF
        refine lv_bipush (v := (-5 : Int32)) hx hb dX1_cut_36 (by decide) ?_
        exact am_iret X hr hh (fun t ht => am_qw (mk := oI) hF ht) (Nat.le_of_ble_eq_true rfl) (Nat.le_of_ble_eq_true rfl) dX1_cut_38
    · have hF := am_pos hc6 hF
      refine lv_iconst (v := (-1 : Int32)) hx hb dX1_cut_22 (by decide) ?_
      exact am_iret X hr hh (fun t ht => am_qw (mk := oI) hF ht) (Nat.le_of_ble_eq_true rfl) (Nat.le_of_ble_eq_true rfl) dX1_cut_23
set_option maxHeartbeats 4000000 in
set_option maxRecDepth 100000 in
theorem c_X1_tighten (l : Launch) (G : GG) {w : Wd} {x1 : Int32} {x2 : Int32} {r0 : Int32} {w1 : Wd} (hF : f_X1_tighten w x1 x2 = some (r0, w1)) : Met l yX1_tighten wsX1_tighten ({ frames := 1, cells := 0, slots := 0, locals := 21 } : Room) (va_Pc [.ref (gAd G 127), .int x1, .int x2] (Rel G w)) (amQ G (oI r0) w1) 0 0 (gA G) := by
  refine am_met (own := RX1) (cc := cX1_tighten) (maxL := 4) (ret := (some .int)) (by decide +kernel) rfl rfl (Nat.le_of_ble_eq_true rfl) ?_
  intro p e s m args below meth c ab H locs ls X hr hh hl
  have hx := X.1.1; have hb := X.1.2.1; have hml := X.1.2.2.1; have hown := X.1.2.2.2.1; have hts := X.1.2.2.2.2
  have hl : lv_has ls 4 [(0, .ref (gAd G 127)), (1, .int x1), (2, .int x2)] := hl
  have hwRX1 : ∀ z ∈ u_ws RX1 TX1 2, z ∈ wsX1_tighten := by decide +kernel
  have hwRX7 : ∀ z ∈ u_ws RX7 TX7 17, z ∈ wsX1_tighten := by decide +kernel
  unfold f_X1_tighten at hF
  refine lv_aload_n hx hb dX1_tighten_0 rfl (lv_at hl 0 rfl) ?_
  refine am_getR X hh 127 4 0 1 (by decide) rfl rfl (by decide) hwRX1 (show Cond.fieldLink RX1 9 "PlanetWorkshop$Changes" "state" "LPlanetWorkshop$State;" ∈ wsX1_tighten by decide +kernel) rfl dX1_tighten_1 ?_
  refine lv_iload_n hx hb dX1_tighten_4 rfl (lv_at hl 1 rfl) ?_
  obtain ⟨r2, hk1, hF⟩ := am_bind hF
  refine am_call X hh (va_runV (As := [.int x1]) (rest := []) X.1 (c_X7_isGear l G hk1) (cwV 1 hts gX1_tighten_X7_isGear rfl rfl rfl (by decide +kernel) ⟨Nat.le_of_ble_eq_true rfl, Nat.le_of_ble_eq_true rfl⟩) (am_preV X hh 1 9 (by decide) rfl rfl) rfl rfl hl.1 rfl (lv_room (Nat.le_of_ble_eq_true rfl)) dX1_tighten_5 ⟨Nat.le_of_ble_eq_true rfl, Nat.le_of_ble_eq_true rfl⟩) (fun ab H locs hh => ?_)
  refine lv_if_ne (tgt := 13) hx hb dX1_tighten_8 (by decide) (fun hc3 => ?_) (fun hc3 => ?_)
  · have hF := am_neg hc3 hF
    refine lv_iload_n hx hb dX1_tighten_13 rfl (lv_at hl 2 rfl) ?_
    refine lv_iconst (v := (1 : Int32)) hx hb dX1_tighten_14 (by decide) ?_
    refine lv_icmp_lt (tgt := 25) hx hb dX1_tighten_15 (by decide) (fun hc4 => ?_) (fun hc4 => ?_)
    · have hF := am_pos hc4 hF
      refine lv_bipush (v := (-2 : Int32)) hx hb dX1_tighten_25 (by decide) ?_
      exact am_iret X hr hh (fun t ht => am_qw (mk := oI) hF ht) (Nat.le_of_ble_eq_true rfl) (Nat.le_of_ble_eq_true rfl) dX1_tighten_27
    · have hF := am_neg hc4 hF
      refine lv_iload_n hx hb dX1_tighten_18 rfl (lv_at hl 2 rfl) ?_
      refine lv_sipush (v := (200 : Int32)) hx hb dX1_tighten_19 (by decide) ?_
      refine lv_icmp_le (tgt := 28) hx hb dX1_tighten_22 (by decide) (fun hc5 => ?_) (fun hc5 => ?_)
      · have hF := am_pos hc5 hF
        refine lv_aload_n hx hb dX1_tighten_28 rfl (lv_at hl 0 rfl) ?_
        refine am_getR X hh 127 4 0 1 (by decide) rfl rfl (by decide) hwRX1 (show Cond.fieldLink RX1 9 "PlanetWorkshop$Changes" "state" "LPlanetWorkshop$State;" ∈ wsX1_tighten by decide +kernel) rfl dX1_tighten_29 ?_
        refine lv_iload_n hx hb dX1_tighten_32 rfl (lv_at hl 1 rfl) ?_
        obtain ⟨r7, hk6, hF⟩ := am_bind hF
        refine am_call X hh (va_runV (As := [.int x1]) (rest := []) X.1 (c_X7_hasSpring l G hk6) (cwV 1 hts gX1_tighten_X7_hasSpring rfl rfl rfl (by decide +kernel) ⟨Nat.le_of_ble_eq_true rfl, Nat.le_of_ble_eq_true rfl⟩) (am_preV X hh 1 9 (by decide) rfl rfl) rfl rfl hl.1 rfl (lv_room (Nat.le_of_ble_eq_true rfl)) dX1_tighten_33 ⟨Nat.le_of_ble_eq_true rfl, Nat.le_of_ble_eq_true rfl⟩) (fun ab H locs hh => ?_)
        refine lv_if_ne (tgt := 42) hx hb dX1_tighten_36 (by decide) (fun hc8 => ?_) (fun hc8 => ?_)
        · have hF := am_neg hc8 hF
          refine lv_aload_n hx hb dX1_tighten_42 rfl (lv_at hl 0 rfl) ?_
          refine am_getR X hh 127 4 0 1 (by decide) rfl rfl (by decide) hwRX1 (show Cond.fieldLink RX1 9 "PlanetWorkshop$Changes" "state" "LPlanetWorkshop$State;" ∈ wsX1_tighten by decide +kernel) rfl dX1_tighten_43 ?_
          refine am_getR X hh 1 9 6 8 (by decide) rfl rfl (by decide) hwRX7 (show Cond.fieldLink RX1 86 "PlanetWorkshop$State" "tensions" "[I" ∈ wsX1_tighten by decide +kernel) rfl dX1_tighten_46 ?_
          refine lv_iload_n hx hb dX1_tighten_49 rfl (lv_at hl 1 rfl) ?_
          obtain ⟨hq9, hF⟩ := am_ifR hF
          refine am_iald X hh 8 (by decide) rfl hq9 dX1_tighten_50 ?_
          refine lv_iload_n hx hb dX1_tighten_51 rfl (lv_at hl 2 rfl) ?_
          refine lv_iadd hx hb dX1_tighten_52 ?_
          refine lv_istore_n (lv' := [(3, .int ((gI w 8 (x1).toNatClampNeg) + x2)), (0, .ref (gAd G 127)), (1, .int x1), (2, .int x2)]) hx hb dX1_tighten_53 rfl hl (by decide) rfl (fun ls hl => ?_)
          refine lv_iload_n hx hb dX1_tighten_54 rfl (lv_at hl 0 rfl) ?_
          refine lv_aload_n hx hb dX1_tighten_55 rfl (lv_at hl 1 rfl) ?_
          refine am_getR X hh 127 4 0 1 (by decide) rfl rfl (by decide) hwRX1 (show Cond.fieldLink RX1 9 "PlanetWorkshop$Changes" "state" "LPlanetWorkshop$State;" ∈ wsX1_tighten by decide +kernel) rfl dX1_tighten_56 ?_
          refine am_getR X hh 1 9 5 7 (by decide) rfl rfl (by decide) hwRX7 (show Cond.fieldLink RX1 76 "PlanetWorkshop$State" "springSizes" "[I" ∈ wsX1_tighten by decide +kernel) rfl dX1_tighten_59 ?_
          refine lv_iload_n hx hb dX1_tighten_62 rfl (lv_at hl 2 rfl) ?_
          obtain ⟨hq10, hF⟩ := am_ifR hF
          refine am_iald X hh 7 (by decide) rfl hq10 dX1_tighten_63 ?_
          refine lv_icmp_le (tgt := 70) hx hb dX1_tighten_64 (by decide) (fun hc11 => ?_) (fun hc11 => ?_)
          · have hF := am_pos hc11 hF
            refine lv_aload_n hx hb dX1_tighten_70 rfl (lv_at hl 1 rfl) ?_
            refine am_getR X hh 127 4 0 1 (by decide) rfl rfl (by decide) hwRX1 (show Cond.fieldLink RX1 9 "PlanetWorkshop$Changes" "state" "LPlanetWorkshop$State;" ∈ wsX1_tighten by decide +kernel) rfl dX1_tighten_71 ?_
            refine am_getR X hh 1 9 6 8 (by decide) rfl rfl (by decide) hwRX7 (show Cond.fieldLink RX1 86 "PlanetWorkshop$State" "tensions" "[I" ∈ wsX1_tighten by decide +kernel) rfl dX1_tighten_74 ?_
            refine lv_iload_n hx hb dX1_tighten_77 rfl (lv_at hl 2 rfl) ?_
            refine lv_iload_n hx hb dX1_tighten_78 rfl (lv_at hl 0 rfl) ?_
            obtain ⟨hq12, hF⟩ := am_ifR hF
            refine am_iast X hh 8 (by decide) rfl hq12 dX1_tighten_79 (fun H locs hh => ?_)
            obtain ⟨w13, hw13, hF⟩ := am_wl hF
            have hh := AH_eq hw13 hh
            refine lv_aload_n hx hb dX1_tighten_80 rfl (lv_at hl 1 rfl) ?_
            refine am_getR X hh 127 4 0 1 (by decide) rfl rfl (by decide) hwRX1 (show Cond.fieldLink RX1 9 "PlanetWorkshop$Changes" "state" "LPlanetWorkshop$State;" ∈ wsX1_tighten by decide +kernel) rfl dX1_tighten_81 ?_
            refine lv_dup hx hb dX1_tighten_84 rfl ?_
            refine am_getI X hh 1 9 14 (by decide) rfl rfl (by decide) hwRX7 (show Cond.fieldLink RX1 89 "PlanetWorkshop$State" "wound" "I" ∈ wsX1_tighten by decide +kernel) rfl dX1_tighten_85 ?_
            refine lv_iload_n hx hb dX1_tighten_88 rfl (lv_at hl 3 rfl) ?_
            refine lv_iadd hx hb dX1_tighten_89 ?_
            refine am_putI X hh 1 9 14 (by decide) rfl rfl (by decide) hwRX7 tyX7 tyX7_ok nmX7 (show Cond.fieldLink RX1 89 "PlanetWorkshop$State" "wound" "I" ∈ wsX1_tighten by decide +kernel) rfl rfl rfl rfl dX1_tighten_90 (fun H locs hh => ?_)
            obtain ⟨w14, hw14, hF⟩ := am_wl hF
            have hh := AH_eq hw14 hh
            refine lv_iload_n hx hb dX1_tighten_93 rfl (lv_at hl 0 rfl) ?_
            exact am_iret X hr hh (fun t ht => am_qw (mk := oI) hF ht) (Nat.le_of_ble_eq_true rfl) (Nat.le_of_ble_eq_true rfl) dX1_tighten_94
          · have hF := am_neg hc11 hF
            refine lv_bipush (v := (-3 : Int32)) hx hb dX1_tighten_67 (by decide) ?_
            exact am_iret X hr hh (fun t ht => am_qw (mk := oI) hF ht) (Nat.le_of_ble_eq_true rfl) (Nat.le_of_ble_eq_true rfl) dX1_tighten_69
        · have hF := am_pos hc8 hF
          refine lv_bipush (v := (-5 : Int32)) hx hb dX1_tighten_39 (by decide) ?_
          exact am_iret X hr hh (fun t ht => am_qw (mk := oI) hF ht) (Nat.le_of_ble_eq_true rfl) (Nat.le_of_ble_eq_true rfl) dX1_tighten_41
      · have hF := am_neg hc5 hF
        refine lv_bipush (v := (-2 : Int32)) hx hb dX1_tighten_25 (by decide) ?_
        exact am_iret X hr hh (fun t ht => am_qw (mk := oI) hF ht) (Nat.le_of_ble_eq_true rfl) (Nat.le_of_ble_eq_true rfl) dX1_tighten_27
  · have hF := am_pos hc3 hF
    refine lv_iconst (v := (-1 : Int32)) hx hb dX1_tighten_11 (by decide) ?_
    exact am_iret X hr hh (fun t ht => am_qw (mk := oI) hF ht) (Nat.le_of_ble_eq_true rfl) (Nat.le_of_ble_eq_true rfl) dX1_tighten_12
set_option maxHeartbeats 4000000 in
set_option maxRecDepth 100000 in
theorem c_X1_turnRound (l : Launch) (G : GG) {w : Wd} {x1 : Int32} {r0 : Int32} {w1 : Wd} (hF : f_X1_turnRound w x1 = some (r0, w1)) : Met l yX1_turnRound wsX1_turnRound ({ frames := 1, cells := 0, slots := 0, locals := 21 } : Room) (va_Pc [.ref (gAd G 127), .int x1] (Rel G w)) (amQ G (oI r0) w1) 0 0 (gA G) := by
  refine am_met (own := RX1) (cc := cX1_turnRound) (maxL := 2) (ret := (some .int)) (by decide +kernel) rfl rfl (Nat.le_of_ble_eq_true rfl) ?_
  intro p e s m args below meth c ab H locs ls X hr hh hl
  have hx := X.1.1; have hb := X.1.2.1; have hml := X.1.2.2.1; have hown := X.1.2.2.2.1; have hts := X.1.2.2.2.2
  have hl : lv_has ls 2 [(0, .ref (gAd G 127)), (1, .int x1)] := hl
  have hwRX1 : ∀ z ∈ u_ws RX1 TX1 2, z ∈ wsX1_turnRound := by decide +kernel
  have hwRX7 : ∀ z ∈ u_ws RX7 TX7 17, z ∈ wsX1_turnRound := by decide +kernel
  unfold f_X1_turnRound at hF
  refine lv_aload_n hx hb dX1_turnRound_0 rfl (lv_at hl 0 rfl) ?_
  refine am_getR X hh 127 4 0 1 (by decide) rfl rfl (by decide) hwRX1 (show Cond.fieldLink RX1 9 "PlanetWorkshop$Changes" "state" "LPlanetWorkshop$State;" ∈ wsX1_turnRound by decide +kernel) rfl dX1_turnRound_1 ?_
  refine lv_iload_n hx hb dX1_turnRound_4 rfl (lv_at hl 1 rfl) ?_
  obtain ⟨r2, hk1, hF⟩ := am_bind hF
  refine am_call X hh (va_runV (As := [.int x1]) (rest := []) X.1 (c_X7_isGear l G hk1) (cwV 1 hts gX1_turnRound_X7_isGear rfl rfl rfl (by decide +kernel) ⟨Nat.le_of_ble_eq_true rfl, Nat.le_of_ble_eq_true rfl⟩) (am_preV X hh 1 9 (by decide) rfl rfl) rfl rfl hl.1 rfl (lv_room (Nat.le_of_ble_eq_true rfl)) dX1_turnRound_5 ⟨Nat.le_of_ble_eq_true rfl, Nat.le_of_ble_eq_true rfl⟩) (fun ab H locs hh => ?_)
  refine lv_if_ne (tgt := 13) hx hb dX1_turnRound_8 (by decide) (fun hc3 => ?_) (fun hc3 => ?_)
  · have hF := am_neg hc3 hF
    refine lv_aload_n hx hb dX1_turnRound_13 rfl (lv_at hl 0 rfl) ?_
    refine am_getR X hh 127 4 0 1 (by decide) rfl rfl (by decide) hwRX1 (show Cond.fieldLink RX1 9 "PlanetWorkshop$Changes" "state" "LPlanetWorkshop$State;" ∈ wsX1_turnRound by decide +kernel) rfl dX1_turnRound_14 ?_
    refine lv_iload_n hx hb dX1_turnRound_17 rfl (lv_at hl 1 rfl) ?_
    obtain ⟨r5, hk4, hF⟩ := am_bind hF
    refine am_call X hh (va_runV (As := [.int x1]) (rest := []) X.1 (c_X7_hasSpring l G hk4) (cwV 1 hts gX1_turnRound_X7_hasSpring rfl rfl rfl (by decide +kernel) ⟨Nat.le_of_ble_eq_true rfl, Nat.le_of_ble_eq_true rfl⟩) (am_preV X hh 1 9 (by decide) rfl rfl) rfl rfl hl.1 rfl (lv_room (Nat.le_of_ble_eq_true rfl)) dX1_turnRound_18 ⟨Nat.le_of_ble_eq_true rfl, Nat.le_of_ble_eq_true rfl⟩) (fun ab H locs hh => ?_)
    refine lv_if_ne (tgt := 27) hx hb dX1_turnRound_21 (by decide) (fun hc6 => ?_) (fun hc6 => ?_)
    · have hF := am_neg hc6 hF
      refine lv_aload_n hx hb dX1_turnRound_27 rfl (lv_at hl 0 rfl) ?_
      refine am_getR X hh 127 4 0 1 (by decide) rfl rfl (by decide) hwRX1 (show Cond.fieldLink RX1 9 "PlanetWorkshop$Changes" "state" "LPlanetWorkshop$State;" ∈ wsX1_turnRound by decide +kernel) rfl dX1_turnRound_28 ?_
      refine am_getR X hh 1 9 7 9 (by decide) rfl rfl (by decide) hwRX7 (show Cond.fieldLink RX1 92 "PlanetWorkshop$State" "reversed" "[Z" ∈ wsX1_turnRound by decide +kernel) rfl dX1_turnRound_31 ?_
      refine lv_iload_n hx hb dX1_turnRound_34 rfl (lv_at hl 1 rfl) ?_
      refine lv_aload_n hx hb dX1_turnRound_35 rfl (lv_at hl 0 rfl) ?_
      refine am_getR X hh 127 4 0 1 (by decide) rfl rfl (by decide) hwRX1 (show Cond.fieldLink RX1 9 "PlanetWorkshop$Changes" "state" "LPlanetWorkshop$State;" ∈ wsX1_turnRound by decide +kernel) rfl dX1_turnRound_36 ?_
      refine am_getR X hh 1 9 7 9 (by decide) rfl rfl (by decide) hwRX7 (show Cond.fieldLink RX1 92 "PlanetWorkshop$State" "reversed" "[Z" ∈ wsX1_turnRound by decide +kernel) rfl dX1_turnRound_39 ?_
      refine lv_iload_n hx hb dX1_turnRound_42 rfl (lv_at hl 1 rfl) ?_
      obtain ⟨hq7, hF⟩ := am_ifR hF
      refine am_zald X hh 9 (by decide) rfl hq7 dX1_turnRound_43 ?_
      refine lv_if_ne (tgt := 51) hx hb dX1_turnRound_44 (by decide) (fun hc8 => ?_) (fun hc8 => ?_)
      · have hF := am_neg hc8 hF
        refine lv_iconst (v := (0 : Int32)) hx hb dX1_turnRound_51 (by decide) ?_
        obtain ⟨hq9, hF⟩ := am_ifR hF
        refine am_zast X hh 9 (by decide) rfl hq9 dX1_turnRound_52 (fun H locs hh => ?_)
        obtain ⟨w10, hw10, hF⟩ := am_wl hF
        have hh := AH_eq hw10 hh
        refine lv_aload_n hx hb dX1_turnRound_53 rfl (lv_at hl 0 rfl) ?_
        refine am_getR X hh 127 4 0 1 (by decide) rfl rfl (by decide) hwRX1 (show Cond.fieldLink RX1 9 "PlanetWorkshop$Changes" "state" "LPlanetWorkshop$State;" ∈ wsX1_turnRound by decide +kernel) rfl dX1_turnRound_54 ?_
        refine am_getR X hh 1 9 7 9 (by decide) rfl rfl (by decide) hwRX7 (show Cond.fieldLink RX1 92 "PlanetWorkshop$State" "reversed" "[Z" ∈ wsX1_turnRound by decide +kernel) rfl dX1_turnRound_57 ?_
        refine lv_iload_n hx hb dX1_turnRound_60 rfl (lv_at hl 1 rfl) ?_
        obtain ⟨hq11, hF⟩ := am_ifR hF
        refine am_zald X hh 9 (by decide) rfl hq11 dX1_turnRound_61 ?_
        refine lv_if_eq (tgt := 69) hx hb dX1_turnRound_62 (by decide) (fun hc12 => ?_) (fun hc12 => ?_)
        · have hF := am_pos hc12 hF
          refine lv_iconst (v := (0 : Int32)) hx hb dX1_turnRound_69 (by decide) ?_
          exact am_iret X hr hh (fun t ht => am_qw (mk := oI) hF ht) (Nat.le_of_ble_eq_true rfl) (Nat.le_of_ble_eq_true rfl) dX1_turnRound_70
        · have hF := am_neg hc12 hF
          refine lv_iconst (v := (1 : Int32)) hx hb dX1_turnRound_65 (by decide) ?_
          refine lv_goto (tgt := 70) hx hb dX1_turnRound_66 (by decide) ?_
          exact am_iret X hr hh (fun t ht => am_qw (mk := oI) hF ht) (Nat.le_of_ble_eq_true rfl) (Nat.le_of_ble_eq_true rfl) dX1_turnRound_70
      · have hF := am_pos hc8 hF
        refine lv_iconst (v := (1 : Int32)) hx hb dX1_turnRound_47 (by decide) ?_
        refine lv_goto (tgt := 52) hx hb dX1_turnRound_48 (by decide) ?_
        obtain ⟨hq13, hF⟩ := am_ifR hF
        refine am_zast X hh 9 (by decide) rfl hq13 dX1_turnRound_52 (fun H locs hh => ?_)
        obtain ⟨w14, hw14, hF⟩ := am_wl hF
        have hh := AH_eq hw14 hh
        refine lv_aload_n hx hb dX1_turnRound_53 rfl (lv_at hl 0 rfl) ?_
        refine am_getR X hh 127 4 0 1 (by decide) rfl rfl (by decide) hwRX1 (show Cond.fieldLink RX1 9 "PlanetWorkshop$Changes" "state" "LPlanetWorkshop$State;" ∈ wsX1_turnRound by decide +kernel) rfl dX1_turnRound_54 ?_
        refine am_getR X hh 1 9 7 9 (by decide) rfl rfl (by decide) hwRX7 (show Cond.fieldLink RX1 92 "PlanetWorkshop$State" "reversed" "[Z" ∈ wsX1_turnRound by decide +kernel) rfl dX1_turnRound_57 ?_
        refine lv_iload_n hx hb dX1_turnRound_60 rfl (lv_at hl 1 rfl) ?_
        obtain ⟨hq15, hF⟩ := am_ifR hF
        refine am_zald X hh 9 (by decide) rfl hq15 dX1_turnRound_61 ?_
        refine lv_if_eq (tgt := 69) hx hb dX1_turnRound_62 (by decide) (fun hc16 => ?_) (fun hc16 => ?_)
        · have hF := am_pos hc16 hF
          refine lv_iconst (v := (0 : Int32)) hx hb dX1_turnRound_69 (by decide) ?_
          exact am_iret X hr hh (fun t ht => am_qw (mk := oI) hF ht) (Nat.le_of_ble_eq_true rfl) (Nat.le_of_ble_eq_true rfl) dX1_turnRound_70
        · have hF := am_neg hc16 hF
          refine lv_iconst (v := (1 : Int32)) hx hb dX1_turnRound_65 (by decide) ?_
          refine lv_goto (tgt := 70) hx hb dX1_turnRound_66 (by decide) ?_
          exact am_iret X hr hh (fun t ht => am_qw (mk := oI) hF ht) (Nat.le_of_ble_eq_true rfl) (Nat.le_of_ble_eq_true rfl) dX1_turnRound_70
    · have hF := am_pos hc6 hF
      refine lv_bipush (v := (-5 : Int32)) hx hb dX1_turnRound_24 (by decide) ?_
      exact am_iret X hr hh (fun t ht => am_qw (mk := oI) hF ht) (Nat.le_of_ble_eq_true rfl) (Nat.le_of_ble_eq_true rfl) dX1_turnRound_26
  · have hF := am_pos hc3 hF
    refine lv_iconst (v := (-1 : Int32)) hx hb dX1_turnRound_11 (by decide) ?_
    exact am_iret X hr hh (fun t ht => am_qw (mk := oI) hF ht) (Nat.le_of_ble_eq_true rfl) (Nat.le_of_ble_eq_true rfl) dX1_turnRound_12
set_option maxHeartbeats 4000000 in
set_option maxRecDepth 100000 in
theorem c_X1_putRatchet (l : Launch) (G : GG) {w : Wd} {x1 : Int32} {x2 : Int32} {r0 : Int32} {w1 : Wd} (hF : f_X1_putRatchet w x1 x2 = some (r0, w1)) : Met l yX1_putRatchet wsX1_putRatchet ({ frames := 1, cells := 0, slots := 0, locals := 21 } : Room) (va_Pc [.ref (gAd G 127), .int x1, .int x2] (Rel G w)) (amQ G (oI r0) w1) 0 0 (gA G) := by
  refine am_met (own := RX1) (cc := cX1_putRatchet) (maxL := 4) (ret := (some .int)) (by decide +kernel) rfl rfl (Nat.le_of_ble_eq_true rfl) ?_
  intro p e s m args below meth c ab H locs ls X hr hh hl
  have hx := X.1.1; have hb := X.1.2.1; have hml := X.1.2.2.1; have hown := X.1.2.2.2.1; have hts := X.1.2.2.2.2
  have hl : lv_has ls 4 [(0, .ref (gAd G 127)), (1, .int x1), (2, .int x2)] := hl
  have hwRX1 : ∀ z ∈ u_ws RX1 TX1 2, z ∈ wsX1_putRatchet := by decide +kernel
  have hwRX7 : ∀ z ∈ u_ws RX7 TX7 17, z ∈ wsX1_putRatchet := by decide +kernel
  unfold f_X1_putRatchet at hF
  refine lv_aload_n hx hb dX1_putRatchet_0 rfl (lv_at hl 0 rfl) ?_
  refine am_getR X hh 127 4 0 1 (by decide) rfl rfl (by decide) hwRX1 (show Cond.fieldLink RX1 9 "PlanetWorkshop$Changes" "state" "LPlanetWorkshop$State;" ∈ wsX1_putRatchet by decide +kernel) rfl dX1_putRatchet_1 ?_
  refine lv_iload_n hx hb dX1_putRatchet_4 rfl (lv_at hl 1 rfl) ?_
  obtain ⟨r2, hk1, hF⟩ := am_bind hF
  refine am_call X hh (va_runV (As := [.int x1]) (rest := []) X.1 (c_X7_isGear l G hk1) (cwV 1 hts gX1_putRatchet_X7_isGear rfl rfl rfl (by decide +kernel) ⟨Nat.le_of_ble_eq_true rfl, Nat.le_of_ble_eq_true rfl⟩) (am_preV X hh 1 9 (by decide) rfl rfl) rfl rfl hl.1 rfl (lv_room (Nat.le_of_ble_eq_true rfl)) dX1_putRatchet_5 ⟨Nat.le_of_ble_eq_true rfl, Nat.le_of_ble_eq_true rfl⟩) (fun ab H locs hh => ?_)
  refine lv_if_ne (tgt := 13) hx hb dX1_putRatchet_8 (by decide) (fun hc3 => ?_) (fun hc3 => ?_)
  · have hF := am_neg hc3 hF
    refine lv_aload_n hx hb dX1_putRatchet_13 rfl (lv_at hl 0 rfl) ?_
    refine am_getR X hh 127 4 0 1 (by decide) rfl rfl (by decide) hwRX1 (show Cond.fieldLink RX1 9 "PlanetWorkshop$Changes" "state" "LPlanetWorkshop$State;" ∈ wsX1_putRatchet by decide +kernel) rfl dX1_putRatchet_14 ?_
    refine am_getR X hh 1 9 4 6 (by decide) rfl rfl (by decide) hwRX7 (show Cond.fieldLink RX1 146 "PlanetWorkshop$State" "ratchets" "[Z" ∈ wsX1_putRatchet by decide +kernel) rfl dX1_putRatchet_17 ?_
    refine lv_iload_n hx hb dX1_putRatchet_20 rfl (lv_at hl 1 rfl) ?_
    obtain ⟨hq4, hF⟩ := am_ifR hF
    refine am_zald X hh 6 (by decide) rfl hq4 dX1_putRatchet_21 ?_
    refine lv_istore_n (lv' := [(3, .int (gI w 6 (x1).toNatClampNeg)), (0, .ref (gAd G 127)), (1, .int x1), (2, .int x2)]) hx hb dX1_putRatchet_22 rfl hl (by decide) rfl (fun ls hl => ?_)
    refine lv_aload_n hx hb dX1_putRatchet_23 rfl (lv_at hl 1 rfl) ?_
    refine am_getR X hh 127 4 0 1 (by decide) rfl rfl (by decide) hwRX1 (show Cond.fieldLink RX1 9 "PlanetWorkshop$Changes" "state" "LPlanetWorkshop$State;" ∈ wsX1_putRatchet by decide +kernel) rfl dX1_putRatchet_24 ?_
    refine am_getR X hh 1 9 4 6 (by decide) rfl rfl (by decide) hwRX7 (show Cond.fieldLink RX1 146 "PlanetWorkshop$State" "ratchets" "[Z" ∈ wsX1_putRatchet by decide +kernel) rfl dX1_putRatchet_27 ?_
    refine lv_iload_n hx hb dX1_putRatchet_30 rfl (lv_at hl 2 rfl) ?_
    refine lv_iload_n hx hb dX1_putRatchet_31 rfl (lv_at hl 3 rfl) ?_
    obtain ⟨hq5, hF⟩ := am_ifR hF
    refine am_zast X hh 6 (by decide) rfl hq5 dX1_putRatchet_32 (fun H locs hh => ?_)
    obtain ⟨w6, hw6, hF⟩ := am_wl hF
    have hh := AH_eq hw6 hh
    refine lv_iload_n hx hb dX1_putRatchet_33 rfl (lv_at hl 0 rfl) ?_
    refine lv_if_eq (tgt := 41) hx hb dX1_putRatchet_34 (by decide) (fun hc7 => ?_) (fun hc7 => ?_)
    · have hF := am_pos hc7 hF
      refine lv_iconst (v := (0 : Int32)) hx hb dX1_putRatchet_41 (by decide) ?_
      exact am_iret X hr hh (fun t ht => am_qw (mk := oI) hF ht) (Nat.le_of_ble_eq_true rfl) (Nat.le_of_ble_eq_true rfl) dX1_putRatchet_42
    · have hF := am_neg hc7 hF
      refine lv_iconst (v := (1 : Int32)) hx hb dX1_putRatchet_37 (by decide) ?_
      refine lv_goto (tgt := 42) hx hb dX1_putRatchet_38 (by decide) ?_
      exact am_iret X hr hh (fun t ht => am_qw (mk := oI) hF ht) (Nat.le_of_ble_eq_true rfl) (Nat.le_of_ble_eq_true rfl) dX1_putRatchet_42
  · have hF := am_pos hc3 hF
    refine lv_iconst (v := (-1 : Int32)) hx hb dX1_putRatchet_11 (by decide) ?_
    exact am_iret X hr hh (fun t ht => am_qw (mk := oI) hF ht) (Nat.le_of_ble_eq_true rfl) (Nat.le_of_ble_eq_true rfl) dX1_putRatchet_12
set_option maxHeartbeats 4000000 in
set_option maxRecDepth 100000 in
theorem c_X1_putOil (l : Launch) (G : GG) {w : Wd} {x1 : Int32} {r0 : Int32} {w1 : Wd} (hF : f_X1_putOil w x1 = some (r0, w1)) : Met l yX1_putOil wsX1_putOil ({ frames := 1, cells := 0, slots := 0, locals := 21 } : Room) (va_Pc [.ref (gAd G 127), .int x1] (Rel G w)) (amQ G (oI r0) w1) 0 0 (gA G) := by
  refine am_met (own := RX1) (cc := cX1_putOil) (maxL := 2) (ret := (some .int)) (by decide +kernel) rfl rfl (Nat.le_of_ble_eq_true rfl) ?_
  intro p e s m args below meth c ab H locs ls X hr hh hl
  have hx := X.1.1; have hb := X.1.2.1; have hml := X.1.2.2.1; have hown := X.1.2.2.2.1; have hts := X.1.2.2.2.2
  have hl : lv_has ls 2 [(0, .ref (gAd G 127)), (1, .int x1)] := hl
  have hwRX1 : ∀ z ∈ u_ws RX1 TX1 2, z ∈ wsX1_putOil := by decide +kernel
  have hwRX7 : ∀ z ∈ u_ws RX7 TX7 17, z ∈ wsX1_putOil := by decide +kernel
  unfold f_X1_putOil at hF
  refine lv_aload_n hx hb dX1_putOil_0 rfl (lv_at hl 0 rfl) ?_
  refine am_getR X hh 127 4 0 1 (by decide) rfl rfl (by decide) hwRX1 (show Cond.fieldLink RX1 9 "PlanetWorkshop$Changes" "state" "LPlanetWorkshop$State;" ∈ wsX1_putOil by decide +kernel) rfl dX1_putOil_1 ?_
  refine lv_iload_n hx hb dX1_putOil_4 rfl (lv_at hl 1 rfl) ?_
  obtain ⟨r2, hk1, hF⟩ := am_bind hF
  refine am_call X hh (va_runV (As := [.int x1]) (rest := []) X.1 (c_X7_isGear l G hk1) (cwV 1 hts gX1_putOil_X7_isGear rfl rfl rfl (by decide +kernel) ⟨Nat.le_of_ble_eq_true rfl, Nat.le_of_ble_eq_true rfl⟩) (am_preV X hh 1 9 (by decide) rfl rfl) rfl rfl hl.1 rfl (lv_room (Nat.le_of_ble_eq_true rfl)) dX1_putOil_5 ⟨Nat.le_of_ble_eq_true rfl, Nat.le_of_ble_eq_true rfl⟩) (fun ab H locs hh => ?_)
  refine lv_if_ne (tgt := 13) hx hb dX1_putOil_8 (by decide) (fun hc3 => ?_) (fun hc3 => ?_)
  · have hF := am_neg hc3 hF
    refine lv_aload_n hx hb dX1_putOil_13 rfl (lv_at hl 0 rfl) ?_
    refine am_getR X hh 127 4 0 1 (by decide) rfl rfl (by decide) hwRX1 (show Cond.fieldLink RX1 9 "PlanetWorkshop$Changes" "state" "LPlanetWorkshop$State;" ∈ wsX1_putOil by decide +kernel) rfl dX1_putOil_14 ?_
    refine am_getR X hh 1 9 2 4 (by decide) rfl rfl (by decide) hwRX7 (show Cond.fieldLink RX1 134 "PlanetWorkshop$State" "oiled" "[Z" ∈ wsX1_putOil by decide +kernel) rfl dX1_putOil_17 ?_
    refine lv_iload_n hx hb dX1_putOil_20 rfl (lv_at hl 1 rfl) ?_
    obtain ⟨hq4, hF⟩ := am_ifR hF
    refine am_zald X hh 4 (by decide) rfl hq4 dX1_putOil_21 ?_
    refine lv_if_eq (tgt := 28) hx hb dX1_putOil_22 (by decide) (fun hc5 => ?_) (fun hc5 => ?_)
    · have hF := am_pos hc5 hF
      refine lv_aload_n hx hb dX1_putOil_28 rfl (lv_at hl 0 rfl) ?_
      refine am_getR X hh 127 4 0 1 (by decide) rfl rfl (by decide) hwRX1 (show Cond.fieldLink RX1 9 "PlanetWorkshop$Changes" "state" "LPlanetWorkshop$State;" ∈ wsX1_putOil by decide +kernel) rfl dX1_putOil_29 ?_
      refine am_getI X hh 1 9 13 (by decide) rfl rfl (by decide) hwRX7 (show Cond.fieldLink RX1 149 "PlanetWorkshop$State" "drops" "I" ∈ wsX1_putOil by decide +kernel) rfl dX1_putOil_32 ?_
      refine lv_if_ne (tgt := 41) hx hb dX1_putOil_35 (by decide) (fun hc6 => ?_) (fun hc6 => ?_)
      · have hF := am_neg hc6 hF
        refine lv_aload_n hx hb dX1_putOil_41 rfl (lv_at hl 0 rfl) ?_
        refine am_getR X hh 127 4 0 1 (by decide) rfl rfl (by decide) hwRX1 (show Cond.fieldLink RX1 9 "PlanetWorkshop$Changes" "state" "LPlanetWorkshop$State;" ∈ wsX1_putOil by decide +kernel) rfl dX1_putOil_42 ?_
        refine am_getR X hh 1 9 2 4 (by decide) rfl rfl (by decide) hwRX7 (show Cond.fieldLink RX1 134 "PlanetWorkshop$State" "oiled" "[Z" ∈ wsX1_putOil by decide +kernel) rfl dX1_putOil_45 ?_
        refine lv_iload_n hx hb dX1_putOil_48 rfl (lv_at hl 1 rfl) ?_
        refine lv_iconst (v := (1 : Int32)) hx hb dX1_putOil_49 (by decide) ?_
        obtain ⟨hq7, hF⟩ := am_ifR hF
        refine am_zast X hh 4 (by decide) rfl hq7 dX1_putOil_50 (fun H locs hh => ?_)
        obtain ⟨w8, hw8, hF⟩ := am_wl hF
        have hh := AH_eq hw8 hh
        refine lv_aload_n hx hb dX1_putOil_51 rfl (lv_at hl 0 rfl) ?_
        refine am_getR X hh 127 4 0 1 (by decide) rfl rfl (by decide) hwRX1 (show Cond.fieldLink RX1 9 "PlanetWorkshop$Changes" "state" "LPlanetWorkshop$State;" ∈ wsX1_putOil by decide +kernel) rfl dX1_putOil_52 ?_
        refine am_getR X hh 1 9 3 5 (by decide) rfl rfl (by decide) hwRX7 (show Cond.fieldLink RX1 137 "PlanetWorkshop$State" "wears" "[J" ∈ wsX1_putOil by decide +kernel) rfl dX1_putOil_55 ?_
        refine lv_iload_n hx hb dX1_putOil_58 rfl (lv_at hl 1 rfl) ?_
        refine lv_lconst (v := (0 : Int64)) hx hb dX1_putOil_59 (by decide) ?_
        obtain ⟨hq9, hF⟩ := am_ifR hF
        refine am_last X hh 5 (by decide) rfl hq9 dX1_putOil_60 (fun H locs hh => ?_)
        obtain ⟨w10, hw10, hF⟩ := am_wl hF
        have hh := AH_eq hw10 hh
        refine lv_aload_n hx hb dX1_putOil_61 rfl (lv_at hl 0 rfl) ?_
        refine am_getR X hh 127 4 0 1 (by decide) rfl rfl (by decide) hwRX1 (show Cond.fieldLink RX1 9 "PlanetWorkshop$Changes" "state" "LPlanetWorkshop$State;" ∈ wsX1_putOil by decide +kernel) rfl dX1_putOil_62 ?_
        refine lv_dup hx hb dX1_putOil_65 rfl ?_
        refine am_getI X hh 1 9 13 (by decide) rfl rfl (by decide) hwRX7 (show Cond.fieldLink RX1 149 "PlanetWorkshop$State" "drops" "I" ∈ wsX1_putOil by decide +kernel) rfl dX1_putOil_66 ?_
        refine lv_iconst (v := (1 : Int32)) hx hb dX1_putOil_69 (by decide) ?_
        refine lv_isub hx hb dX1_putOil_70 ?_
        refine am_putI X hh 1 9 13 (by decide) rfl rfl (by decide) hwRX7 tyX7 tyX7_ok nmX7 (show Cond.fieldLink RX1 149 "PlanetWorkshop$State" "drops" "I" ∈ wsX1_putOil by decide +kernel) rfl rfl rfl rfl dX1_putOil_71 (fun H locs hh => ?_)
        obtain ⟨w11, hw11, hF⟩ := am_wl hF
        have hh := AH_eq hw11 hh
        refine lv_aload_n hx hb dX1_putOil_74 rfl (lv_at hl 0 rfl) ?_
        refine am_getR X hh 127 4 0 1 (by decide) rfl rfl (by decide) hwRX1 (show Cond.fieldLink RX1 9 "PlanetWorkshop$Changes" "state" "LPlanetWorkshop$State;" ∈ wsX1_putOil by decide +kernel) rfl dX1_putOil_75 ?_
        refine am_getI X hh 1 9 13 (by decide) rfl rfl (by decide) hwRX7 (show Cond.fieldLink RX1 149 "PlanetWorkshop$State" "drops" "I" ∈ wsX1_putOil by decide +kernel) rfl dX1_putOil_78 ?_
        exact am_iret X hr hh (fun t ht => am_qw (mk := oI) hF ht) (Nat.le_of_ble_eq_true rfl) (Nat.le_of_ble_eq_true rfl) dX1_putOil_81
      · have hF := am_pos hc6 hF
        refine lv_bipush (v := (-4 : Int32)) hx hb dX1_putOil_38 (by decide) ?_
        exact am_iret X hr hh (fun t ht => am_qw (mk := oI) hF ht) (Nat.le_of_ble_eq_true rfl) (Nat.le_of_ble_eq_true rfl) dX1_putOil_40
    · have hF := am_neg hc5 hF
      refine lv_bipush (v := (-3 : Int32)) hx hb dX1_putOil_25 (by decide) ?_
      exact am_iret X hr hh (fun t ht => am_qw (mk := oI) hF ht) (Nat.le_of_ble_eq_true rfl) (Nat.le_of_ble_eq_true rfl) dX1_putOil_27
  · have hF := am_pos hc3 hF
    refine lv_iconst (v := (-1 : Int32)) hx hb dX1_putOil_11 (by decide) ?_
    exact am_iret X hr hh (fun t ht => am_qw (mk := oI) hF ht) (Nat.le_of_ble_eq_true rfl) (Nat.le_of_ble_eq_true rfl) dX1_putOil_12
set_option maxHeartbeats 4000000 in
set_option maxRecDepth 100000 in
theorem c_X1_putPlanet (l : Launch) (G : GG) {w : Wd} {x1 : Int32} {r0 : Int32} {w1 : Wd} (hF : f_X1_putPlanet w x1 = some (r0, w1)) : Met l yX1_putPlanet wsX1_putPlanet ({ frames := 1, cells := 0, slots := 0, locals := 22 } : Room) (va_Pc [.ref (gAd G 127), .int x1] (Rel G w)) (amQ G (oI r0) w1) 0 0 (gA G) := by
  refine am_met (own := RX1) (cc := cX1_putPlanet) (maxL := 3) (ret := (some .int)) (by decide +kernel) rfl rfl (Nat.le_of_ble_eq_true rfl) ?_
  intro p e s m args below meth c ab H locs ls X hr hh hl
  have hx := X.1.1; have hb := X.1.2.1; have hml := X.1.2.2.1; have hown := X.1.2.2.2.1; have hts := X.1.2.2.2.2
  have hl : lv_has ls 3 [(0, .ref (gAd G 127)), (1, .int x1)] := hl
  have hwRX1 : ∀ z ∈ u_ws RX1 TX1 2, z ∈ wsX1_putPlanet := by decide +kernel
  have hwRX7 : ∀ z ∈ u_ws RX7 TX7 17, z ∈ wsX1_putPlanet := by decide +kernel
  unfold f_X1_putPlanet at hF
  refine lv_aload_n hx hb dX1_putPlanet_0 rfl (lv_at hl 0 rfl) ?_
  refine am_getR X hh 127 4 0 1 (by decide) rfl rfl (by decide) hwRX1 (show Cond.fieldLink RX1 9 "PlanetWorkshop$Changes" "state" "LPlanetWorkshop$State;" ∈ wsX1_putPlanet by decide +kernel) rfl dX1_putPlanet_1 ?_
  refine lv_iload_n hx hb dX1_putPlanet_4 rfl (lv_at hl 1 rfl) ?_
  obtain ⟨r2, hk1, hF⟩ := am_bind hF
  refine am_call X hh (va_runV (As := [.int x1]) (rest := []) X.1 (c_X7_isGear l G hk1) (cwV 1 hts gX1_putPlanet_X7_isGear rfl rfl rfl (by decide +kernel) ⟨Nat.le_of_ble_eq_true rfl, Nat.le_of_ble_eq_true rfl⟩) (am_preV X hh 1 9 (by decide) rfl rfl) rfl rfl hl.1 rfl (lv_room (Nat.le_of_ble_eq_true rfl)) dX1_putPlanet_5 ⟨Nat.le_of_ble_eq_true rfl, Nat.le_of_ble_eq_true rfl⟩) (fun ab H locs hh => ?_)
  refine lv_if_ne (tgt := 13) hx hb dX1_putPlanet_8 (by decide) (fun hc3 => ?_) (fun hc3 => ?_)
  · have hF := am_neg hc3 hF
    refine lv_aload_n hx hb dX1_putPlanet_13 rfl (lv_at hl 0 rfl) ?_
    refine am_getR X hh 127 4 0 1 (by decide) rfl rfl (by decide) hwRX1 (show Cond.fieldLink RX1 9 "PlanetWorkshop$Changes" "state" "LPlanetWorkshop$State;" ∈ wsX1_putPlanet by decide +kernel) rfl dX1_putPlanet_14 ?_
    refine am_getI X hh 1 9 12 (by decide) rfl rfl (by decide) hwRX7 (show Cond.fieldLink RX1 152 "PlanetWorkshop$State" "planets" "I" ∈ wsX1_putPlanet by decide +kernel) rfl dX1_putPlanet_17 ?_
    refine lv_bipush (v := (6 : Int32)) hx hb dX1_putPlanet_20 (by decide) ?_
    refine lv_icmp_ge (tgt := 36) hx hb dX1_putPlanet_22 (by decide) (fun hc4 => ?_) (fun hc4 => ?_)
    · have hF := am_pos hc4 hF
      refine lv_bipush (v := (-3 : Int32)) hx hb dX1_putPlanet_36 (by decide) ?_
      exact am_iret X hr hh (fun t ht => am_qw (mk := oI) hF ht) (Nat.le_of_ble_eq_true rfl) (Nat.le_of_ble_eq_true rfl) dX1_putPlanet_38
    · have hF := am_neg hc4 hF
      refine lv_aload_n hx hb dX1_putPlanet_25 rfl (lv_at hl 0 rfl) ?_
      refine am_getR X hh 127 4 0 1 (by decide) rfl rfl (by decide) hwRX1 (show Cond.fieldLink RX1 9 "PlanetWorkshop$Changes" "state" "LPlanetWorkshop$State;" ∈ wsX1_putPlanet by decide +kernel) rfl dX1_putPlanet_26 ?_
      refine lv_iload_n hx hb dX1_putPlanet_29 rfl (lv_at hl 1 rfl) ?_
      obtain ⟨r6, hk5, hF⟩ := am_bind hF
      refine am_call X hh (va_runV (As := [.int x1]) (rest := []) X.1 (c_X7_carriesPlanet l G hk5) (cwV 1 hts gX1_putPlanet_X7_carriesPlanet rfl rfl rfl (by decide +kernel) ⟨Nat.le_of_ble_eq_true rfl, Nat.le_of_ble_eq_true rfl⟩) (am_preV X hh 1 9 (by decide) rfl rfl) rfl rfl hl.1 rfl (lv_room (Nat.le_of_ble_eq_true rfl)) dX1_putPlanet_30 ⟨Nat.le_of_ble_eq_true rfl, Nat.le_of_ble_eq_true rfl⟩) (fun ab H locs hh => ?_)
      refine lv_if_eq (tgt := 39) hx hb dX1_putPlanet_33 (by decide) (fun hc7 => ?_) (fun hc7 => ?_)
      · have hF := am_pos hc7 hF
        refine lv_aload_n hx hb dX1_putPlanet_39 rfl (lv_at hl 0 rfl) ?_
        refine am_getR X hh 127 4 0 1 (by decide) rfl rfl (by decide) hwRX1 (show Cond.fieldLink RX1 9 "PlanetWorkshop$Changes" "state" "LPlanetWorkshop$State;" ∈ wsX1_putPlanet by decide +kernel) rfl dX1_putPlanet_40 ?_
        refine am_getI X hh 1 9 12 (by decide) rfl rfl (by decide) hwRX7 (show Cond.fieldLink RX1 152 "PlanetWorkshop$State" "planets" "I" ∈ wsX1_putPlanet by decide +kernel) rfl dX1_putPlanet_43 ?_
        refine lv_istore_n (lv' := [(2, .int (gI w 1 12)), (0, .ref (gAd G 127)), (1, .int x1)]) hx hb dX1_putPlanet_46 rfl hl (by decide) rfl (fun ls hl => ?_)
        refine lv_aload_n hx hb dX1_putPlanet_47 rfl (lv_at hl 1 rfl) ?_
        refine am_getR X hh 127 4 0 1 (by decide) rfl rfl (by decide) hwRX1 (show Cond.fieldLink RX1 9 "PlanetWorkshop$Changes" "state" "LPlanetWorkshop$State;" ∈ wsX1_putPlanet by decide +kernel) rfl dX1_putPlanet_48 ?_
        refine am_getR X hh 1 9 9 11 (by decide) rfl rfl (by decide) hwRX7 (show Cond.fieldLink RX1 158 "PlanetWorkshop$State" "carriers" "[I" ∈ wsX1_putPlanet by decide +kernel) rfl dX1_putPlanet_51 ?_
        refine lv_iload_n hx hb dX1_putPlanet_54 rfl (lv_at hl 0 rfl) ?_
        refine lv_iload_n hx hb dX1_putPlanet_55 rfl (lv_at hl 2 rfl) ?_
        obtain ⟨hq8, hF⟩ := am_ifR hF
        refine am_iast X hh 11 (by decide) rfl hq8 dX1_putPlanet_56 (fun H locs hh => ?_)
        obtain ⟨w9, hw9, hF⟩ := am_wl hF
        have hh := AH_eq hw9 hh
        refine lv_aload_n hx hb dX1_putPlanet_57 rfl (lv_at hl 1 rfl) ?_
        refine am_getR X hh 127 4 0 1 (by decide) rfl rfl (by decide) hwRX1 (show Cond.fieldLink RX1 9 "PlanetWorkshop$Changes" "state" "LPlanetWorkshop$State;" ∈ wsX1_putPlanet by decide +kernel) rfl dX1_putPlanet_58 ?_
        refine lv_iload_n hx hb dX1_putPlanet_61 rfl (lv_at hl 0 rfl) ?_
        refine lv_iconst (v := (1 : Int32)) hx hb dX1_putPlanet_62 (by decide) ?_
        refine lv_iadd hx hb dX1_putPlanet_63 ?_
        refine am_putI X hh 1 9 12 (by decide) rfl rfl (by decide) hwRX7 tyX7 tyX7_ok nmX7 (show Cond.fieldLink RX1 152 "PlanetWorkshop$State" "planets" "I" ∈ wsX1_putPlanet by decide +kernel) rfl rfl rfl rfl dX1_putPlanet_64 (fun H locs hh => ?_)
        obtain ⟨w10, hw10, hF⟩ := am_wl hF
        have hh := AH_eq hw10 hh
        refine lv_iload_n hx hb dX1_putPlanet_67 rfl (lv_at hl 0 rfl) ?_
        exact am_iret X hr hh (fun t ht => am_qw (mk := oI) hF ht) (Nat.le_of_ble_eq_true rfl) (Nat.le_of_ble_eq_true rfl) dX1_putPlanet_68
      · have hF := am_neg hc7 hF
        refine lv_bipush (v := (-3 : Int32)) hx hb dX1_putPlanet_36 (by decide) ?_
        exact am_iret X hr hh (fun t ht => am_qw (mk := oI) hF ht) (Nat.le_of_ble_eq_true rfl) (Nat.le_of_ble_eq_true rfl) dX1_putPlanet_38
  · have hF := am_pos hc3 hF
    refine lv_iconst (v := (-1 : Int32)) hx hb dX1_putPlanet_11 (by decide) ?_
    exact am_iret X hr hh (fun t ht => am_qw (mk := oI) hF ht) (Nat.le_of_ble_eq_true rfl) (Nat.le_of_ble_eq_true rfl) dX1_putPlanet_12
