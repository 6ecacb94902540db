set_option maxHeartbeats 4000000 in
set_option maxRecDepth 100000 in
theorem c_X8_reach (l : Launch) (G : GG) {w : Wd} {x1 : Int32} {x2 : Int64} {w1 : Wd} (hF : f_X8_reach w x1 x2 = some w1) : Met l yX8_reach wsX8_reach ({ frames := 0, cells := 0, slots := 0, locals := 0 } : Room) (va_Pc [.ref (gAd G 124), .int x1, .long x2] (Rel G w)) (amQ G none w1) 0 0 (gA G) := by
  refine am_met (own := RX8) (cc := cX8_reach) (maxL := 4) (ret := none) (by decide +kernel) rfl rfl (Nat.le_of_ble_eq_true rfl) ?_
  intro p e s m args below meth c ab H locs ls X hr hh hl
  have hx := X.1.1; have hb := X.1.2.1; have hml := X.1.2.2.1; have hown := X.1.2.2.2.1; have hts := X.1.2.2.2.2
  have hl : lv_has ls 4 [(0, .ref (gAd G 124)), (1, .int x1), (2, .long x2)] := hl
  have hwRX8 : ∀ z ∈ u_ws RX8 TX8 3, z ∈ wsX8_reach := by decide +kernel
  unfold f_X8_reach at hF
  refine lv_iload_n hx hb dX8_reach_0 rfl (lv_at hl 1 rfl) ?_
  refine lv_if_lt (tgt := 46) hx hb dX8_reach_1 (by decide) (fun hc1 => ?_) (fun hc1 => ?_)
  · have hF := am_pos hc1 hF
    exact am_vret X hr hh (fun t ht => am_qv hF ht) (Nat.le_of_ble_eq_true rfl) (Nat.le_of_ble_eq_true rfl) dX8_reach_46
  · have hF := am_neg hc1 hF
    refine lv_iload_n hx hb dX8_reach_4 rfl (lv_at hl 1 rfl) ?_
    refine lv_bipush (v := (10 : Int32)) hx hb dX8_reach_5 (by decide) ?_
    refine lv_icmp_ge (tgt := 46) hx hb dX8_reach_7 (by decide) (fun hc2 => ?_) (fun hc2 => ?_)
    · have hF := am_pos hc2 hF
      exact am_vret X hr hh (fun t ht => am_qv hF ht) (Nat.le_of_ble_eq_true rfl) (Nat.le_of_ble_eq_true rfl) dX8_reach_46
    · have hF := am_neg hc2 hF
      refine lv_aload_n hx hb dX8_reach_10 rfl (lv_at hl 0 rfl) ?_
      refine am_getI X hh 124 10 2 (by decide) rfl rfl (by decide) hwRX8 (show Cond.fieldLink RX8 19 "PlanetWorkshop$Train" "size" "I" ∈ wsX8_reach by decide +kernel) rfl dX8_reach_11 ?_
      refine lv_bipush (v := (10 : Int32)) hx hb dX8_reach_14 (by decide) ?_
      refine lv_icmp_ge (tgt := 46) hx hb dX8_reach_16 (by decide) (fun hc3 => ?_) (fun hc3 => ?_)
      · have hF := am_pos hc3 hF
        exact am_vret X hr hh (fun t ht => am_qv hF ht) (Nat.le_of_ble_eq_true rfl) (Nat.le_of_ble_eq_true rfl) dX8_reach_46
      · have hF := am_neg hc3 hF
        refine lv_aload_n hx hb dX8_reach_19 rfl (lv_at hl 0 rfl) ?_
        refine am_getR X hh 124 10 0 125 (by decide) rfl rfl (by decide) hwRX8 (show Cond.fieldLink RX8 9 "PlanetWorkshop$Train" "units" "[J" ∈ wsX8_reach by decide +kernel) rfl dX8_reach_20 ?_
        refine lv_iload_n hx hb dX8_reach_23 rfl (lv_at hl 1 rfl) ?_
        refine lv_lload_n hx hb dX8_reach_24 rfl (lv_at hl 2 rfl) ?_
        obtain ⟨hq4, hF⟩ := am_ifR hF
        refine am_last X hh 125 (by decide) rfl hq4 dX8_reach_25 (fun H locs hh => ?_)
        obtain ⟨w5, hw5, hF⟩ := am_wl hF
        have hh := AH_eq hw5 hh
        refine lv_aload_n hx hb dX8_reach_26 rfl (lv_at hl 0 rfl) ?_
        refine am_getR X hh 124 10 1 126 (by decide) rfl rfl (by decide) hwRX8 (show Cond.fieldLink RX8 15 "PlanetWorkshop$Train" "members" "[I" ∈ wsX8_reach by decide +kernel) rfl dX8_reach_27 ?_
        refine lv_aload_n hx hb dX8_reach_30 rfl (lv_at hl 0 rfl) ?_
        refine am_getI X hh 124 10 2 (by decide) rfl rfl (by decide) hwRX8 (show Cond.fieldLink RX8 19 "PlanetWorkshop$Train" "size" "I" ∈ wsX8_reach by decide +kernel) rfl dX8_reach_31 ?_
        refine lv_iload_n hx hb dX8_reach_34 rfl (lv_at hl 1 rfl) ?_
        obtain ⟨hq6, hF⟩ := am_ifR hF
        refine am_iast X hh 126 (by decide) rfl hq6 dX8_reach_35 (fun H locs hh => ?_)
        obtain ⟨w7, hw7, hF⟩ := am_wl hF
        have hh := AH_eq hw7 hh
        refine lv_aload_n hx hb dX8_reach_36 rfl (lv_at hl 0 rfl) ?_
        refine lv_dup hx hb dX8_reach_37 rfl ?_
        refine am_getI X hh 124 10 2 (by decide) rfl rfl (by decide) hwRX8 (show Cond.fieldLink RX8 19 "PlanetWorkshop$Train" "size" "I" ∈ wsX8_reach by decide +kernel) rfl dX8_reach_38 ?_
        refine lv_iconst (v := (1 : Int32)) hx hb dX8_reach_41 (by decide) ?_
        refine lv_iadd hx hb dX8_reach_42 ?_
        refine am_putI X hh 124 10 2 (by decide) rfl rfl (by decide) hwRX8 tyX8 tyX8_ok nmX8 (show Cond.fieldLink RX8 19 "PlanetWorkshop$Train" "size" "I" ∈ wsX8_reach by decide +kernel) rfl rfl rfl rfl dX8_reach_43 (fun H locs hh => ?_)
        obtain ⟨w8, hw8, hF⟩ := am_wl hF
        have hh := AH_eq hw8 hh
        exact am_vret X hr hh (fun t ht => am_qv hF ht) (Nat.le_of_ble_eq_true rfl) (Nat.le_of_ble_eq_true rfl) dX8_reach_46
set_option maxHeartbeats 4000000 in
set_option maxRecDepth 100000 in
theorem c_X8_holds (l : Launch) (G : GG) {w : Wd} {x1 : Int32} {r0 : Int32} (hF : f_X8_holds w x1 = some r0) : Met l yX8_holds wsX8_holds ({ frames := 0, cells := 0, slots := 0, locals := 0 } : Room) (va_Pc [.ref (gAd G 124), .int x1] (Rel G w)) (amQ G (oI r0) w) 0 0 (gA G) := by
  refine am_met (own := RX8) (cc := cX8_holds) (maxL := 2) (ret := (some .boolean)) (by decide +kernel) rfl rfl (Nat.le_of_ble_eq_true rfl) ?_
  intro p e s m args below meth c ab H locs ls X hr hh hl
  have hx := X.1.1; have hb := X.1.2.1; have hml := X.1.2.2.1; have hown := X.1.2.2.2.1; have hts := X.1.2.2.2.2
  have hl : lv_has ls 2 [(0, .ref (gAd G 124)), (1, .int x1)] := hl
  have hwRX8 : ∀ z ∈ u_ws RX8 TX8 3, z ∈ wsX8_holds := by decide +kernel
  unfold f_X8_holds at hF
  refine lv_aload_n hx hb dX8_holds_0 rfl (lv_at hl 0 rfl) ?_
  refine am_getR X hh 124 10 0 125 (by decide) rfl rfl (by decide) hwRX8 (show Cond.fieldLink RX8 9 "PlanetWorkshop$Train" "units" "[J" ∈ wsX8_holds by decide +kernel) rfl dX8_holds_1 ?_
  refine lv_iload_n hx hb dX8_holds_4 rfl (lv_at hl 1 rfl) ?_
  obtain ⟨hq1, hF⟩ := am_ifR hF
  refine am_lald X hh 125 (by decide) rfl hq1 dX8_holds_5 ?_
  refine lv_lconst (v := (0 : Int64)) hx hb dX8_holds_6 (by decide) ?_
  refine am_lcmp_eq (tgt := 15) hx hb dX8_holds_7 dX8_holds_8 (by decide) (fun hc2 => ?_) (fun hc2 => ?_)
  · have hF := am_pos hc2 hF
    refine lv_iconst (v := (0 : Int32)) hx hb dX8_holds_15 (by decide) ?_
    exact am_zret (v' := (0 : Int32)) X hr rfl hh (fun t ht => am_qp (mk := oI) hF ht) (Nat.le_of_ble_eq_true rfl) (Nat.le_of_ble_eq_true rfl) dX8_holds_16
  · have hF := am_neg hc2 hF
    refine lv_iconst (v := (1 : Int32)) hx hb dX8_holds_11 (by decide) ?_
    refine lv_goto (tgt := 16) hx hb dX8_holds_12 (by decide) ?_
    exact am_zret (v' := (1 : Int32)) X hr rfl hh (fun t ht => am_qp (mk := oI) hF ht) (Nat.le_of_ble_eq_true rfl) (Nat.le_of_ble_eq_true rfl) dX8_holds_16
set_option maxHeartbeats 4000000 in
set_option maxRecDepth 100000 in
theorem c_X8_lowestGear (l : Launch) (G : GG) {w : Wd} {r0 : Int32} (hF : f_X8_lowestGear w = some r0) : Met l yX8_lowestGear wsX8_lowestGear ({ frames := 0, cells := 0, slots := 0, locals := 0 } : Room) (va_Pc [.ref (gAd G 124)] (Rel G w)) (amQ G (oI r0) w) 0 0 (gA G) := by
  refine am_met (own := RX8) (cc := cX8_lowestGear) (maxL := 2) (ret := (some .int)) (by decide +kernel) rfl rfl (Nat.le_of_ble_eq_true rfl) ?_
  intro p e s m args below meth c ab H locs ls X hr hh hl
  have hx := X.1.1; have hb := X.1.2.1; have hml := X.1.2.2.1; have hown := X.1.2.2.2.1; have hts := X.1.2.2.2.2
  have hl : lv_has ls 2 [(0, .ref (gAd G 124))] := hl
  have hwRX8 : ∀ z ∈ u_ws RX8 TX8 3, z ∈ wsX8_lowestGear := by decide +kernel
  unfold f_X8_lowestGear at hF
  refine lv_iconst (v := (0 : Int32)) hx hb dX8_lowestGear_0 (by decide) ?_
  refine lv_istore_n (lv' := [(1, .int (0 : Int32)), (0, .ref (gAd G 124))]) hx hb dX8_lowestGear_1 rfl hl (by decide) rfl (fun ls hl => ?_)
  have hlp2 : ∀ (n : Nat) (y1 : Int32) (ab : Nat) (H : Heap) (locs : List Loc) (ls : Array Slot) (z : (Int32) ⊕ Int32), p_X8_lowestGear_2 w n y1 = some z → AH G s.heap w ab H locs → lv_has ls 2 [(1, .int y1), (0, .ref (gAd G 124))] → (∀ (y1 : Int32) (ab : Nat) (H : Heap) (locs : List Loc) (ls : Array Slot), z = .inl y1 → AH G s.heap w ab H locs → lv_has ls 2 [(1, .int y1), (0, .ref (gAd G 124))] → W p l e ({ frames := 0, cells := 0, slots := 0, locals := 0 } : Room) s m args below meth c H locs 0 0 (MQ below (amQ G (oI r0) w) args s 0 0 (gA G)) (F0 m 27 ls [])) → (∀ r, z = .inr r → some r = some r0) → W p l e ({ frames := 0, cells := 0, slots := 0, locals := 0 } : Room) s m args below meth c H locs 0 0 (MQ below (amQ G (oI r0) w) args s 0 0 (gA G)) (F0 m 2 ls []) := by
    intro n
    induction n with
    | zero =>
      intro y1 ab H locs ls z hF
      unfold p_X8_lowestGear_2 at hF
      cases hF
    | succ n ih =>
      intro y1 ab H locs ls z hF hh hl kE kR
      unfold p_X8_lowestGear_2 at hF
      refine lv_iload_n hx hb dX8_lowestGear_2 rfl (lv_at hl 0 rfl) ?_
      refine lv_bipush (v := (10 : Int32)) hx hb dX8_lowestGear_3 (by decide) ?_
      refine lv_icmp_ge (tgt := 27) hx hb dX8_lowestGear_5 (by decide) (fun hc3 => ?_) (fun hc3 => ?_)
      · have hF := am_pos hc3 hF
        exact kE y1 ab H locs ls (Option.some.inj hF).symm hh (lv_sub hl [0, 1] rfl)
      · have hF := am_neg hc3 hF
        refine lv_aload_n hx hb dX8_lowestGear_8 rfl (lv_at hl 1 rfl) ?_
        refine am_getR X hh 124 10 0 125 (by decide) rfl rfl (by decide) hwRX8 (show Cond.fieldLink RX8 9 "PlanetWorkshop$Train" "units" "[J" ∈ wsX8_lowestGear by decide +kernel) rfl dX8_lowestGear_9 ?_
        refine lv_iload_n hx hb dX8_lowestGear_12 rfl (lv_at hl 0 rfl) ?_
        obtain ⟨hq4, hF⟩ := am_ifR hF
        refine am_lald X hh 125 (by decide) rfl hq4 dX8_lowestGear_13 ?_
        refine lv_lconst (v := (0 : Int64)) hx hb dX8_lowestGear_14 (by decide) ?_
        refine am_lcmp_eq (tgt := 21) hx hb dX8_lowestGear_15 dX8_lowestGear_16 (by decide) (fun hc5 => ?_) (fun hc5 => ?_)
        · have hF := am_pos hc5 hF
          refine lv_iinc (v := (y1 + (1 : Int32))) (lv' := [(1, .int (y1 + (1 : Int32))), (0, .ref (gAd G 124))]) hx hb dX8_lowestGear_21 hl (k := 0) rfl rfl (by decide) rfl (fun ls hl => ?_)
          refine lv_goto (tgt := 2) hx hb dX8_lowestGear_24 (by decide) ?_
          exact ih (y1 + (1 : Int32)) ab H locs ls _ hF hh (lv_sub hl [0, 1] rfl) kE kR
        · have hF := am_neg hc5 hF
          refine lv_iload_n hx hb dX8_lowestGear_19 rfl (lv_at hl 0 rfl) ?_
          have hF := kR _ (Option.some.inj hF).symm
          exact am_iret X hr hh (fun t ht => am_qp (mk := oI) hF ht) (Nat.le_of_ble_eq_true rfl) (Nat.le_of_ble_eq_true rfl) dX8_lowestGear_20
  obtain ⟨z6, hz7, hF⟩ := am_bind hF
  refine hlp2 2000 (0 : Int32) ab H locs ls z6 hz7 hh (lv_sub hl [0, 1] rfl) (fun y1 ab H locs ls hz hh hl => ?_) (fun r hz => ?_)
  · subst hz
    have hF := am_zl hF
    refine lv_iconst (v := (-1 : Int32)) hx hb dX8_lowestGear_27 (by decide) ?_
    exact am_iret X hr hh (fun t ht => am_qp (mk := oI) hF ht) (Nat.le_of_ble_eq_true rfl) (Nat.le_of_ble_eq_true rfl) dX8_lowestGear_28
  · subst hz
    have hF := am_zr hF
    exact hF
set_option maxHeartbeats 4000000 in
set_option maxRecDepth 100000 in
theorem c_X8_springGear (l : Launch) (G : GG) {w : Wd} {r0 : Int32} (hF : f_X8_springGear w = some r0) : Met l yX8_springGear wsX8_springGear ({ frames := 1, cells := 0, slots := 0, locals := 21 } : Room) (va_Pc [.ref (gAd G 124), .ref (gAd G 1)] (Rel G w)) (amQ G (oI r0) w) 0 0 (gA G) := by
  refine am_met (own := RX8) (cc := cX8_springGear) (maxL := 3) (ret := (some .int)) (by decide +kernel) rfl rfl (Nat.le_of_ble_eq_true rfl) ?_
  intro p e s m args below meth c ab H locs ls X hr hh hl
  have hx := X.1.1; have hb := X.1.2.1; have hml := X.1.2.2.1; have hown := X.1.2.2.2.1; have hts := X.1.2.2.2.2
  have hl : lv_has ls 3 [(0, .ref (gAd G 124)), (1, .ref (gAd G 1))] := hl
  have hwRX7 : ∀ z ∈ u_ws RX7 TX7 17, z ∈ wsX8_springGear := by decide +kernel
  unfold f_X8_springGear at hF
  refine lv_iconst (v := (0 : Int32)) hx hb dX8_springGear_0 (by decide) ?_
  refine lv_istore_n (lv' := [(2, .int (0 : Int32)), (0, .ref (gAd G 124)), (1, .ref (gAd G 1))]) hx hb dX8_springGear_1 rfl hl (by decide) rfl (fun ls hl => ?_)
  have hlp2 : ∀ (n : Nat) (y1 : Int32) (ab : Nat) (H : Heap) (locs : List Loc) (ls : Array Slot) (z : (Int32) ⊕ Int32), p_X8_springGear_2 w n y1 = some z → AH G s.heap w ab H locs → lv_has ls 3 [(2, .int y1), (0, .ref (gAd G 124)), (1, .ref (gAd G 1))] → (∀ (y1 : Int32) (ab : Nat) (H : Heap) (locs : List Loc) (ls : Array Slot), z = .inl y1 → AH G s.heap w ab H locs → lv_has ls 3 [(2, .int y1), (0, .ref (gAd G 124)), (1, .ref (gAd G 1))] → W p l e ({ frames := 1, cells := 0, slots := 0, locals := 21 } : Room) s m args below meth c H locs 0 0 (MQ below (amQ G (oI r0) w) args s 0 0 (gA G)) (F0 m 34 ls [])) → (∀ r, z = .inr r → some r = some r0) → W p l e ({ frames := 1, cells := 0, slots := 0, locals := 21 } : Room) s m args below meth c H locs 0 0 (MQ below (amQ G (oI r0) w) args s 0 0 (gA G)) (F0 m 2 ls []) := by
    intro n
    induction n with
    | zero =>
      intro y1 ab H locs ls z hF
      unfold p_X8_springGear_2 at hF
      cases hF
    | succ n ih =>
      intro y1 ab H locs ls z hF hh hl kE kR
      unfold p_X8_springGear_2 at hF
      refine lv_iload_n hx hb dX8_springGear_2 rfl (lv_at hl 0 rfl) ?_
      refine lv_aload_n hx hb dX8_springGear_3 rfl (lv_at hl 2 rfl) ?_
      refine am_getI X hh 1 9 10 (by decide) rfl rfl (by decide) hwRX7 (show Cond.fieldLink RX8 29 "PlanetWorkshop$State" "gears" "I" ∈ wsX8_springGear by decide +kernel) rfl dX8_springGear_4 ?_
      refine lv_icmp_ge (tgt := 34) hx hb dX8_springGear_7 (by decide) (fun hc3 => ?_) (fun hc3 => ?_)
      · have hF := am_pos hc3 hF
        exact kE y1 ab H locs ls (Option.some.inj hF).symm hh (lv_sub hl [0, 1, 2] rfl)
      · have hF := am_neg hc3 hF
        refine lv_aload_n hx hb dX8_springGear_10 rfl (lv_at hl 1 rfl) ?_
        refine lv_iload_n hx hb dX8_springGear_11 rfl (lv_at hl 0 rfl) ?_
        obtain ⟨r5, hk4, hF⟩ := am_bind hF
        refine am_call X hh (va_runV (As := [.int y1]) (rest := []) X.1 (c_X8_holds l G hk4) (cwV 1 hts gX8_springGear_X8_holds rfl rfl rfl (by decide +kernel) ⟨Nat.le_of_ble_eq_true rfl, Nat.le_of_ble_eq_true rfl⟩) (am_preV X hh 124 10 (by decide) rfl rfl) rfl rfl hl.1 rfl (lv_room (Nat.le_of_ble_eq_true rfl)) dX8_springGear_12 ⟨Nat.le_of_ble_eq_true rfl, Nat.le_of_ble_eq_true rfl⟩) (fun ab H locs hh => ?_)
        refine lv_if_eq (tgt := 28) hx hb dX8_springGear_15 (by decide) (fun hc6 => ?_) (fun hc6 => ?_)
        · have hF := am_pos hc6 hF
          refine lv_iinc (v := (y1 + (1 : Int32))) (lv' := [(2, .int (y1 + (1 : Int32))), (0, .ref (gAd G 124)), (1, .ref (gAd G 1))]) hx hb dX8_springGear_28 hl (k := 0) rfl rfl (by decide) rfl (fun ls hl => ?_)
          refine lv_goto (tgt := 2) hx hb dX8_springGear_31 (by decide) ?_
          exact ih (y1 + (1 : Int32)) ab H locs ls _ hF hh (lv_sub hl [0, 1, 2] rfl) kE kR
        · have hF := am_neg hc6 hF
          refine lv_aload_n hx hb dX8_springGear_18 rfl (lv_at hl 2 rfl) ?_
          refine lv_iload_n hx hb dX8_springGear_19 rfl (lv_at hl 0 rfl) ?_
          obtain ⟨r8, hk7, hF⟩ := am_bind hF
          refine am_call X hh (va_runV (As := [.int y1]) (rest := []) X.1 (c_X7_hasSpring l G hk7) (cwV 1 hts gX8_springGear_X7_hasSpring rfl rfl rfl (by decide +kernel) ⟨Nat.le_of_ble_eq_true rfl, Nat.le_of_ble_eq_true rfl⟩) (am_preV X hh 1 9 (by decide) rfl rfl) rfl rfl hl.1 rfl (lv_room (Nat.le_of_ble_eq_true rfl)) dX8_springGear_20 ⟨Nat.le_of_ble_eq_true rfl, Nat.le_of_ble_eq_true rfl⟩) (fun ab H locs hh => ?_)
          refine lv_if_eq (tgt := 28) hx hb dX8_springGear_23 (by decide) (fun hc9 => ?_) (fun hc9 => ?_)
          · have hF := am_pos hc9 hF
            refine lv_iinc (v := (y1 + (1 : Int32))) (lv' := [(2, .int (y1 + (1 : Int32))), (0, .ref (gAd G 124)), (1, .ref (gAd G 1))]) hx hb dX8_springGear_28 hl (k := 0) rfl rfl (by decide) rfl (fun ls hl => ?_)
            refine lv_goto (tgt := 2) hx hb dX8_springGear_31 (by decide) ?_
            exact ih (y1 + (1 : Int32)) ab H locs ls _ hF hh (lv_sub hl [0, 1, 2] rfl) kE kR
          · have hF := am_neg hc9 hF
            refine lv_iload_n hx hb dX8_springGear_26 rfl (lv_at hl 0 rfl) ?_
            have hF := kR _ (Option.some.inj hF).symm
            exact am_iret X hr hh (fun t ht => am_qp (mk := oI) hF ht) (Nat.le_of_ble_eq_true rfl) (Nat.le_of_ble_eq_true rfl) dX8_springGear_27
  obtain ⟨z10, hz11, hF⟩ := am_bind hF
  refine hlp2 2000 (0 : Int32) ab H locs ls z10 hz11 hh (lv_sub hl [0, 1, 2] rfl) (fun y1 ab H locs ls hz hh hl => ?_) (fun r hz => ?_)
  · subst hz
    have hF := am_zl hF
    refine lv_iconst (v := (-1 : Int32)) hx hb dX8_springGear_34 (by decide) ?_
    exact am_iret X hr hh (fun t ht => am_qp (mk := oI) hF ht) (Nat.le_of_ble_eq_true rfl) (Nat.le_of_ble_eq_true rfl) dX8_springGear_35
  · subst hz
    have hF := am_zr hF
    exact hF
set_option maxHeartbeats 4000000 in
set_option maxRecDepth 100000 in
theorem c_X8_drag (l : Launch) (G : GG) {w : Wd} {r0 : Int32} (hF : f_X8_drag w = some r0) : Met l yX8_drag wsX8_drag ({ frames := 1, cells := 0, slots := 0, locals := 21 } : Room) (va_Pc [.ref (gAd G 124), .ref (gAd G 1)] (Rel G w)) (amQ G (oI r0) w) 0 0 (gA G) := by
  refine am_met (own := RX8) (cc := cX8_drag) (maxL := 4) (ret := (some .int)) (by decide +kernel) rfl rfl (Nat.le_of_ble_eq_true rfl) ?_
  intro p e s m args below meth c ab H locs ls X hr hh hl
  have hx := X.1.1; have hb := X.1.2.1; have hml := X.1.2.2.1; have hown := X.1.2.2.2.1; have hts := X.1.2.2.2.2
  have hl : lv_has ls 4 [(0, .ref (gAd G 124)), (1, .ref (gAd G 1))] := hl
  have hwRX7 : ∀ z ∈ u_ws RX7 TX7 17, z ∈ wsX8_drag := by decide +kernel
  have hwRX8 : ∀ z ∈ u_ws RX8 TX8 3, z ∈ wsX8_drag := by decide +kernel
  unfold f_X8_drag at hF
  refine lv_aload_n hx hb dX8_drag_0 rfl (lv_at hl 0 rfl) ?_
  refine am_getI X hh 124 10 2 (by decide) rfl rfl (by decide) hwRX8 (show Cond.fieldLink RX8 19 "PlanetWorkshop$Train" "size" "I" ∈ wsX8_drag by decide +kernel) rfl dX8_drag_1 ?_
  refine lv_istore_n (lv' := [(2, .int (gI w 124 2)), (0, .ref (gAd G 124)), (1, .ref (gAd G 1))]) hx hb dX8_drag_4 rfl hl (by decide) rfl (fun ls hl => ?_)
  refine lv_iconst (v := (0 : Int32)) hx hb dX8_drag_5 (by decide) ?_
  refine lv_istore_n (lv' := [(3, .int (0 : Int32)), (2, .int (gI w 124 2)), (0, .ref (gAd G 124)), (1, .ref (gAd G 1))]) hx hb dX8_drag_6 rfl hl (by decide) rfl (fun ls hl => ?_)
  have hlp7 : ∀ (n : Nat) (y1 : Int32) (y2 : Int32) (ab : Nat) (H : Heap) (locs : List Loc) (ls : Array Slot) (z : (Int32 × Int32) ⊕ Unit), p_X8_drag_7 w n y1 y2 = some z → AH G s.heap w ab H locs → lv_has ls 4 [(2, .int y1), (3, .int y2), (0, .ref (gAd G 124)), (1, .ref (gAd G 1))] → (∀ (y1 : Int32) (y2 : Int32) (ab : Nat) (H : Heap) (locs : List Loc) (ls : Array Slot), z = .inl (y1, y2) → AH G s.heap w ab H locs → lv_has ls 4 [(2, .int y1), (3, .int y2), (0, .ref (gAd G 124)), (1, .ref (gAd G 1))] → W p l e ({ frames := 1, cells := 0, slots := 0, locals := 21 } : Room) s m args below meth c H locs 0 0 (MQ below (amQ G (oI r0) w) args s 0 0 (gA G)) (F0 m 41 ls [])) → W p l e ({ frames := 1, cells := 0, slots := 0, locals := 21 } : Room) s m args below meth c H locs 0 0 (MQ below (amQ G (oI r0) w) args s 0 0 (gA G)) (F0 m 7 ls []) := by
    intro n
    induction n with
    | zero =>
      intro y1 y2 ab H locs ls z hF
      unfold p_X8_drag_7 at hF
      cases hF
    | succ n ih =>
      intro y1 y2 ab H locs ls z hF hh hl kE
      unfold p_X8_drag_7 at hF
      refine lv_iload_n hx hb dX8_drag_7 rfl (lv_at hl 1 rfl) ?_
      refine lv_aload_n hx hb dX8_drag_8 rfl (lv_at hl 3 rfl) ?_
      refine am_getI X hh 1 9 10 (by decide) rfl rfl (by decide) hwRX7 (show Cond.fieldLink RX8 29 "PlanetWorkshop$State" "gears" "I" ∈ wsX8_drag by decide +kernel) rfl dX8_drag_9 ?_
      refine lv_icmp_ge (tgt := 41) hx hb dX8_drag_12 (by decide) (fun hc4 => ?_) (fun hc4 => ?_)
      · have hF := am_pos hc4 hF
        exact kE y1 y2 ab H locs ls (Option.some.inj hF).symm hh (lv_sub hl [0, 1, 2, 3] rfl)
      · have hF := am_neg hc4 hF
        refine lv_aload_n hx hb dX8_drag_15 rfl (lv_at hl 2 rfl) ?_
        refine lv_iload_n hx hb dX8_drag_16 rfl (lv_at hl 1 rfl) ?_
        obtain ⟨r6, hk5, hF⟩ := am_bind hF
        refine am_call X hh (va_runV (As := [.int y2]) (rest := []) X.1 (c_X8_holds l G hk5) (cwV 1 hts gX8_drag_X8_holds rfl rfl rfl (by decide +kernel) ⟨Nat.le_of_ble_eq_true rfl, Nat.le_of_ble_eq_true rfl⟩) (am_preV X hh 124 10 (by decide) rfl rfl) rfl rfl hl.1 rfl (lv_room (Nat.le_of_ble_eq_true rfl)) dX8_drag_17 ⟨Nat.le_of_ble_eq_true rfl, Nat.le_of_ble_eq_true rfl⟩) (fun ab H locs hh => ?_)
        refine lv_if_eq (tgt := 35) hx hb dX8_drag_20 (by decide) (fun hc7 => ?_) (fun hc7 => ?_)
        · have hF := am_pos hc7 hF
          refine lv_iinc (v := (y2 + (1 : Int32))) (lv' := [(3, .int (y2 + (1 : Int32))), (2, .int y1), (0, .ref (gAd G 124)), (1, .ref (gAd G 1))]) hx hb dX8_drag_35 hl (k := 1) rfl rfl (by decide) rfl (fun ls hl => ?_)
          refine lv_goto (tgt := 7) hx hb dX8_drag_38 (by decide) ?_
          exact ih y1 (y2 + (1 : Int32)) ab H locs ls _ hF hh (lv_sub hl [1, 0, 2, 3] rfl) kE
        · have hF := am_neg hc7 hF
          refine lv_aload_n hx hb dX8_drag_23 rfl (lv_at hl 3 rfl) ?_
          refine am_getR X hh 1 9 2 4 (by decide) rfl rfl (by decide) hwRX7 (show Cond.fieldLink RX8 49 "PlanetWorkshop$State" "oiled" "[Z" ∈ wsX8_drag by decide +kernel) rfl dX8_drag_24 ?_
          refine lv_iload_n hx hb dX8_drag_27 rfl (lv_at hl 1 rfl) ?_
          obtain ⟨hq8, hF⟩ := am_ifR hF
          refine am_zald X hh 4 (by decide) rfl hq8 dX8_drag_28 ?_
          refine lv_if_ne (tgt := 35) hx hb dX8_drag_29 (by decide) (fun hc9 => ?_) (fun hc9 => ?_)
          · have hF := am_neg hc9 hF
            refine lv_iinc (v := (y2 + (1 : Int32))) (lv' := [(3, .int (y2 + (1 : Int32))), (2, .int y1), (0, .ref (gAd G 124)), (1, .ref (gAd G 1))]) hx hb dX8_drag_35 hl (k := 1) rfl rfl (by decide) rfl (fun ls hl => ?_)
            refine lv_goto (tgt := 7) hx hb dX8_drag_38 (by decide) ?_
            exact ih y1 (y2 + (1 : Int32)) ab H locs ls _ hF hh (lv_sub hl [1, 0, 2, 3] rfl) kE
          · have hF := am_pos hc9 hF
            refine lv_iinc (v := (y1 + (1 : Int32))) (lv' := [(2, .int (y1 + (1 : Int32))), (3, .int y2), (0, .ref (gAd G 124)), (1, .ref (gAd G 1))]) hx hb dX8_drag_32 hl (k := 0) rfl rfl (by decide) rfl (fun ls hl => ?_)
            refine lv_iinc (v := (y2 + (1 : Int32))) (lv' := [(3, .int (y2 + (1 : Int32))), (2, .int (y1 + (1 : Int32))), (0, .ref (gAd G 124)), (1, .ref (gAd G 1))]) hx hb dX8_drag_35 hl (k := 1) rfl rfl (by decide) rfl (fun ls hl => ?_)
            refine lv_goto (tgt := 7) hx hb dX8_drag_38 (by decide) ?_
            exact ih (y1 + (1 : Int32)) (y2 + (1 : Int32)) ab H locs ls _ hF hh (lv_sub hl [1, 0, 2, 3] rfl) kE
  obtain ⟨z10, hz11, hF⟩ := am_bind hF
  refine hlp7 2000 (gI w 124 2) (0 : Int32) ab H locs ls z10 hz11 hh (lv_sub hl [1, 0, 2, 3] rfl) (fun y1 y2 ab H locs ls hz hh hl => ?_)
  · subst hz
    have hF := am_zl hF
    have hF := am_u2 hF
    refine lv_iload_n hx hb dX8_drag_41 rfl (lv_at hl 0 rfl) ?_
    exact am_iret X hr hh (fun t ht => am_qp (mk := oI) hF ht) (Nat.le_of_ble_eq_true rfl) (Nat.le_of_ble_eq_true rfl) dX8_drag_42
set_option maxHeartbeats 4000000 in
set_option maxRecDepth 100000 in
theorem c_X8_isBlocked (l : Launch) (G : GG) {w : Wd} {x2 : Int32} {r0 : Int32} (hF : f_X8_isBlocked w x2 = some r0) : Met l yX8_isBlocked wsX8_isBlocked ({ frames := 0, cells := 0, slots := 0, locals := 0 } : Room) (va_Pc [.ref (gAd G 124), .ref (gAd G 1), .int x2] (Rel G w)) (amQ G (oI r0) w) 0 0 (gA G) := by
  refine am_met (own := RX8) (cc := cX8_isBlocked) (maxL := 5) (ret := (some .boolean)) (by decide +kernel) rfl rfl (Nat.le_of_ble_eq_true rfl) ?_
  intro p e s m args below meth c ab H locs ls X hr hh hl
  have hx := X.1.1; have hb := X.1.2.1; have hml := X.1.2.2.1; have hown := X.1.2.2.2.1; have hts := X.1.2.2.2.2
  have hl : lv_has ls 5 [(0, .ref (gAd G 124)), (1, .ref (gAd G 1)), (2, .int x2)] := hl
  have hwRX7 : ∀ z ∈ u_ws RX7 TX7 17, z ∈ wsX8_isBlocked := by decide +kernel
  have hwRX8 : ∀ z ∈ u_ws RX8 TX8 3, z ∈ wsX8_isBlocked := by decide +kernel
  unfold f_X8_isBlocked at hF
  refine lv_iconst (v := (0 : Int32)) hx hb dX8_isBlocked_0 (by decide) ?_
  refine lv_istore_n (lv' := [(3, .int (0 : Int32)), (0, .ref (gAd G 124)), (1, .ref (gAd G 1)), (2, .int x2)]) hx hb dX8_isBlocked_1 rfl hl (by decide) rfl (fun ls hl => ?_)
  have hlp2 : ∀ (n : Nat) (y1 : Int32) (ab : Nat) (H : Heap) (locs : List Loc) (ls : Array Slot) (z : (Int32) ⊕ Int32), p_X8_isBlocked_2 w x2 n y1 = some z → AH G s.heap w ab H locs → lv_has ls 5 [(3, .int y1), (0, .ref (gAd G 124)), (1, .ref (gAd G 1)), (2, .int x2)] → (∀ (y1 : Int32) (ab : Nat) (H : Heap) (locs : List Loc) (ls : Array Slot), z = .inl y1 → AH G s.heap w ab H locs → lv_has ls 5 [(3, .int y1), (0, .ref (gAd G 124)), (1, .ref (gAd G 1)), (2, .int x2)] → W p l e ({ frames := 0, cells := 0, slots := 0, locals := 0 } : Room) s m args below meth c H locs 0 0 (MQ below (amQ G (oI r0) w) args s 0 0 (gA G)) (F0 m 78 ls [])) → (∀ r, z = .inr r → some r = some r0) → W p l e ({ frames := 0, cells := 0, slots := 0, locals := 0 } : Room) s m args below meth c H locs 0 0 (MQ below (amQ G (oI r0) w) args s 0 0 (gA G)) (F0 m 2 ls []) := by
    intro n
    induction n with
    | zero =>
      intro y1 ab H locs ls z hF
      unfold p_X8_isBlocked_2 at hF
      cases hF
    | succ n ih =>
      intro y1 ab H locs ls z hF hh hl kE kR
      unfold p_X8_isBlocked_2 at hF
      refine lv_iload_n hx hb dX8_isBlocked_2 rfl (lv_at hl 0 rfl) ?_
      refine lv_aload_n hx hb dX8_isBlocked_3 rfl (lv_at hl 2 rfl) ?_
      refine am_getI X hh 1 9 10 (by decide) rfl rfl (by decide) hwRX7 (show Cond.fieldLink RX8 29 "PlanetWorkshop$State" "gears" "I" ∈ wsX8_isBlocked by decide +kernel) rfl dX8_isBlocked_4 ?_
      refine lv_icmp_ge (tgt := 78) hx hb dX8_isBlocked_7 (by decide) (fun hc3 => ?_) (fun hc3 => ?_)
      · have hF := am_pos hc3 hF
        exact kE y1 ab H locs ls (Option.some.inj hF).symm hh (lv_sub hl [0, 1, 2, 3] rfl)
      · have hF := am_neg hc3 hF
        refine lv_aload_n hx hb dX8_isBlocked_10 rfl (lv_at hl 2 rfl) ?_
        refine am_getR X hh 1 9 7 9 (by decide) rfl rfl (by decide) hwRX7 (show Cond.fieldLink RX8 53 "PlanetWorkshop$State" "reversed" "[Z" ∈ wsX8_isBlocked by decide +kernel) rfl dX8_isBlocked_11 ?_
        refine lv_iload_n hx hb dX8_isBlocked_14 rfl (lv_at hl 3 rfl) ?_
        obtain ⟨hq4, hF⟩ := am_ifR hF
        refine am_zald X hh 9 (by decide) rfl hq4 dX8_isBlocked_15 ?_
        refine lv_if_eq (tgt := 38) hx hb dX8_isBlocked_16 (by decide) (fun hc5 => ?_) (fun hc5 => ?_)
        · have hF := am_pos hc5 hF
          refine lv_aload_n hx hb dX8_isBlocked_38 rfl (lv_at hl 1 rfl) ?_
          refine am_getR X hh 124 10 0 125 (by decide) rfl rfl (by decide) hwRX8 (show Cond.fieldLink RX8 9 "PlanetWorkshop$Train" "units" "[J" ∈ wsX8_isBlocked by decide +kernel) rfl dX8_isBlocked_39 ?_
          refine lv_iload_n hx hb dX8_isBlocked_42 rfl (lv_at hl 0 rfl) ?_
          obtain ⟨hq6, hF⟩ := am_ifR hF
          refine am_lald X hh 125 (by decide) rfl hq6 dX8_isBlocked_43 ?_
          refine lv_lconst (v := (0 : Int64)) hx hb dX8_isBlocked_44 (by decide) ?_
          refine am_lcmp_ge (tgt := 53) hx hb dX8_isBlocked_45 dX8_isBlocked_46 (by decide) (fun hc7 => ?_) (fun hc7 => ?_)
          · have hF := am_pos hc7 hF
            refine lv_iconst (v := (0 : Int32)) hx hb dX8_isBlocked_53 (by decide) ?_
            refine lv_istore (lv' := [(4, .int (0 : Int32)), (3, .int y1), (0, .ref (gAd G 124)), (1, .ref (gAd G 1)), (2, .int x2)]) hx hb dX8_isBlocked_54 hl (by decide) rfl (fun ls hl => ?_)
            refine lv_iload hx hb dX8_isBlocked_56 (lv_at hl 0 rfl) ?_
            refine lv_if_eq (tgt := 72) hx hb dX8_isBlocked_58 (by decide) (fun _ => ?_) (fun hz => absurd (by decide) hz)
            refine lv_iinc (v := (y1 + (1 : Int32))) (lv' := [(3, .int (y1 + (1 : Int32))), (4, .int (0 : Int32)), (0, .ref (gAd G 124)), (1, .ref (gAd G 1)), (2, .int x2)]) hx hb dX8_isBlocked_72 hl (k := 1) rfl rfl (by decide) rfl (fun ls hl => ?_)
            refine lv_goto (tgt := 2) hx hb dX8_isBlocked_75 (by decide) ?_
            exact ih (y1 + (1 : Int32)) ab H locs ls _ hF hh (lv_sub hl [0, 2, 3, 4] rfl) kE kR
          · have hF := am_neg hc7 hF
            refine lv_iconst (v := (1 : Int32)) hx hb dX8_isBlocked_49 (by decide) ?_
            refine lv_goto (tgt := 54) hx hb dX8_isBlocked_50 (by decide) ?_
            refine lv_istore (lv' := [(4, .int (1 : Int32)), (3, .int y1), (0, .ref (gAd G 124)), (1, .ref (gAd G 1)), (2, .int x2)]) hx hb dX8_isBlocked_54 hl (by decide) rfl (fun ls hl => ?_)
            refine lv_iload hx hb dX8_isBlocked_56 (lv_at hl 0 rfl) ?_
            refine lv_if_eq (tgt := 72) hx hb dX8_isBlocked_58 (by decide) (fun hz => absurd hz (by decide)) (fun _ => ?_)
            refine lv_aload_n hx hb dX8_isBlocked_61 rfl (lv_at hl 3 rfl) ?_
            refine am_getR X hh 1 9 4 6 (by decide) rfl rfl (by decide) hwRX7 (show Cond.fieldLink RX8 56 "PlanetWorkshop$State" "ratchets" "[Z" ∈ wsX8_isBlocked by decide +kernel) rfl dX8_isBlocked_62 ?_
            refine lv_iload_n hx hb dX8_isBlocked_65 rfl (lv_at hl 1 rfl) ?_
            obtain ⟨hq8, hF⟩ := am_ifR hF
            refine am_zald X hh 6 (by decide) rfl hq8 dX8_isBlocked_66 ?_
            refine lv_if_eq (tgt := 72) hx hb dX8_isBlocked_67 (by decide) (fun hc9 => ?_) (fun hc9 => ?_)
            · have hF := am_pos hc9 hF
              refine lv_iinc (v := (y1 + (1 : Int32))) (lv' := [(3, .int (y1 + (1 : Int32))), (4, .int (1 : Int32)), (0, .ref (gAd G 124)), (1, .ref (gAd G 1)), (2, .int x2)]) hx hb dX8_isBlocked_72 hl (k := 1) rfl rfl (by decide) rfl (fun ls hl => ?_)
              refine lv_goto (tgt := 2) hx hb dX8_isBlocked_75 (by decide) ?_
              exact ih (y1 + (1 : Int32)) ab H locs ls _ hF hh (lv_sub hl [0, 2, 3, 4] rfl) kE kR
            · have hF := am_neg hc9 hF
              refine lv_iconst (v := (1 : Int32)) hx hb dX8_isBlocked_70 (by decide) ?_
              have hF := kR _ (Option.some.inj hF).symm
              exact am_zret (v' := (1 : Int32)) X hr rfl hh (fun t ht => am_qp (mk := oI) hF ht) (Nat.le_of_ble_eq_true rfl) (Nat.le_of_ble_eq_true rfl) dX8_isBlocked_71
        · have hF := am_neg hc5 hF
          refine lv_aload_n hx hb dX8_isBlocked_19 rfl (lv_at hl 1 rfl) ?_
          refine am_getR X hh 124 10 0 125 (by decide) rfl rfl (by decide) hwRX8 (show Cond.fieldLink RX8 9 "PlanetWorkshop$Train" "units" "[J" ∈ wsX8_isBlocked by decide +kernel) rfl dX8_isBlocked_20 ?_
          refine lv_iload_n hx hb dX8_isBlocked_23 rfl (lv_at hl 0 rfl) ?_
          obtain ⟨hq10, hF⟩ := am_ifR hF
          refine am_lald X hh 125 (by decide) rfl hq10 dX8_isBlocked_24 ?_
          refine lv_lconst (v := (0 : Int64)) hx hb dX8_isBlocked_25 (by decide) ?_
          refine am_lcmp_le (tgt := 34) hx hb dX8_isBlocked_26 dX8_isBlocked_27 (by decide) (fun hc11 => ?_) (fun hc11 => ?_)
          · have hF := am_pos hc11 hF
            refine lv_iconst (v := (0 : Int32)) hx hb dX8_isBlocked_34 (by decide) ?_
            refine lv_goto (tgt := 54) hx hb dX8_isBlocked_35 (by decide) ?_
            refine lv_istore (lv' := [(4, .int (0 : Int32)), (3, .int y1), (0, .ref (gAd G 124)), (1, .ref (gAd G 1)), (2, .int x2)]) hx hb dX8_isBlocked_54 hl (by decide) rfl (fun ls hl => ?_)
            refine lv_iload hx hb dX8_isBlocked_56 (lv_at hl 0 rfl) ?_
            refine lv_if_eq (tgt := 72) hx hb dX8_isBlocked_58 (by decide) (fun _ => ?_) (fun hz => absurd (by decide) hz)
            refine lv_iinc (v := (y1 + (1 : Int32))) (lv' := [(3, .int (y1 + (1 : Int32))), (4, .int (0 : Int32)), (0, .ref (gAd G 124)), (1, .ref (gAd G 1)), (2, .int x2)]) hx hb dX8_isBlocked_72 hl (k := 1) rfl rfl (by decide) rfl (fun ls hl => ?_)
            refine lv_goto (tgt := 2) hx hb dX8_isBlocked_75 (by decide) ?_
            exact ih (y1 + (1 : Int32)) ab H locs ls _ hF hh (lv_sub hl [0, 2, 3, 4] rfl) kE kR
          · have hF := am_neg hc11 hF
            refine lv_iconst (v := (1 : Int32)) hx hb dX8_isBlocked_30 (by decide) ?_
            refine lv_goto (tgt := 54) hx hb dX8_isBlocked_31 (by decide) ?_
            refine lv_istore (lv' := [(4, .int (1 : Int32)), (3, .int y1), (0, .ref (gAd G 124)), (1, .ref (gAd G 1)), (2, .int x2)]) hx hb dX8_isBlocked_54 hl (by decide) rfl (fun ls hl => ?_)
            refine lv_iload hx hb dX8_isBlocked_56 (lv_at hl 0 rfl) ?_
            refine lv_if_eq (tgt := 72) hx hb dX8_isBlocked_58 (by decide) (fun hz => absurd hz (by decide)) (fun _ => ?_)
            refine lv_aload_n hx hb dX8_isBlocked_61 rfl (lv_at hl 3 rfl) ?_
            refine am_getR X hh 1 9 4 6 (by decide) rfl rfl (by decide) hwRX7 (show Cond.fieldLink RX8 56 "PlanetWorkshop$State" "ratchets" "[Z" ∈ wsX8_isBlocked by decide +kernel) rfl dX8_isBlocked_62 ?_
            refine lv_iload_n hx hb dX8_isBlocked_65 rfl (lv_at hl 1 rfl) ?_
            obtain ⟨hq12, hF⟩ := am_ifR hF
            refine am_zald X hh 6 (by decide) rfl hq12 dX8_isBlocked_66 ?_
            refine lv_if_eq (tgt := 72) hx hb dX8_isBlocked_67 (by decide) (fun hc13 => ?_) (fun hc13 => ?_)
            · have hF := am_pos hc13 hF
              refine lv_iinc (v := (y1 + (1 : Int32))) (lv' := [(3, .int (y1 + (1 : Int32))), (4, .int (1 : Int32)), (0, .ref (gAd G 124)), (1, .ref (gAd G 1)), (2, .int x2)]) hx hb dX8_isBlocked_72 hl (k := 1) rfl rfl (by decide) rfl (fun ls hl => ?_)
              refine lv_goto (tgt := 2) hx hb dX8_isBlocked_75 (by decide) ?_
              exact ih (y1 + (1 : Int32)) ab H locs ls _ hF hh (lv_sub hl [0, 2, 3, 4] rfl) kE kR
            · have hF := am_neg hc13 hF
              refine lv_iconst (v := (1 : Int32)) hx hb dX8_isBlocked_70 (by decide) ?_
              have hF := kR _ (Option.some.inj hF).symm
              exact am_zret (v' := (1 : Int32)) X hr rfl hh (fun t ht => am_qp (mk := oI) hF ht) (Nat.le_of_ble_eq_true rfl) (Nat.le_of_ble_eq_true rfl) dX8_isBlocked_71
  obtain ⟨z14, hz15, hF⟩ := am_bind hF
  refine hlp2 2000 (0 : Int32) ab H locs ls z14 hz15 hh (lv_sub hl [0, 1, 2, 3] rfl) (fun y1 ab H locs ls hz hh hl => ?_) (fun r hz => ?_)
  · subst hz
    have hF := am_zl hF
    refine lv_iconst (v := (0 : Int32)) hx hb dX8_isBlocked_78 (by decide) ?_
    exact am_zret (v' := (0 : Int32)) X hr rfl hh (fun t ht => am_qp (mk := oI) hF ht) (Nat.le_of_ble_eq_true rfl) (Nat.le_of_ble_eq_true rfl) dX8_isBlocked_79
  · subst hz
    have hF := am_zr hF
    exact hF
set_option maxHeartbeats 4000000 in
set_option maxRecDepth 100000 in
theorem c_X8_trace (l : Launch) (G : GG) {w : Wd} {x2 : Int32} {w1 : Wd} (hF : f_X8_trace w x2 = some w1) : Met l yX8_trace wsX8_trace ({ frames := 3, cells := 0, slots := 0, locals := 73 } : Room) (va_Pc [.ref (gAd G 124), .ref (gAd G 1), .int x2] (Rel G w)) (amQ G none w1) 0 0 (gA G) := by
  refine am_met (own := RX8) (cc := cX8_trace) (maxL := 7) (ret := none) (by decide +kernel) rfl rfl (Nat.le_of_ble_eq_true rfl) ?_
  intro p e s m args below meth c ab H locs ls X hr hh hl
  have hx := X.1.1; have hb := X.1.2.1; have hml := X.1.2.2.1; have hown := X.1.2.2.2.1; have hts := X.1.2.2.2.2
  have hl : lv_has ls 7 [(0, .ref (gAd G 124)), (1, .ref (gAd G 1)), (2, .int x2)] := hl
  have hwRX7 : ∀ z ∈ u_ws RX7 TX7 17, z ∈ wsX8_trace := by decide +kernel
  have hwRX8 : ∀ z ∈ u_ws RX8 TX8 3, z ∈ wsX8_trace := by decide +kernel
  unfold f_X8_trace at hF
  refine lv_iconst (v := (0 : Int32)) hx hb dX8_trace_0 (by decide) ?_
  refine lv_istore_n (lv' := [(3, .int (0 : Int32)), (0, .ref (gAd G 124)), (1, .ref (gAd G 1)), (2, .int x2)]) hx hb dX8_trace_1 rfl hl (by decide) rfl (fun ls hl => ?_)
  have hlp2 : ∀ (n : Nat) (y1 : Int32) (w2 : Wd) (ab : Nat) (H : Heap) (locs : List Loc) (ls : Array Slot) (z : (Int32 × Wd) ⊕ Unit), p_X8_trace_2 n y1 w2 = some z → AH G s.heap w2 ab H locs → lv_has ls 7 [(3, .int y1), (0, .ref (gAd G 124)), (1, .ref (gAd G 1)), (2, .int x2)] → (∀ (y1 : Int32) (w2 : Wd) (ab : Nat) (H : Heap) (locs : List Loc) (ls : Array Slot), z = .inl (y1, w2) → AH G s.heap w2 ab H locs → lv_has ls 7 [(3, .int y1), (0, .ref (gAd G 124)), (1, .ref (gAd G 1)), (2, .int x2)] → W p l e ({ frames := 3, cells := 0, slots := 0, locals := 73 } : Room) s m args below meth c H locs 0 0 (MQ below (amQ G none w1) args s 0 0 (gA G)) (F0 m 21 ls [])) → W p l e ({ frames := 3, cells := 0, slots := 0, locals := 73 } : Room) s m args below meth c H locs 0 0 (MQ below (amQ G none w1) args s 0 0 (gA G)) (F0 m 2 ls []) := by
    intro n
    induction n with
    | zero =>
      intro y1 w2 ab H locs ls z hF
      unfold p_X8_trace_2 at hF
      cases hF
    | succ n ih =>
      intro y1 w2 ab H locs ls z hF hh hl kE
      unfold p_X8_trace_2 at hF
      refine lv_iload_n hx hb dX8_trace_2 rfl (lv_at hl 0 rfl) ?_
      refine lv_bipush (v := (10 : Int32)) hx hb dX8_trace_3 (by decide) ?_
      refine lv_icmp_ge (tgt := 21) hx hb dX8_trace_5 (by decide) (fun hc4 => ?_) (fun hc4 => ?_)
      · have hF := am_pos hc4 hF
        exact kE y1 w2 ab H locs ls (Option.some.inj hF).symm hh (lv_sub hl [0, 1, 2, 3] rfl)
      · have hF := am_neg hc4 hF
        refine lv_aload_n hx hb dX8_trace_8 rfl (lv_at hl 1 rfl) ?_
        refine am_getR X hh 124 10 0 125 (by decide) rfl rfl (by decide) hwRX8 (show Cond.fieldLink RX8 9 "PlanetWorkshop$Train" "units" "[J" ∈ wsX8_trace by decide +kernel) rfl dX8_trace_9 ?_
        refine lv_iload_n hx hb dX8_trace_12 rfl (lv_at hl 0 rfl) ?_
        refine lv_lconst (v := (0 : Int64)) hx hb dX8_trace_13 (by decide) ?_
        obtain ⟨hq5, hF⟩ := am_ifR hF
        refine am_last X hh 125 (by decide) rfl hq5 dX8_trace_14 (fun H locs hh => ?_)
        obtain ⟨w6, hw6, hF⟩ := am_wl hF
        have hh := AH_eq hw6 hh
        refine lv_iinc (v := (y1 + (1 : Int32))) (lv' := [(3, .int (y1 + (1 : Int32))), (0, .ref (gAd G 124)), (1, .ref (gAd G 1)), (2, .int x2)]) hx hb dX8_trace_15 hl (k := 0) rfl rfl (by decide) rfl (fun ls hl => ?_)
        refine lv_goto (tgt := 2) hx hb dX8_trace_18 (by decide) ?_
        exact ih (y1 + (1 : Int32)) w6 ab H locs ls _ hF hh (lv_sub hl [0, 1, 2, 3] rfl) kE
  obtain ⟨z7, hz8, hF⟩ := am_bind hF
  refine hlp2 2000 (0 : Int32) w ab H locs ls z7 hz8 hh (lv_sub hl [0, 1, 2, 3] rfl) (fun y1 w2 ab H locs ls hz hh hl => ?_)
  · subst hz
    have hF := am_zl hF
    have hF := am_u2 hF
    refine lv_aload_n hx hb dX8_trace_21 rfl (lv_at hl 1 rfl) ?_
    refine lv_iconst (v := (0 : Int32)) hx hb dX8_trace_22 (by decide) ?_
    refine am_putI X hh 124 10 2 (by decide) rfl rfl (by decide) hwRX8 tyX8 tyX8_ok nmX8 (show Cond.fieldLink RX8 19 "PlanetWorkshop$Train" "size" "I" ∈ wsX8_trace by decide +kernel) rfl rfl rfl rfl dX8_trace_23 (fun H locs hh => ?_)
    obtain ⟨w9, hw9, hF⟩ := am_wl hF
    have hh := AH_eq hw9 hh
    refine lv_aload_n hx hb dX8_trace_26 rfl (lv_at hl 1 rfl) ?_
    refine lv_iload_n hx hb dX8_trace_27 rfl (lv_at hl 3 rfl) ?_
    refine lv_ldc2 (v := (24883200000 : Int64)) hx hb hown (hts _ (show Cond.constantLong RX8 23 (24883200000) ∈ wsX8_trace by decide +kernel)) dX8_trace_28 ?_
    obtain ⟨w12, hk10, hF⟩ := am_bind hF
    refine am_call X hh (va_runV (As := [.int x2, .long (24883200000 : Int64)]) (rest := []) X.1 (c_X8_reach l G hk10) (cwV 2 hts gX8_trace_X8_reach rfl rfl rfl (by decide +kernel) ⟨Nat.le_of_ble_eq_true rfl, Nat.le_of_ble_eq_true rfl⟩) (am_preV X hh 124 10 (by decide) rfl rfl) rfl rfl hl.1 rfl (lv_room (Nat.le_of_ble_eq_true rfl)) dX8_trace_31 ⟨Nat.le_of_ble_eq_true rfl, Nat.le_of_ble_eq_true rfl⟩) (fun ab H locs hh => ?_)
    refine lv_iconst (v := (0 : Int32)) hx hb dX8_trace_34 (by decide) ?_
    refine lv_istore_n (lv' := [(3, .int (0 : Int32)), (0, .ref (gAd G 124)), (1, .ref (gAd G 1)), (2, .int x2)]) hx hb dX8_trace_35 rfl hl (by decide) rfl (fun ls hl => ?_)
    have hlp36 : ∀ (n : Nat) (y13 : Int32) (w14 : Wd) (ab : Nat) (H : Heap) (locs : List Loc) (ls : Array Slot) (z : (Int32 × Wd) ⊕ Unit), p_X8_trace_36 n y13 w14 = some z → AH G s.heap w14 ab H locs → lv_has ls 7 [(3, .int y13), (0, .ref (gAd G 124)), (1, .ref (gAd G 1)), (2, .int x2)] → (∀ (y13 : Int32) (w14 : Wd) (ab : Nat) (H : Heap) (locs : List Loc) (ls : Array Slot), z = .inl (y13, w14) → AH G s.heap w14 ab H locs → lv_has ls 7 [(3, .int y13), (0, .ref (gAd G 124)), (1, .ref (gAd G 1)), (2, .int x2)] → W p l e ({ frames := 3, cells := 0, slots := 0, locals := 73 } : Room) s m args below meth c H locs 0 0 (MQ below (amQ G none w1) args s 0 0 (gA G)) (F0 m 132 ls [])) → W p l e ({ frames := 3, cells := 0, slots := 0, locals := 73 } : Room) s m args below meth c H locs 0 0 (MQ below (amQ G none w1) args s 0 0 (gA G)) (F0 m 36 ls []) := by
      intro n
      induction n with
      | zero =>
        intro y13 w14 ab H locs ls z hF
        unfold p_X8_trace_36 at hF
        cases hF
      | succ n ih =>
        intro y13 w14 ab H locs ls z hF hh hl kE
        unfold p_X8_trace_36 at hF
        refine lv_iload_n hx hb dX8_trace_36 rfl (lv_at hl 0 rfl) ?_
        refine lv_aload_n hx hb dX8_trace_37 rfl (lv_at hl 1 rfl) ?_
        refine am_getI X hh 124 10 2 (by decide) rfl rfl (by decide) hwRX8 (show Cond.fieldLink RX8 19 "PlanetWorkshop$Train" "size" "I" ∈ wsX8_trace by decide +kernel) rfl dX8_trace_38 ?_
        refine lv_icmp_ge (tgt := 132) hx hb dX8_trace_41 (by decide) (fun hc16 => ?_) (fun hc16 => ?_)
        · have hF := am_pos hc16 hF
          exact kE y13 w14 ab H locs ls (Option.some.inj hF).symm hh (lv_sub hl [0, 1, 2, 3] rfl)
        · have hF := am_neg hc16 hF
          refine lv_iload_n hx hb dX8_trace_44 rfl (lv_at hl 0 rfl) ?_
          refine lv_bipush (v := (10 : Int32)) hx hb dX8_trace_45 (by decide) ?_
          refine lv_icmp_ge (tgt := 132) hx hb dX8_trace_47 (by decide) (fun hc17 => ?_) (fun hc17 => ?_)
          · have hF := am_pos hc17 hF
            exact kE y13 w14 ab H locs ls (Option.some.inj hF).symm hh (lv_sub hl [0, 1, 2, 3] rfl)
          · have hF := am_neg hc17 hF
            refine lv_aload_n hx hb dX8_trace_50 rfl (lv_at hl 1 rfl) ?_
            refine am_getR X hh 124 10 1 126 (by decide) rfl rfl (by decide) hwRX8 (show Cond.fieldLink RX8 15 "PlanetWorkshop$Train" "members" "[I" ∈ wsX8_trace by decide +kernel) rfl dX8_trace_51 ?_
            refine lv_iload_n hx hb dX8_trace_54 rfl (lv_at hl 0 rfl) ?_
            obtain ⟨hq18, hF⟩ := am_ifR hF
            refine am_iald X hh 126 (by decide) rfl hq18 dX8_trace_55 ?_
            refine lv_istore (lv' := [(4, .int (gI w14 126 (y13).toNatClampNeg)), (3, .int y13), (0, .ref (gAd G 124)), (1, .ref (gAd G 1)), (2, .int x2)]) hx hb dX8_trace_56 hl (by decide) rfl (fun ls hl => ?_)
            refine lv_iconst (v := (0 : Int32)) hx hb dX8_trace_58 (by decide) ?_
            refine lv_istore (lv' := [(5, .int (0 : Int32)), (4, .int (gI w14 126 (y13).toNatClampNeg)), (3, .int y13), (0, .ref (gAd G 124)), (1, .ref (gAd G 1)), (2, .int x2)]) hx hb dX8_trace_59 hl (by decide) rfl (fun ls hl => ?_)
            have hlp61 : ∀ (c20 : Int32) (n : Nat) (y19 : Int32) (w21 : Wd) (ab : Nat) (H : Heap) (locs : List Loc) (ls : Array Slot) (z : (Int32 × Wd) ⊕ Unit), p_X8_trace_61 c20 n y19 w21 = some z → AH G s.heap w21 ab H locs → lv_has ls 7 [(5, .int y19), (4, .int c20), (3, .int y13), (0, .ref (gAd G 124)), (1, .ref (gAd G 1)), (2, .int x2)] → (∀ (y19 : Int32) (w21 : Wd) (ab : Nat) (H : Heap) (locs : List Loc) (ls : Array Slot), z = .inl (y19, w21) → AH G s.heap w21 ab H locs → lv_has ls 7 [(5, .int y19), (4, .int c20), (3, .int y13), (0, .ref (gAd G 124)), (1, .ref (gAd G 1)), (2, .int x2)] → W p l e ({ frames := 3, cells := 0, slots := 0, locals := 73 } : Room) s m args below meth c H locs 0 0 (MQ below (amQ G none w1) args s 0 0 (gA G)) (F0 m 126 ls [])) → W p l e ({ frames := 3, cells := 0, slots := 0, locals := 73 } : Room) s m args below meth c H locs 0 0 (MQ below (amQ G none w1) args s 0 0 (gA G)) (F0 m 61 ls []) := by
              intro c20 n
              induction n with
              | zero =>
                intro y19 w21 ab H locs ls z hF
                unfold p_X8_trace_61 at hF
                cases hF
              | succ n ih =>
                intro y19 w21 ab H locs ls z hF hh hl kE
                unfold p_X8_trace_61 at hF
                refine lv_iload hx hb dX8_trace_61 (lv_at hl 0 rfl) ?_
                refine lv_aload_n hx hb dX8_trace_63 rfl (lv_at hl 4 rfl) ?_
                refine am_getI X hh 1 9 10 (by decide) rfl rfl (by decide) hwRX7 (show Cond.fieldLink RX8 29 "PlanetWorkshop$State" "gears" "I" ∈ wsX8_trace by decide +kernel) rfl dX8_trace_64 ?_
                refine lv_icmp_ge (tgt := 126) hx hb dX8_trace_67 (by decide) (fun hc23 => ?_) (fun hc23 => ?_)
                · have hF := am_pos hc23 hF
                  exact kE y19 w21 ab H locs ls (Option.some.inj hF).symm hh (lv_sub hl [0, 1, 2, 3, 4, 5] rfl)
                · have hF := am_neg hc23 hF
                  refine lv_aload_n hx hb dX8_trace_70 rfl (lv_at hl 4 rfl) ?_
                  refine lv_iload hx hb dX8_trace_71 (lv_at hl 1 rfl) ?_
                  refine lv_iload hx hb dX8_trace_73 (lv_at hl 0 rfl) ?_
                  obtain ⟨r25, hk24, hF⟩ := am_bind hF
                  refine am_call X hh (va_runV (As := [.int c20, .int y19]) (rest := []) X.1 (c_X7_jointOf l G hk24) (cwV 2 hts gX8_trace_X7_jointOf rfl rfl rfl (by decide +kernel) ⟨Nat.le_of_ble_eq_true rfl, Nat.le_of_ble_eq_true rfl⟩) (am_preV X hh 1 9 (by decide) rfl rfl) rfl rfl hl.1 rfl (lv_room (Nat.le_of_ble_eq_true rfl)) dX8_trace_75 ⟨Nat.le_of_ble_eq_true rfl, Nat.le_of_ble_eq_true rfl⟩) (fun ab H locs hh => ?_)
                  refine lv_istore (lv' := [(6, .int r25), (5, .int y19), (4, .int c20), (3, .int y13), (0, .ref (gAd G 124)), (1, .ref (gAd G 1)), (2, .int x2)]) hx hb dX8_trace_78 hl (by decide) rfl (fun ls hl => ?_)
                  refine lv_iload hx hb dX8_trace_80 (lv_at hl 0 rfl) ?_
                  refine lv_if_eq (tgt := 120) hx hb dX8_trace_82 (by decide) (fun hc26 => ?_) (fun hc26 => ?_)
                  · have hF := am_pos hc26 hF
                    refine lv_iinc (v := (y19 + (1 : Int32))) (lv' := [(5, .int (y19 + (1 : Int32))), (6, .int r25), (4, .int c20), (3, .int y13), (0, .ref (gAd G 124)), (1, .ref (gAd G 1)), (2, .int x2)]) hx hb dX8_trace_120 hl (k := 1) rfl rfl (by decide) rfl (fun ls hl => ?_)
                    refine lv_goto (tgt := 61) hx hb dX8_trace_123 (by decide) ?_
                    exact ih (y19 + (1 : Int32)) w21 ab H locs ls _ hF hh (lv_sub hl [0, 2, 3, 4, 5, 6] rfl) kE
                  · have hF := am_neg hc26 hF
                    refine lv_aload_n hx hb dX8_trace_85 rfl (lv_at hl 4 rfl) ?_
                    refine am_getR X hh 124 10 0 125 (by decide) rfl rfl (by decide) hwRX8 (show Cond.fieldLink RX8 9 "PlanetWorkshop$Train" "units" "[J" ∈ wsX8_trace by decide +kernel) rfl dX8_trace_86 ?_
                    refine lv_iload hx hb dX8_trace_89 (lv_at hl 1 rfl) ?_
                    obtain ⟨hq27, hF⟩ := am_ifR hF
                    refine am_lald X hh 125 (by decide) rfl hq27 dX8_trace_91 ?_
                    refine lv_lconst (v := (0 : Int64)) hx hb dX8_trace_92 (by decide) ?_
                    refine am_lcmp_ne (tgt := 120) hx hb dX8_trace_93 dX8_trace_94 (by decide) (fun hc28 => ?_) (fun hc28 => ?_)
                    · have hF := am_neg hc28 hF
                      refine lv_iinc (v := (y19 + (1 : Int32))) (lv' := [(5, .int (y19 + (1 : Int32))), (6, .int r25), (4, .int c20), (3, .int y13), (0, .ref (gAd G 124)), (1, .ref (gAd G 1)), (2, .int x2)]) hx hb dX8_trace_120 hl (k := 1) rfl rfl (by decide) rfl (fun ls hl => ?_)
                      refine lv_goto (tgt := 61) hx hb dX8_trace_123 (by decide) ?_
                      exact ih (y19 + (1 : Int32)) w21 ab H locs ls _ hF hh (lv_sub hl [0, 2, 3, 4, 5, 6] rfl) kE
                    · have hF := am_pos hc28 hF
                      refine lv_aload_n hx hb dX8_trace_97 rfl (lv_at hl 4 rfl) ?_
                      refine lv_iload hx hb dX8_trace_98 (lv_at hl 1 rfl) ?_
                      refine lv_aload_n hx hb dX8_trace_100 rfl (lv_at hl 5 rfl) ?_
                      refine lv_aload_n hx hb dX8_trace_101 rfl (lv_at hl 4 rfl) ?_
                      refine am_getR X hh 124 10 0 125 (by decide) rfl rfl (by decide) hwRX8 (show Cond.fieldLink RX8 9 "PlanetWorkshop$Train" "units" "[J" ∈ wsX8_trace by decide +kernel) rfl dX8_trace_102 ?_
                      refine lv_iload hx hb dX8_trace_105 (lv_at hl 2 rfl) ?_
                      obtain ⟨hq29, hF⟩ := am_ifR hF
                      refine am_lald X hh 125 (by decide) rfl hq29 dX8_trace_107 ?_
                      refine lv_iload hx hb dX8_trace_108 (lv_at hl 2 rfl) ?_
                      refine lv_iload hx hb dX8_trace_110 (lv_at hl 1 rfl) ?_
                      refine lv_iload hx hb dX8_trace_112 (lv_at hl 0 rfl) ?_
                      obtain ⟨r31, hk30, hF⟩ := am_bind hF
                      refine am_call X hh (va_runV (As := [.long (gL w21 125 (c20).toNatClampNeg), .int c20, .int y19, .int r25]) (rest := [.int y19, .ref (gAd G 124)]) X.1 (c_X7_unitsBehind l G hk30) (cwV 4 hts gX8_trace_X7_unitsBehind rfl rfl rfl (by decide +kernel) ⟨Nat.le_of_ble_eq_true rfl, Nat.le_of_ble_eq_true rfl⟩) (am_preV X hh 1 9 (by decide) rfl rfl) rfl rfl hl.1 rfl (lv_room (Nat.le_of_ble_eq_true rfl)) dX8_trace_114 ⟨Nat.le_of_ble_eq_true rfl, Nat.le_of_ble_eq_true rfl⟩) (fun ab H locs hh => ?_)
                      obtain ⟨w34, hk32, hF⟩ := am_bind hF
                      refine am_call X hh (va_runV (As := [.int y19, .long r31]) (rest := []) X.1 (c_X8_reach l G hk32) (cwV 2 hts gX8_trace_X8_reach rfl rfl rfl (by decide +kernel) ⟨Nat.le_of_ble_eq_true rfl, Nat.le_of_ble_eq_true rfl⟩) (am_preV X hh 124 10 (by decide) rfl rfl) rfl rfl hl.1 rfl (lv_room (Nat.le_of_ble_eq_true rfl)) dX8_trace_117 ⟨Nat.le_of_ble_eq_true rfl, Nat.le_of_ble_eq_true rfl⟩) (fun ab H locs hh => ?_)
                      refine lv_iinc (v := (y19 + (1 : Int32))) (lv' := [(5, .int (y19 + (1 : Int32))), (6, .int r25), (4, .int c20), (3, .int y13), (0, .ref (gAd G 124)), (1, .ref (gAd G 1)), (2, .int x2)]) hx hb dX8_trace_120 hl (k := 1) rfl rfl (by decide) rfl (fun ls hl => ?_)
                      refine lv_goto (tgt := 61) hx hb dX8_trace_123 (by decide) ?_
                      exact ih (y19 + (1 : Int32)) w34 ab H locs ls _ hF hh (lv_sub hl [0, 2, 3, 4, 5, 6] rfl) kE
            obtain ⟨z35, hz36, hF⟩ := am_bind hF
            refine hlp61 (gI w14 126 (y13).toNatClampNeg) 2000 (0 : Int32) w14 ab H locs ls z35 hz36 hh (lv_sub hl [0, 1, 2, 3, 4, 5] rfl) (fun y19 w21 ab H locs ls hz hh hl => ?_)
            · subst hz
              have hF := am_zl hF
              have hF := am_u2 hF
              refine lv_iinc (v := (y13 + (1 : Int32))) (lv' := [(3, .int (y13 + (1 : Int32))), (5, .int y19), (4, .int (gI w14 126 (y13).toNatClampNeg)), (0, .ref (gAd G 124)), (1, .ref (gAd G 1)), (2, .int x2)]) hx hb dX8_trace_126 hl (k := 2) rfl rfl (by decide) rfl (fun ls hl => ?_)
              refine lv_goto (tgt := 36) hx hb dX8_trace_129 (by decide) ?_
              exact ih (y13 + (1 : Int32)) w21 ab H locs ls _ hF hh (lv_sub hl [0, 3, 4, 5] rfl) kE
    obtain ⟨z37, hz38, hF⟩ := am_bind hF
    refine hlp36 2000 (0 : Int32) w12 ab H locs ls z37 hz38 hh (lv_sub hl [0, 1, 2, 3] rfl) (fun y13 w14 ab H locs ls hz hh hl => ?_)
    · subst hz
      have hF := am_zl hF
      have hF := am_u2 hF
      exact am_vret X hr hh (fun t ht => am_qv hF ht) (Nat.le_of_ble_eq_true rfl) (Nat.le_of_ble_eq_true rfl) dX8_trace_132
