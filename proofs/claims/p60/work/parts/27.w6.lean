set_option maxHeartbeats 4000000 in
set_option maxRecDepth 100000 in
theorem c_X6_add (l : Launch) (G : GG) {w : Wd} {x1 : Int32} {w1 : Wd} (hF : f_X6_add w x1 = some w1) : Met l yX6_add wsX6_add ({ frames := 0, cells := 0, slots := 0, locals := 0 } : Room) (va_Pc [.ref (gAd G 134), .int x1] (Rel G w)) (amQ G none w1) 0 0 (gA G) := by
  refine am_met (own := RX6) (cc := cX6_add) (maxL := 2) (ret := none) (by decide +kernel) rfl rfl (Nat.le_of_ble_eq_true rfl) ?_
  intro p e s m args below meth c ab H locs ls X hr hh hl
  have hx := X.1.1; have hb := X.1.2.1; have hml := X.1.2.2.1; have hown := X.1.2.2.2.1; have hts := X.1.2.2.2.2
  have hl : lv_has ls 2 [(0, .ref (gAd G 134)), (1, .int x1)] := hl
  have hwRX6 : ∀ z ∈ u_ws RX6 TX6 8, z ∈ wsX6_add := by decide +kernel
  unfold f_X6_add at hF
  refine lv_aload_n hx hb dX6_add_0 rfl (lv_at hl 0 rfl) ?_
  refine am_getI X hh 134 8 1 (by decide) rfl rfl (by decide) hwRX6 (show Cond.fieldLink RX6 15 "PlanetWorkshop$Script" "length" "I" ∈ wsX6_add by decide +kernel) rfl dX6_add_1 ?_
  refine lv_bipush (v := (60 : Int32)) hx hb dX6_add_4 (by decide) ?_
  refine lv_icmp_ge (tgt := 29) hx hb dX6_add_6 (by decide) (fun hc1 => ?_) (fun hc1 => ?_)
  · have hF := am_pos hc1 hF
    exact am_vret X hr hh (fun t ht => am_qv hF ht) (Nat.le_of_ble_eq_true rfl) (Nat.le_of_ble_eq_true rfl) dX6_add_29
  · have hF := am_neg hc1 hF
    refine lv_aload_n hx hb dX6_add_9 rfl (lv_at hl 0 rfl) ?_
    refine am_getR X hh 134 8 0 135 (by decide) rfl rfl (by decide) hwRX6 (show Cond.fieldLink RX6 9 "PlanetWorkshop$Script" "text" "[C" ∈ wsX6_add by decide +kernel) rfl dX6_add_10 ?_
    refine lv_aload_n hx hb dX6_add_13 rfl (lv_at hl 0 rfl) ?_
    refine am_getI X hh 134 8 1 (by decide) rfl rfl (by decide) hwRX6 (show Cond.fieldLink RX6 15 "PlanetWorkshop$Script" "length" "I" ∈ wsX6_add by decide +kernel) rfl dX6_add_14 ?_
    refine lv_iload_n hx hb dX6_add_17 rfl (lv_at hl 1 rfl) ?_
    obtain ⟨hq2, hF⟩ := am_ifR hF
    refine am_cast X hh 135 (by decide) rfl hq2 dX6_add_18 (fun H locs hh => ?_)
    obtain ⟨w3, hw3, hF⟩ := am_wl hF
    have hh := AH_eq hw3 hh
    refine lv_aload_n hx hb dX6_add_19 rfl (lv_at hl 0 rfl) ?_
    refine lv_dup hx hb dX6_add_20 rfl ?_
    refine am_getI X hh 134 8 1 (by decide) rfl rfl (by decide) hwRX6 (show Cond.fieldLink RX6 15 "PlanetWorkshop$Script" "length" "I" ∈ wsX6_add by decide +kernel) rfl dX6_add_21 ?_
    refine lv_iconst (v := (1 : Int32)) hx hb dX6_add_24 (by decide) ?_
    refine lv_iadd hx hb dX6_add_25 ?_
    refine am_putI X hh 134 8 1 (by decide) rfl rfl (by decide) hwRX6 tyX6 tyX6_ok nmX6 (show Cond.fieldLink RX6 15 "PlanetWorkshop$Script" "length" "I" ∈ wsX6_add by decide +kernel) rfl rfl rfl rfl dX6_add_26 (fun H locs hh => ?_)
    obtain ⟨w4, hw4, hF⟩ := am_wl hF
    have hh := AH_eq hw4 hh
    exact am_vret X hr hh (fun t ht => am_qv hF ht) (Nat.le_of_ble_eq_true rfl) (Nat.le_of_ble_eq_true rfl) dX6_add_29
set_option maxHeartbeats 4000000 in
set_option maxRecDepth 100000 in
theorem c_X6_empty (l : Launch) (G : GG) {w : Wd} {wz : Wd} (hF : f_X6_empty w = some wz) : Met l yX6_empty wsX6_empty ({ frames := 0, cells := 0, slots := 0, locals := 0 } : Room) (va_Pc [.ref (gAd G 134)] (Rel G w)) (amQ G none wz) 0 0 (gA G) := by
  refine am_met (own := RX6) (cc := cX6_empty) (maxL := 1) (ret := none) (by decide +kernel) rfl rfl (Nat.le_of_ble_eq_true rfl) ?_
  intro p e s m args below meth c ab H locs ls X hr hh hl
  have hx := X.1.1; have hb := X.1.2.1; have hml := X.1.2.2.1; have hown := X.1.2.2.2.1; have hts := X.1.2.2.2.2
  have hl : lv_has ls 1 [(0, .ref (gAd G 134))] := hl
  have hwRX6 : ∀ z ∈ u_ws RX6 TX6 8, z ∈ wsX6_empty := by decide +kernel
  unfold f_X6_empty at hF
  refine lv_aload_n hx hb dX6_empty_0 rfl (lv_at hl 0 rfl) ?_
  refine lv_iconst (v := (0 : Int32)) hx hb dX6_empty_1 (by decide) ?_
  refine am_putI X hh 134 8 1 (by decide) rfl rfl (by decide) hwRX6 tyX6 tyX6_ok nmX6 (show Cond.fieldLink RX6 15 "PlanetWorkshop$Script" "length" "I" ∈ wsX6_empty by decide +kernel) rfl rfl rfl rfl dX6_empty_2 (fun H locs hh => ?_)
  obtain ⟨w1, hw1, hF⟩ := am_wl hF
  have hh := AH_eq hw1 hh
  exact am_vret X hr hh (fun t ht => am_qv hF ht) (Nat.le_of_ble_eq_true rfl) (Nat.le_of_ble_eq_true rfl) dX6_empty_5
set_option maxHeartbeats 4000000 in
set_option maxRecDepth 100000 in
theorem c_X6_commonSigns (l : Launch) (G : GG) {w : Wd} {x1 : Nat} {r0 : Int32} (hx1 : gAv G (300 + x1) = 1) (hF : f_X6_commonSigns w x1 = some r0) : Met l yX6_commonSigns wsX6_commonSigns ({ frames := 4, cells := 0, slots := 0, locals := 85 } : Room) (va_Pc [.ref (gAd G 134), .ref (gAv G (100 + x1))] (Rel G w)) (amQ G (oI r0) w) 0 0 (gA G) := by
  refine am_met (own := RX6) (cc := cX6_commonSigns) (maxL := 3) (ret := (some .int)) (by decide +kernel) rfl rfl (Nat.le_of_ble_eq_true rfl) ?_
  intro p e s m args below meth c ab H locs ls X hr hh hl
  have hx := X.1.1; have hb := X.1.2.1; have hml := X.1.2.2.1; have hown := X.1.2.2.2.1; have hts := X.1.2.2.2.2
  have hl : lv_has ls 3 [(0, .ref (gAd G 134)), (1, .ref (gAv G (100 + x1)))] := hl
  have hwRX6 : ∀ z ∈ u_ws RX6 TX6 8, z ∈ wsX6_commonSigns := by decide +kernel
  unfold f_X6_commonSigns at hF
  refine lv_iconst (v := (0 : Int32)) hx hb dX6_commonSigns_0 (by decide) ?_
  refine lv_istore_n (lv' := [(2, .int (0 : Int32)), (0, .ref (gAd G 134)), (1, .ref (gAv G (100 + x1)))]) hx hb dX6_commonSigns_1 rfl hl (by decide) rfl (fun ls hl => ?_)
  have hlp2 : ∀ (n : Nat) (y1 : Int32) (ab : Nat) (H : Heap) (locs : List Loc) (ls : Array Slot) (z : Int32 ⊕ Unit), p_X6_commonSigns_2 x1 w n y1 = some z → AH G s.heap w ab H locs → lv_has ls 3 [(2, .int y1), (0, .ref (gAd G 134)), (1, .ref (gAv G (100 + x1)))] → (∀ (y1 : Int32) (ab : Nat) (H : Heap) (locs : List Loc) (ls : Array Slot), z = .inl y1 → AH G s.heap w ab H locs → lv_has ls 3 [(2, .int y1), (0, .ref (gAd G 134)), (1, .ref (gAv G (100 + x1)))] → W p l e ({ frames := 4, cells := 0, slots := 0, locals := 85 } : Room) s m args below meth c H locs 0 0 (MQ below (amQ G (oI r0) w) args s 0 0 (gA G)) (F0 m 48 ls [])) → W p l e ({ frames := 4, cells := 0, slots := 0, locals := 85 } : Room) s m args below meth c H locs 0 0 (MQ below (amQ G (oI r0) w) args s 0 0 (gA G)) (F0 m 2 ls []) := by
    intro n
    induction n with
    | zero =>
      intro y1 ab H locs ls z hF
      unfold p_X6_commonSigns_2 at hF
      cases hF
    | succ n ih =>
      intro y1 ab H locs ls z hF hh hl kE
      unfold p_X6_commonSigns_2 at hF
      refine lv_iload_n hx hb dX6_commonSigns_2 rfl (lv_at hl 0 rfl) ?_
      refine lv_aload_n hx hb dX6_commonSigns_3 rfl (lv_at hl 2 rfl) ?_
      obtain ⟨r4, hk3, hF⟩ := am_bind hF
      refine am_callF X hh (va_runV (As := []) (rest := [.int y1]) X.1 (c_J0_length_8abf5 l G hx1 hk3) (cwV 0 hts gX6_commonSigns_J0_length_8abf5 rfl rfl rfl (by decide +kernel) ⟨Nat.le_of_ble_eq_true rfl, Nat.le_of_ble_eq_true rfl⟩) ⟨am_blindF, tx_recv X.2.2.1.2.1.2.2.2.2 (i := x1) hx1 hh.2.2, fun U hU hW => ⟨rfl, am_relF X hh hU hW⟩⟩ rfl rfl hl.1 rfl (lv_room (Nat.le_of_ble_eq_true rfl)) dX6_commonSigns_4 ⟨Nat.le_of_ble_eq_true rfl, Nat.le_of_ble_eq_true rfl⟩) (fun H locs hh => ?_)
      refine lv_icmp_ge (tgt := 48) hx hb dX6_commonSigns_7 (by decide) (fun hc5 => ?_) (fun hc5 => ?_)
      · have hF := am_pos hc5 hF
        exact kE y1 ab H locs ls (Option.some.inj hF).symm hh (lv_sub hl [0, 1, 2] rfl)
      · have hF := am_neg hc5 hF
        refine lv_aload_n hx hb dX6_commonSigns_10 rfl (lv_at hl 1 rfl) ?_
        refine am_getI X hh 134 8 2 (by decide) rfl rfl (by decide) hwRX6 (show Cond.fieldLink RX6 19 "PlanetWorkshop$Script" "position" "I" ∈ wsX6_commonSigns by decide +kernel) rfl dX6_commonSigns_11 ?_
        refine lv_iload_n hx hb dX6_commonSigns_14 rfl (lv_at hl 0 rfl) ?_
        refine lv_iadd hx hb dX6_commonSigns_15 ?_
        refine lv_aload_n hx hb dX6_commonSigns_16 rfl (lv_at hl 1 rfl) ?_
        refine am_getI X hh 134 8 1 (by decide) rfl rfl (by decide) hwRX6 (show Cond.fieldLink RX6 15 "PlanetWorkshop$Script" "length" "I" ∈ wsX6_commonSigns by decide +kernel) rfl dX6_commonSigns_17 ?_
        refine lv_icmp_ge (tgt := 48) hx hb dX6_commonSigns_20 (by decide) (fun hc6 => ?_) (fun hc6 => ?_)
        · have hF := am_pos hc6 hF
          exact kE y1 ab H locs ls (Option.some.inj hF).symm hh (lv_sub hl [0, 1, 2] rfl)
        · have hF := am_neg hc6 hF
          refine lv_aload_n hx hb dX6_commonSigns_23 rfl (lv_at hl 1 rfl) ?_
          refine am_getR X hh 134 8 0 135 (by decide) rfl rfl (by decide) hwRX6 (show Cond.fieldLink RX6 9 "PlanetWorkshop$Script" "text" "[C" ∈ wsX6_commonSigns by decide +kernel) rfl dX6_commonSigns_24 ?_
          refine lv_aload_n hx hb dX6_commonSigns_27 rfl (lv_at hl 1 rfl) ?_
          refine am_getI X hh 134 8 2 (by decide) rfl rfl (by decide) hwRX6 (show Cond.fieldLink RX6 19 "PlanetWorkshop$Script" "position" "I" ∈ wsX6_commonSigns by decide +kernel) rfl dX6_commonSigns_28 ?_
          refine lv_iload_n hx hb dX6_commonSigns_31 rfl (lv_at hl 0 rfl) ?_
          refine lv_iadd hx hb dX6_commonSigns_32 ?_
          obtain ⟨hq7, hF⟩ := am_ifR hF
          refine am_cald X hh 135 (by decide) rfl hq7 dX6_commonSigns_33 ?_
          refine lv_aload_n hx hb dX6_commonSigns_34 rfl (lv_at hl 2 rfl) ?_
          refine lv_iload_n hx hb dX6_commonSigns_35 rfl (lv_at hl 0 rfl) ?_
          obtain ⟨r9, hk8, hF⟩ := am_bind hF
          refine am_callF X hh (va_runV (As := [.int y1]) (rest := [.int (gI w 135 (((gI w 134 2) + y1)).toNatClampNeg)]) X.1 (c_J0_charAt_5068e l G hx1 hk8) (cwV 1 hts gX6_commonSigns_J0_charAt_5068e rfl rfl rfl (by decide +kernel) ⟨Nat.le_of_ble_eq_true rfl, Nat.le_of_ble_eq_true rfl⟩) ⟨am_blindF, tx_recv X.2.2.1.2.1.2.2.2.2 (i := x1) hx1 hh.2.2, fun U hU hW => ⟨rfl, am_relF X hh hU hW⟩⟩ rfl rfl hl.1 rfl (lv_room (Nat.le_of_ble_eq_true rfl)) dX6_commonSigns_36 ⟨Nat.le_of_ble_eq_true rfl, Nat.le_of_ble_eq_true rfl⟩) (fun H locs hh => ?_)
          refine lv_icmp_ne (tgt := 48) hx hb dX6_commonSigns_39 (by decide) (fun hc10 => ?_) (fun hc10 => ?_)
          · have hF := am_neg hc10 hF
            exact kE y1 ab H locs ls (Option.some.inj hF).symm hh (lv_sub hl [0, 1, 2] rfl)
          · have hF := am_pos hc10 hF
            refine lv_iinc (v := (y1 + (1 : Int32))) (lv' := [(2, .int (y1 + (1 : Int32))), (0, .ref (gAd G 134)), (1, .ref (gAv G (100 + x1)))]) hx hb dX6_commonSigns_42 hl (k := 0) rfl rfl (by decide) rfl (fun ls hl => ?_)
            refine lv_goto (tgt := 2) hx hb dX6_commonSigns_45 (by decide) ?_
            exact ih (y1 + (1 : Int32)) ab H locs ls _ hF hh (lv_sub hl [0, 1, 2] rfl) kE
  obtain ⟨z11, hz12, hF⟩ := am_bind hF
  refine hlp2 2000 (0 : Int32) ab H locs ls z11 hz12 hh (lv_sub hl [0, 1, 2] rfl) (fun y1 ab H locs ls hz hh hl => ?_)
  · subst hz
    have hF := am_zl hF
    refine lv_iload_n hx hb dX6_commonSigns_48 rfl (lv_at hl 0 rfl) ?_
    exact am_iret X hr hh (fun t ht => am_qp (mk := oI) hF ht) (Nat.le_of_ble_eq_true rfl) (Nat.le_of_ble_eq_true rfl) dX6_commonSigns_49
set_option maxHeartbeats 4000000 in
set_option maxRecDepth 100000 in
theorem c_X6_readSign (l : Launch) (G : GG) {w : Wd} {x1 : Int32} {r0 : Int32} {w1 : Wd} (hF : f_X6_readSign w x1 = some (r0, w1)) : Met l yX6_readSign wsX6_readSign ({ frames := 0, cells := 0, slots := 0, locals := 0 } : Room) (va_Pc [.ref (gAd G 134), .int x1] (Rel G w)) (amQ G (oI r0) w1) 0 0 (gA G) := by
  refine am_met (own := RX6) (cc := cX6_readSign) (maxL := 2) (ret := (some .boolean)) (by decide +kernel) rfl rfl (Nat.le_of_ble_eq_true rfl) ?_
  intro p e s m args below meth c ab H locs ls X hr hh hl
  have hx := X.1.1; have hb := X.1.2.1; have hml := X.1.2.2.1; have hown := X.1.2.2.2.1; have hts := X.1.2.2.2.2
  have hl : lv_has ls 2 [(0, .ref (gAd G 134)), (1, .int x1)] := hl
  have hwRX6 : ∀ z ∈ u_ws RX6 TX6 8, z ∈ wsX6_readSign := by decide +kernel
  unfold f_X6_readSign at hF
  refine lv_aload_n hx hb dX6_readSign_0 rfl (lv_at hl 0 rfl) ?_
  refine am_getI X hh 134 8 2 (by decide) rfl rfl (by decide) hwRX6 (show Cond.fieldLink RX6 19 "PlanetWorkshop$Script" "position" "I" ∈ wsX6_readSign by decide +kernel) rfl dX6_readSign_1 ?_
  refine lv_aload_n hx hb dX6_readSign_4 rfl (lv_at hl 0 rfl) ?_
  refine am_getI X hh 134 8 1 (by decide) rfl rfl (by decide) hwRX6 (show Cond.fieldLink RX6 15 "PlanetWorkshop$Script" "length" "I" ∈ wsX6_readSign by decide +kernel) rfl dX6_readSign_5 ?_
  refine lv_icmp_ge (tgt := 24) hx hb dX6_readSign_8 (by decide) (fun hc1 => ?_) (fun hc1 => ?_)
  · have hF := am_pos hc1 hF
    refine lv_iconst (v := (0 : Int32)) hx hb dX6_readSign_24 (by decide) ?_
    exact am_zret (v' := (0 : Int32)) X hr rfl hh (fun t ht => am_qw (mk := oI) hF ht) (Nat.le_of_ble_eq_true rfl) (Nat.le_of_ble_eq_true rfl) dX6_readSign_25
  · have hF := am_neg hc1 hF
    refine lv_aload_n hx hb dX6_readSign_11 rfl (lv_at hl 0 rfl) ?_
    refine am_getR X hh 134 8 0 135 (by decide) rfl rfl (by decide) hwRX6 (show Cond.fieldLink RX6 9 "PlanetWorkshop$Script" "text" "[C" ∈ wsX6_readSign by decide +kernel) rfl dX6_readSign_12 ?_
    refine lv_aload_n hx hb dX6_readSign_15 rfl (lv_at hl 0 rfl) ?_
    refine am_getI X hh 134 8 2 (by decide) rfl rfl (by decide) hwRX6 (show Cond.fieldLink RX6 19 "PlanetWorkshop$Script" "position" "I" ∈ wsX6_readSign by decide +kernel) rfl dX6_readSign_16 ?_
    obtain ⟨hq2, hF⟩ := am_ifR hF
    refine am_cald X hh 135 (by decide) rfl hq2 dX6_readSign_19 ?_
    refine lv_iload_n hx hb dX6_readSign_20 rfl (lv_at hl 1 rfl) ?_
    refine lv_icmp_eq (tgt := 26) hx hb dX6_readSign_21 (by decide) (fun hc3 => ?_) (fun hc3 => ?_)
    · have hF := am_pos hc3 hF
      refine lv_aload_n hx hb dX6_readSign_26 rfl (lv_at hl 0 rfl) ?_
      refine lv_dup hx hb dX6_readSign_27 rfl ?_
      refine am_getI X hh 134 8 2 (by decide) rfl rfl (by decide) hwRX6 (show Cond.fieldLink RX6 19 "PlanetWorkshop$Script" "position" "I" ∈ wsX6_readSign by decide +kernel) rfl dX6_readSign_28 ?_
      refine lv_iconst (v := (1 : Int32)) hx hb dX6_readSign_31 (by decide) ?_
      refine lv_iadd hx hb dX6_readSign_32 ?_
      refine am_putI X hh 134 8 2 (by decide) rfl rfl (by decide) hwRX6 tyX6 tyX6_ok nmX6 (show Cond.fieldLink RX6 19 "PlanetWorkshop$Script" "position" "I" ∈ wsX6_readSign by decide +kernel) rfl rfl rfl rfl dX6_readSign_33 (fun H locs hh => ?_)
      obtain ⟨w4, hw4, hF⟩ := am_wl hF
      have hh := AH_eq hw4 hh
      refine lv_iconst (v := (1 : Int32)) hx hb dX6_readSign_36 (by decide) ?_
      exact am_zret (v' := (1 : Int32)) X hr rfl hh (fun t ht => am_qw (mk := oI) hF ht) (Nat.le_of_ble_eq_true rfl) (Nat.le_of_ble_eq_true rfl) dX6_readSign_37
    · have hF := am_neg hc3 hF
      refine lv_iconst (v := (0 : Int32)) hx hb dX6_readSign_24 (by decide) ?_
      exact am_zret (v' := (0 : Int32)) X hr rfl hh (fun t ht => am_qw (mk := oI) hF ht) (Nat.le_of_ble_eq_true rfl) (Nat.le_of_ble_eq_true rfl) dX6_readSign_25
set_option maxHeartbeats 4000000 in
set_option maxRecDepth 100000 in
theorem c_X6_addDigit (l : Launch) (G : GG) {w : Wd} {r0 : Int32} {w1 : Wd} (hF : f_X6_addDigit w = some (r0, w1)) : Met l yX6_addDigit wsX6_addDigit ({ frames := 0, cells := 0, slots := 0, locals := 0 } : Room) (va_Pc [.ref (gAd G 134)] (Rel G w)) (amQ G (oI r0) w1) 0 0 (gA G) := by
  refine am_met (own := RX6) (cc := cX6_addDigit) (maxL := 1) (ret := (some .boolean)) (by decide +kernel) rfl rfl (Nat.le_of_ble_eq_true rfl) ?_
  intro p e s m args below meth c ab H locs ls X hr hh hl
  have hx := X.1.1; have hb := X.1.2.1; have hml := X.1.2.2.1; have hown := X.1.2.2.2.1; have hts := X.1.2.2.2.2
  have hl : lv_has ls 1 [(0, .ref (gAd G 134))] := hl
  have hwRX6 : ∀ z ∈ u_ws RX6 TX6 8, z ∈ wsX6_addDigit := by decide +kernel
  unfold f_X6_addDigit at hF
  refine lv_aload_n hx hb dX6_addDigit_0 rfl (lv_at hl 0 rfl) ?_
  refine am_getI X hh 134 8 2 (by decide) rfl rfl (by decide) hwRX6 (show Cond.fieldLink RX6 19 "PlanetWorkshop$Script" "position" "I" ∈ wsX6_addDigit by decide +kernel) rfl dX6_addDigit_1 ?_
  refine lv_aload_n hx hb dX6_addDigit_4 rfl (lv_at hl 0 rfl) ?_
  refine am_getI X hh 134 8 1 (by decide) rfl rfl (by decide) hwRX6 (show Cond.fieldLink RX6 15 "PlanetWorkshop$Script" "length" "I" ∈ wsX6_addDigit by decide +kernel) rfl dX6_addDigit_5 ?_
  refine lv_icmp_ge (tgt := 39) hx hb dX6_addDigit_8 (by decide) (fun hc1 => ?_) (fun hc1 => ?_)
  · have hF := am_pos hc1 hF
    refine lv_iconst (v := (0 : Int32)) hx hb dX6_addDigit_39 (by decide) ?_
    exact am_zret (v' := (0 : Int32)) X hr rfl hh (fun t ht => am_qw (mk := oI) hF ht) (Nat.le_of_ble_eq_true rfl) (Nat.le_of_ble_eq_true rfl) dX6_addDigit_40
  · have hF := am_neg hc1 hF
    refine lv_aload_n hx hb dX6_addDigit_11 rfl (lv_at hl 0 rfl) ?_
    refine am_getR X hh 134 8 0 135 (by decide) rfl rfl (by decide) hwRX6 (show Cond.fieldLink RX6 9 "PlanetWorkshop$Script" "text" "[C" ∈ wsX6_addDigit by decide +kernel) rfl dX6_addDigit_12 ?_
    refine lv_aload_n hx hb dX6_addDigit_15 rfl (lv_at hl 0 rfl) ?_
    refine am_getI X hh 134 8 2 (by decide) rfl rfl (by decide) hwRX6 (show Cond.fieldLink RX6 19 "PlanetWorkshop$Script" "position" "I" ∈ wsX6_addDigit by decide +kernel) rfl dX6_addDigit_16 ?_
    obtain ⟨hq2, hF⟩ := am_ifR hF
    refine am_cald X hh 135 (by decide) rfl hq2 dX6_addDigit_19 ?_
    refine lv_bipush (v := (48 : Int32)) hx hb dX6_addDigit_20 (by decide) ?_
    refine lv_icmp_lt (tgt := 39) hx hb dX6_addDigit_22 (by decide) (fun hc3 => ?_) (fun hc3 => ?_)
    · have hF := am_pos hc3 hF
      refine lv_iconst (v := (0 : Int32)) hx hb dX6_addDigit_39 (by decide) ?_
      exact am_zret (v' := (0 : Int32)) X hr rfl hh (fun t ht => am_qw (mk := oI) hF ht) (Nat.le_of_ble_eq_true rfl) (Nat.le_of_ble_eq_true rfl) dX6_addDigit_40
    · have hF := am_neg hc3 hF
      refine lv_aload_n hx hb dX6_addDigit_25 rfl (lv_at hl 0 rfl) ?_
      refine am_getR X hh 134 8 0 135 (by decide) rfl rfl (by decide) hwRX6 (show Cond.fieldLink RX6 9 "PlanetWorkshop$Script" "text" "[C" ∈ wsX6_addDigit by decide +kernel) rfl dX6_addDigit_26 ?_
      refine lv_aload_n hx hb dX6_addDigit_29 rfl (lv_at hl 0 rfl) ?_
      refine am_getI X hh 134 8 2 (by decide) rfl rfl (by decide) hwRX6 (show Cond.fieldLink RX6 19 "PlanetWorkshop$Script" "position" "I" ∈ wsX6_addDigit by decide +kernel) rfl dX6_addDigit_30 ?_
      obtain ⟨hq4, hF⟩ := am_ifR hF
      refine am_cald X hh 135 (by decide) rfl hq4 dX6_addDigit_33 ?_
      refine lv_bipush (v := (57 : Int32)) hx hb dX6_addDigit_34 (by decide) ?_
      refine lv_icmp_le (tgt := 41) hx hb dX6_addDigit_36 (by decide) (fun hc5 => ?_) (fun hc5 => ?_)
      · have hF := am_pos hc5 hF
        refine lv_aload_n hx hb dX6_addDigit_41 rfl (lv_at hl 0 rfl) ?_
        refine lv_aload_n hx hb dX6_addDigit_42 rfl (lv_at hl 0 rfl) ?_
        refine am_getI X hh 134 8 7 (by decide) rfl rfl (by decide) hwRX6 (show Cond.fieldLink RX6 38 "PlanetWorkshop$Script" "number" "I" ∈ wsX6_addDigit by decide +kernel) rfl dX6_addDigit_43 ?_
        refine lv_bipush (v := (10 : Int32)) hx hb dX6_addDigit_46 (by decide) ?_
        refine lv_imul hx hb dX6_addDigit_48 ?_
        refine lv_aload_n hx hb dX6_addDigit_49 rfl (lv_at hl 0 rfl) ?_
        refine am_getR X hh 134 8 0 135 (by decide) rfl rfl (by decide) hwRX6 (show Cond.fieldLink RX6 9 "PlanetWorkshop$Script" "text" "[C" ∈ wsX6_addDigit by decide +kernel) rfl dX6_addDigit_50 ?_
        refine lv_aload_n hx hb dX6_addDigit_53 rfl (lv_at hl 0 rfl) ?_
        refine am_getI X hh 134 8 2 (by decide) rfl rfl (by decide) hwRX6 (show Cond.fieldLink RX6 19 "PlanetWorkshop$Script" "position" "I" ∈ wsX6_addDigit by decide +kernel) rfl dX6_addDigit_54 ?_
        obtain ⟨hq6, hF⟩ := am_ifR hF
        refine am_cald X hh 135 (by decide) rfl hq6 dX6_addDigit_57 ?_
        refine lv_bipush (v := (48 : Int32)) hx hb dX6_addDigit_58 (by decide) ?_
        refine lv_isub hx hb dX6_addDigit_60 ?_
        refine lv_iadd hx hb dX6_addDigit_61 ?_
        refine am_putI X hh 134 8 7 (by decide) rfl rfl (by decide) hwRX6 tyX6 tyX6_ok nmX6 (show Cond.fieldLink RX6 38 "PlanetWorkshop$Script" "number" "I" ∈ wsX6_addDigit by decide +kernel) rfl rfl rfl rfl dX6_addDigit_62 (fun H locs hh => ?_)
        obtain ⟨w7, hw7, hF⟩ := am_wl hF
        have hh := AH_eq hw7 hh
        refine lv_aload_n hx hb dX6_addDigit_65 rfl (lv_at hl 0 rfl) ?_
        refine lv_dup hx hb dX6_addDigit_66 rfl ?_
        refine am_getI X hh 134 8 2 (by decide) rfl rfl (by decide) hwRX6 (show Cond.fieldLink RX6 19 "PlanetWorkshop$Script" "position" "I" ∈ wsX6_addDigit by decide +kernel) rfl dX6_addDigit_67 ?_
        refine lv_iconst (v := (1 : Int32)) hx hb dX6_addDigit_70 (by decide) ?_
        refine lv_iadd hx hb dX6_addDigit_71 ?_
        refine am_putI X hh 134 8 2 (by decide) rfl rfl (by decide) hwRX6 tyX6 tyX6_ok nmX6 (show Cond.fieldLink RX6 19 "PlanetWorkshop$Script" "position" "I" ∈ wsX6_addDigit by decide +kernel) rfl rfl rfl rfl dX6_addDigit_72 (fun H locs hh => ?_)
        obtain ⟨w8, hw8, hF⟩ := am_wl hF
        have hh := AH_eq hw8 hh
        refine lv_iconst (v := (1 : Int32)) hx hb dX6_addDigit_75 (by decide) ?_
        exact am_zret (v' := (1 : Int32)) X hr rfl hh (fun t ht => am_qw (mk := oI) hF ht) (Nat.le_of_ble_eq_true rfl) (Nat.le_of_ble_eq_true rfl) dX6_addDigit_76
      · have hF := am_neg hc5 hF
        refine lv_iconst (v := (0 : Int32)) hx hb dX6_addDigit_39 (by decide) ?_
        exact am_zret (v' := (0 : Int32)) X hr rfl hh (fun t ht => am_qw (mk := oI) hF ht) (Nat.le_of_ble_eq_true rfl) (Nat.le_of_ble_eq_true rfl) dX6_addDigit_40
set_option maxHeartbeats 4000000 in
set_option maxRecDepth 100000 in
theorem c_X6_readVerb (l : Launch) (G : GG) {w : Wd} {r0 : Option Nat} {w1 : Wd} (hF : f_X6_readVerb w = some (r0, w1)) : Met l yX6_readVerb wsX6_readVerb ({ frames := 5, cells := 0, slots := 0, locals := 107 } : Room) (va_Pc [.ref (gAd G 134)] (Rel G w)) (amQ G (oQ G r0) w1) 0 0 (gA G) := by
  refine am_met (own := RX6) (cc := cX6_readVerb) (maxL := 8) (ret := (some (.object "PlanetWorkshop$Verb"))) (by decide +kernel) rfl rfl (Nat.le_of_ble_eq_true rfl) ?_
  intro p e s m args below meth c ab H locs ls X hr hh hl
  have hx := X.1.1; have hb := X.1.2.1; have hml := X.1.2.2.1; have hown := X.1.2.2.2.1; have hts := X.1.2.2.2.2
  have hl : lv_has ls 8 [(0, .ref (gAd G 134))] := hl
  have hwRX6 : ∀ z ∈ u_ws RX6 TX6 8, z ∈ wsX6_readVerb := by decide +kernel
  unfold f_X6_readVerb at hF
  refine lv_null hx hb dX6_readVerb_0 ?_
  refine lv_astore_nN (lv' := [(1, .null), (0, .ref (gAd G 134))]) hx hb dX6_readVerb_1 rfl hl (by decide) rfl (fun ls hl => ?_)
  refine lv_iconst (v := (0 : Int32)) hx hb dX6_readVerb_2 (by decide) ?_
  refine lv_istore_n (lv' := [(2, .int (0 : Int32)), (1, .null), (0, .ref (gAd G 134))]) hx hb dX6_readVerb_3 rfl hl (by decide) rfl (fun ls hl => ?_)
  refine va_getsN hx hb X.2.2.1.1.2.2.1 hh.2.2 hown (X.2.2.1.2.2.2.2.2.2.1.use rfl) (fun _ h9 => h9) dX6_readVerb_4 ?_
  refine lv_astore_n (lv' := [(3, .ref (gAv G 21)), (2, .int (0 : Int32)), (1, .null), (0, .ref (gAd G 134))]) hx hb dX6_readVerb_7 rfl hl (by decide) rfl (fun ls hl => ?_)
  refine lv_aload_n hx hb dX6_readVerb_8 rfl (lv_at hl 0 rfl) ?_
  refine va_tlen (v := (13 : Int32)) hx hb X.2.2.1.1.2.2.2.1 hh.2.2 (by decide) dX6_readVerb_9 ?_
  refine lv_istore (lv' := [(4, .int (13 : Int32)), (3, .ref (gAv G 21)), (2, .int (0 : Int32)), (1, .null), (0, .ref (gAd G 134))]) hx hb dX6_readVerb_10 hl (by decide) rfl (fun ls hl => ?_)
  refine lv_iconst (v := (0 : Int32)) hx hb dX6_readVerb_12 (by decide) ?_
  refine lv_istore (lv' := [(5, .int (0 : Int32)), (4, .int (13 : Int32)), (3, .ref (gAv G 21)), (2, .int (0 : Int32)), (1, .null), (0, .ref (gAd G 134))]) hx hb dX6_readVerb_13 hl (by decide) rfl (fun ls hl => ?_)
  have hlp15 : ∀ (c4 : Int32) (n : Nat) (y1 : Option Nat) (y2 : Int32) (y3 : Int32) (ab : Nat) (H : Heap) (locs : List Loc) (ls : Array Slot) (z : (Option Nat × Int32 × Int32) ⊕ Unit), p_X6_readVerb_15 c4 w n y1 y2 y3 = some z → AH G s.heap w ab H locs → lv_has ls 8 [(1, va_rf ((y1).map (gVb G))), (2, .int y2), (5, .int y3), (4, .int c4), (3, .ref (gAv G 21)), (0, .ref (gAd G 134))] → (∀ (y1 : Option Nat) (y2 : Int32) (y3 : Int32) (ab : Nat) (H : Heap) (locs : List Loc) (ls : Array Slot), z = .inl (y1, y2, y3) → AH G s.heap w ab H locs → lv_has ls 8 [(1, va_rf ((y1).map (gVb G))), (2, .int y2), (5, .int y3), (4, .int c4), (3, .ref (gAv G 21)), (0, .ref (gAd G 134))] → W p l e ({ frames := 5, cells := 0, slots := 0, locals := 107 } : Room) s m args below meth c H locs 0 0 (MQ below (amQ G (oQ G r0) w1) args s 0 0 (gA G)) (F0 m 68 ls [])) → W p l e ({ frames := 5, cells := 0, slots := 0, locals := 107 } : Room) s m args below meth c H locs 0 0 (MQ below (amQ G (oQ G r0) w1) args s 0 0 (gA G)) (F0 m 15 ls []) := by
    intro c4 n
    induction n with
    | zero =>
      intro y1 y2 y3 ab H locs ls z hF
      unfold p_X6_readVerb_15 at hF
      cases hF
    | succ n ih =>
      intro y1 y2 y3 ab H locs ls z hF hh hl kE
      unfold p_X6_readVerb_15 at hF
      refine lv_iload hx hb dX6_readVerb_15 (lv_at hl 2 rfl) ?_
      refine lv_iload hx hb dX6_readVerb_17 (lv_at hl 3 rfl) ?_
      refine lv_icmp_ge (tgt := 68) hx hb dX6_readVerb_19 (by decide) (fun hc6 => ?_) (fun hc6 => ?_)
      · have hF := am_pos hc6 hF
        exact kE y1 y2 y3 ab H locs ls (Option.some.inj hF).symm hh (lv_sub hl [0, 1, 2, 3, 4, 5] rfl)
      · have hF := am_neg hc6 hF
        refine lv_aload_n hx hb dX6_readVerb_22 rfl (lv_at hl 4 rfl) ?_
        refine lv_iload hx hb dX6_readVerb_23 (lv_at hl 2 rfl) ?_
        obtain ⟨hq7, hF⟩ := am_ifR hF
        refine vb_tq hx hb X.2.2.1.1.2.2.2.1 hh.2.2 hq7 rfl dX6_readVerb_25 ?_
        refine lv_astore (lv' := [(6, .ref (gVb G ((y3).toNatClampNeg))), (1, va_rf ((y1).map (gVb G))), (2, .int y2), (5, .int y3), (4, .int c4), (3, .ref (gAv G 21)), (0, .ref (gAd G 134))]) hx hb dX6_readVerb_26 hl (by decide) rfl (fun ls hl => ?_)
        refine lv_aload_n hx hb dX6_readVerb_28 rfl (lv_at hl 6 rfl) ?_
        refine lv_aload hx hb dX6_readVerb_29 (lv_at hl 0 rfl) ?_
        refine va_getX (i := (y3).toNatClampNeg) hx hb X.2.2.1.2.1.2.1 (vp_lt hq7) hh.2.2 hown (hts _ (show Cond.fieldLink RX6 62 "PlanetWorkshop$Verb" "word" "Ljava/lang/String;"  ∈ wsX6_readVerb by decide +kernel)) (fun _ h9 => h9) dX6_readVerb_31 ?_
        obtain ⟨r9, hk8, hF⟩ := am_bind hF
        refine am_call X hh (va_runV (As := [.ref (gAv G (100 + ((y3).toNatClampNeg)))]) (rest := []) X.1 (c_X6_commonSigns l G (X.2.2.1.2.1.2.2.2.2.2 ((y3).toNatClampNeg) (vp_lt hq7)) hk8) (cwV 1 hts gX6_readVerb_X6_commonSigns rfl rfl rfl (by decide +kernel) ⟨Nat.le_of_ble_eq_true rfl, Nat.le_of_ble_eq_true rfl⟩) (am_preV X hh 134 8 (by decide) rfl rfl) rfl rfl hl.1 rfl (lv_room (Nat.le_of_ble_eq_true rfl)) dX6_readVerb_34 ⟨Nat.le_of_ble_eq_true rfl, Nat.le_of_ble_eq_true rfl⟩) (fun ab H locs hh => ?_)
        refine lv_istore (lv' := [(7, .int r9), (6, .ref (gVb G ((y3).toNatClampNeg))), (1, va_rf ((y1).map (gVb G))), (2, .int y2), (5, .int y3), (4, .int c4), (3, .ref (gAv G 21)), (0, .ref (gAd G 134))]) hx hb dX6_readVerb_37 hl (by decide) rfl (fun ls hl => ?_)
        refine lv_iload hx hb dX6_readVerb_39 (lv_at hl 0 rfl) ?_
        refine lv_aload hx hb dX6_readVerb_41 (lv_at hl 1 rfl) ?_
        refine va_getX (i := (y3).toNatClampNeg) hx hb X.2.2.1.2.1.2.1 (vp_lt hq7) hh.2.2 hown (hts _ (show Cond.fieldLink RX6 62 "PlanetWorkshop$Verb" "word" "Ljava/lang/String;"  ∈ wsX6_readVerb by decide +kernel)) (fun _ h9 => h9) dX6_readVerb_43 ?_
        obtain ⟨r11, hk10, hF⟩ := am_bind hF
        refine am_callF X hh (va_runV (As := []) (rest := [.int r9]) X.1 (c_J0_length_8abf5 l G (X.2.2.1.2.1.2.2.2.2.2 ((y3).toNatClampNeg) (vp_lt hq7)) hk10) (cwV 0 hts gX6_readVerb_J0_length_8abf5 rfl rfl rfl (by decide +kernel) ⟨Nat.le_of_ble_eq_true rfl, Nat.le_of_ble_eq_true rfl⟩) ⟨am_blindF, tx_recv X.2.2.1.2.1.2.2.2.2 (i := (y3).toNatClampNeg) (X.2.2.1.2.1.2.2.2.2.2 ((y3).toNatClampNeg) (vp_lt hq7)) hh.2.2, fun U hU hW => ⟨rfl, am_relF X hh hU hW⟩⟩ rfl rfl hl.1 rfl (lv_room (Nat.le_of_ble_eq_true rfl)) dX6_readVerb_46 ⟨Nat.le_of_ble_eq_true rfl, Nat.le_of_ble_eq_true rfl⟩) (fun H locs hh => ?_)
        refine lv_icmp_ne (tgt := 55) hx hb dX6_readVerb_49 (by decide) (fun hc12 => ?_) (fun hc12 => ?_)
        · have hF := am_neg hc12 hF
          refine lv_iload_n hx hb dX6_readVerb_55 rfl (lv_at hl 3 rfl) ?_
          refine lv_iload hx hb dX6_readVerb_56 (lv_at hl 0 rfl) ?_
          refine va_mmax hx hb (hml.trans hl.1.symm) hown (hts _ (show Cond.methodLink RX6 75 Lib.Math.max.name ∈ wsX6_readVerb by decide +kernel)) (hts _ (show Cond.static Lib.Math.max.name ∈ wsX6_readVerb by decide +kernel)) (hts _ (show Cond.initialized "java/lang/Math"  ∈ wsX6_readVerb by decide +kernel)) (hts _ (show Cond.code Lib.Math.max.name Lib.Math.max.code 2 (some .int) ∈ wsX6_readVerb by decide +kernel)) (Nat.le_of_ble_eq_true rfl) (Nat.le_of_ble_eq_true rfl) (Nat.le_of_ble_eq_true rfl) (Nat.le_of_ble_eq_true rfl) dX6_readVerb_58 ?_
          refine lv_istore_n (lv' := [(2, .int (if y2 < r9 then r9 else y2)), (7, .int r9), (6, .ref (gVb G ((y3).toNatClampNeg))), (1, va_rf ((y1).map (gVb G))), (5, .int y3), (4, .int c4), (3, .ref (gAv G 21)), (0, .ref (gAd G 134))]) hx hb dX6_readVerb_61 rfl hl (by decide) (by cases y1 <;> rfl) (fun ls hl => ?_)
          refine lv_iinc (v := (y3 + (1 : Int32))) (lv' := [(5, .int (y3 + (1 : Int32))), (2, .int (if y2 < r9 then r9 else y2)), (7, .int r9), (6, .ref (gVb G ((y3).toNatClampNeg))), (1, va_rf ((y1).map (gVb G))), (4, .int c4), (3, .ref (gAv G 21)), (0, .ref (gAd G 134))]) hx hb dX6_readVerb_62 hl (k := 4) rfl rfl (by decide) rfl (fun ls hl => ?_)
          refine lv_goto (tgt := 15) hx hb dX6_readVerb_65 (by decide) ?_
          exact ih y1 (if y2 < r9 then r9 else y2) (y3 + (1 : Int32)) ab H locs ls _ hF hh (lv_sub hl [4, 1, 0, 5, 6, 7] rfl) kE
        · have hF := am_pos hc12 hF
          refine lv_aload hx hb dX6_readVerb_52 (lv_at hl 1 rfl) ?_
          refine lv_astore_n (lv' := [(1, .ref (gVb G ((y3).toNatClampNeg))), (7, .int r9), (6, .ref (gVb G ((y3).toNatClampNeg))), (2, .int y2), (5, .int y3), (4, .int c4), (3, .ref (gAv G 21)), (0, .ref (gAd G 134))]) hx hb dX6_readVerb_54 rfl hl (by decide) rfl (fun ls hl => ?_)
          refine lv_iload_n hx hb dX6_readVerb_55 rfl (lv_at hl 3 rfl) ?_
          refine lv_iload hx hb dX6_readVerb_56 (lv_at hl 1 rfl) ?_
          refine va_mmax hx hb (hml.trans hl.1.symm) hown (hts _ (show Cond.methodLink RX6 75 Lib.Math.max.name ∈ wsX6_readVerb by decide +kernel)) (hts _ (show Cond.static Lib.Math.max.name ∈ wsX6_readVerb by decide +kernel)) (hts _ (show Cond.initialized "java/lang/Math"  ∈ wsX6_readVerb by decide +kernel)) (hts _ (show Cond.code Lib.Math.max.name Lib.Math.max.code 2 (some .int) ∈ wsX6_readVerb by decide +kernel)) (Nat.le_of_ble_eq_true rfl) (Nat.le_of_ble_eq_true rfl) (Nat.le_of_ble_eq_true rfl) (Nat.le_of_ble_eq_true rfl) dX6_readVerb_58 ?_
          refine lv_istore_n (lv' := [(2, .int (if y2 < r9 then r9 else y2)), (1, .ref (gVb G ((y3).toNatClampNeg))), (7, .int r9), (6, .ref (gVb G ((y3).toNatClampNeg))), (5, .int y3), (4, .int c4), (3, .ref (gAv G 21)), (0, .ref (gAd G 134))]) hx hb dX6_readVerb_61 rfl hl (by decide) rfl (fun ls hl => ?_)
          refine lv_iinc (v := (y3 + (1 : Int32))) (lv' := [(5, .int (y3 + (1 : Int32))), (2, .int (if y2 < r9 then r9 else y2)), (1, .ref (gVb G ((y3).toNatClampNeg))), (7, .int r9), (6, .ref (gVb G ((y3).toNatClampNeg))), (4, .int c4), (3, .ref (gAv G 21)), (0, .ref (gAd G 134))]) hx hb dX6_readVerb_62 hl (k := 4) rfl rfl (by decide) rfl (fun ls hl => ?_)
          refine lv_goto (tgt := 15) hx hb dX6_readVerb_65 (by decide) ?_
          exact ih (some ((y3).toNatClampNeg)) (if y2 < r9 then r9 else y2) (y3 + (1 : Int32)) ab H locs ls _ hF hh (lv_sub hl [2, 1, 0, 5, 6, 7] rfl) kE
  obtain ⟨z13, hz14, hF⟩ := am_bind hF
  refine hlp15 (13 : Int32) 2000 none (0 : Int32) (0 : Int32) ab H locs ls z13 hz14 hh (lv_sub hl [4, 3, 0, 1, 2, 5] rfl) (fun y1 y2 y3 ab H locs ls hz hh hl => ?_)
  · subst hz
    have hF := am_zl hF
    have hF := am_u3 hF
    refine lv_aload_n hx hb dX6_readVerb_68 rfl (lv_at hl 5 rfl) ?_
    refine lv_dup hx hb dX6_readVerb_69 rfl ?_
    refine am_getI X hh 134 8 2 (by decide) rfl rfl (by decide) hwRX6 (show Cond.fieldLink RX6 19 "PlanetWorkshop$Script" "position" "I" ∈ wsX6_readVerb by decide +kernel) rfl dX6_readVerb_70 ?_
    refine lv_iload_n hx hb dX6_readVerb_73 rfl (lv_at hl 1 rfl) ?_
    refine lv_iadd hx hb dX6_readVerb_74 ?_
    refine am_putI X hh 134 8 2 (by decide) rfl rfl (by decide) hwRX6 tyX6 tyX6_ok nmX6 (show Cond.fieldLink RX6 19 "PlanetWorkshop$Script" "position" "I" ∈ wsX6_readVerb by decide +kernel) rfl rfl rfl rfl dX6_readVerb_75 (fun H locs hh => ?_)
    obtain ⟨w15, hw15, hF⟩ := am_wl hF
    have hh := AH_eq hw15 hh
    refine lv_aload_nQ hx hb dX6_readVerb_78 rfl (lv_at hl 0 rfl) ?_
    exact am_aret X hr (Or.inl ⟨_, rfl⟩) (rf_cases _) hh (fun t ht => am_qwQ (v := y1) hF ht) (Nat.le_of_ble_eq_true rfl) (Nat.le_of_ble_eq_true rfl) dX6_readVerb_79
set_option maxHeartbeats 4000000 in
set_option maxRecDepth 100000 in
theorem c_X6_readDigits (l : Launch) (G : GG) {w : Wd} {x1 : Int32} {r0 : Int32} {wz : Wd} (hF : f_X6_readDigits w x1 = some (r0, wz)) : Met l yX6_readDigits wsX6_readDigits ({ frames := 1, cells := 0, slots := 0, locals := 20 } : Room) (va_Pc [.ref (gAd G 134), .int x1] (Rel G w)) (amQ G (oI r0) wz) 0 0 (gA G) := by
  refine am_met (own := RX6) (cc := cX6_readDigits) (maxL := 3) (ret := (some .boolean)) (by decide +kernel) rfl rfl (Nat.le_of_ble_eq_true rfl) ?_
  intro p e s m args below meth c ab H locs ls X hr hh hl
  have hx := X.1.1; have hb := X.1.2.1; have hml := X.1.2.2.1; have hown := X.1.2.2.2.1; have hts := X.1.2.2.2.2
  have hl : lv_has ls 3 [(0, .ref (gAd G 134)), (1, .int x1)] := hl
  have hwRX6 : ∀ z ∈ u_ws RX6 TX6 8, z ∈ wsX6_readDigits := by decide +kernel
  unfold f_X6_readDigits at hF
  refine lv_aload_n hx hb dX6_readDigits_0 rfl (lv_at hl 0 rfl) ?_
  refine lv_iconst (v := (0 : Int32)) hx hb dX6_readDigits_1 (by decide) ?_
  refine am_putI X hh 134 8 7 (by decide) rfl rfl (by decide) hwRX6 tyX6 tyX6_ok nmX6 (show Cond.fieldLink RX6 38 "PlanetWorkshop$Script" "number" "I" ∈ wsX6_readDigits by decide +kernel) rfl rfl rfl rfl dX6_readDigits_2 (fun H locs hh => ?_)
  obtain ⟨w1, hw1, hF⟩ := am_wl hF
  have hh := AH_eq hw1 hh
  refine lv_iconst (v := (0 : Int32)) hx hb dX6_readDigits_5 (by decide) ?_
  refine lv_istore_n (lv' := [(2, .int (0 : Int32)), (0, .ref (gAd G 134)), (1, .int x1)]) hx hb dX6_readDigits_6 rfl hl (by decide) rfl (fun ls hl => ?_)
  have hlp7 : ∀ (n : Nat) (y2 : Int32) (w3 : Wd) (ab : Nat) (H : Heap) (locs : List Loc) (ls : Array Slot) (z : (Int32 × Wd) ⊕ Unit), p_X6_readDigits_7 x1 n y2 w3 = some z → AH G s.heap w3 ab H locs → lv_has ls 3 [(2, .int y2), (0, .ref (gAd G 134)), (1, .int x1)] → (∀ (y2 : Int32) (w3 : Wd) (ab : Nat) (H : Heap) (locs : List Loc) (ls : Array Slot), z = .inl (y2, w3) → AH G s.heap w3 ab H locs → lv_has ls 3 [(2, .int y2), (0, .ref (gAd G 134)), (1, .int x1)] → W p l e ({ frames := 1, cells := 0, slots := 0, locals := 20 } : Room) s m args below meth c H locs 0 0 (MQ below (amQ G (oI r0) wz) args s 0 0 (gA G)) (F0 m 25 ls [])) → W p l e ({ frames := 1, cells := 0, slots := 0, locals := 20 } : Room) s m args below meth c H locs 0 0 (MQ below (amQ G (oI r0) wz) args s 0 0 (gA G)) (F0 m 7 ls []) := by
    intro n
    induction n with
    | zero =>
      intro y2 w3 ab H locs ls z hF
      unfold p_X6_readDigits_7 at hF
      cases hF
    | succ n ih =>
      intro y2 w3 ab H locs ls z hF hh hl kE
      unfold p_X6_readDigits_7 at hF
      refine lv_iload_n hx hb dX6_readDigits_7 rfl (lv_at hl 0 rfl) ?_
      refine lv_iload_n hx hb dX6_readDigits_8 rfl (lv_at hl 2 rfl) ?_
      refine lv_icmp_ge (tgt := 25) hx hb dX6_readDigits_9 (by decide) (fun hc5 => ?_) (fun hc5 => ?_)
      · have hF := am_pos hc5 hF
        exact kE y2 w3 ab H locs ls (Option.some.inj hF).symm hh (lv_sub hl [0, 1, 2] rfl)
      · have hF := am_neg hc5 hF
        refine lv_aload_n hx hb dX6_readDigits_12 rfl (lv_at hl 1 rfl) ?_
        obtain ⟨⟨r7, w8⟩, hk6, hF⟩ := am_bind hF
        have hF := am_u2 hF
        refine am_call X hh (va_runV (As := []) (rest := []) X.1 (c_X6_addDigit l G hk6) (cwV 0 hts gX6_readDigits_X6_addDigit rfl rfl rfl (by decide +kernel) ⟨Nat.le_of_ble_eq_true rfl, Nat.le_of_ble_eq_true rfl⟩) (am_preV X hh 134 8 (by decide) rfl rfl) rfl rfl hl.1 rfl (lv_room (Nat.le_of_ble_eq_true rfl)) dX6_readDigits_13 ⟨Nat.le_of_ble_eq_true rfl, Nat.le_of_ble_eq_true rfl⟩) (fun ab H locs hh => ?_)
        refine lv_if_eq (tgt := 25) hx hb dX6_readDigits_16 (by decide) (fun hc10 => ?_) (fun hc10 => ?_)
        · have hF := am_pos hc10 hF
          exact kE y2 w8 ab H locs ls (Option.some.inj hF).symm hh (lv_sub hl [0, 1, 2] rfl)
        · have hF := am_neg hc10 hF
          refine lv_iinc (v := (y2 + (1 : Int32))) (lv' := [(2, .int (y2 + (1 : Int32))), (0, .ref (gAd G 134)), (1, .int x1)]) hx hb dX6_readDigits_19 hl (k := 0) rfl rfl (by decide) rfl (fun ls hl => ?_)
          refine lv_goto (tgt := 7) hx hb dX6_readDigits_22 (by decide) ?_
          exact ih (y2 + (1 : Int32)) w8 ab H locs ls _ hF hh (lv_sub hl [0, 1, 2] rfl) kE
  obtain ⟨z11, hz12, hF⟩ := am_bind hF
  refine hlp7 2000 (0 : Int32) w1 ab H locs ls z11 hz12 hh (lv_sub hl [0, 1, 2] rfl) (fun y2 w3 ab H locs ls hz hh hl => ?_)
  · subst hz
    have hF := am_zl hF
    have hF := am_u2 hF
    refine lv_iload_n hx hb dX6_readDigits_25 rfl (lv_at hl 0 rfl) ?_
    refine lv_if_le (tgt := 33) hx hb dX6_readDigits_26 (by decide) (fun hc13 => ?_) (fun hc13 => ?_)
    · have hF := am_pos hc13 hF
      refine lv_iconst (v := (0 : Int32)) hx hb dX6_readDigits_33 (by decide) ?_
      exact am_zret (v' := (0 : Int32)) X hr rfl hh (fun t ht => am_qw (mk := oI) hF ht) (Nat.le_of_ble_eq_true rfl) (Nat.le_of_ble_eq_true rfl) dX6_readDigits_34
    · have hF := am_neg hc13 hF
      refine lv_iconst (v := (1 : Int32)) hx hb dX6_readDigits_29 (by decide) ?_
      refine lv_goto (tgt := 34) hx hb dX6_readDigits_30 (by decide) ?_
      exact am_zret (v' := (1 : Int32)) X hr rfl hh (fun t ht => am_qw (mk := oI) hF ht) (Nat.le_of_ble_eq_true rfl) (Nat.le_of_ble_eq_true rfl) dX6_readDigits_34
set_option maxHeartbeats 4000000 in
set_option maxRecDepth 100000 in
theorem c_X6_readCommand (l : Launch) (G : GG) {w : Wd} {x1 : Int32} {r0 : Int32} {w1 : Wd} (hF : f_X6_readCommand w x1 = some (r0, w1)) : Met l yX6_readCommand wsX6_readCommand ({ frames := 6, cells := 0, slots := 0, locals := 134 } : Room) (va_Pc [.ref (gAd G 134), .int x1] (Rel G w)) (amQ G (oI r0) w1) 0 0 (gA G) := by
  refine am_met (own := RX6) (cc := cX6_readCommand) (maxL := 4) (ret := (some .boolean)) (by decide +kernel) rfl rfl (Nat.le_of_ble_eq_true rfl) ?_
  intro p e s m args below meth c ab H locs ls X hr hh hl
  have hx := X.1.1; have hb := X.1.2.1; have hml := X.1.2.2.1; have hown := X.1.2.2.2.1; have hts := X.1.2.2.2.2
  have hl : lv_has ls 4 [(0, .ref (gAd G 134)), (1, .int x1)] := hl
  have hwRX6 : ∀ z ∈ u_ws RX6 TX6 8, z ∈ wsX6_readCommand := by decide +kernel
  unfold f_X6_readCommand at hF
  refine lv_aload_n hx hb dX6_readCommand_0 rfl (lv_at hl 0 rfl) ?_
  obtain ⟨⟨r2, w3⟩, hk1, hF⟩ := am_bind hF
  have hF := am_u2 hF
  refine am_call X hh (va_runV (As := []) (rest := []) X.1 (c_X6_readVerb l G hk1) (cwV 0 hts gX6_readCommand_X6_readVerb rfl rfl rfl (by decide +kernel) ⟨Nat.le_of_ble_eq_true rfl, Nat.le_of_ble_eq_true rfl⟩) (am_preV X hh 134 8 (by decide) rfl rfl) rfl rfl hl.1 rfl (lv_room (Nat.le_of_ble_eq_true rfl)) dX6_readCommand_1 ⟨Nat.le_of_ble_eq_true rfl, Nat.le_of_ble_eq_true rfl⟩) (fun ab H locs hh => ?_)
  refine lv_astore_nQ (lv' := [(2, va_rf ((r2).map (gVb G))), (0, .ref (gAd G 134)), (1, .int x1)]) hx hb dX6_readCommand_4 rfl hl (by decide) rfl (fun ls hl => ?_)
  refine lv_aload_nQ hx hb dX6_readCommand_5 rfl (lv_at hl 0 rfl) ?_
  rcases am_opt hF with ⟨ho6, hF⟩ | ⟨k5, ho6, hF⟩
  · rw [ho6] at hl ⊢
    refine lv_ifnonnullN hx hb dX6_readCommand_6 ?_
    refine lv_iconst (v := (0 : Int32)) hx hb dX6_readCommand_9 (by decide) ?_
    exact am_zret (v' := (0 : Int32)) X hr rfl hh (fun t ht => am_qw (mk := oI) hF ht) (Nat.le_of_ble_eq_true rfl) (Nat.le_of_ble_eq_true rfl) dX6_readCommand_10
  · rw [ho6] at hl ⊢
    refine lv_ifnonnull (tgt := 11) hx hb dX6_readCommand_6 (by decide) ?_
    obtain ⟨hb7, hF⟩ := am_if hF
    refine lv_aload_n hx hb dX6_readCommand_11 rfl (lv_at hl 1 rfl) ?_
    refine am_getR X hh 134 8 3 136 (by decide) rfl rfl (by decide) hwRX6 (show Cond.fieldLink RX6 24 "PlanetWorkshop$Script" "verbs" "[LPlanetWorkshop$Verb;" ∈ wsX6_readCommand by decide +kernel) rfl dX6_readCommand_12 ?_
    refine lv_iload_n hx hb dX6_readCommand_15 rfl (lv_at hl 2 rfl) ?_
    refine lv_aload_n hx hb dX6_readCommand_16 rfl (lv_at hl 0 rfl) ?_
    obtain ⟨hq8, hF⟩ := am_ifR hF
    refine am_astv X hh 136 (by decide) rfl hq8 hb7 dX6_readCommand_17 (fun H locs hh => ?_)
    obtain ⟨w9, hw9, hF⟩ := am_wl hF
    have hh := AH_eq hw9 hh
    refine lv_aload_n hx hb dX6_readCommand_18 rfl (lv_at hl 1 rfl) ?_
    refine am_getR X hh 134 8 5 138 (by decide) rfl rfl (by decide) hwRX6 (show Cond.fieldLink RX6 32 "PlanetWorkshop$Script" "seconds" "[I" ∈ wsX6_readCommand by decide +kernel) rfl dX6_readCommand_19 ?_
    refine lv_iload_n hx hb dX6_readCommand_22 rfl (lv_at hl 2 rfl) ?_
    refine lv_iconst (v := (0 : Int32)) hx hb dX6_readCommand_23 (by decide) ?_
    obtain ⟨hq10, hF⟩ := am_ifR hF
    refine am_iast X hh 138 (by decide) rfl hq10 dX6_readCommand_24 (fun H locs hh => ?_)
    obtain ⟨w11, hw11, hF⟩ := am_wl hF
    have hh := AH_eq hw11 hh
    refine lv_aload_n hx hb dX6_readCommand_25 rfl (lv_at hl 1 rfl) ?_
    refine lv_aload_n hx hb dX6_readCommand_26 rfl (lv_at hl 0 rfl) ?_
    refine va_getX (i := k5) hx hb X.2.2.1.2.1.2.2.1 hb7 hh.2.2 hown (hts _ (show Cond.fieldLink RX6 53 "PlanetWorkshop$Verb" "shape" "I"  ∈ wsX6_readCommand by decide +kernel)) (fun _ h9 => h9) dX6_readCommand_27 ?_
    refine lv_if_ne (tgt := 37) hx hb dX6_readCommand_30 (by decide) (fun hc12 => ?_) (fun hc12 => ?_)
    · have hF := am_neg hc12 hF
      refine lv_iconst (v := (1 : Int32)) hx hb dX6_readCommand_37 (by decide) ?_
      obtain ⟨⟨r14, w15⟩, hk13, hF⟩ := am_bind hF
      have hF := am_u2 hF
      refine am_call X hh (va_runV (As := [.int (1 : Int32)]) (rest := []) X.1 (c_X6_readDigits l G hk13) (cwV 1 hts gX6_readCommand_X6_readDigits rfl rfl rfl (by decide +kernel) ⟨Nat.le_of_ble_eq_true rfl, Nat.le_of_ble_eq_true rfl⟩) (am_preV X hh 134 8 (by decide) rfl rfl) rfl rfl hl.1 rfl (lv_room (Nat.le_of_ble_eq_true rfl)) dX6_readCommand_38 ⟨Nat.le_of_ble_eq_true rfl, Nat.le_of_ble_eq_true rfl⟩) (fun ab H locs hh => ?_)
      refine lv_istore_n (lv' := [(3, .int r14), (2, .ref (gVb G k5)), (0, .ref (gAd G 134)), (1, .int x1)]) hx hb dX6_readCommand_41 rfl hl (by decide) rfl (fun ls hl => ?_)
      refine lv_aload_n hx hb dX6_readCommand_42 rfl (lv_at hl 2 rfl) ?_
      refine am_getR X hh 134 8 4 137 (by decide) rfl rfl (by decide) hwRX6 (show Cond.fieldLink RX6 28 "PlanetWorkshop$Script" "firsts" "[I" ∈ wsX6_readCommand by decide +kernel) rfl dX6_readCommand_43 ?_
      refine lv_iload_n hx hb dX6_readCommand_46 rfl (lv_at hl 3 rfl) ?_
      refine lv_aload_n hx hb dX6_readCommand_47 rfl (lv_at hl 2 rfl) ?_
      refine am_getI X hh 134 8 7 (by decide) rfl rfl (by decide) hwRX6 (show Cond.fieldLink RX6 38 "PlanetWorkshop$Script" "number" "I" ∈ wsX6_readCommand by decide +kernel) rfl dX6_readCommand_48 ?_
      obtain ⟨hq17, hF⟩ := am_ifR hF
      refine am_iast X hh 137 (by decide) rfl hq17 dX6_readCommand_51 (fun H locs hh => ?_)
      obtain ⟨w18, hw18, hF⟩ := am_wl hF
      have hh := AH_eq hw18 hh
      refine lv_iload_n hx hb dX6_readCommand_52 rfl (lv_at hl 0 rfl) ?_
      refine lv_if_eq (tgt := 71) hx hb dX6_readCommand_53 (by decide) (fun hc19 => ?_) (fun hc19 => ?_)
      · have hF := am_pos hc19 hF
        refine lv_iload_n hx hb dX6_readCommand_71 rfl (lv_at hl 0 rfl) ?_
        exact am_zret (v' := (vp_nar .boolean r14)) X hr (nar_z _) hh (fun t ht => am_qw (mk := oI) hF ht) (Nat.le_of_ble_eq_true rfl) (Nat.le_of_ble_eq_true rfl) dX6_readCommand_72
      · have hF := am_neg hc19 hF
        refine lv_aload_n hx hb dX6_readCommand_56 rfl (lv_at hl 1 rfl) ?_
        refine va_getX (i := k5) hx hb X.2.2.1.2.1.2.2.1 hb7 hh.2.2 hown (hts _ (show Cond.fieldLink RX6 53 "PlanetWorkshop$Verb" "shape" "I"  ∈ wsX6_readCommand by decide +kernel)) (fun _ h9 => h9) dX6_readCommand_57 ?_
        refine lv_if_eq (tgt := 71) hx hb dX6_readCommand_60 (by decide) (fun hc20 => ?_) (fun hc20 => ?_)
        · have hF := am_pos hc20 hF
          refine lv_iload_n hx hb dX6_readCommand_71 rfl (lv_at hl 0 rfl) ?_
          exact am_zret (v' := (vp_nar .boolean r14)) X hr (nar_z _) hh (fun t ht => am_qw (mk := oI) hF ht) (Nat.le_of_ble_eq_true rfl) (Nat.le_of_ble_eq_true rfl) dX6_readCommand_72
        · have hF := am_neg hc20 hF
          refine lv_aload_n hx hb dX6_readCommand_63 rfl (lv_at hl 1 rfl) ?_
          refine va_getX (i := k5) hx hb X.2.2.1.2.1.2.2.1 hb7 hh.2.2 hown (hts _ (show Cond.fieldLink RX6 53 "PlanetWorkshop$Verb" "shape" "I"  ∈ wsX6_readCommand by decide +kernel)) (fun _ h9 => h9) dX6_readCommand_64 ?_
          refine lv_iconst (v := (1 : Int32)) hx hb dX6_readCommand_67 (by decide) ?_
          refine lv_icmp_ne (tgt := 73) hx hb dX6_readCommand_68 (by decide) (fun hc21 => ?_) (fun hc21 => ?_)
          · have hF := am_neg hc21 hF
            refine lv_aload_n hx hb dX6_readCommand_73 rfl (lv_at hl 1 rfl) ?_
            refine va_getX (i := k5) hx hb X.2.2.1.2.1.2.2.1 hb7 hh.2.2 hown (hts _ (show Cond.fieldLink RX6 53 "PlanetWorkshop$Verb" "shape" "I"  ∈ wsX6_readCommand by decide +kernel)) (fun _ h9 => h9) dX6_readCommand_74 ?_
            refine lv_iconst (v := (2 : Int32)) hx hb dX6_readCommand_77 (by decide) ?_
            refine lv_icmp_ne (tgt := 89) hx hb dX6_readCommand_78 (by decide) (fun hc22 => ?_) (fun hc22 => ?_)
            · have hF := am_neg hc22 hF
              refine lv_aload_n hx hb dX6_readCommand_89 rfl (lv_at hl 2 rfl) ?_
              refine lv_bipush (v := (32 : Int32)) hx hb dX6_readCommand_90 (by decide) ?_
              obtain ⟨⟨r24, w25⟩, hk23, hF⟩ := am_bind hF
              have hF := am_u2 hF
              refine am_call X hh (va_runV (As := [.int (32 : Int32)]) (rest := []) X.1 (c_X6_readSign l G hk23) (cwV 1 hts gX6_readCommand_X6_readSign rfl rfl rfl (by decide +kernel) ⟨Nat.le_of_ble_eq_true rfl, Nat.le_of_ble_eq_true rfl⟩) (am_preV X hh 134 8 (by decide) rfl rfl) rfl rfl hl.1 rfl (lv_room (Nat.le_of_ble_eq_true rfl)) dX6_readCommand_92 ⟨Nat.le_of_ble_eq_true rfl, Nat.le_of_ble_eq_true rfl⟩) (fun ab H locs hh => ?_)
              refine lv_if_eq (tgt := 110) hx hb dX6_readCommand_95 (by decide) (fun hc27 => ?_) (fun hc27 => ?_)
              · have hF := am_pos hc27 hF
                refine lv_iconst (v := (0 : Int32)) hx hb dX6_readCommand_110 (by decide) ?_
                refine lv_istore_n (lv' := [(3, .int (0 : Int32)), (2, .ref (gVb G k5)), (0, .ref (gAd G 134)), (1, .int x1)]) hx hb dX6_readCommand_111 rfl hl (by decide) rfl (fun ls hl => ?_)
                refine lv_aload_n hx hb dX6_readCommand_112 rfl (lv_at hl 2 rfl) ?_
                refine am_getR X hh 134 8 5 138 (by decide) rfl rfl (by decide) hwRX6 (show Cond.fieldLink RX6 32 "PlanetWorkshop$Script" "seconds" "[I" ∈ wsX6_readCommand by decide +kernel) rfl dX6_readCommand_113 ?_
                refine lv_iload_n hx hb dX6_readCommand_116 rfl (lv_at hl 3 rfl) ?_
                refine lv_aload_n hx hb dX6_readCommand_117 rfl (lv_at hl 2 rfl) ?_
                refine am_getI X hh 134 8 7 (by decide) rfl rfl (by decide) hwRX6 (show Cond.fieldLink RX6 38 "PlanetWorkshop$Script" "number" "I" ∈ wsX6_readCommand by decide +kernel) rfl dX6_readCommand_118 ?_
                obtain ⟨hq28, hF⟩ := am_ifR hF
                refine am_iast X hh 138 (by decide) rfl hq28 dX6_readCommand_121 (fun H locs hh => ?_)
                obtain ⟨w29, hw29, hF⟩ := am_wl hF
                have hh := AH_eq hw29 hh
                refine lv_iload_n hx hb dX6_readCommand_122 rfl (lv_at hl 0 rfl) ?_
                exact am_zret (v' := (0 : Int32)) X hr rfl hh (fun t ht => am_qw (mk := oI) hF ht) (Nat.le_of_ble_eq_true rfl) (Nat.le_of_ble_eq_true rfl) dX6_readCommand_123
              · have hF := am_neg hc27 hF
                refine lv_aload_n hx hb dX6_readCommand_98 rfl (lv_at hl 2 rfl) ?_
                refine lv_iconst (v := (3 : Int32)) hx hb dX6_readCommand_99 (by decide) ?_
                obtain ⟨⟨r31, w32⟩, hk30, hF⟩ := am_bind hF
                have hF := am_u2 hF
                refine am_call X hh (va_runV (As := [.int (3 : Int32)]) (rest := []) X.1 (c_X6_readDigits l G hk30) (cwV 1 hts gX6_readCommand_X6_readDigits rfl rfl rfl (by decide +kernel) ⟨Nat.le_of_ble_eq_true rfl, Nat.le_of_ble_eq_true rfl⟩) (am_preV X hh 134 8 (by decide) rfl rfl) rfl rfl hl.1 rfl (lv_room (Nat.le_of_ble_eq_true rfl)) dX6_readCommand_100 ⟨Nat.le_of_ble_eq_true rfl, Nat.le_of_ble_eq_true rfl⟩) (fun ab H locs hh => ?_)
                refine lv_if_eq (tgt := 110) hx hb dX6_readCommand_103 (by decide) (fun hc34 => ?_) (fun hc34 => ?_)
                · have hF := am_pos hc34 hF
                  refine lv_iconst (v := (0 : Int32)) hx hb dX6_readCommand_110 (by decide) ?_
                  refine lv_istore_n (lv' := [(3, .int (0 : Int32)), (2, .ref (gVb G k5)), (0, .ref (gAd G 134)), (1, .int x1)]) hx hb dX6_readCommand_111 rfl hl (by decide) rfl (fun ls hl => ?_)
                  refine lv_aload_n hx hb dX6_readCommand_112 rfl (lv_at hl 2 rfl) ?_
                  refine am_getR X hh 134 8 5 138 (by decide) rfl rfl (by decide) hwRX6 (show Cond.fieldLink RX6 32 "PlanetWorkshop$Script" "seconds" "[I" ∈ wsX6_readCommand by decide +kernel) rfl dX6_readCommand_113 ?_
                  refine lv_iload_n hx hb dX6_readCommand_116 rfl (lv_at hl 3 rfl) ?_
                  refine lv_aload_n hx hb dX6_readCommand_117 rfl (lv_at hl 2 rfl) ?_
                  refine am_getI X hh 134 8 7 (by decide) rfl rfl (by decide) hwRX6 (show Cond.fieldLink RX6 38 "PlanetWorkshop$Script" "number" "I" ∈ wsX6_readCommand by decide +kernel) rfl dX6_readCommand_118 ?_
                  obtain ⟨hq35, hF⟩ := am_ifR hF
                  refine am_iast X hh 138 (by decide) rfl hq35 dX6_readCommand_121 (fun H locs hh => ?_)
                  obtain ⟨w36, hw36, hF⟩ := am_wl hF
                  have hh := AH_eq hw36 hh
                  refine lv_iload_n hx hb dX6_readCommand_122 rfl (lv_at hl 0 rfl) ?_
                  exact am_zret (v' := (0 : Int32)) X hr rfl hh (fun t ht => am_qw (mk := oI) hF ht) (Nat.le_of_ble_eq_true rfl) (Nat.le_of_ble_eq_true rfl) dX6_readCommand_123
                · have hF := am_neg hc34 hF
                  refine lv_iconst (v := (1 : Int32)) hx hb dX6_readCommand_106 (by decide) ?_
                  refine lv_goto (tgt := 111) hx hb dX6_readCommand_107 (by decide) ?_
                  refine lv_istore_n (lv' := [(3, .int (1 : Int32)), (2, .ref (gVb G k5)), (0, .ref (gAd G 134)), (1, .int x1)]) hx hb dX6_readCommand_111 rfl hl (by decide) rfl (fun ls hl => ?_)
                  refine lv_aload_n hx hb dX6_readCommand_112 rfl (lv_at hl 2 rfl) ?_
                  refine am_getR X hh 134 8 5 138 (by decide) rfl rfl (by decide) hwRX6 (show Cond.fieldLink RX6 32 "PlanetWorkshop$Script" "seconds" "[I" ∈ wsX6_readCommand by decide +kernel) rfl dX6_readCommand_113 ?_
                  refine lv_iload_n hx hb dX6_readCommand_116 rfl (lv_at hl 3 rfl) ?_
                  refine lv_aload_n hx hb dX6_readCommand_117 rfl (lv_at hl 2 rfl) ?_
                  refine am_getI X hh 134 8 7 (by decide) rfl rfl (by decide) hwRX6 (show Cond.fieldLink RX6 38 "PlanetWorkshop$Script" "number" "I" ∈ wsX6_readCommand by decide +kernel) rfl dX6_readCommand_118 ?_
                  obtain ⟨hq37, hF⟩ := am_ifR hF
                  refine am_iast X hh 138 (by decide) rfl hq37 dX6_readCommand_121 (fun H locs hh => ?_)
                  obtain ⟨w38, hw38, hF⟩ := am_wl hF
                  have hh := AH_eq hw38 hh
                  refine lv_iload_n hx hb dX6_readCommand_122 rfl (lv_at hl 0 rfl) ?_
                  exact am_zret (v' := (1 : Int32)) X hr rfl hh (fun t ht => am_qw (mk := oI) hF ht) (Nat.le_of_ble_eq_true rfl) (Nat.le_of_ble_eq_true rfl) dX6_readCommand_123
            · have hF := am_pos hc22 hF
              refine lv_aload_n hx hb dX6_readCommand_81 rfl (lv_at hl 2 rfl) ?_
              refine lv_iconst (v := (1 : Int32)) hx hb dX6_readCommand_82 (by decide) ?_
              obtain ⟨⟨r40, w41⟩, hk39, hF⟩ := am_bind hF
              have hF := am_u2 hF
              refine am_call X hh (va_runV (As := [.int (1 : Int32)]) (rest := []) X.1 (c_X6_readDigits l G hk39) (cwV 1 hts gX6_readCommand_X6_readDigits rfl rfl rfl (by decide +kernel) ⟨Nat.le_of_ble_eq_true rfl, Nat.le_of_ble_eq_true rfl⟩) (am_preV X hh 134 8 (by decide) rfl rfl) rfl rfl hl.1 rfl (lv_room (Nat.le_of_ble_eq_true rfl)) dX6_readCommand_83 ⟨Nat.le_of_ble_eq_true rfl, Nat.le_of_ble_eq_true rfl⟩) (fun ab H locs hh => ?_)
              refine lv_goto (tgt := 111) hx hb dX6_readCommand_86 (by decide) ?_
              refine lv_istore_n (lv' := [(3, .int r40), (2, .ref (gVb G k5)), (0, .ref (gAd G 134)), (1, .int x1)]) hx hb dX6_readCommand_111 rfl hl (by decide) rfl (fun ls hl => ?_)
              refine lv_aload_n hx hb dX6_readCommand_112 rfl (lv_at hl 2 rfl) ?_
              refine am_getR X hh 134 8 5 138 (by decide) rfl rfl (by decide) hwRX6 (show Cond.fieldLink RX6 32 "PlanetWorkshop$Script" "seconds" "[I" ∈ wsX6_readCommand by decide +kernel) rfl dX6_readCommand_113 ?_
              refine lv_iload_n hx hb dX6_readCommand_116 rfl (lv_at hl 3 rfl) ?_
              refine lv_aload_n hx hb dX6_readCommand_117 rfl (lv_at hl 2 rfl) ?_
              refine am_getI X hh 134 8 7 (by decide) rfl rfl (by decide) hwRX6 (show Cond.fieldLink RX6 38 "PlanetWorkshop$Script" "number" "I" ∈ wsX6_readCommand by decide +kernel) rfl dX6_readCommand_118 ?_
              obtain ⟨hq43, hF⟩ := am_ifR hF
              refine am_iast X hh 138 (by decide) rfl hq43 dX6_readCommand_121 (fun H locs hh => ?_)
              obtain ⟨w44, hw44, hF⟩ := am_wl hF
              have hh := AH_eq hw44 hh
              refine lv_iload_n hx hb dX6_readCommand_122 rfl (lv_at hl 0 rfl) ?_
              exact am_zret (v' := (vp_nar .boolean r40)) X hr (nar_z _) hh (fun t ht => am_qw (mk := oI) hF ht) (Nat.le_of_ble_eq_true rfl) (Nat.le_of_ble_eq_true rfl) dX6_readCommand_123
          · have hF := am_pos hc21 hF
            refine lv_iload_n hx hb dX6_readCommand_71 rfl (lv_at hl 0 rfl) ?_
            exact am_zret (v' := (vp_nar .boolean r14)) X hr (nar_z _) hh (fun t ht => am_qw (mk := oI) hF ht) (Nat.le_of_ble_eq_true rfl) (Nat.le_of_ble_eq_true rfl) dX6_readCommand_72
    · have hF := am_pos hc12 hF
      refine lv_iconst (v := (3 : Int32)) hx hb dX6_readCommand_33 (by decide) ?_
      refine lv_goto (tgt := 38) hx hb dX6_readCommand_34 (by decide) ?_
      obtain ⟨⟨r46, w47⟩, hk45, hF⟩ := am_bind hF
      have hF := am_u2 hF
      refine am_call X hh (va_runV (As := [.int (3 : Int32)]) (rest := []) X.1 (c_X6_readDigits l G hk45) (cwV 1 hts gX6_readCommand_X6_readDigits rfl rfl rfl (by decide +kernel) ⟨Nat.le_of_ble_eq_true rfl, Nat.le_of_ble_eq_true rfl⟩) (am_preV X hh 134 8 (by decide) rfl rfl) rfl rfl hl.1 rfl (lv_room (Nat.le_of_ble_eq_true rfl)) dX6_readCommand_38 ⟨Nat.le_of_ble_eq_true rfl, Nat.le_of_ble_eq_true rfl⟩) (fun ab H locs hh => ?_)
      refine lv_istore_n (lv' := [(3, .int r46), (2, .ref (gVb G k5)), (0, .ref (gAd G 134)), (1, .int x1)]) hx hb dX6_readCommand_41 rfl hl (by decide) rfl (fun ls hl => ?_)
      refine lv_aload_n hx hb dX6_readCommand_42 rfl (lv_at hl 2 rfl) ?_
      refine am_getR X hh 134 8 4 137 (by decide) rfl rfl (by decide) hwRX6 (show Cond.fieldLink RX6 28 "PlanetWorkshop$Script" "firsts" "[I" ∈ wsX6_readCommand by decide +kernel) rfl dX6_readCommand_43 ?_
      refine lv_iload_n hx hb dX6_readCommand_46 rfl (lv_at hl 3 rfl) ?_
      refine lv_aload_n hx hb dX6_readCommand_47 rfl (lv_at hl 2 rfl) ?_
      refine am_getI X hh 134 8 7 (by decide) rfl rfl (by decide) hwRX6 (show Cond.fieldLink RX6 38 "PlanetWorkshop$Script" "number" "I" ∈ wsX6_readCommand by decide +kernel) rfl dX6_readCommand_48 ?_
      obtain ⟨hq49, hF⟩ := am_ifR hF
      refine am_iast X hh 137 (by decide) rfl hq49 dX6_readCommand_51 (fun H locs hh => ?_)
      obtain ⟨w50, hw50, hF⟩ := am_wl hF
      have hh := AH_eq hw50 hh
      refine lv_iload_n hx hb dX6_readCommand_52 rfl (lv_at hl 0 rfl) ?_
      refine lv_if_eq (tgt := 71) hx hb dX6_readCommand_53 (by decide) (fun hc51 => ?_) (fun hc51 => ?_)
      · have hF := am_pos hc51 hF
        refine lv_iload_n hx hb dX6_readCommand_71 rfl (lv_at hl 0 rfl) ?_
        exact am_zret (v' := (vp_nar .boolean r46)) X hr (nar_z _) hh (fun t ht => am_qw (mk := oI) hF ht) (Nat.le_of_ble_eq_true rfl) (Nat.le_of_ble_eq_true rfl) dX6_readCommand_72
      · have hF := am_neg hc51 hF
        refine lv_aload_n hx hb dX6_readCommand_56 rfl (lv_at hl 1 rfl) ?_
        refine va_getX (i := k5) hx hb X.2.2.1.2.1.2.2.1 hb7 hh.2.2 hown (hts _ (show Cond.fieldLink RX6 53 "PlanetWorkshop$Verb" "shape" "I"  ∈ wsX6_readCommand by decide +kernel)) (fun _ h9 => h9) dX6_readCommand_57 ?_
        refine lv_if_eq (tgt := 71) hx hb dX6_readCommand_60 (by decide) (fun hc52 => ?_) (fun hc52 => ?_)
        · have hF := am_pos hc52 hF
          refine lv_iload_n hx hb dX6_readCommand_71 rfl (lv_at hl 0 rfl) ?_
          exact am_zret (v' := (vp_nar .boolean r46)) X hr (nar_z _) hh (fun t ht => am_qw (mk := oI) hF ht) (Nat.le_of_ble_eq_true rfl) (Nat.le_of_ble_eq_true rfl) dX6_readCommand_72
        · have hF := am_neg hc52 hF
          refine lv_aload_n hx hb dX6_readCommand_63 rfl (lv_at hl 1 rfl) ?_
          refine va_getX (i := k5) hx hb X.2.2.1.2.1.2.2.1 hb7 hh.2.2 hown (hts _ (show Cond.fieldLink RX6 53 "PlanetWorkshop$Verb" "shape" "I"  ∈ wsX6_readCommand by decide +kernel)) (fun _ h9 => h9) dX6_readCommand_64 ?_
          refine lv_iconst (v := (1 : Int32)) hx hb dX6_readCommand_67 (by decide) ?_
          refine lv_icmp_ne (tgt := 73) hx hb dX6_readCommand_68 (by decide) (fun hc53 => ?_) (fun hc53 => ?_)
          · have hF := am_neg hc53 hF
            refine lv_aload_n hx hb dX6_readCommand_73 rfl (lv_at hl 1 rfl) ?_
            refine va_getX (i := k5) hx hb X.2.2.1.2.1.2.2.1 hb7 hh.2.2 hown (hts _ (show Cond.fieldLink RX6 53 "PlanetWorkshop$Verb" "shape" "I"  ∈ wsX6_readCommand by decide +kernel)) (fun _ h9 => h9) dX6_readCommand_74 ?_
            refine lv_iconst (v := (2 : Int32)) hx hb dX6_readCommand_77 (by decide) ?_
            refine lv_icmp_ne (tgt := 89) hx hb dX6_readCommand_78 (by decide) (fun hc54 => ?_) (fun hc54 => ?_)
            · have hF := am_neg hc54 hF
              refine lv_aload_n hx hb dX6_readCommand_89 rfl (lv_at hl 2 rfl) ?_
              refine lv_bipush (v := (32 : Int32)) hx hb dX6_readCommand_90 (by decide) ?_
              obtain ⟨⟨r56, w57⟩, hk55, hF⟩ := am_bind hF
              have hF := am_u2 hF
              refine am_call X hh (va_runV (As := [.int (32 : Int32)]) (rest := []) X.1 (c_X6_readSign l G hk55) (cwV 1 hts gX6_readCommand_X6_readSign rfl rfl rfl (by decide +kernel) ⟨Nat.le_of_ble_eq_true rfl, Nat.le_of_ble_eq_true rfl⟩) (am_preV X hh 134 8 (by decide) rfl rfl) rfl rfl hl.1 rfl (lv_room (Nat.le_of_ble_eq_true rfl)) dX6_readCommand_92 ⟨Nat.le_of_ble_eq_true rfl, Nat.le_of_ble_eq_true rfl⟩) (fun ab H locs hh => ?_)
              refine lv_if_eq (tgt := 110) hx hb dX6_readCommand_95 (by decide) (fun hc59 => ?_) (fun hc59 => ?_)
              · have hF := am_pos hc59 hF
                refine lv_iconst (v := (0 : Int32)) hx hb dX6_readCommand_110 (by decide) ?_
                refine lv_istore_n (lv' := [(3, .int (0 : Int32)), (2, .ref (gVb G k5)), (0, .ref (gAd G 134)), (1, .int x1)]) hx hb dX6_readCommand_111 rfl hl (by decide) rfl (fun ls hl => ?_)
                refine lv_aload_n hx hb dX6_readCommand_112 rfl (lv_at hl 2 rfl) ?_
                refine am_getR X hh 134 8 5 138 (by decide) rfl rfl (by decide) hwRX6 (show Cond.fieldLink RX6 32 "PlanetWorkshop$Script" "seconds" "[I" ∈ wsX6_readCommand by decide +kernel) rfl dX6_readCommand_113 ?_
                refine lv_iload_n hx hb dX6_readCommand_116 rfl (lv_at hl 3 rfl) ?_
                refine lv_aload_n hx hb dX6_readCommand_117 rfl (lv_at hl 2 rfl) ?_
                refine am_getI X hh 134 8 7 (by decide) rfl rfl (by decide) hwRX6 (show Cond.fieldLink RX6 38 "PlanetWorkshop$Script" "number" "I" ∈ wsX6_readCommand by decide +kernel) rfl dX6_readCommand_118 ?_
                obtain ⟨hq60, hF⟩ := am_ifR hF
                refine am_iast X hh 138 (by decide) rfl hq60 dX6_readCommand_121 (fun H locs hh => ?_)
                obtain ⟨w61, hw61, hF⟩ := am_wl hF
                have hh := AH_eq hw61 hh
                refine lv_iload_n hx hb dX6_readCommand_122 rfl (lv_at hl 0 rfl) ?_
                exact am_zret (v' := (0 : Int32)) X hr rfl hh (fun t ht => am_qw (mk := oI) hF ht) (Nat.le_of_ble_eq_true rfl) (Nat.le_of_ble_eq_true rfl) dX6_readCommand_123
              · have hF := am_neg hc59 hF
                refine lv_aload_n hx hb dX6_readCommand_98 rfl (lv_at hl 2 rfl) ?_
                refine lv_iconst (v := (3 : Int32)) hx hb dX6_readCommand_99 (by decide) ?_
                obtain ⟨⟨r63, w64⟩, hk62, hF⟩ := am_bind hF
                have hF := am_u2 hF
                refine am_call X hh (va_runV (As := [.int (3 : Int32)]) (rest := []) X.1 (c_X6_readDigits l G hk62) (cwV 1 hts gX6_readCommand_X6_readDigits rfl rfl rfl (by decide +kernel) ⟨Nat.le_of_ble_eq_true rfl, Nat.le_of_ble_eq_true rfl⟩) (am_preV X hh 134 8 (by decide) rfl rfl) rfl rfl hl.1 rfl (lv_room (Nat.le_of_ble_eq_true rfl)) dX6_readCommand_100 ⟨Nat.le_of_ble_eq_true rfl, Nat.le_of_ble_eq_true rfl⟩) (fun ab H locs hh => ?_)
                refine lv_if_eq (tgt := 110) hx hb dX6_readCommand_103 (by decide) (fun hc66 => ?_) (fun hc66 => ?_)
                · have hF := am_pos hc66 hF
                  refine lv_iconst (v := (0 : Int32)) hx hb dX6_readCommand_110 (by decide) ?_
                  refine lv_istore_n (lv' := [(3, .int (0 : Int32)), (2, .ref (gVb G k5)), (0, .ref (gAd G 134)), (1, .int x1)]) hx hb dX6_readCommand_111 rfl hl (by decide) rfl (fun ls hl => ?_)
                  refine lv_aload_n hx hb dX6_readCommand_112 rfl (lv_at hl 2 rfl) ?_
                  refine am_getR X hh 134 8 5 138 (by decide) rfl rfl (by decide) hwRX6 (show Cond.fieldLink RX6 32 "PlanetWorkshop$Script" "seconds" "[I" ∈ wsX6_readCommand by decide +kernel) rfl dX6_readCommand_113 ?_
                  refine lv_iload_n hx hb dX6_readCommand_116 rfl (lv_at hl 3 rfl) ?_
                  refine lv_aload_n hx hb dX6_readCommand_117 rfl (lv_at hl 2 rfl) ?_
                  refine am_getI X hh 134 8 7 (by decide) rfl rfl (by decide) hwRX6 (show Cond.fieldLink RX6 38 "PlanetWorkshop$Script" "number" "I" ∈ wsX6_readCommand by decide +kernel) rfl dX6_readCommand_118 ?_
                  obtain ⟨hq67, hF⟩ := am_ifR hF
                  refine am_iast X hh 138 (by decide) rfl hq67 dX6_readCommand_121 (fun H locs hh => ?_)
                  obtain ⟨w68, hw68, hF⟩ := am_wl hF
                  have hh := AH_eq hw68 hh
                  refine lv_iload_n hx hb dX6_readCommand_122 rfl (lv_at hl 0 rfl) ?_
                  exact am_zret (v' := (0 : Int32)) X hr rfl hh (fun t ht => am_qw (mk := oI) hF ht) (Nat.le_of_ble_eq_true rfl) (Nat.le_of_ble_eq_true rfl) dX6_readCommand_123
                · have hF := am_neg hc66 hF
                  refine lv_iconst (v := (1 : Int32)) hx hb dX6_readCommand_106 (by decide) ?_
                  refine lv_goto (tgt := 111) hx hb dX6_readCommand_107 (by decide) ?_
                  refine lv_istore_n (lv' := [(3, .int (1 : Int32)), (2, .ref (gVb G k5)), (0, .ref (gAd G 134)), (1, .int x1)]) hx hb dX6_readCommand_111 rfl hl (by decide) rfl (fun ls hl => ?_)
                  refine lv_aload_n hx hb dX6_readCommand_112 rfl (lv_at hl 2 rfl) ?_
                  refine am_getR X hh 134 8 5 138 (by decide) rfl rfl (by decide) hwRX6 (show Cond.fieldLink RX6 32 "PlanetWorkshop$Script" "seconds" "[I" ∈ wsX6_readCommand by decide +kernel) rfl dX6_readCommand_113 ?_
                  refine lv_iload_n hx hb dX6_readCommand_116 rfl (lv_at hl 3 rfl) ?_
                  refine lv_aload_n hx hb dX6_readCommand_117 rfl (lv_at hl 2 rfl) ?_
                  refine am_getI X hh 134 8 7 (by decide) rfl rfl (by decide) hwRX6 (show Cond.fieldLink RX6 38 "PlanetWorkshop$Script" "number" "I" ∈ wsX6_readCommand by decide +kernel) rfl dX6_readCommand_118 ?_
                  obtain ⟨hq69, hF⟩ := am_ifR hF
                  refine am_iast X hh 138 (by decide) rfl hq69 dX6_readCommand_121 (fun H locs hh => ?_)
                  obtain ⟨w70, hw70, hF⟩ := am_wl hF
                  have hh := AH_eq hw70 hh
                  refine lv_iload_n hx hb dX6_readCommand_122 rfl (lv_at hl 0 rfl) ?_
                  exact am_zret (v' := (1 : Int32)) X hr rfl hh (fun t ht => am_qw (mk := oI) hF ht) (Nat.le_of_ble_eq_true rfl) (Nat.le_of_ble_eq_true rfl) dX6_readCommand_123
            · have hF := am_pos hc54 hF
              refine lv_aload_n hx hb dX6_readCommand_81 rfl (lv_at hl 2 rfl) ?_
              refine lv_iconst (v := (1 : Int32)) hx hb dX6_readCommand_82 (by decide) ?_
              obtain ⟨⟨r72, w73⟩, hk71, hF⟩ := am_bind hF
              have hF := am_u2 hF
              refine am_call X hh (va_runV (As := [.int (1 : Int32)]) (rest := []) X.1 (c_X6_readDigits l G hk71) (cwV 1 hts gX6_readCommand_X6_readDigits rfl rfl rfl (by decide +kernel) ⟨Nat.le_of_ble_eq_true rfl, Nat.le_of_ble_eq_true rfl⟩) (am_preV X hh 134 8 (by decide) rfl rfl) rfl rfl hl.1 rfl (lv_room (Nat.le_of_ble_eq_true rfl)) dX6_readCommand_83 ⟨Nat.le_of_ble_eq_true rfl, Nat.le_of_ble_eq_true rfl⟩) (fun ab H locs hh => ?_)
              refine lv_goto (tgt := 111) hx hb dX6_readCommand_86 (by decide) ?_
              refine lv_istore_n (lv' := [(3, .int r72), (2, .ref (gVb G k5)), (0, .ref (gAd G 134)), (1, .int x1)]) hx hb dX6_readCommand_111 rfl hl (by decide) rfl (fun ls hl => ?_)
              refine lv_aload_n hx hb dX6_readCommand_112 rfl (lv_at hl 2 rfl) ?_
              refine am_getR X hh 134 8 5 138 (by decide) rfl rfl (by decide) hwRX6 (show Cond.fieldLink RX6 32 "PlanetWorkshop$Script" "seconds" "[I" ∈ wsX6_readCommand by decide +kernel) rfl dX6_readCommand_113 ?_
              refine lv_iload_n hx hb dX6_readCommand_116 rfl (lv_at hl 3 rfl) ?_
              refine lv_aload_n hx hb dX6_readCommand_117 rfl (lv_at hl 2 rfl) ?_
              refine am_getI X hh 134 8 7 (by decide) rfl rfl (by decide) hwRX6 (show Cond.fieldLink RX6 38 "PlanetWorkshop$Script" "number" "I" ∈ wsX6_readCommand by decide +kernel) rfl dX6_readCommand_118 ?_
              obtain ⟨hq75, hF⟩ := am_ifR hF
              refine am_iast X hh 138 (by decide) rfl hq75 dX6_readCommand_121 (fun H locs hh => ?_)
              obtain ⟨w76, hw76, hF⟩ := am_wl hF
              have hh := AH_eq hw76 hh
              refine lv_iload_n hx hb dX6_readCommand_122 rfl (lv_at hl 0 rfl) ?_
              exact am_zret (v' := (vp_nar .boolean r72)) X hr (nar_z _) hh (fun t ht => am_qw (mk := oI) hF ht) (Nat.le_of_ble_eq_true rfl) (Nat.le_of_ble_eq_true rfl) dX6_readCommand_123
          · have hF := am_pos hc53 hF
            refine lv_iload_n hx hb dX6_readCommand_71 rfl (lv_at hl 0 rfl) ?_
            exact am_zret (v' := (vp_nar .boolean r46)) X hr (nar_z _) hh (fun t ht => am_qw (mk := oI) hF ht) (Nat.le_of_ble_eq_true rfl) (Nat.le_of_ble_eq_true rfl) dX6_readCommand_72
set_option maxHeartbeats 4000000 in
set_option maxRecDepth 100000 in
theorem c_X6_parse (l : Launch) (G : GG) {w : Wd} {r0 : Int32} {wz : Wd} (hF : f_X6_parse w = some (r0, wz)) : Met l yX6_parse wsX6_parse ({ frames := 7, cells := 0, slots := 0, locals := 157 } : Room) (va_Pc [.ref (gAd G 134)] (Rel G w)) (amQ G (oI r0) wz) 0 0 (gA G) := by
  refine am_met (own := RX6) (cc := cX6_parse) (maxL := 2) (ret := (some .int)) (by decide +kernel) rfl rfl (Nat.le_of_ble_eq_true rfl) ?_
  intro p e s m args below meth c ab H locs ls X hr hh hl
  have hx := X.1.1; have hb := X.1.2.1; have hml := X.1.2.2.1; have hown := X.1.2.2.2.1; have hts := X.1.2.2.2.2
  have hl : lv_has ls 2 [(0, .ref (gAd G 134))] := hl
  have hwRX6 : ∀ z ∈ u_ws RX6 TX6 8, z ∈ wsX6_parse := by decide +kernel
  unfold f_X6_parse at hF
  refine lv_aload_n hx hb dX6_parse_0 rfl (lv_at hl 0 rfl) ?_
  refine lv_iconst (v := (0 : Int32)) hx hb dX6_parse_1 (by decide) ?_
  refine am_putI X hh 134 8 2 (by decide) rfl rfl (by decide) hwRX6 tyX6 tyX6_ok nmX6 (show Cond.fieldLink RX6 19 "PlanetWorkshop$Script" "position" "I" ∈ wsX6_parse by decide +kernel) rfl rfl rfl rfl dX6_parse_2 (fun H locs hh => ?_)
  obtain ⟨w1, hw1, hF⟩ := am_wl hF
  have hh := AH_eq hw1 hh
  refine lv_aload_n hx hb dX6_parse_5 rfl (lv_at hl 0 rfl) ?_
  refine lv_iconst (v := (0 : Int32)) hx hb dX6_parse_6 (by decide) ?_
  refine am_putI X hh 134 8 6 (by decide) rfl rfl (by decide) hwRX6 tyX6 tyX6_ok nmX6 (show Cond.fieldLink RX6 35 "PlanetWorkshop$Script" "commands" "I" ∈ wsX6_parse by decide +kernel) rfl rfl rfl rfl dX6_parse_7 (fun H locs hh => ?_)
  obtain ⟨w2, hw2, hF⟩ := am_wl hF
  have hh := AH_eq hw2 hh
  refine lv_iconst (v := (0 : Int32)) hx hb dX6_parse_10 (by decide) ?_
  refine lv_istore_n (lv' := [(1, .int (0 : Int32)), (0, .ref (gAd G 134))]) hx hb dX6_parse_11 rfl hl (by decide) rfl (fun ls hl => ?_)
  have hlp12 : ∀ (n : Nat) (y3 : Int32) (w4 : Wd) (ab : Nat) (H : Heap) (locs : List Loc) (ls : Array Slot) (z : (Int32 × Wd) ⊕ (Int32 × Wd)), p_X6_parse_12 n y3 w4 = some z → AH G s.heap w4 ab H locs → lv_has ls 2 [(1, .int y3), (0, .ref (gAd G 134))] → (∀ (y3 : Int32) (w4 : Wd) (ab : Nat) (H : Heap) (locs : List Loc) (ls : Array Slot), z = .inl (y3, w4) → AH G s.heap w4 ab H locs → lv_has ls 2 [(1, .int y3), (0, .ref (gAd G 134))] → W p l e ({ frames := 7, cells := 0, slots := 0, locals := 157 } : Room) s m args below meth c H locs 0 0 (MQ below (amQ G (oI r0) wz) args s 0 0 (gA G)) (F0 m 74 ls [])) → (∀ r, z = .inr r → some r = some (r0, wz)) → W p l e ({ frames := 7, cells := 0, slots := 0, locals := 157 } : Room) s m args below meth c H locs 0 0 (MQ below (amQ G (oI r0) wz) args s 0 0 (gA G)) (F0 m 12 ls []) := by
    intro n
    induction n with
    | zero =>
      intro y3 w4 ab H locs ls z hF
      unfold p_X6_parse_12 at hF
      cases hF
    | succ n ih =>
      intro y3 w4 ab H locs ls z hF hh hl kE kR
      unfold p_X6_parse_12 at hF
      refine lv_iload_n hx hb dX6_parse_12 rfl (lv_at hl 0 rfl) ?_
      refine lv_bipush (v := (60 : Int32)) hx hb dX6_parse_13 (by decide) ?_
      refine lv_icmp_ge (tgt := 74) hx hb dX6_parse_15 (by decide) (fun hc6 => ?_) (fun hc6 => ?_)
      · have hF := am_pos hc6 hF
        exact kE y3 w4 ab H locs ls (Option.some.inj hF).symm hh (lv_sub hl [0, 1] rfl)
      · have hF := am_neg hc6 hF
        refine lv_aload_n hx hb dX6_parse_18 rfl (lv_at hl 1 rfl) ?_
        refine lv_iload_n hx hb dX6_parse_19 rfl (lv_at hl 0 rfl) ?_
        obtain ⟨⟨r8, w9⟩, hk7, hF⟩ := am_bind hF
        have hF := am_u2 hF
        refine am_call X hh (va_runV (As := [.int y3]) (rest := []) X.1 (c_X6_readCommand l G hk7) (cwV 1 hts gX6_parse_X6_readCommand rfl rfl rfl (by decide +kernel) ⟨Nat.le_of_ble_eq_true rfl, Nat.le_of_ble_eq_true rfl⟩) (am_preV X hh 134 8 (by decide) rfl rfl) rfl rfl hl.1 rfl (lv_room (Nat.le_of_ble_eq_true rfl)) dX6_parse_20 ⟨Nat.le_of_ble_eq_true rfl, Nat.le_of_ble_eq_true rfl⟩) (fun ab H locs hh => ?_)
        refine lv_if_ne (tgt := 31) hx hb dX6_parse_23 (by decide) (fun hc11 => ?_) (fun hc11 => ?_)
        · have hF := am_neg hc11 hF
          refine lv_aload_n hx hb dX6_parse_31 rfl (lv_at hl 1 rfl) ?_
          refine lv_dup hx hb dX6_parse_32 rfl ?_
          refine am_getI X hh 134 8 6 (by decide) rfl rfl (by decide) hwRX6 (show Cond.fieldLink RX6 35 "PlanetWorkshop$Script" "commands" "I" ∈ wsX6_parse by decide +kernel) rfl dX6_parse_33 ?_
          refine lv_iconst (v := (1 : Int32)) hx hb dX6_parse_36 (by decide) ?_
          refine lv_iadd hx hb dX6_parse_37 ?_
          refine am_putI X hh 134 8 6 (by decide) rfl rfl (by decide) hwRX6 tyX6 tyX6_ok nmX6 (show Cond.fieldLink RX6 35 "PlanetWorkshop$Script" "commands" "I" ∈ wsX6_parse by decide +kernel) rfl rfl rfl rfl dX6_parse_38 (fun H locs hh => ?_)
          obtain ⟨w12, hw12, hF⟩ := am_wl hF
          have hh := AH_eq hw12 hh
          refine lv_aload_n hx hb dX6_parse_41 rfl (lv_at hl 1 rfl) ?_
          refine am_getI X hh 134 8 2 (by decide) rfl rfl (by decide) hwRX6 (show Cond.fieldLink RX6 19 "PlanetWorkshop$Script" "position" "I" ∈ wsX6_parse by decide +kernel) rfl dX6_parse_42 ?_
          refine lv_aload_n hx hb dX6_parse_45 rfl (lv_at hl 1 rfl) ?_
          refine am_getI X hh 134 8 1 (by decide) rfl rfl (by decide) hwRX6 (show Cond.fieldLink RX6 15 "PlanetWorkshop$Script" "length" "I" ∈ wsX6_parse by decide +kernel) rfl dX6_parse_46 ?_
          refine lv_icmp_ne (tgt := 54) hx hb dX6_parse_49 (by decide) (fun hc13 => ?_) (fun hc13 => ?_)
          · have hF := am_neg hc13 hF
            refine lv_aload_n hx hb dX6_parse_54 rfl (lv_at hl 1 rfl) ?_
            refine lv_bipush (v := (59 : Int32)) hx hb dX6_parse_55 (by decide) ?_
            obtain ⟨⟨r15, w16⟩, hk14, hF⟩ := am_bind hF
            have hF := am_u2 hF
            refine am_call X hh (va_runV (As := [.int (59 : Int32)]) (rest := []) X.1 (c_X6_readSign l G hk14) (cwV 1 hts gX6_parse_X6_readSign rfl rfl rfl (by decide +kernel) ⟨Nat.le_of_ble_eq_true rfl, Nat.le_of_ble_eq_true rfl⟩) (am_preV X hh 134 8 (by decide) rfl rfl) rfl rfl hl.1 rfl (lv_room (Nat.le_of_ble_eq_true rfl)) dX6_parse_57 ⟨Nat.le_of_ble_eq_true rfl, Nat.le_of_ble_eq_true rfl⟩) (fun ab H locs hh => ?_)
            refine lv_if_ne (tgt := 68) hx hb dX6_parse_60 (by decide) (fun hc18 => ?_) (fun hc18 => ?_)
            · have hF := am_neg hc18 hF
              refine lv_iinc (v := (y3 + (1 : Int32))) (lv' := [(1, .int (y3 + (1 : Int32))), (0, .ref (gAd G 134))]) hx hb dX6_parse_68 hl (k := 0) rfl rfl (by decide) rfl (fun ls hl => ?_)
              refine lv_goto (tgt := 12) hx hb dX6_parse_71 (by decide) ?_
              exact ih (y3 + (1 : Int32)) w16 ab H locs ls _ hF hh (lv_sub hl [0, 1] rfl) kE kR
            · have hF := am_pos hc18 hF
              refine lv_aload_n hx hb dX6_parse_63 rfl (lv_at hl 1 rfl) ?_
              refine am_getI X hh 134 8 2 (by decide) rfl rfl (by decide) hwRX6 (show Cond.fieldLink RX6 19 "PlanetWorkshop$Script" "position" "I" ∈ wsX6_parse by decide +kernel) rfl dX6_parse_64 ?_
              have hF := kR _ (Option.some.inj hF).symm
              exact am_iret X hr hh (fun t ht => am_qw (mk := oI) hF ht) (Nat.le_of_ble_eq_true rfl) (Nat.le_of_ble_eq_true rfl) dX6_parse_67
          · have hF := am_pos hc13 hF
            refine lv_iconst (v := (-1 : Int32)) hx hb dX6_parse_52 (by decide) ?_
            have hF := kR _ (Option.some.inj hF).symm
            exact am_iret X hr hh (fun t ht => am_qw (mk := oI) hF ht) (Nat.le_of_ble_eq_true rfl) (Nat.le_of_ble_eq_true rfl) dX6_parse_53
        · have hF := am_pos hc11 hF
          refine lv_aload_n hx hb dX6_parse_26 rfl (lv_at hl 1 rfl) ?_
          refine am_getI X hh 134 8 2 (by decide) rfl rfl (by decide) hwRX6 (show Cond.fieldLink RX6 19 "PlanetWorkshop$Script" "position" "I" ∈ wsX6_parse by decide +kernel) rfl dX6_parse_27 ?_
          have hF := kR _ (Option.some.inj hF).symm
          exact am_iret X hr hh (fun t ht => am_qw (mk := oI) hF ht) (Nat.le_of_ble_eq_true rfl) (Nat.le_of_ble_eq_true rfl) dX6_parse_30
  obtain ⟨z19, hz20, hF⟩ := am_bind hF
  refine hlp12 2000 (0 : Int32) w2 ab H locs ls z19 hz20 hh (lv_sub hl [0, 1] rfl) (fun y3 w4 ab H locs ls hz hh hl => ?_) (fun r hz => ?_)
  · subst hz
    have hF := am_zl hF
    have hF := am_u2 hF
    refine lv_aload_n hx hb dX6_parse_74 rfl (lv_at hl 1 rfl) ?_
    refine am_getI X hh 134 8 2 (by decide) rfl rfl (by decide) hwRX6 (show Cond.fieldLink RX6 19 "PlanetWorkshop$Script" "position" "I" ∈ wsX6_parse by decide +kernel) rfl dX6_parse_75 ?_
    exact am_iret X hr hh (fun t ht => am_qw (mk := oI) hF ht) (Nat.le_of_ble_eq_true rfl) (Nat.le_of_ble_eq_true rfl) dX6_parse_78
  · subst hz
    have hF := am_zr hF
    exact hF
