set_option maxHeartbeats 4000000 in
set_option maxRecDepth 100000 in
theorem c_X11_needs (l : Launch) (G : GG) {w : Wd} {x1 : Int32} {w1 : Wd} (hF : f_X11_needs w x1 = some w1) : Met l yX11_needs wsX11_needs ({ frames := 1, cells := 0, slots := 0, locals := 20 } : Room) (va_Pc [.ref (gAd G 141), .int x1] (Rel G w)) (amQ G none w1) 0 0 (gA G) := by
  refine am_met (own := RX11) (cc := cX11_needs) (maxL := 2) (ret := none) (by decide +kernel) rfl rfl (Nat.le_of_ble_eq_true rfl) ?_
  intro p e s m args below meth c ab H locs ls X hr hh hl
  have hx := X.1.1; have hb := X.1.2.1; have hml := X.1.2.2.1; have hown := X.1.2.2.2.1; have hts := X.1.2.2.2.2
  have hl : lv_has ls 2 [(0, .ref (gAd G 141)), (1, .int x1)] := hl
  have hwRX11 : ∀ z ∈ u_ws RX11 TX11 18, z ∈ wsX11_needs := by decide +kernel
  unfold f_X11_needs at hF
  refine lv_aload_n hx hb dX11_needs_0 rfl (lv_at hl 0 rfl) ?_
  refine lv_aload_n hx hb dX11_needs_1 rfl (lv_at hl 0 rfl) ?_
  refine am_getI X hh 141 12 16 (by decide) rfl rfl (by decide) hwRX11 (show Cond.fieldLink RX11 234 "PlanetWorkshopModel" "isWrong" "Z" ∈ wsX11_needs by decide +kernel) rfl dX11_needs_2 ?_
  refine lv_if_ne (tgt := 16) hx hb dX11_needs_5 (by decide) (fun hc1 => ?_) (fun hc1 => ?_)
  · have hF := am_neg hc1 hF
    refine lv_iconst (v := (1 : Int32)) hx hb dX11_needs_16 (by decide) ?_
    refine lv_goto (tgt := 21) hx hb dX11_needs_17 (by decide) ?_
    refine am_putI X hh 141 12 16 (by decide) rfl rfl (by decide) hwRX11 tyX11 tyX11_ok nmX11 (show Cond.fieldLink RX11 234 "PlanetWorkshopModel" "isWrong" "Z" ∈ wsX11_needs by decide +kernel) rfl rfl rfl rfl dX11_needs_21 (fun H locs hh => ?_)
    obtain ⟨w2, hw2, hF⟩ := am_wl hF
    have hh := AH_eq hw2 hh
    refine lv_aload_n hx hb dX11_needs_24 rfl (lv_at hl 0 rfl) ?_
    refine lv_dup hx hb dX11_needs_25 rfl ?_
    refine am_getI X hh 141 12 15 (by decide) rfl rfl (by decide) hwRX11 (show Cond.fieldLink RX11 231 "PlanetWorkshopModel" "spot" "I" ∈ wsX11_needs by decide +kernel) rfl dX11_needs_26 ?_
    refine lv_aload_n hx hb dX11_needs_29 rfl (lv_at hl 0 rfl) ?_
    refine am_getI X hh 141 12 16 (by decide) rfl rfl (by decide) hwRX11 (show Cond.fieldLink RX11 234 "PlanetWorkshopModel" "isWrong" "Z" ∈ wsX11_needs by decide +kernel) rfl dX11_needs_30 ?_
    refine lv_if_eq (tgt := 40) hx hb dX11_needs_33 (by decide) (fun hc3 => ?_) (fun hc3 => ?_)
    · have hF := am_pos hc3 hF
      refine lv_iconst (v := (1 : Int32)) hx hb dX11_needs_40 (by decide) ?_
      refine lv_iadd hx hb dX11_needs_41 ?_
      refine am_putI X hh 141 12 15 (by decide) rfl rfl (by decide) hwRX11 tyX11 tyX11_ok nmX11 (show Cond.fieldLink RX11 231 "PlanetWorkshopModel" "spot" "I" ∈ wsX11_needs by decide +kernel) rfl rfl rfl rfl dX11_needs_42 (fun H locs hh => ?_)
      obtain ⟨w4, hw4, hF⟩ := am_wl hF
      have hh := AH_eq hw4 hh
      exact am_vret X hr hh (fun t ht => am_qv hF ht) (Nat.le_of_ble_eq_true rfl) (Nat.le_of_ble_eq_true rfl) dX11_needs_45
    · have hF := am_neg hc3 hF
      refine lv_iconst (v := (0 : Int32)) hx hb dX11_needs_36 (by decide) ?_
      refine lv_goto (tgt := 41) hx hb dX11_needs_37 (by decide) ?_
      refine lv_iadd hx hb dX11_needs_41 ?_
      refine am_putI X hh 141 12 15 (by decide) rfl rfl (by decide) hwRX11 tyX11 tyX11_ok nmX11 (show Cond.fieldLink RX11 231 "PlanetWorkshopModel" "spot" "I" ∈ wsX11_needs by decide +kernel) rfl rfl rfl rfl dX11_needs_42 (fun H locs hh => ?_)
      obtain ⟨w5, hw5, hF⟩ := am_wl hF
      have hh := AH_eq hw5 hh
      exact am_vret X hr hh (fun t ht => am_qv hF ht) (Nat.le_of_ble_eq_true rfl) (Nat.le_of_ble_eq_true rfl) dX11_needs_45
  · have hF := am_pos hc1 hF
    refine lv_aload_n hx hb dX11_needs_8 rfl (lv_at hl 0 rfl) ?_
    obtain ⟨r7, hk6, hF⟩ := am_bind hF
    refine am_call X hh (va_runV (As := []) (rest := [.ref (gAd G 141)]) X.1 (c_X11_here l G hk6) (cwV 0 hts gX11_needs_X11_here rfl rfl rfl (by decide +kernel) ⟨Nat.le_of_ble_eq_true rfl, Nat.le_of_ble_eq_true rfl⟩) (am_preV X hh 141 12 (by decide) rfl rfl) rfl rfl hl.1 rfl (lv_room (Nat.le_of_ble_eq_true rfl)) dX11_needs_9 ⟨Nat.le_of_ble_eq_true rfl, Nat.le_of_ble_eq_true rfl⟩) (fun ab H locs hh => ?_)
    refine lv_iload_n hx hb dX11_needs_12 rfl (lv_at hl 1 rfl) ?_
    refine lv_icmp_eq (tgt := 20) hx hb dX11_needs_13 (by decide) (fun hc8 => ?_) (fun hc8 => ?_)
    · have hF := am_pos hc8 hF
      refine lv_iconst (v := (0 : Int32)) hx hb dX11_needs_20 (by decide) ?_
      refine am_putI X hh 141 12 16 (by decide) rfl rfl (by decide) hwRX11 tyX11 tyX11_ok nmX11 (show Cond.fieldLink RX11 234 "PlanetWorkshopModel" "isWrong" "Z" ∈ wsX11_needs by decide +kernel) rfl rfl rfl rfl dX11_needs_21 (fun H locs hh => ?_)
      obtain ⟨w9, hw9, hF⟩ := am_wl hF
      have hh := AH_eq hw9 hh
      refine lv_aload_n hx hb dX11_needs_24 rfl (lv_at hl 0 rfl) ?_
      refine lv_dup hx hb dX11_needs_25 rfl ?_
      refine am_getI X hh 141 12 15 (by decide) rfl rfl (by decide) hwRX11 (show Cond.fieldLink RX11 231 "PlanetWorkshopModel" "spot" "I" ∈ wsX11_needs by decide +kernel) rfl dX11_needs_26 ?_
      refine lv_aload_n hx hb dX11_needs_29 rfl (lv_at hl 0 rfl) ?_
      refine am_getI X hh 141 12 16 (by decide) rfl rfl (by decide) hwRX11 (show Cond.fieldLink RX11 234 "PlanetWorkshopModel" "isWrong" "Z" ∈ wsX11_needs by decide +kernel) rfl dX11_needs_30 ?_
      refine lv_if_eq (tgt := 40) hx hb dX11_needs_33 (by decide) (fun hc10 => ?_) (fun hc10 => ?_)
      · have hF := am_pos hc10 hF
        refine lv_iconst (v := (1 : Int32)) hx hb dX11_needs_40 (by decide) ?_
        refine lv_iadd hx hb dX11_needs_41 ?_
        refine am_putI X hh 141 12 15 (by decide) rfl rfl (by decide) hwRX11 tyX11 tyX11_ok nmX11 (show Cond.fieldLink RX11 231 "PlanetWorkshopModel" "spot" "I" ∈ wsX11_needs by decide +kernel) rfl rfl rfl rfl dX11_needs_42 (fun H locs hh => ?_)
        obtain ⟨w11, hw11, hF⟩ := am_wl hF
        have hh := AH_eq hw11 hh
        exact am_vret X hr hh (fun t ht => am_qv hF ht) (Nat.le_of_ble_eq_true rfl) (Nat.le_of_ble_eq_true rfl) dX11_needs_45
      · have hF := am_neg hc10 hF
        refine lv_iconst (v := (0 : Int32)) hx hb dX11_needs_36 (by decide) ?_
        refine lv_goto (tgt := 41) hx hb dX11_needs_37 (by decide) ?_
        refine lv_iadd hx hb dX11_needs_41 ?_
        refine am_putI X hh 141 12 15 (by decide) rfl rfl (by decide) hwRX11 tyX11 tyX11_ok nmX11 (show Cond.fieldLink RX11 231 "PlanetWorkshopModel" "spot" "I" ∈ wsX11_needs by decide +kernel) rfl rfl rfl rfl dX11_needs_42 (fun H locs hh => ?_)
        obtain ⟨w12, hw12, hF⟩ := am_wl hF
        have hh := AH_eq hw12 hh
        exact am_vret X hr hh (fun t ht => am_qv hF ht) (Nat.le_of_ble_eq_true rfl) (Nat.le_of_ble_eq_true rfl) dX11_needs_45
    · have hF := am_neg hc8 hF
      refine lv_iconst (v := (1 : Int32)) hx hb dX11_needs_16 (by decide) ?_
      refine lv_goto (tgt := 21) hx hb dX11_needs_17 (by decide) ?_
      refine am_putI X hh 141 12 16 (by decide) rfl rfl (by decide) hwRX11 tyX11 tyX11_ok nmX11 (show Cond.fieldLink RX11 234 "PlanetWorkshopModel" "isWrong" "Z" ∈ wsX11_needs by decide +kernel) rfl rfl rfl rfl dX11_needs_21 (fun H locs hh => ?_)
      obtain ⟨w13, hw13, hF⟩ := am_wl hF
      have hh := AH_eq hw13 hh
      refine lv_aload_n hx hb dX11_needs_24 rfl (lv_at hl 0 rfl) ?_
      refine lv_dup hx hb dX11_needs_25 rfl ?_
      refine am_getI X hh 141 12 15 (by decide) rfl rfl (by decide) hwRX11 (show Cond.fieldLink RX11 231 "PlanetWorkshopModel" "spot" "I" ∈ wsX11_needs by decide +kernel) rfl dX11_needs_26 ?_
      refine lv_aload_n hx hb dX11_needs_29 rfl (lv_at hl 0 rfl) ?_
      refine am_getI X hh 141 12 16 (by decide) rfl rfl (by decide) hwRX11 (show Cond.fieldLink RX11 234 "PlanetWorkshopModel" "isWrong" "Z" ∈ wsX11_needs by decide +kernel) rfl dX11_needs_30 ?_
      refine lv_if_eq (tgt := 40) hx hb dX11_needs_33 (by decide) (fun hc14 => ?_) (fun hc14 => ?_)
      · have hF := am_pos hc14 hF
        refine lv_iconst (v := (1 : Int32)) hx hb dX11_needs_40 (by decide) ?_
        refine lv_iadd hx hb dX11_needs_41 ?_
        refine am_putI X hh 141 12 15 (by decide) rfl rfl (by decide) hwRX11 tyX11 tyX11_ok nmX11 (show Cond.fieldLink RX11 231 "PlanetWorkshopModel" "spot" "I" ∈ wsX11_needs by decide +kernel) rfl rfl rfl rfl dX11_needs_42 (fun H locs hh => ?_)
        obtain ⟨w15, hw15, hF⟩ := am_wl hF
        have hh := AH_eq hw15 hh
        exact am_vret X hr hh (fun t ht => am_qv hF ht) (Nat.le_of_ble_eq_true rfl) (Nat.le_of_ble_eq_true rfl) dX11_needs_45
      · have hF := am_neg hc14 hF
        refine lv_iconst (v := (0 : Int32)) hx hb dX11_needs_36 (by decide) ?_
        refine lv_goto (tgt := 41) hx hb dX11_needs_37 (by decide) ?_
        refine lv_iadd hx hb dX11_needs_41 ?_
        refine am_putI X hh 141 12 15 (by decide) rfl rfl (by decide) hwRX11 tyX11 tyX11_ok nmX11 (show Cond.fieldLink RX11 231 "PlanetWorkshopModel" "spot" "I" ∈ wsX11_needs by decide +kernel) rfl rfl rfl rfl dX11_needs_42 (fun H locs hh => ?_)
        obtain ⟨w16, hw16, hF⟩ := am_wl hF
        have hh := AH_eq hw16 hh
        exact am_vret X hr hh (fun t ht => am_qv hF ht) (Nat.le_of_ble_eq_true rfl) (Nat.le_of_ble_eq_true rfl) dX11_needs_45
set_option maxHeartbeats 4000000 in
set_option maxRecDepth 100000 in
theorem c_X11_needsThree (l : Launch) (G : GG) {w : Wd} {x1 : Int32} {x2 : Int32} {x3 : Int32} {w1 : Wd} (hF : f_X11_needsThree w x1 x2 x3 = some w1) : Met l yX11_needsThree wsX11_needsThree ({ frames := 2, cells := 0, slots := 0, locals := 41 } : Room) (va_Pc [.ref (gAd G 141), .int x1, .int x2, .int x3] (Rel G w)) (amQ G none w1) 0 0 (gA G) := by
  refine am_met (own := RX11) (cc := cX11_needsThree) (maxL := 4) (ret := none) (by decide +kernel) rfl rfl (Nat.le_of_ble_eq_true rfl) ?_
  intro p e s m args below meth c ab H locs ls X hr hh hl
  have hx := X.1.1; have hb := X.1.2.1; have hml := X.1.2.2.1; have hown := X.1.2.2.2.1; have hts := X.1.2.2.2.2
  have hl : lv_has ls 4 [(0, .ref (gAd G 141)), (1, .int x1), (2, .int x2), (3, .int x3)] := hl
  unfold f_X11_needsThree at hF
  refine lv_aload_n hx hb dX11_needsThree_0 rfl (lv_at hl 0 rfl) ?_
  refine lv_iload_n hx hb dX11_needsThree_1 rfl (lv_at hl 1 rfl) ?_
  obtain ⟨w3, hk1, hF⟩ := am_bind hF
  refine am_call X hh (va_runV (As := [.int x1]) (rest := []) X.1 (c_X11_needs l G hk1) (cwV 1 hts gX11_needsThree_X11_needs rfl rfl rfl (by decide +kernel) ⟨Nat.le_of_ble_eq_true rfl, Nat.le_of_ble_eq_true rfl⟩) (am_preV X hh 141 12 (by decide) rfl rfl) rfl rfl hl.1 rfl (lv_room (Nat.le_of_ble_eq_true rfl)) dX11_needsThree_2 ⟨Nat.le_of_ble_eq_true rfl, Nat.le_of_ble_eq_true rfl⟩) (fun ab H locs hh => ?_)
  refine lv_aload_n hx hb dX11_needsThree_5 rfl (lv_at hl 0 rfl) ?_
  refine lv_iload_n hx hb dX11_needsThree_6 rfl (lv_at hl 2 rfl) ?_
  obtain ⟨w6, hk4, hF⟩ := am_bind hF
  refine am_call X hh (va_runV (As := [.int x2]) (rest := []) X.1 (c_X11_needs l G hk4) (cwV 1 hts gX11_needsThree_X11_needs rfl rfl rfl (by decide +kernel) ⟨Nat.le_of_ble_eq_true rfl, Nat.le_of_ble_eq_true rfl⟩) (am_preV X hh 141 12 (by decide) rfl rfl) rfl rfl hl.1 rfl (lv_room (Nat.le_of_ble_eq_true rfl)) dX11_needsThree_7 ⟨Nat.le_of_ble_eq_true rfl, Nat.le_of_ble_eq_true rfl⟩) (fun ab H locs hh => ?_)
  refine lv_aload_n hx hb dX11_needsThree_10 rfl (lv_at hl 0 rfl) ?_
  refine lv_iload_n hx hb dX11_needsThree_11 rfl (lv_at hl 3 rfl) ?_
  obtain ⟨w9, hk7, hF⟩ := am_bind hF
  refine am_call X hh (va_runV (As := [.int x3]) (rest := []) X.1 (c_X11_needs l G hk7) (cwV 1 hts gX11_needsThree_X11_needs rfl rfl rfl (by decide +kernel) ⟨Nat.le_of_ble_eq_true rfl, Nat.le_of_ble_eq_true rfl⟩) (am_preV X hh 141 12 (by decide) rfl rfl) rfl rfl hl.1 rfl (lv_room (Nat.le_of_ble_eq_true rfl)) dX11_needsThree_12 ⟨Nat.le_of_ble_eq_true rfl, Nat.le_of_ble_eq_true rfl⟩) (fun ab H locs hh => ?_)
  exact am_vret X hr hh (fun t ht => am_qv hF ht) (Nat.le_of_ble_eq_true rfl) (Nat.le_of_ble_eq_true rfl) dX11_needsThree_15
set_option maxHeartbeats 4000000 in
set_option maxRecDepth 100000 in
theorem c_X11_digits (l : Launch) (G : GG) {w : Wd} {x1 : Int32} {r0 : Int32} {w1 : Wd} (hF : f_X11_digits w x1 = some (r0, w1)) : Met l yX11_digits wsX11_digits ({ frames := 1, cells := 0, slots := 0, locals := 22 } : Room) (va_Pc [.ref (gAd G 141), .int x1] (Rel G w)) (amQ G (oI r0) w1) 0 0 (gA G) := by
  refine am_met (own := RX11) (cc := cX11_digits) (maxL := 4) (ret := (some .int)) (by decide +kernel) rfl rfl (Nat.le_of_ble_eq_true rfl) ?_
  intro p e s m args below meth c ab H locs ls X hr hh hl
  have hx := X.1.1; have hb := X.1.2.1; have hml := X.1.2.2.1; have hown := X.1.2.2.2.1; have hts := X.1.2.2.2.2
  have hl : lv_has ls 4 [(0, .ref (gAd G 141)), (1, .int x1)] := hl
  have hwRX11 : ∀ z ∈ u_ws RX11 TX11 18, z ∈ wsX11_digits := by decide +kernel
  unfold f_X11_digits at hF
  refine lv_aload_n hx hb dX11_digits_0 rfl (lv_at hl 0 rfl) ?_
  refine lv_aload_n hx hb dX11_digits_1 rfl (lv_at hl 0 rfl) ?_
  refine am_getI X hh 141 12 16 (by decide) rfl rfl (by decide) hwRX11 (show Cond.fieldLink RX11 234 "PlanetWorkshopModel" "isWrong" "Z" ∈ wsX11_digits by decide +kernel) rfl dX11_digits_2 ?_
  refine lv_if_ne (tgt := 22) hx hb dX11_digits_5 (by decide) (fun hc1 => ?_) (fun hc1 => ?_)
  · have hF := am_neg hc1 hF
    refine lv_iconst (v := (1 : Int32)) hx hb dX11_digits_22 (by decide) ?_
    refine lv_goto (tgt := 27) hx hb dX11_digits_23 (by decide) ?_
    refine am_putI X hh 141 12 16 (by decide) rfl rfl (by decide) hwRX11 tyX11 tyX11_ok nmX11 (show Cond.fieldLink RX11 234 "PlanetWorkshopModel" "isWrong" "Z" ∈ wsX11_digits by decide +kernel) rfl rfl rfl rfl dX11_digits_27 (fun H locs hh => ?_)
    obtain ⟨w2, hw2, hF⟩ := am_wl hF
    have hh := AH_eq hw2 hh
    refine lv_iconst (v := (0 : Int32)) hx hb dX11_digits_30 (by decide) ?_
    refine lv_istore_n (lv' := [(2, .int (0 : Int32)), (0, .ref (gAd G 141)), (1, .int x1)]) hx hb dX11_digits_31 rfl hl (by decide) rfl (fun ls hl => ?_)
    refine lv_iconst (v := (0 : Int32)) hx hb dX11_digits_32 (by decide) ?_
    refine lv_istore_n (lv' := [(3, .int (0 : Int32)), (2, .int (0 : Int32)), (0, .ref (gAd G 141)), (1, .int x1)]) hx hb dX11_digits_33 rfl hl (by decide) rfl (fun ls hl => ?_)
    have hlp34 : ∀ (n : Nat) (y3 : Int32) (y4 : Int32) (w5 : Wd) (ab : Nat) (H : Heap) (locs : List Loc) (ls : Array Slot) (z : (Int32 × Int32 × Wd) ⊕ Unit), p_X11_digits_34 x1 n y3 y4 w5 = some z → AH G s.heap w5 ab H locs → lv_has ls 4 [(2, .int y3), (3, .int y4), (0, .ref (gAd G 141)), (1, .int x1)] → (∀ (y3 : Int32) (y4 : Int32) (w5 : Wd) (ab : Nat) (H : Heap) (locs : List Loc) (ls : Array Slot), z = .inl (y3, y4, w5) → AH G s.heap w5 ab H locs → lv_has ls 4 [(2, .int y3), (3, .int y4), (0, .ref (gAd G 141)), (1, .int x1)] → W p l e ({ frames := 1, cells := 0, slots := 0, locals := 22 } : Room) s m args below meth c H locs 0 0 (MQ below (amQ G (oI r0) w1) args s 0 0 (gA G)) (F0 m 89 ls [])) → W p l e ({ frames := 1, cells := 0, slots := 0, locals := 22 } : Room) s m args below meth c H locs 0 0 (MQ below (amQ G (oI r0) w1) args s 0 0 (gA G)) (F0 m 34 ls []) := by
      intro n
      induction n with
      | zero =>
        intro y3 y4 w5 ab H locs ls z hF
        unfold p_X11_digits_34 at hF
        cases hF
      | succ n ih =>
        intro y3 y4 w5 ab H locs ls z hF hh hl kE
        unfold p_X11_digits_34 at hF
        refine lv_aload_n hx hb dX11_digits_34 rfl (lv_at hl 2 rfl) ?_
        refine am_getI X hh 141 12 16 (by decide) rfl rfl (by decide) hwRX11 (show Cond.fieldLink RX11 234 "PlanetWorkshopModel" "isWrong" "Z" ∈ wsX11_digits by decide +kernel) rfl dX11_digits_35 ?_
        refine lv_if_ne (tgt := 89) hx hb dX11_digits_38 (by decide) (fun hc7 => ?_) (fun hc7 => ?_)
        · have hF := am_neg hc7 hF
          exact kE y3 y4 w5 ab H locs ls (Option.some.inj hF).symm hh (lv_sub hl [0, 1, 2, 3] rfl)
        · have hF := am_pos hc7 hF
          refine lv_iload_n hx hb dX11_digits_41 rfl (lv_at hl 1 rfl) ?_
          refine lv_iload_n hx hb dX11_digits_42 rfl (lv_at hl 3 rfl) ?_
          refine lv_icmp_ge (tgt := 89) hx hb dX11_digits_43 (by decide) (fun hc8 => ?_) (fun hc8 => ?_)
          · have hF := am_pos hc8 hF
            exact kE y3 y4 w5 ab H locs ls (Option.some.inj hF).symm hh (lv_sub hl [0, 1, 2, 3] rfl)
          · have hF := am_neg hc8 hF
            refine lv_aload_n hx hb dX11_digits_46 rfl (lv_at hl 2 rfl) ?_
            obtain ⟨r10, hk9, hF⟩ := am_bind hF
            refine am_call X hh (va_runV (As := []) (rest := []) X.1 (c_X11_here l G hk9) (cwV 0 hts gX11_digits_X11_here rfl rfl rfl (by decide +kernel) ⟨Nat.le_of_ble_eq_true rfl, Nat.le_of_ble_eq_true rfl⟩) (am_preV X hh 141 12 (by decide) rfl rfl) rfl rfl hl.1 rfl (lv_room (Nat.le_of_ble_eq_true rfl)) dX11_digits_47 ⟨Nat.le_of_ble_eq_true rfl, Nat.le_of_ble_eq_true rfl⟩) (fun ab H locs hh => ?_)
            refine lv_bipush (v := (48 : Int32)) hx hb dX11_digits_50 (by decide) ?_
            refine lv_bipush (v := (57 : Int32)) hx hb dX11_digits_52 (by decide) ?_
            obtain ⟨r12, hk11, hF⟩ := am_bind hF
            refine am_call X hh (va_runS (As := [.int r10, .int (48 : Int32), .int (57 : Int32)]) (rest := []) X.1 (c_X11_in l G hk11) (va_cwS 3 hts gX11_digits_X11_in rfl rfl rfl (by decide +kernel) ⟨Nat.le_of_ble_eq_true rfl, Nat.le_of_ble_eq_true rfl⟩) (am_preS X hh) rfl rfl hl.1 rfl (lv_room (Nat.le_of_ble_eq_true rfl)) dX11_digits_54 ⟨Nat.le_of_ble_eq_true rfl, Nat.le_of_ble_eq_true rfl⟩) (fun ab H locs hh => ?_)
            refine lv_if_eq (tgt := 89) hx hb dX11_digits_57 (by decide) (fun hc13 => ?_) (fun hc13 => ?_)
            · have hF := am_pos hc13 hF
              exact kE y3 y4 w5 ab H locs ls (Option.some.inj hF).symm hh (lv_sub hl [0, 1, 2, 3] rfl)
            · have hF := am_neg hc13 hF
              refine lv_bipush (v := (10 : Int32)) hx hb dX11_digits_60 (by decide) ?_
              refine lv_iload_n hx hb dX11_digits_62 rfl (lv_at hl 0 rfl) ?_
              refine lv_imul hx hb dX11_digits_63 ?_
              refine lv_aload_n hx hb dX11_digits_64 rfl (lv_at hl 2 rfl) ?_
              obtain ⟨r15, hk14, hF⟩ := am_bind hF
              refine am_call X hh (va_runV (As := []) (rest := [.int ((10 : Int32) * y3)]) X.1 (c_X11_here l G hk14) (cwV 0 hts gX11_digits_X11_here rfl rfl rfl (by decide +kernel) ⟨Nat.le_of_ble_eq_true rfl, Nat.le_of_ble_eq_true rfl⟩) (am_preV X hh 141 12 (by decide) rfl rfl) rfl rfl hl.1 rfl (lv_room (Nat.le_of_ble_eq_true rfl)) dX11_digits_65 ⟨Nat.le_of_ble_eq_true rfl, Nat.le_of_ble_eq_true rfl⟩) (fun ab H locs hh => ?_)
              refine lv_iadd hx hb dX11_digits_68 ?_
              refine lv_bipush (v := (48 : Int32)) hx hb dX11_digits_69 (by decide) ?_
              refine lv_isub hx hb dX11_digits_71 ?_
              refine lv_istore_n (lv' := [(2, .int ((((10 : Int32) * y3) + r15) - (48 : Int32))), (3, .int y4), (0, .ref (gAd G 141)), (1, .int x1)]) hx hb dX11_digits_72 rfl hl (by decide) rfl (fun ls hl => ?_)
              refine lv_aload_n hx hb dX11_digits_73 rfl (lv_at hl 2 rfl) ?_
              refine lv_dup hx hb dX11_digits_74 rfl ?_
              refine am_getI X hh 141 12 15 (by decide) rfl rfl (by decide) hwRX11 (show Cond.fieldLink RX11 231 "PlanetWorkshopModel" "spot" "I" ∈ wsX11_digits by decide +kernel) rfl dX11_digits_75 ?_
              refine lv_iconst (v := (1 : Int32)) hx hb dX11_digits_78 (by decide) ?_
              refine lv_iadd hx hb dX11_digits_79 ?_
              refine am_putI X hh 141 12 15 (by decide) rfl rfl (by decide) hwRX11 tyX11 tyX11_ok nmX11 (show Cond.fieldLink RX11 231 "PlanetWorkshopModel" "spot" "I" ∈ wsX11_digits by decide +kernel) rfl rfl rfl rfl dX11_digits_80 (fun H locs hh => ?_)
              obtain ⟨w16, hw16, hF⟩ := am_wl hF
              have hh := AH_eq hw16 hh
              refine lv_iinc (v := (y4 + (1 : Int32))) (lv' := [(3, .int (y4 + (1 : Int32))), (2, .int ((((10 : Int32) * y3) + r15) - (48 : Int32))), (0, .ref (gAd G 141)), (1, .int x1)]) hx hb dX11_digits_83 hl (k := 1) rfl rfl (by decide) rfl (fun ls hl => ?_)
              refine lv_goto (tgt := 34) hx hb dX11_digits_86 (by decide) ?_
              exact ih ((((10 : Int32) * y3) + r15) - (48 : Int32)) (y4 + (1 : Int32)) w16 ab H locs ls _ hF hh (lv_sub hl [1, 0, 2, 3] rfl) kE
    obtain ⟨z17, hz18, hF⟩ := am_bind hF
    refine hlp34 2000 (0 : Int32) (0 : Int32) w2 ab H locs ls z17 hz18 hh (lv_sub hl [1, 0, 2, 3] rfl) (fun y3 y4 w5 ab H locs ls hz hh hl => ?_)
    · subst hz
      have hF := am_zl hF
      have hF := am_u3 hF
      refine lv_iload_n hx hb dX11_digits_89 rfl (lv_at hl 0 rfl) ?_
      exact am_iret X hr hh (fun t ht => am_qw (mk := oI) hF ht) (Nat.le_of_ble_eq_true rfl) (Nat.le_of_ble_eq_true rfl) dX11_digits_90
  · have hF := am_pos hc1 hF
    refine lv_aload_n hx hb dX11_digits_8 rfl (lv_at hl 0 rfl) ?_
    obtain ⟨r20, hk19, hF⟩ := am_bind hF
    refine am_call X hh (va_runV (As := []) (rest := [.ref (gAd G 141)]) X.1 (c_X11_here l G hk19) (cwV 0 hts gX11_digits_X11_here rfl rfl rfl (by decide +kernel) ⟨Nat.le_of_ble_eq_true rfl, Nat.le_of_ble_eq_true rfl⟩) (am_preV X hh 141 12 (by decide) rfl rfl) rfl rfl hl.1 rfl (lv_room (Nat.le_of_ble_eq_true rfl)) dX11_digits_9 ⟨Nat.le_of_ble_eq_true rfl, Nat.le_of_ble_eq_true rfl⟩) (fun ab H locs hh => ?_)
    refine lv_bipush (v := (48 : Int32)) hx hb dX11_digits_12 (by decide) ?_
    refine lv_bipush (v := (57 : Int32)) hx hb dX11_digits_14 (by decide) ?_
    obtain ⟨r22, hk21, hF⟩ := am_bind hF
    refine am_call X hh (va_runS (As := [.int r20, .int (48 : Int32), .int (57 : Int32)]) (rest := [.ref (gAd G 141)]) X.1 (c_X11_in l G hk21) (va_cwS 3 hts gX11_digits_X11_in rfl rfl rfl (by decide +kernel) ⟨Nat.le_of_ble_eq_true rfl, Nat.le_of_ble_eq_true rfl⟩) (am_preS X hh) rfl rfl hl.1 rfl (lv_room (Nat.le_of_ble_eq_true rfl)) dX11_digits_16 ⟨Nat.le_of_ble_eq_true rfl, Nat.le_of_ble_eq_true rfl⟩) (fun ab H locs hh => ?_)
    refine lv_if_ne (tgt := 26) hx hb dX11_digits_19 (by decide) (fun hc23 => ?_) (fun hc23 => ?_)
    · have hF := am_neg hc23 hF
      refine lv_iconst (v := (0 : Int32)) hx hb dX11_digits_26 (by decide) ?_
      refine am_putI X hh 141 12 16 (by decide) rfl rfl (by decide) hwRX11 tyX11 tyX11_ok nmX11 (show Cond.fieldLink RX11 234 "PlanetWorkshopModel" "isWrong" "Z" ∈ wsX11_digits by decide +kernel) rfl rfl rfl rfl dX11_digits_27 (fun H locs hh => ?_)
      obtain ⟨w24, hw24, hF⟩ := am_wl hF
      have hh := AH_eq hw24 hh
      refine lv_iconst (v := (0 : Int32)) hx hb dX11_digits_30 (by decide) ?_
      refine lv_istore_n (lv' := [(2, .int (0 : Int32)), (0, .ref (gAd G 141)), (1, .int x1)]) hx hb dX11_digits_31 rfl hl (by decide) rfl (fun ls hl => ?_)
      refine lv_iconst (v := (0 : Int32)) hx hb dX11_digits_32 (by decide) ?_
      refine lv_istore_n (lv' := [(3, .int (0 : Int32)), (2, .int (0 : Int32)), (0, .ref (gAd G 141)), (1, .int x1)]) hx hb dX11_digits_33 rfl hl (by decide) rfl (fun ls hl => ?_)
      have hlp34 : ∀ (n : Nat) (y25 : Int32) (y26 : Int32) (w27 : Wd) (ab : Nat) (H : Heap) (locs : List Loc) (ls : Array Slot) (z : (Int32 × Int32 × Wd) ⊕ Unit), p_X11_digits_34 x1 n y25 y26 w27 = some z → AH G s.heap w27 ab H locs → lv_has ls 4 [(2, .int y25), (3, .int y26), (0, .ref (gAd G 141)), (1, .int x1)] → (∀ (y25 : Int32) (y26 : Int32) (w27 : Wd) (ab : Nat) (H : Heap) (locs : List Loc) (ls : Array Slot), z = .inl (y25, y26, w27) → AH G s.heap w27 ab H locs → lv_has ls 4 [(2, .int y25), (3, .int y26), (0, .ref (gAd G 141)), (1, .int x1)] → W p l e ({ frames := 1, cells := 0, slots := 0, locals := 22 } : Room) s m args below meth c H locs 0 0 (MQ below (amQ G (oI r0) w1) args s 0 0 (gA G)) (F0 m 89 ls [])) → W p l e ({ frames := 1, cells := 0, slots := 0, locals := 22 } : Room) s m args below meth c H locs 0 0 (MQ below (amQ G (oI r0) w1) args s 0 0 (gA G)) (F0 m 34 ls []) := by
        intro n
        induction n with
        | zero =>
          intro y25 y26 w27 ab H locs ls z hF
          unfold p_X11_digits_34 at hF
          cases hF
        | succ n ih =>
          intro y25 y26 w27 ab H locs ls z hF hh hl kE
          unfold p_X11_digits_34 at hF
          refine lv_aload_n hx hb dX11_digits_34 rfl (lv_at hl 2 rfl) ?_
          refine am_getI X hh 141 12 16 (by decide) rfl rfl (by decide) hwRX11 (show Cond.fieldLink RX11 234 "PlanetWorkshopModel" "isWrong" "Z" ∈ wsX11_digits by decide +kernel) rfl dX11_digits_35 ?_
          refine lv_if_ne (tgt := 89) hx hb dX11_digits_38 (by decide) (fun hc29 => ?_) (fun hc29 => ?_)
          · have hF := am_neg hc29 hF
            exact kE y25 y26 w27 ab H locs ls (Option.some.inj hF).symm hh (lv_sub hl [0, 1, 2, 3] rfl)
          · have hF := am_pos hc29 hF
            refine lv_iload_n hx hb dX11_digits_41 rfl (lv_at hl 1 rfl) ?_
            refine lv_iload_n hx hb dX11_digits_42 rfl (lv_at hl 3 rfl) ?_
            refine lv_icmp_ge (tgt := 89) hx hb dX11_digits_43 (by decide) (fun hc30 => ?_) (fun hc30 => ?_)
            · have hF := am_pos hc30 hF
              exact kE y25 y26 w27 ab H locs ls (Option.some.inj hF).symm hh (lv_sub hl [0, 1, 2, 3] rfl)
            · have hF := am_neg hc30 hF
              refine lv_aload_n hx hb dX11_digits_46 rfl (lv_at hl 2 rfl) ?_
              obtain ⟨r32, hk31, hF⟩ := am_bind hF
              refine am_call X hh (va_runV (As := []) (rest := []) X.1 (c_X11_here l G hk31) (cwV 0 hts gX11_digits_X11_here rfl rfl rfl (by decide +kernel) ⟨Nat.le_of_ble_eq_true rfl, Nat.le_of_ble_eq_true rfl⟩) (am_preV X hh 141 12 (by decide) rfl rfl) rfl rfl hl.1 rfl (lv_room (Nat.le_of_ble_eq_true rfl)) dX11_digits_47 ⟨Nat.le_of_ble_eq_true rfl, Nat.le_of_ble_eq_true rfl⟩) (fun ab H locs hh => ?_)
              refine lv_bipush (v := (48 : Int32)) hx hb dX11_digits_50 (by decide) ?_
              refine lv_bipush (v := (57 : Int32)) hx hb dX11_digits_52 (by decide) ?_
              obtain ⟨r34, hk33, hF⟩ := am_bind hF
              refine am_call X hh (va_runS (As := [.int r32, .int (48 : Int32), .int (57 : Int32)]) (rest := []) X.1 (c_X11_in l G hk33) (va_cwS 3 hts gX11_digits_X11_in rfl rfl rfl (by decide +kernel) ⟨Nat.le_of_ble_eq_true rfl, Nat.le_of_ble_eq_true rfl⟩) (am_preS X hh) rfl rfl hl.1 rfl (lv_room (Nat.le_of_ble_eq_true rfl)) dX11_digits_54 ⟨Nat.le_of_ble_eq_true rfl, Nat.le_of_ble_eq_true rfl⟩) (fun ab H locs hh => ?_)
              refine lv_if_eq (tgt := 89) hx hb dX11_digits_57 (by decide) (fun hc35 => ?_) (fun hc35 => ?_)
              · have hF := am_pos hc35 hF
                exact kE y25 y26 w27 ab H locs ls (Option.some.inj hF).symm hh (lv_sub hl [0, 1, 2, 3] rfl)
              · have hF := am_neg hc35 hF
                refine lv_bipush (v := (10 : Int32)) hx hb dX11_digits_60 (by decide) ?_
                refine lv_iload_n hx hb dX11_digits_62 rfl (lv_at hl 0 rfl) ?_
                refine lv_imul hx hb dX11_digits_63 ?_
                refine lv_aload_n hx hb dX11_digits_64 rfl (lv_at hl 2 rfl) ?_
                obtain ⟨r37, hk36, hF⟩ := am_bind hF
                refine am_call X hh (va_runV (As := []) (rest := [.int ((10 : Int32) * y25)]) X.1 (c_X11_here l G hk36) (cwV 0 hts gX11_digits_X11_here rfl rfl rfl (by decide +kernel) ⟨Nat.le_of_ble_eq_true rfl, Nat.le_of_ble_eq_true rfl⟩) (am_preV X hh 141 12 (by decide) rfl rfl) rfl rfl hl.1 rfl (lv_room (Nat.le_of_ble_eq_true rfl)) dX11_digits_65 ⟨Nat.le_of_ble_eq_true rfl, Nat.le_of_ble_eq_true rfl⟩) (fun ab H locs hh => ?_)
                refine lv_iadd hx hb dX11_digits_68 ?_
                refine lv_bipush (v := (48 : Int32)) hx hb dX11_digits_69 (by decide) ?_
                refine lv_isub hx hb dX11_digits_71 ?_
                refine lv_istore_n (lv' := [(2, .int ((((10 : Int32) * y25) + r37) - (48 : Int32))), (3, .int y26), (0, .ref (gAd G 141)), (1, .int x1)]) hx hb dX11_digits_72 rfl hl (by decide) rfl (fun ls hl => ?_)
                refine lv_aload_n hx hb dX11_digits_73 rfl (lv_at hl 2 rfl) ?_
                refine lv_dup hx hb dX11_digits_74 rfl ?_
                refine am_getI X hh 141 12 15 (by decide) rfl rfl (by decide) hwRX11 (show Cond.fieldLink RX11 231 "PlanetWorkshopModel" "spot" "I" ∈ wsX11_digits by decide +kernel) rfl dX11_digits_75 ?_
                refine lv_iconst (v := (1 : Int32)) hx hb dX11_digits_78 (by decide) ?_
                refine lv_iadd hx hb dX11_digits_79 ?_
                refine am_putI X hh 141 12 15 (by decide) rfl rfl (by decide) hwRX11 tyX11 tyX11_ok nmX11 (show Cond.fieldLink RX11 231 "PlanetWorkshopModel" "spot" "I" ∈ wsX11_digits by decide +kernel) rfl rfl rfl rfl dX11_digits_80 (fun H locs hh => ?_)
                obtain ⟨w38, hw38, hF⟩ := am_wl hF
                have hh := AH_eq hw38 hh
                refine lv_iinc (v := (y26 + (1 : Int32))) (lv' := [(3, .int (y26 + (1 : Int32))), (2, .int ((((10 : Int32) * y25) + r37) - (48 : Int32))), (0, .ref (gAd G 141)), (1, .int x1)]) hx hb dX11_digits_83 hl (k := 1) rfl rfl (by decide) rfl (fun ls hl => ?_)
                refine lv_goto (tgt := 34) hx hb dX11_digits_86 (by decide) ?_
                exact ih ((((10 : Int32) * y25) + r37) - (48 : Int32)) (y26 + (1 : Int32)) w38 ab H locs ls _ hF hh (lv_sub hl [1, 0, 2, 3] rfl) kE
      obtain ⟨z39, hz40, hF⟩ := am_bind hF
      refine hlp34 2000 (0 : Int32) (0 : Int32) w24 ab H locs ls z39 hz40 hh (lv_sub hl [1, 0, 2, 3] rfl) (fun y25 y26 w27 ab H locs ls hz hh hl => ?_)
      · subst hz
        have hF := am_zl hF
        have hF := am_u3 hF
        refine lv_iload_n hx hb dX11_digits_89 rfl (lv_at hl 0 rfl) ?_
        exact am_iret X hr hh (fun t ht => am_qw (mk := oI) hF ht) (Nat.le_of_ble_eq_true rfl) (Nat.le_of_ble_eq_true rfl) dX11_digits_90
    · have hF := am_pos hc23 hF
      refine lv_iconst (v := (1 : Int32)) hx hb dX11_digits_22 (by decide) ?_
      refine lv_goto (tgt := 27) hx hb dX11_digits_23 (by decide) ?_
      refine am_putI X hh 141 12 16 (by decide) rfl rfl (by decide) hwRX11 tyX11 tyX11_ok nmX11 (show Cond.fieldLink RX11 234 "PlanetWorkshopModel" "isWrong" "Z" ∈ wsX11_digits by decide +kernel) rfl rfl rfl rfl dX11_digits_27 (fun H locs hh => ?_)
      obtain ⟨w41, hw41, hF⟩ := am_wl hF
      have hh := AH_eq hw41 hh
      refine lv_iconst (v := (0 : Int32)) hx hb dX11_digits_30 (by decide) ?_
      refine lv_istore_n (lv' := [(2, .int (0 : Int32)), (0, .ref (gAd G 141)), (1, .int x1)]) hx hb dX11_digits_31 rfl hl (by decide) rfl (fun ls hl => ?_)
      refine lv_iconst (v := (0 : Int32)) hx hb dX11_digits_32 (by decide) ?_
      refine lv_istore_n (lv' := [(3, .int (0 : Int32)), (2, .int (0 : Int32)), (0, .ref (gAd G 141)), (1, .int x1)]) hx hb dX11_digits_33 rfl hl (by decide) rfl (fun ls hl => ?_)
      have hlp34 : ∀ (n : Nat) (y42 : Int32) (y43 : Int32) (w44 : Wd) (ab : Nat) (H : Heap) (locs : List Loc) (ls : Array Slot) (z : (Int32 × Int32 × Wd) ⊕ Unit), p_X11_digits_34 x1 n y42 y43 w44 = some z → AH G s.heap w44 ab H locs → lv_has ls 4 [(2, .int y42), (3, .int y43), (0, .ref (gAd G 141)), (1, .int x1)] → (∀ (y42 : Int32) (y43 : Int32) (w44 : Wd) (ab : Nat) (H : Heap) (locs : List Loc) (ls : Array Slot), z = .inl (y42, y43, w44) → AH G s.heap w44 ab H locs → lv_has ls 4 [(2, .int y42), (3, .int y43), (0, .ref (gAd G 141)), (1, .int x1)] → W p l e ({ frames := 1, cells := 0, slots := 0, locals := 22 } : Room) s m args below meth c H locs 0 0 (MQ below (amQ G (oI r0) w1) args s 0 0 (gA G)) (F0 m 89 ls [])) → W p l e ({ frames := 1, cells := 0, slots := 0, locals := 22 } : Room) s m args below meth c H locs 0 0 (MQ below (amQ G (oI r0) w1) args s 0 0 (gA G)) (F0 m 34 ls []) := by
        intro n
        induction n with
        | zero =>
          intro y42 y43 w44 ab H locs ls z hF
          unfold p_X11_digits_34 at hF
          cases hF
        | succ n ih =>
          intro y42 y43 w44 ab H locs ls z hF hh hl kE
          unfold p_X11_digits_34 at hF
          refine lv_aload_n hx hb dX11_digits_34 rfl (lv_at hl 2 rfl) ?_
          refine am_getI X hh 141 12 16 (by decide) rfl rfl (by decide) hwRX11 (show Cond.fieldLink RX11 234 "PlanetWorkshopModel" "isWrong" "Z" ∈ wsX11_digits by decide +kernel) rfl dX11_digits_35 ?_
          refine lv_if_ne (tgt := 89) hx hb dX11_digits_38 (by decide) (fun hc46 => ?_) (fun hc46 => ?_)
          · have hF := am_neg hc46 hF
            exact kE y42 y43 w44 ab H locs ls (Option.some.inj hF).symm hh (lv_sub hl [0, 1, 2, 3] rfl)
          · have hF := am_pos hc46 hF
            refine lv_iload_n hx hb dX11_digits_41 rfl (lv_at hl 1 rfl) ?_
            refine lv_iload_n hx hb dX11_digits_42 rfl (lv_at hl 3 rfl) ?_
            refine lv_icmp_ge (tgt := 89) hx hb dX11_digits_43 (by decide) (fun hc47 => ?_) (fun hc47 => ?_)
            · have hF := am_pos hc47 hF
              exact kE y42 y43 w44 ab H locs ls (Option.some.inj hF).symm hh (lv_sub hl [0, 1, 2, 3] rfl)
            · have hF := am_neg hc47 hF
              refine lv_aload_n hx hb dX11_digits_46 rfl (lv_at hl 2 rfl) ?_
              obtain ⟨r49, hk48, hF⟩ := am_bind hF
              refine am_call X hh (va_runV (As := []) (rest := []) X.1 (c_X11_here l G hk48) (cwV 0 hts gX11_digits_X11_here rfl rfl rfl (by decide +kernel) ⟨Nat.le_of_ble_eq_true rfl, Nat.le_of_ble_eq_true rfl⟩) (am_preV X hh 141 12 (by decide) rfl rfl) rfl rfl hl.1 rfl (lv_room (Nat.le_of_ble_eq_true rfl)) dX11_digits_47 ⟨Nat.le_of_ble_eq_true rfl, Nat.le_of_ble_eq_true rfl⟩) (fun ab H locs hh => ?_)
              refine lv_bipush (v := (48 : Int32)) hx hb dX11_digits_50 (by decide) ?_
              refine lv_bipush (v := (57 : Int32)) hx hb dX11_digits_52 (by decide) ?_
              obtain ⟨r51, hk50, hF⟩ := am_bind hF
              refine am_call X hh (va_runS (As := [.int r49, .int (48 : Int32), .int (57 : Int32)]) (rest := []) X.1 (c_X11_in l G hk50) (va_cwS 3 hts gX11_digits_X11_in rfl rfl rfl (by decide +kernel) ⟨Nat.le_of_ble_eq_true rfl, Nat.le_of_ble_eq_true rfl⟩) (am_preS X hh) rfl rfl hl.1 rfl (lv_room (Nat.le_of_ble_eq_true rfl)) dX11_digits_54 ⟨Nat.le_of_ble_eq_true rfl, Nat.le_of_ble_eq_true rfl⟩) (fun ab H locs hh => ?_)
              refine lv_if_eq (tgt := 89) hx hb dX11_digits_57 (by decide) (fun hc52 => ?_) (fun hc52 => ?_)
              · have hF := am_pos hc52 hF
                exact kE y42 y43 w44 ab H locs ls (Option.some.inj hF).symm hh (lv_sub hl [0, 1, 2, 3] rfl)
              · have hF := am_neg hc52 hF
                refine lv_bipush (v := (10 : Int32)) hx hb dX11_digits_60 (by decide) ?_
                refine lv_iload_n hx hb dX11_digits_62 rfl (lv_at hl 0 rfl) ?_
                refine lv_imul hx hb dX11_digits_63 ?_
                refine lv_aload_n hx hb dX11_digits_64 rfl (lv_at hl 2 rfl) ?_
                obtain ⟨r54, hk53, hF⟩ := am_bind hF
                refine am_call X hh (va_runV (As := []) (rest := [.int ((10 : Int32) * y42)]) X.1 (c_X11_here l G hk53) (cwV 0 hts gX11_digits_X11_here rfl rfl rfl (by decide +kernel) ⟨Nat.le_of_ble_eq_true rfl, Nat.le_of_ble_eq_true rfl⟩) (am_preV X hh 141 12 (by decide) rfl rfl) rfl rfl hl.1 rfl (lv_room (Nat.le_of_ble_eq_true rfl)) dX11_digits_65 ⟨Nat.le_of_ble_eq_true rfl, Nat.le_of_ble_eq_true rfl⟩) (fun ab H locs hh => ?_)
                refine lv_iadd hx hb dX11_digits_68 ?_
                refine lv_bipush (v := (48 : Int32)) hx hb dX11_digits_69 (by decide) ?_
                refine lv_isub hx hb dX11_digits_71 ?_
                refine lv_istore_n (lv' := [(2, .int ((((10 : Int32) * y42) + r54) - (48 : Int32))), (3, .int y43), (0, .ref (gAd G 141)), (1, .int x1)]) hx hb dX11_digits_72 rfl hl (by decide) rfl (fun ls hl => ?_)
                refine lv_aload_n hx hb dX11_digits_73 rfl (lv_at hl 2 rfl) ?_
                refine lv_dup hx hb dX11_digits_74 rfl ?_
                refine am_getI X hh 141 12 15 (by decide) rfl rfl (by decide) hwRX11 (show Cond.fieldLink RX11 231 "PlanetWorkshopModel" "spot" "I" ∈ wsX11_digits by decide +kernel) rfl dX11_digits_75 ?_
                refine lv_iconst (v := (1 : Int32)) hx hb dX11_digits_78 (by decide) ?_
                refine lv_iadd hx hb dX11_digits_79 ?_
                refine am_putI X hh 141 12 15 (by decide) rfl rfl (by decide) hwRX11 tyX11 tyX11_ok nmX11 (show Cond.fieldLink RX11 231 "PlanetWorkshopModel" "spot" "I" ∈ wsX11_digits by decide +kernel) rfl rfl rfl rfl dX11_digits_80 (fun H locs hh => ?_)
                obtain ⟨w55, hw55, hF⟩ := am_wl hF
                have hh := AH_eq hw55 hh
                refine lv_iinc (v := (y43 + (1 : Int32))) (lv' := [(3, .int (y43 + (1 : Int32))), (2, .int ((((10 : Int32) * y42) + r54) - (48 : Int32))), (0, .ref (gAd G 141)), (1, .int x1)]) hx hb dX11_digits_83 hl (k := 1) rfl rfl (by decide) rfl (fun ls hl => ?_)
                refine lv_goto (tgt := 34) hx hb dX11_digits_86 (by decide) ?_
                exact ih ((((10 : Int32) * y42) + r54) - (48 : Int32)) (y43 + (1 : Int32)) w55 ab H locs ls _ hF hh (lv_sub hl [1, 0, 2, 3] rfl) kE
      obtain ⟨z56, hz57, hF⟩ := am_bind hF
      refine hlp34 2000 (0 : Int32) (0 : Int32) w41 ab H locs ls z56 hz57 hh (lv_sub hl [1, 0, 2, 3] rfl) (fun y42 y43 w44 ab H locs ls hz hh hl => ?_)
      · subst hz
        have hF := am_zl hF
        have hF := am_u3 hF
        refine lv_iload_n hx hb dX11_digits_89 rfl (lv_at hl 0 rfl) ?_
        exact am_iret X hr hh (fun t ht => am_qw (mk := oI) hF ht) (Nat.le_of_ble_eq_true rfl) (Nat.le_of_ble_eq_true rfl) dX11_digits_90
set_option maxHeartbeats 4000000 in
set_option maxRecDepth 100000 in
theorem c_X11_digitsAfter (l : Launch) (G : GG) {w : Wd} {x1 : Int32} {r0 : Int32} {w1 : Wd} (hF : f_X11_digitsAfter w x1 = some (r0, w1)) : Met l yX11_digitsAfter wsX11_digitsAfter ({ frames := 2, cells := 0, slots := 0, locals := 45 } : Room) (va_Pc [.ref (gAd G 141), .int x1] (Rel G w)) (amQ G (oI r0) w1) 0 0 (gA G) := by
  refine am_met (own := RX11) (cc := cX11_digitsAfter) (maxL := 2) (ret := (some .int)) (by decide +kernel) rfl rfl (Nat.le_of_ble_eq_true rfl) ?_
  intro p e s m args below meth c ab H locs ls X hr hh hl
  have hx := X.1.1; have hb := X.1.2.1; have hml := X.1.2.2.1; have hown := X.1.2.2.2.1; have hts := X.1.2.2.2.2
  have hl : lv_has ls 2 [(0, .ref (gAd G 141)), (1, .int x1)] := hl
  unfold f_X11_digitsAfter at hF
  refine lv_aload_n hx hb dX11_digitsAfter_0 rfl (lv_at hl 0 rfl) ?_
  refine lv_bipush (v := (32 : Int32)) hx hb dX11_digitsAfter_1 (by decide) ?_
  obtain ⟨w3, hk1, hF⟩ := am_bind hF
  refine am_call X hh (va_runV (As := [.int (32 : Int32)]) (rest := []) X.1 (c_X11_needs l G hk1) (cwV 1 hts gX11_digitsAfter_X11_needs rfl rfl rfl (by decide +kernel) ⟨Nat.le_of_ble_eq_true rfl, Nat.le_of_ble_eq_true rfl⟩) (am_preV X hh 141 12 (by decide) rfl rfl) rfl rfl hl.1 rfl (lv_room (Nat.le_of_ble_eq_true rfl)) dX11_digitsAfter_3 ⟨Nat.le_of_ble_eq_true rfl, Nat.le_of_ble_eq_true rfl⟩) (fun ab H locs hh => ?_)
  refine lv_aload_n hx hb dX11_digitsAfter_6 rfl (lv_at hl 0 rfl) ?_
  refine lv_iload_n hx hb dX11_digitsAfter_7 rfl (lv_at hl 1 rfl) ?_
  obtain ⟨⟨r5, w6⟩, hk4, hF⟩ := am_bind hF
  have hF := am_u2 hF
  refine am_call X hh (va_runV (As := [.int x1]) (rest := []) X.1 (c_X11_digits l G hk4) (cwV 1 hts gX11_digitsAfter_X11_digits rfl rfl rfl (by decide +kernel) ⟨Nat.le_of_ble_eq_true rfl, Nat.le_of_ble_eq_true rfl⟩) (am_preV X hh 141 12 (by decide) rfl rfl) rfl rfl hl.1 rfl (lv_room (Nat.le_of_ble_eq_true rfl)) dX11_digitsAfter_8 ⟨Nat.le_of_ble_eq_true rfl, Nat.le_of_ble_eq_true rfl⟩) (fun ab H locs hh => ?_)
  exact am_iret X hr hh (fun t ht => am_qw (mk := oI) hF ht) (Nat.le_of_ble_eq_true rfl) (Nat.le_of_ble_eq_true rfl) dX11_digitsAfter_11
set_option maxHeartbeats 4000000 in
set_option maxRecDepth 100000 in
theorem c_X11_parsesTwo (l : Launch) (G : GG) {w : Wd} {x1 : Int32} {w1 : Wd} (hF : f_X11_parsesTwo w x1 = some w1) : Met l yX11_parsesTwo wsX11_parsesTwo ({ frames := 3, cells := 0, slots := 0, locals := 66 } : Room) (va_Pc [.ref (gAd G 141), .int x1] (Rel G w)) (amQ G none w1) 0 0 (gA G) := by
  refine am_met (own := RX11) (cc := cX11_parsesTwo) (maxL := 2) (ret := none) (by decide +kernel) rfl rfl (Nat.le_of_ble_eq_true rfl) ?_
  intro p e s m args below meth c ab H locs ls X hr hh hl
  have hx := X.1.1; have hb := X.1.2.1; have hml := X.1.2.2.1; have hown := X.1.2.2.2.1; have hts := X.1.2.2.2.2
  have hl : lv_has ls 2 [(0, .ref (gAd G 141)), (1, .int x1)] := hl
  have hwRX11 : ∀ z ∈ u_ws RX11 TX11 18, z ∈ wsX11_parsesTwo := by decide +kernel
  unfold f_X11_parsesTwo at hF
  refine lv_aload_n hx hb dX11_parsesTwo_0 rfl (lv_at hl 0 rfl) ?_
  refine am_getR X hh 141 12 17 150 (by decide) rfl rfl (by decide) hwRX11 (show Cond.fieldLink RX11 43 "PlanetWorkshopModel" "parsed" "[I" ∈ wsX11_parsesTwo by decide +kernel) rfl dX11_parsesTwo_1 ?_
  refine lv_iload_n hx hb dX11_parsesTwo_4 rfl (lv_at hl 1 rfl) ?_
  refine lv_iconst (v := (1 : Int32)) hx hb dX11_parsesTwo_5 (by decide) ?_
  refine lv_iadd hx hb dX11_parsesTwo_6 ?_
  refine lv_aload_n hx hb dX11_parsesTwo_7 rfl (lv_at hl 0 rfl) ?_
  refine lv_iconst (v := (1 : Int32)) hx hb dX11_parsesTwo_8 (by decide) ?_
  obtain ⟨⟨r2, w3⟩, hk1, hF⟩ := am_bind hF
  have hF := am_u2 hF
  refine am_call X hh (va_runV (As := [.int (1 : Int32)]) (rest := [.int (x1 + (1 : Int32)), .ref (gAd G 150)]) X.1 (c_X11_digitsAfter l G hk1) (cwV 1 hts gX11_parsesTwo_X11_digitsAfter rfl rfl rfl (by decide +kernel) ⟨Nat.le_of_ble_eq_true rfl, Nat.le_of_ble_eq_true rfl⟩) (am_preV X hh 141 12 (by decide) rfl rfl) rfl rfl hl.1 rfl (lv_room (Nat.le_of_ble_eq_true rfl)) dX11_parsesTwo_9 ⟨Nat.le_of_ble_eq_true rfl, Nat.le_of_ble_eq_true rfl⟩) (fun ab H locs hh => ?_)
  obtain ⟨hq5, hF⟩ := am_ifR hF
  refine am_iast X hh 150 (by decide) rfl hq5 dX11_parsesTwo_12 (fun H locs hh => ?_)
  obtain ⟨w6, hw6, hF⟩ := am_wl hF
  have hh := AH_eq hw6 hh
  refine lv_aload_n hx hb dX11_parsesTwo_13 rfl (lv_at hl 0 rfl) ?_
  refine am_getR X hh 141 12 17 150 (by decide) rfl rfl (by decide) hwRX11 (show Cond.fieldLink RX11 43 "PlanetWorkshopModel" "parsed" "[I" ∈ wsX11_parsesTwo by decide +kernel) rfl dX11_parsesTwo_14 ?_
  refine lv_iload_n hx hb dX11_parsesTwo_17 rfl (lv_at hl 1 rfl) ?_
  refine lv_iconst (v := (2 : Int32)) hx hb dX11_parsesTwo_18 (by decide) ?_
  refine lv_iadd hx hb dX11_parsesTwo_19 ?_
  refine lv_aload_n hx hb dX11_parsesTwo_20 rfl (lv_at hl 0 rfl) ?_
  refine lv_iconst (v := (1 : Int32)) hx hb dX11_parsesTwo_21 (by decide) ?_
  obtain ⟨⟨r8, w9⟩, hk7, hF⟩ := am_bind hF
  have hF := am_u2 hF
  refine am_call X hh (va_runV (As := [.int (1 : Int32)]) (rest := [.int (x1 + (2 : Int32)), .ref (gAd G 150)]) X.1 (c_X11_digits l G hk7) (cwV 1 hts gX11_parsesTwo_X11_digits rfl rfl rfl (by decide +kernel) ⟨Nat.le_of_ble_eq_true rfl, Nat.le_of_ble_eq_true rfl⟩) (am_preV X hh 141 12 (by decide) rfl rfl) rfl rfl hl.1 rfl (lv_room (Nat.le_of_ble_eq_true rfl)) dX11_parsesTwo_22 ⟨Nat.le_of_ble_eq_true rfl, Nat.le_of_ble_eq_true rfl⟩) (fun ab H locs hh => ?_)
  obtain ⟨hq11, hF⟩ := am_ifR hF
  refine am_iast X hh 150 (by decide) rfl hq11 dX11_parsesTwo_25 (fun H locs hh => ?_)
  obtain ⟨w12, hw12, hF⟩ := am_wl hF
  have hh := AH_eq hw12 hh
  exact am_vret X hr hh (fun t ht => am_qv hF ht) (Nat.le_of_ble_eq_true rfl) (Nat.le_of_ble_eq_true rfl) dX11_parsesTwo_26
set_option maxHeartbeats 4000000 in
set_option maxRecDepth 100000 in
theorem c_X11_parsesValue (l : Launch) (G : GG) {w : Wd} {x1 : Int32} {w1 : Wd} (hF : f_X11_parsesValue w x1 = some w1) : Met l yX11_parsesValue wsX11_parsesValue ({ frames := 3, cells := 0, slots := 0, locals := 66 } : Room) (va_Pc [.ref (gAd G 141), .int x1] (Rel G w)) (amQ G none w1) 0 0 (gA G) := by
  refine am_met (own := RX11) (cc := cX11_parsesValue) (maxL := 2) (ret := none) (by decide +kernel) rfl rfl (Nat.le_of_ble_eq_true rfl) ?_
  intro p e s m args below meth c ab H locs ls X hr hh hl
  have hx := X.1.1; have hb := X.1.2.1; have hml := X.1.2.2.1; have hown := X.1.2.2.2.1; have hts := X.1.2.2.2.2
  have hl : lv_has ls 2 [(0, .ref (gAd G 141)), (1, .int x1)] := hl
  have hwRX11 : ∀ z ∈ u_ws RX11 TX11 18, z ∈ wsX11_parsesValue := by decide +kernel
  unfold f_X11_parsesValue at hF
  refine lv_aload_n hx hb dX11_parsesValue_0 rfl (lv_at hl 0 rfl) ?_
  refine am_getR X hh 141 12 17 150 (by decide) rfl rfl (by decide) hwRX11 (show Cond.fieldLink RX11 43 "PlanetWorkshopModel" "parsed" "[I" ∈ wsX11_parsesValue by decide +kernel) rfl dX11_parsesValue_1 ?_
  refine lv_iload_n hx hb dX11_parsesValue_4 rfl (lv_at hl 1 rfl) ?_
  refine lv_iconst (v := (1 : Int32)) hx hb dX11_parsesValue_5 (by decide) ?_
  refine lv_iadd hx hb dX11_parsesValue_6 ?_
  refine lv_aload_n hx hb dX11_parsesValue_7 rfl (lv_at hl 0 rfl) ?_
  refine lv_iconst (v := (1 : Int32)) hx hb dX11_parsesValue_8 (by decide) ?_
  obtain ⟨⟨r2, w3⟩, hk1, hF⟩ := am_bind hF
  have hF := am_u2 hF
  refine am_call X hh (va_runV (As := [.int (1 : Int32)]) (rest := [.int (x1 + (1 : Int32)), .ref (gAd G 150)]) X.1 (c_X11_digitsAfter l G hk1) (cwV 1 hts gX11_parsesValue_X11_digitsAfter rfl rfl rfl (by decide +kernel) ⟨Nat.le_of_ble_eq_true rfl, Nat.le_of_ble_eq_true rfl⟩) (am_preV X hh 141 12 (by decide) rfl rfl) rfl rfl hl.1 rfl (lv_room (Nat.le_of_ble_eq_true rfl)) dX11_parsesValue_9 ⟨Nat.le_of_ble_eq_true rfl, Nat.le_of_ble_eq_true rfl⟩) (fun ab H locs hh => ?_)
  obtain ⟨hq5, hF⟩ := am_ifR hF
  refine am_iast X hh 150 (by decide) rfl hq5 dX11_parsesValue_12 (fun H locs hh => ?_)
  obtain ⟨w6, hw6, hF⟩ := am_wl hF
  have hh := AH_eq hw6 hh
  refine lv_aload_n hx hb dX11_parsesValue_13 rfl (lv_at hl 0 rfl) ?_
  refine am_getR X hh 141 12 17 150 (by decide) rfl rfl (by decide) hwRX11 (show Cond.fieldLink RX11 43 "PlanetWorkshopModel" "parsed" "[I" ∈ wsX11_parsesValue by decide +kernel) rfl dX11_parsesValue_14 ?_
  refine lv_iload_n hx hb dX11_parsesValue_17 rfl (lv_at hl 1 rfl) ?_
  refine lv_iconst (v := (2 : Int32)) hx hb dX11_parsesValue_18 (by decide) ?_
  refine lv_iadd hx hb dX11_parsesValue_19 ?_
  refine lv_aload_n hx hb dX11_parsesValue_20 rfl (lv_at hl 0 rfl) ?_
  refine lv_iconst (v := (3 : Int32)) hx hb dX11_parsesValue_21 (by decide) ?_
  obtain ⟨⟨r8, w9⟩, hk7, hF⟩ := am_bind hF
  have hF := am_u2 hF
  refine am_call X hh (va_runV (As := [.int (3 : Int32)]) (rest := [.int (x1 + (2 : Int32)), .ref (gAd G 150)]) X.1 (c_X11_digitsAfter l G hk7) (cwV 1 hts gX11_parsesValue_X11_digitsAfter rfl rfl rfl (by decide +kernel) ⟨Nat.le_of_ble_eq_true rfl, Nat.le_of_ble_eq_true rfl⟩) (am_preV X hh 141 12 (by decide) rfl rfl) rfl rfl hl.1 rfl (lv_room (Nat.le_of_ble_eq_true rfl)) dX11_parsesValue_22 ⟨Nat.le_of_ble_eq_true rfl, Nat.le_of_ble_eq_true rfl⟩) (fun ab H locs hh => ?_)
  obtain ⟨hq11, hF⟩ := am_ifR hF
  refine am_iast X hh 150 (by decide) rfl hq11 dX11_parsesValue_25 (fun H locs hh => ?_)
  obtain ⟨w12, hw12, hF⟩ := am_wl hF
  have hh := AH_eq hw12 hh
  exact am_vret X hr hh (fun t ht => am_qv hF ht) (Nat.le_of_ble_eq_true rfl) (Nat.le_of_ble_eq_true rfl) dX11_parsesValue_26
set_option maxHeartbeats 4000000 in
set_option maxRecDepth 100000 in
theorem c_X11_parsesR (l : Launch) (G : GG) {w : Wd} {x1 : Int32} {w1 : Wd} (hF : f_X11_parsesR w x1 = some w1) : Met l yX11_parsesR wsX11_parsesR ({ frames := 4, cells := 0, slots := 0, locals := 87 } : Room) (va_Pc [.ref (gAd G 141), .int x1] (Rel G w)) (amQ G none w1) 0 0 (gA G) := by
  refine am_met (own := RX11) (cc := cX11_parsesR) (maxL := 2) (ret := none) (by decide +kernel) rfl rfl (Nat.le_of_ble_eq_true rfl) ?_
  intro p e s m args below meth c ab H locs ls X hr hh hl
  have hx := X.1.1; have hb := X.1.2.1; have hml := X.1.2.2.1; have hown := X.1.2.2.2.1; have hts := X.1.2.2.2.2
  have hl : lv_has ls 2 [(0, .ref (gAd G 141)), (1, .int x1)] := hl
  have hwRX11 : ∀ z ∈ u_ws RX11 TX11 18, z ∈ wsX11_parsesR := by decide +kernel
  unfold f_X11_parsesR at hF
  refine lv_aload_n hx hb dX11_parsesR_0 rfl (lv_at hl 0 rfl) ?_
  obtain ⟨r2, hk1, hF⟩ := am_bind hF
  refine am_call X hh (va_runV (As := []) (rest := []) X.1 (c_X11_here l G hk1) (cwV 0 hts gX11_parsesR_X11_here rfl rfl rfl (by decide +kernel) ⟨Nat.le_of_ble_eq_true rfl, Nat.le_of_ble_eq_true rfl⟩) (am_preV X hh 141 12 (by decide) rfl rfl) rfl rfl hl.1 rfl (lv_room (Nat.le_of_ble_eq_true rfl)) dX11_parsesR_1 ⟨Nat.le_of_ble_eq_true rfl, Nat.le_of_ble_eq_true rfl⟩) (fun ab H locs hh => ?_)
  refine lv_bipush (v := (117 : Int32)) hx hb dX11_parsesR_4 (by decide) ?_
  refine lv_icmp_ne (tgt := 37) hx hb dX11_parsesR_6 (by decide) (fun hc3 => ?_) (fun hc3 => ?_)
  · have hF := am_neg hc3 hF
    refine lv_aload_n hx hb dX11_parsesR_37 rfl (lv_at hl 0 rfl) ?_
    obtain ⟨r5, hk4, hF⟩ := am_bind hF
    refine am_call X hh (va_runV (As := []) (rest := []) X.1 (c_X11_here l G hk4) (cwV 0 hts gX11_parsesR_X11_here rfl rfl rfl (by decide +kernel) ⟨Nat.le_of_ble_eq_true rfl, Nat.le_of_ble_eq_true rfl⟩) (am_preV X hh 141 12 (by decide) rfl rfl) rfl rfl hl.1 rfl (lv_room (Nat.le_of_ble_eq_true rfl)) dX11_parsesR_38 ⟨Nat.le_of_ble_eq_true rfl, Nat.le_of_ble_eq_true rfl⟩) (fun ab H locs hh => ?_)
    refine lv_bipush (v := (97 : Int32)) hx hb dX11_parsesR_41 (by decide) ?_
    refine lv_icmp_ne (tgt := 90) hx hb dX11_parsesR_43 (by decide) (fun hc6 => ?_) (fun hc6 => ?_)
    · have hF := am_neg hc6 hF
      refine lv_aload_n hx hb dX11_parsesR_90 rfl (lv_at hl 0 rfl) ?_
      refine lv_bipush (v := (101 : Int32)) hx hb dX11_parsesR_91 (by decide) ?_
      refine lv_bipush (v := (118 : Int32)) hx hb dX11_parsesR_93 (by decide) ?_
      refine lv_bipush (v := (101 : Int32)) hx hb dX11_parsesR_95 (by decide) ?_
      obtain ⟨w9, hk7, hF⟩ := am_bind hF
      refine am_call X hh (va_runV (As := [.int (101 : Int32), .int (118 : Int32), .int (101 : Int32)]) (rest := []) X.1 (c_X11_needsThree l G hk7) (cwV 3 hts gX11_parsesR_X11_needsThree rfl rfl rfl (by decide +kernel) ⟨Nat.le_of_ble_eq_true rfl, Nat.le_of_ble_eq_true rfl⟩) (am_preV X hh 141 12 (by decide) rfl rfl) rfl rfl hl.1 rfl (lv_room (Nat.le_of_ble_eq_true rfl)) dX11_parsesR_97 ⟨Nat.le_of_ble_eq_true rfl, Nat.le_of_ble_eq_true rfl⟩) (fun ab H locs hh => ?_)
      refine lv_aload_n hx hb dX11_parsesR_100 rfl (lv_at hl 0 rfl) ?_
      refine lv_bipush (v := (114 : Int32)) hx hb dX11_parsesR_101 (by decide) ?_
      refine lv_bipush (v := (115 : Int32)) hx hb dX11_parsesR_103 (by decide) ?_
      refine lv_bipush (v := (101 : Int32)) hx hb dX11_parsesR_105 (by decide) ?_
      obtain ⟨w12, hk10, hF⟩ := am_bind hF
      refine am_call X hh (va_runV (As := [.int (114 : Int32), .int (115 : Int32), .int (101 : Int32)]) (rest := []) X.1 (c_X11_needsThree l G hk10) (cwV 3 hts gX11_parsesR_X11_needsThree rfl rfl rfl (by decide +kernel) ⟨Nat.le_of_ble_eq_true rfl, Nat.le_of_ble_eq_true rfl⟩) (am_preV X hh 141 12 (by decide) rfl rfl) rfl rfl hl.1 rfl (lv_room (Nat.le_of_ble_eq_true rfl)) dX11_parsesR_107 ⟨Nat.le_of_ble_eq_true rfl, Nat.le_of_ble_eq_true rfl⟩) (fun ab H locs hh => ?_)
      refine lv_aload_n hx hb dX11_parsesR_110 rfl (lv_at hl 0 rfl) ?_
      refine am_getR X hh 141 12 17 150 (by decide) rfl rfl (by decide) hwRX11 (show Cond.fieldLink RX11 43 "PlanetWorkshopModel" "parsed" "[I" ∈ wsX11_parsesR by decide +kernel) rfl dX11_parsesR_111 ?_
      refine lv_iload_n hx hb dX11_parsesR_114 rfl (lv_at hl 1 rfl) ?_
      refine lv_iconst (v := (1 : Int32)) hx hb dX11_parsesR_115 (by decide) ?_
      refine lv_iadd hx hb dX11_parsesR_116 ?_
      refine lv_aload_n hx hb dX11_parsesR_117 rfl (lv_at hl 0 rfl) ?_
      refine lv_iconst (v := (1 : Int32)) hx hb dX11_parsesR_118 (by decide) ?_
      obtain ⟨⟨r14, w15⟩, hk13, hF⟩ := am_bind hF
      have hF := am_u2 hF
      refine am_call X hh (va_runV (As := [.int (1 : Int32)]) (rest := [.int (x1 + (1 : Int32)), .ref (gAd G 150)]) X.1 (c_X11_digitsAfter l G hk13) (cwV 1 hts gX11_parsesR_X11_digitsAfter rfl rfl rfl (by decide +kernel) ⟨Nat.le_of_ble_eq_true rfl, Nat.le_of_ble_eq_true rfl⟩) (am_preV X hh 141 12 (by decide) rfl rfl) rfl rfl hl.1 rfl (lv_room (Nat.le_of_ble_eq_true rfl)) dX11_parsesR_119 ⟨Nat.le_of_ble_eq_true rfl, Nat.le_of_ble_eq_true rfl⟩) (fun ab H locs hh => ?_)
      obtain ⟨hq17, hF⟩ := am_ifR hF
      refine am_iast X hh 150 (by decide) rfl hq17 dX11_parsesR_122 (fun H locs hh => ?_)
      obtain ⟨w18, hw18, hF⟩ := am_wl hF
      have hh := AH_eq hw18 hh
      exact am_vret X hr hh (fun t ht => am_qv hF ht) (Nat.le_of_ble_eq_true rfl) (Nat.le_of_ble_eq_true rfl) dX11_parsesR_123
    · have hF := am_pos hc6 hF
      refine lv_aload_n hx hb dX11_parsesR_46 rfl (lv_at hl 0 rfl) ?_
      refine am_getR X hh 141 12 17 150 (by decide) rfl rfl (by decide) hwRX11 (show Cond.fieldLink RX11 43 "PlanetWorkshopModel" "parsed" "[I" ∈ wsX11_parsesR by decide +kernel) rfl dX11_parsesR_47 ?_
      refine lv_iload_n hx hb dX11_parsesR_50 rfl (lv_at hl 1 rfl) ?_
      refine lv_bipush (v := (116 : Int32)) hx hb dX11_parsesR_51 (by decide) ?_
      obtain ⟨hq19, hF⟩ := am_ifR hF
      refine am_iast X hh 150 (by decide) rfl hq19 dX11_parsesR_53 (fun H locs hh => ?_)
      obtain ⟨w20, hw20, hF⟩ := am_wl hF
      have hh := AH_eq hw20 hh
      refine lv_aload_n hx hb dX11_parsesR_54 rfl (lv_at hl 0 rfl) ?_
      refine lv_bipush (v := (97 : Int32)) hx hb dX11_parsesR_55 (by decide) ?_
      refine lv_bipush (v := (116 : Int32)) hx hb dX11_parsesR_57 (by decide) ?_
      refine lv_bipush (v := (99 : Int32)) hx hb dX11_parsesR_59 (by decide) ?_
      obtain ⟨w23, hk21, hF⟩ := am_bind hF
      refine am_call X hh (va_runV (As := [.int (97 : Int32), .int (116 : Int32), .int (99 : Int32)]) (rest := []) X.1 (c_X11_needsThree l G hk21) (cwV 3 hts gX11_parsesR_X11_needsThree rfl rfl rfl (by decide +kernel) ⟨Nat.le_of_ble_eq_true rfl, Nat.le_of_ble_eq_true rfl⟩) (am_preV X hh 141 12 (by decide) rfl rfl) rfl rfl hl.1 rfl (lv_room (Nat.le_of_ble_eq_true rfl)) dX11_parsesR_61 ⟨Nat.le_of_ble_eq_true rfl, Nat.le_of_ble_eq_true rfl⟩) (fun ab H locs hh => ?_)
      refine lv_aload_n hx hb dX11_parsesR_64 rfl (lv_at hl 0 rfl) ?_
      refine lv_bipush (v := (104 : Int32)) hx hb dX11_parsesR_65 (by decide) ?_
      refine lv_bipush (v := (101 : Int32)) hx hb dX11_parsesR_67 (by decide) ?_
      refine lv_bipush (v := (116 : Int32)) hx hb dX11_parsesR_69 (by decide) ?_
      obtain ⟨w26, hk24, hF⟩ := am_bind hF
      refine am_call X hh (va_runV (As := [.int (104 : Int32), .int (101 : Int32), .int (116 : Int32)]) (rest := []) X.1 (c_X11_needsThree l G hk24) (cwV 3 hts gX11_parsesR_X11_needsThree rfl rfl rfl (by decide +kernel) ⟨Nat.le_of_ble_eq_true rfl, Nat.le_of_ble_eq_true rfl⟩) (am_preV X hh 141 12 (by decide) rfl rfl) rfl rfl hl.1 rfl (lv_room (Nat.le_of_ble_eq_true rfl)) dX11_parsesR_71 ⟨Nat.le_of_ble_eq_true rfl, Nat.le_of_ble_eq_true rfl⟩) (fun ab H locs hh => ?_)
      refine lv_aload_n hx hb dX11_parsesR_74 rfl (lv_at hl 0 rfl) ?_
      refine am_getR X hh 141 12 17 150 (by decide) rfl rfl (by decide) hwRX11 (show Cond.fieldLink RX11 43 "PlanetWorkshopModel" "parsed" "[I" ∈ wsX11_parsesR by decide +kernel) rfl dX11_parsesR_75 ?_
      refine lv_iload_n hx hb dX11_parsesR_78 rfl (lv_at hl 1 rfl) ?_
      refine lv_iconst (v := (1 : Int32)) hx hb dX11_parsesR_79 (by decide) ?_
      refine lv_iadd hx hb dX11_parsesR_80 ?_
      refine lv_aload_n hx hb dX11_parsesR_81 rfl (lv_at hl 0 rfl) ?_
      refine lv_iconst (v := (1 : Int32)) hx hb dX11_parsesR_82 (by decide) ?_
      obtain ⟨⟨r28, w29⟩, hk27, hF⟩ := am_bind hF
      have hF := am_u2 hF
      refine am_call X hh (va_runV (As := [.int (1 : Int32)]) (rest := [.int (x1 + (1 : Int32)), .ref (gAd G 150)]) X.1 (c_X11_digitsAfter l G hk27) (cwV 1 hts gX11_parsesR_X11_digitsAfter rfl rfl rfl (by decide +kernel) ⟨Nat.le_of_ble_eq_true rfl, Nat.le_of_ble_eq_true rfl⟩) (am_preV X hh 141 12 (by decide) rfl rfl) rfl rfl hl.1 rfl (lv_room (Nat.le_of_ble_eq_true rfl)) dX11_parsesR_83 ⟨Nat.le_of_ble_eq_true rfl, Nat.le_of_ble_eq_true rfl⟩) (fun ab H locs hh => ?_)
      obtain ⟨hq31, hF⟩ := am_ifR hF
      refine am_iast X hh 150 (by decide) rfl hq31 dX11_parsesR_86 (fun H locs hh => ?_)
      obtain ⟨w32, hw32, hF⟩ := am_wl hF
      have hh := AH_eq hw32 hh
      refine lv_goto (tgt := 123) hx hb dX11_parsesR_87 (by decide) ?_
      exact am_vret X hr hh (fun t ht => am_qv hF ht) (Nat.le_of_ble_eq_true rfl) (Nat.le_of_ble_eq_true rfl) dX11_parsesR_123
  · have hF := am_pos hc3 hF
    refine lv_aload_n hx hb dX11_parsesR_9 rfl (lv_at hl 0 rfl) ?_
    refine am_getR X hh 141 12 17 150 (by decide) rfl rfl (by decide) hwRX11 (show Cond.fieldLink RX11 43 "PlanetWorkshopModel" "parsed" "[I" ∈ wsX11_parsesR by decide +kernel) rfl dX11_parsesR_10 ?_
    refine lv_iload_n hx hb dX11_parsesR_13 rfl (lv_at hl 1 rfl) ?_
    refine lv_bipush (v := (117 : Int32)) hx hb dX11_parsesR_14 (by decide) ?_
    obtain ⟨hq33, hF⟩ := am_ifR hF
    refine am_iast X hh 150 (by decide) rfl hq33 dX11_parsesR_16 (fun H locs hh => ?_)
    obtain ⟨w34, hw34, hF⟩ := am_wl hF
    have hh := AH_eq hw34 hh
    refine lv_aload_n hx hb dX11_parsesR_17 rfl (lv_at hl 0 rfl) ?_
    refine lv_bipush (v := (117 : Int32)) hx hb dX11_parsesR_18 (by decide) ?_
    obtain ⟨w37, hk35, hF⟩ := am_bind hF
    refine am_call X hh (va_runV (As := [.int (117 : Int32)]) (rest := []) X.1 (c_X11_needs l G hk35) (cwV 1 hts gX11_parsesR_X11_needs rfl rfl rfl (by decide +kernel) ⟨Nat.le_of_ble_eq_true rfl, Nat.le_of_ble_eq_true rfl⟩) (am_preV X hh 141 12 (by decide) rfl rfl) rfl rfl hl.1 rfl (lv_room (Nat.le_of_ble_eq_true rfl)) dX11_parsesR_20 ⟨Nat.le_of_ble_eq_true rfl, Nat.le_of_ble_eq_true rfl⟩) (fun ab H locs hh => ?_)
    refine lv_aload_n hx hb dX11_parsesR_23 rfl (lv_at hl 0 rfl) ?_
    refine lv_bipush (v := (110 : Int32)) hx hb dX11_parsesR_24 (by decide) ?_
    obtain ⟨w40, hk38, hF⟩ := am_bind hF
    refine am_call X hh (va_runV (As := [.int (110 : Int32)]) (rest := []) X.1 (c_X11_needs l G hk38) (cwV 1 hts gX11_parsesR_X11_needs rfl rfl rfl (by decide +kernel) ⟨Nat.le_of_ble_eq_true rfl, Nat.le_of_ble_eq_true rfl⟩) (am_preV X hh 141 12 (by decide) rfl rfl) rfl rfl hl.1 rfl (lv_room (Nat.le_of_ble_eq_true rfl)) dX11_parsesR_26 ⟨Nat.le_of_ble_eq_true rfl, Nat.le_of_ble_eq_true rfl⟩) (fun ab H locs hh => ?_)
    refine lv_aload_n hx hb dX11_parsesR_29 rfl (lv_at hl 0 rfl) ?_
    refine lv_iload_n hx hb dX11_parsesR_30 rfl (lv_at hl 1 rfl) ?_
    obtain ⟨w43, hk41, hF⟩ := am_bind hF
    refine am_call X hh (va_runV (As := [.int x1]) (rest := []) X.1 (c_X11_parsesValue l G hk41) (cwV 1 hts gX11_parsesR_X11_parsesValue rfl rfl rfl (by decide +kernel) ⟨Nat.le_of_ble_eq_true rfl, Nat.le_of_ble_eq_true rfl⟩) (am_preV X hh 141 12 (by decide) rfl rfl) rfl rfl hl.1 rfl (lv_room (Nat.le_of_ble_eq_true rfl)) dX11_parsesR_31 ⟨Nat.le_of_ble_eq_true rfl, Nat.le_of_ble_eq_true rfl⟩) (fun ab H locs hh => ?_)
    refine lv_goto (tgt := 123) hx hb dX11_parsesR_34 (by decide) ?_
    exact am_vret X hr hh (fun t ht => am_qv hF ht) (Nat.le_of_ble_eq_true rfl) (Nat.le_of_ble_eq_true rfl) dX11_parsesR_123
