set_option maxHeartbeats 4000000 in
set_option maxRecDepth 100000 in
theorem c_J5_append_3fe6f (l : Launch) (G : GG) {w : Wd} {x1 : Int32} {w1 : Wd} (hF : f_J5_append_3fe6f w x1 = some w1) : Met l yJ5_append_3fe6f wsJ5_append_3fe6f ({ frames := 5, cells := 1, slots := 64, locals := 142 } : Room) (va_Pc [.ref (gAd G 139), .int x1] (Rel G w)) (amQ G (some (.ref (gAd G 139))) w1) 1 64 (gA G) := by
  refine am_metF (own := RJ5) (cc := cJ5_append_3fe6f) (maxL := 2) (ret := (some (.object "java/lang/AbstractStringBuilder"))) (by decide +kernel) rfl rfl (Nat.le_of_ble_eq_true rfl) ?_
  intro p e s m args below meth c ab H locs ls X hr hh hl
  have hx := X.1.1; have hb := X.1.2.1; have hml := X.1.2.2.1; have hown := X.1.2.2.2.1; have hts := X.1.2.2.2.2
  have hl : lv_has ls 2 [(0, .ref (gAd G 139)), (1, .int x1)] := hl
  have hwRJ4 : ∀ z ∈ u_ws RJ4 TJ4 4, z ∈ wsJ5_append_3fe6f := by decide +kernel
  unfold f_J5_append_3fe6f at hF
  refine lv_aload_n hx hb dJ5_append_3fe6f_0 rfl (lv_at hl 0 rfl) ?_
  refine lv_aload_n hx hb dJ5_append_3fe6f_1 rfl (lv_at hl 0 rfl) ?_
  refine am_getI X hh 139 1 3 (by decide) rfl rfl (by decide) hwRJ4 (show Cond.fieldLink RJ5 79 "java/lang/AbstractStringBuilder" "count" "I" ∈ wsJ5_append_3fe6f by decide +kernel) rfl dJ5_append_3fe6f_2 ?_
  refine lv_iconst (v := (1 : Int32)) hx hb dJ5_append_3fe6f_5 (by decide) ?_
  refine lv_iadd hx hb dJ5_append_3fe6f_6 ?_
  obtain ⟨w3, hk1, hF⟩ := am_bind hF
  refine am_call X hh (va_runU (As := [.int ((gI w 139 3) + (1 : Int32))]) (rest := []) X.1 (c_J5_ensureCapacityInternal_d00df l G hk1) (va_cwU 1 hts gJ5_append_3fe6f_J5_ensureCapacityInternal_d00df_u100J4 rfl rfl rfl rfl (by decide +kernel) ⟨Nat.le_of_ble_eq_true rfl, Nat.le_of_ble_eq_true rfl⟩) (am_preV X hh 139 1 (by decide) rfl rfl) rfl rfl hl.1 rfl (lv_room (Nat.le_of_ble_eq_true rfl)) dJ5_append_3fe6f_7 ⟨Nat.le_of_ble_eq_true rfl, Nat.le_of_ble_eq_true rfl⟩) (fun ab H locs hh => ?_)
  refine lv_aload_n hx hb dJ5_append_3fe6f_10 rfl (lv_at hl 0 rfl) ?_
  obtain ⟨r5, hk4, hF⟩ := am_bind hF
  refine am_call X hh (va_runU (As := []) (rest := []) X.1 (c_J5_isLatin1_aae02 l G hk4) (va_cwU 0 hts gJ5_append_3fe6f_J5_isLatin1_aae02_u83J4 rfl rfl rfl rfl (by decide +kernel) ⟨Nat.le_of_ble_eq_true rfl, Nat.le_of_ble_eq_true rfl⟩) (am_preV X hh 139 1 (by decide) rfl rfl) rfl rfl hl.1 rfl (lv_room (Nat.le_of_ble_eq_true rfl)) dJ5_append_3fe6f_11 ⟨Nat.le_of_ble_eq_true rfl, Nat.le_of_ble_eq_true rfl⟩) (fun ab H locs hh => ?_)
  refine lv_if_eq (tgt := 45) hx hb dJ5_append_3fe6f_14 (by decide) (fun hc6 => ?_) (fun hc6 => ?_)
  · have hF := am_pos hc6 hF
    refine lv_aload_n hx hb dJ5_append_3fe6f_45 rfl (lv_at hl 0 rfl) ?_
    obtain ⟨r8, hk7, hF⟩ := am_bind hF
    refine am_call X hh (va_runU (As := []) (rest := []) X.1 (c_J5_isLatin1_aae02 l G hk7) (va_cwU 0 hts gJ5_append_3fe6f_J5_isLatin1_aae02_u83J4 rfl rfl rfl rfl (by decide +kernel) ⟨Nat.le_of_ble_eq_true rfl, Nat.le_of_ble_eq_true rfl⟩) (am_preV X hh 139 1 (by decide) rfl rfl) rfl rfl hl.1 rfl (lv_room (Nat.le_of_ble_eq_true rfl)) dJ5_append_3fe6f_46 ⟨Nat.le_of_ble_eq_true rfl, Nat.le_of_ble_eq_true rfl⟩) (fun ab H locs hh => ?_)
    refine lv_if_eq (tgt := 56) hx hb dJ5_append_3fe6f_49 (by decide) (fun hc9 => ?_) (fun hc9 => ?_)
    · have hF := am_pos hc9 hF
      refine lv_aload_n hx hb dJ5_append_3fe6f_56 rfl (lv_at hl 0 rfl) ?_
      refine am_getR X hh 139 1 0 140 (by decide) rfl rfl (by decide) hwRJ4 (show Cond.fieldLink RJ5 15 "java/lang/AbstractStringBuilder" "value" "[B" ∈ wsJ5_append_3fe6f by decide +kernel) rfl dJ5_append_3fe6f_57 ?_
      refine lv_aload_n hx hb dJ5_append_3fe6f_60 rfl (lv_at hl 0 rfl) ?_
      refine lv_dup hx hb dJ5_append_3fe6f_61 rfl ?_
      refine am_getI X hh 139 1 3 (by decide) rfl rfl (by decide) hwRJ4 (show Cond.fieldLink RJ5 79 "java/lang/AbstractStringBuilder" "count" "I" ∈ wsJ5_append_3fe6f by decide +kernel) rfl dJ5_append_3fe6f_62 ?_
      refine lv_dup_x1 hx hb dJ5_append_3fe6f_65 rfl rfl ?_
      refine lv_iconst (v := (1 : Int32)) hx hb dJ5_append_3fe6f_66 (by decide) ?_
      refine lv_iadd hx hb dJ5_append_3fe6f_67 ?_
      refine am_putI X hh 139 1 3 (by decide) rfl rfl (by decide) hwRJ4 tyJ4 tyJ4_ok nmJ4 (show Cond.fieldLink RJ5 79 "java/lang/AbstractStringBuilder" "count" "I" ∈ wsJ5_append_3fe6f by decide +kernel) rfl rfl rfl rfl dJ5_append_3fe6f_68 (fun H locs hh => ?_)
      obtain ⟨w10, hw10, hF⟩ := am_wl hF
      have hh := AH_eq hw10 hh
      refine lv_iload_n hx hb dJ5_append_3fe6f_71 rfl (lv_at hl 1 rfl) ?_
      cases hF
    · have hF := am_neg hc9 hF
      refine lv_aload_n hx hb dJ5_append_3fe6f_52 rfl (lv_at hl 0 rfl) ?_
      cases hF
  · have hF := am_neg hc6 hF
    refine lv_iload_n hx hb dJ5_append_3fe6f_17 rfl (lv_at hl 1 rfl) ?_
    obtain ⟨r12, hk11, hF⟩ := am_bind hF
    refine am_callF X hh (va_runS (As := [.int x1]) (rest := []) X.1 (c_J1_canEncode_fc78d l G hk11) (va_cwS 1 hts gJ5_append_3fe6f_J1_canEncode_fc78d rfl rfl rfl (by decide +kernel) ⟨Nat.le_of_ble_eq_true rfl, Nat.le_of_ble_eq_true rfl⟩) (am_preSF X hh) rfl rfl hl.1 rfl (lv_room (Nat.le_of_ble_eq_true rfl)) dJ5_append_3fe6f_18 ⟨Nat.le_of_ble_eq_true rfl, Nat.le_of_ble_eq_true rfl⟩) (fun H locs hh => ?_)
    refine lv_if_eq (tgt := 45) hx hb dJ5_append_3fe6f_21 (by decide) (fun hc13 => ?_) (fun hc13 => ?_)
    · have hF := am_pos hc13 hF
      refine lv_aload_n hx hb dJ5_append_3fe6f_45 rfl (lv_at hl 0 rfl) ?_
      obtain ⟨r15, hk14, hF⟩ := am_bind hF
      refine am_call X hh (va_runU (As := []) (rest := []) X.1 (c_J5_isLatin1_aae02 l G hk14) (va_cwU 0 hts gJ5_append_3fe6f_J5_isLatin1_aae02_u83J4 rfl rfl rfl rfl (by decide +kernel) ⟨Nat.le_of_ble_eq_true rfl, Nat.le_of_ble_eq_true rfl⟩) (am_preV X hh 139 1 (by decide) rfl rfl) rfl rfl hl.1 rfl (lv_room (Nat.le_of_ble_eq_true rfl)) dJ5_append_3fe6f_46 ⟨Nat.le_of_ble_eq_true rfl, Nat.le_of_ble_eq_true rfl⟩) (fun ab H locs hh => ?_)
      refine lv_if_eq (tgt := 56) hx hb dJ5_append_3fe6f_49 (by decide) (fun hc16 => ?_) (fun hc16 => ?_)
      · have hF := am_pos hc16 hF
        refine lv_aload_n hx hb dJ5_append_3fe6f_56 rfl (lv_at hl 0 rfl) ?_
        refine am_getR X hh 139 1 0 140 (by decide) rfl rfl (by decide) hwRJ4 (show Cond.fieldLink RJ5 15 "java/lang/AbstractStringBuilder" "value" "[B" ∈ wsJ5_append_3fe6f by decide +kernel) rfl dJ5_append_3fe6f_57 ?_
        refine lv_aload_n hx hb dJ5_append_3fe6f_60 rfl (lv_at hl 0 rfl) ?_
        refine lv_dup hx hb dJ5_append_3fe6f_61 rfl ?_
        refine am_getI X hh 139 1 3 (by decide) rfl rfl (by decide) hwRJ4 (show Cond.fieldLink RJ5 79 "java/lang/AbstractStringBuilder" "count" "I" ∈ wsJ5_append_3fe6f by decide +kernel) rfl dJ5_append_3fe6f_62 ?_
        refine lv_dup_x1 hx hb dJ5_append_3fe6f_65 rfl rfl ?_
        refine lv_iconst (v := (1 : Int32)) hx hb dJ5_append_3fe6f_66 (by decide) ?_
        refine lv_iadd hx hb dJ5_append_3fe6f_67 ?_
        refine am_putI X hh 139 1 3 (by decide) rfl rfl (by decide) hwRJ4 tyJ4 tyJ4_ok nmJ4 (show Cond.fieldLink RJ5 79 "java/lang/AbstractStringBuilder" "count" "I" ∈ wsJ5_append_3fe6f by decide +kernel) rfl rfl rfl rfl dJ5_append_3fe6f_68 (fun H locs hh => ?_)
        obtain ⟨w17, hw17, hF⟩ := am_wl hF
        have hh := AH_eq hw17 hh
        refine lv_iload_n hx hb dJ5_append_3fe6f_71 rfl (lv_at hl 1 rfl) ?_
        cases hF
      · have hF := am_neg hc16 hF
        refine lv_aload_n hx hb dJ5_append_3fe6f_52 rfl (lv_at hl 0 rfl) ?_
        cases hF
    · have hF := am_neg hc13 hF
      refine lv_aload_n hx hb dJ5_append_3fe6f_24 rfl (lv_at hl 0 rfl) ?_
      refine am_getR X hh 139 1 0 140 (by decide) rfl rfl (by decide) hwRJ4 (show Cond.fieldLink RJ5 15 "java/lang/AbstractStringBuilder" "value" "[B" ∈ wsJ5_append_3fe6f by decide +kernel) rfl dJ5_append_3fe6f_25 ?_
      refine lv_aload_n hx hb dJ5_append_3fe6f_28 rfl (lv_at hl 0 rfl) ?_
      refine lv_dup hx hb dJ5_append_3fe6f_29 rfl ?_
      refine am_getI X hh 139 1 3 (by decide) rfl rfl (by decide) hwRJ4 (show Cond.fieldLink RJ5 79 "java/lang/AbstractStringBuilder" "count" "I" ∈ wsJ5_append_3fe6f by decide +kernel) rfl dJ5_append_3fe6f_30 ?_
      refine lv_dup_x1 hx hb dJ5_append_3fe6f_33 rfl rfl ?_
      refine lv_iconst (v := (1 : Int32)) hx hb dJ5_append_3fe6f_34 (by decide) ?_
      refine lv_iadd hx hb dJ5_append_3fe6f_35 ?_
      refine am_putI X hh 139 1 3 (by decide) rfl rfl (by decide) hwRJ4 tyJ4 tyJ4_ok nmJ4 (show Cond.fieldLink RJ5 79 "java/lang/AbstractStringBuilder" "count" "I" ∈ wsJ5_append_3fe6f by decide +kernel) rfl rfl rfl rfl dJ5_append_3fe6f_36 (fun H locs hh => ?_)
      obtain ⟨w18, hw18, hF⟩ := am_wl hF
      have hh := AH_eq hw18 hh
      refine lv_iload_n hx hb dJ5_append_3fe6f_39 rfl (lv_at hl 1 rfl) ?_
      refine lv_i2b hx hb dJ5_append_3fe6f_40 rfl ?_
      obtain ⟨hq19, hF⟩ := am_ifR hF
      refine am_bast X hh 140 (by decide) rfl hq19 dJ5_append_3fe6f_41 (fun H locs hh => ?_)
      obtain ⟨w20, hw20, hF⟩ := am_wl hF
      have hh := AH_eq hw20 hh
      refine lv_goto (tgt := 75) hx hb dJ5_append_3fe6f_42 (by decide) ?_
      refine lv_aload_n hx hb dJ5_append_3fe6f_75 rfl (lv_at hl 0 rfl) ?_
      exact am_aret X hr (Or.inl ⟨_, rfl⟩) (Or.inr ⟨_, rfl⟩) hh (fun t ht => am_qvT hF ht) (Nat.le_of_ble_eq_true rfl) (Nat.le_of_ble_eq_true rfl) dJ5_append_3fe6f_76
set_option maxHeartbeats 4000000 in
set_option maxRecDepth 100000 in
theorem c_J5_append_c97b9 (l : Launch) (G : GG) {w : Wd} {x1 : Int32} {w1 : Wd} (hF : f_J5_append_c97b9 w x1 = some w1) : Met l yJ5_append_c97b9 wsJ5_append_c97b9 ({ frames := 5, cells := 1, slots := 64, locals := 142 } : Room) (va_Pc [.ref (gAd G 139), .int x1] (Rel G w)) (amQ G (some (.ref (gAd G 139))) w1) 1 64 (gA G) := by
  refine am_metF (own := RJ5) (cc := cJ5_append_c97b9) (maxL := 4) (ret := (some (.object "java/lang/AbstractStringBuilder"))) (by decide +kernel) rfl rfl (Nat.le_of_ble_eq_true rfl) ?_
  intro p e s m args below meth c ab H locs ls X hr hh hl
  have hx := X.1.1; have hb := X.1.2.1; have hml := X.1.2.2.1; have hown := X.1.2.2.2.1; have hts := X.1.2.2.2.2
  have hl : lv_has ls 4 [(0, .ref (gAd G 139)), (1, .int x1)] := hl
  have hwRJ4 : ∀ z ∈ u_ws RJ4 TJ4 4, z ∈ wsJ5_append_c97b9 := by decide +kernel
  unfold f_J5_append_c97b9 at hF
  refine lv_aload_n hx hb dJ5_append_c97b9_0 rfl (lv_at hl 0 rfl) ?_
  refine am_getI X hh 139 1 3 (by decide) rfl rfl (by decide) hwRJ4 (show Cond.fieldLink RJ5 79 "java/lang/AbstractStringBuilder" "count" "I" ∈ wsJ5_append_c97b9 by decide +kernel) rfl dJ5_append_c97b9_1 ?_
  refine lv_istore_n (lv' := [(2, .int (gI w 139 3)), (0, .ref (gAd G 139)), (1, .int x1)]) hx hb dJ5_append_c97b9_4 rfl hl (by decide) rfl (fun ls hl => ?_)
  refine lv_iload_n hx hb dJ5_append_c97b9_5 rfl (lv_at hl 0 rfl) ?_
  refine lv_iload_n hx hb dJ5_append_c97b9_6 rfl (lv_at hl 2 rfl) ?_
  obtain ⟨r2, hk1, hF⟩ := am_bind hF
  refine am_callF X hh (va_runS (As := [.int x1]) (rest := [.int (gI w 139 3)]) X.1 (c_J6_stringSize_0f7a4 l G hk1) (va_cwS 1 hts gJ5_append_c97b9_J6_stringSize_0f7a4 rfl rfl rfl (by decide +kernel) ⟨Nat.le_of_ble_eq_true rfl, Nat.le_of_ble_eq_true rfl⟩) (am_preSF X hh) rfl rfl hl.1 rfl (lv_room (Nat.le_of_ble_eq_true rfl)) dJ5_append_c97b9_7 ⟨Nat.le_of_ble_eq_true rfl, Nat.le_of_ble_eq_true rfl⟩) (fun H locs hh => ?_)
  refine lv_iadd hx hb dJ5_append_c97b9_10 ?_
  refine lv_istore_n (lv' := [(3, .int ((gI w 139 3) + r2)), (2, .int (gI w 139 3)), (0, .ref (gAd G 139)), (1, .int x1)]) hx hb dJ5_append_c97b9_11 rfl hl (by decide) rfl (fun ls hl => ?_)
  refine lv_aload_n hx hb dJ5_append_c97b9_12 rfl (lv_at hl 2 rfl) ?_
  refine lv_iload_n hx hb dJ5_append_c97b9_13 rfl (lv_at hl 0 rfl) ?_
  obtain ⟨w5, hk3, hF⟩ := am_bind hF
  refine am_call X hh (va_runU (As := [.int ((gI w 139 3) + r2)]) (rest := []) X.1 (c_J5_ensureCapacityInternal_d00df l G hk3) (va_cwU 1 hts gJ5_append_c97b9_J5_ensureCapacityInternal_d00df_u100J4 rfl rfl rfl rfl (by decide +kernel) ⟨Nat.le_of_ble_eq_true rfl, Nat.le_of_ble_eq_true rfl⟩) (am_preV X hh 139 1 (by decide) rfl rfl) rfl rfl hl.1 rfl (lv_room (Nat.le_of_ble_eq_true rfl)) dJ5_append_c97b9_14 ⟨Nat.le_of_ble_eq_true rfl, Nat.le_of_ble_eq_true rfl⟩) (fun ab H locs hh => ?_)
  refine lv_aload_n hx hb dJ5_append_c97b9_17 rfl (lv_at hl 2 rfl) ?_
  obtain ⟨r7, hk6, hF⟩ := am_bind hF
  refine am_call X hh (va_runU (As := []) (rest := []) X.1 (c_J5_isLatin1_aae02 l G hk6) (va_cwU 0 hts gJ5_append_c97b9_J5_isLatin1_aae02_u83J4 rfl rfl rfl rfl (by decide +kernel) ⟨Nat.le_of_ble_eq_true rfl, Nat.le_of_ble_eq_true rfl⟩) (am_preV X hh 139 1 (by decide) rfl rfl) rfl rfl hl.1 rfl (lv_room (Nat.le_of_ble_eq_true rfl)) dJ5_append_c97b9_18 ⟨Nat.le_of_ble_eq_true rfl, Nat.le_of_ble_eq_true rfl⟩) (fun ab H locs hh => ?_)
  refine lv_if_eq (tgt := 37) hx hb dJ5_append_c97b9_21 (by decide) (fun hc8 => ?_) (fun hc8 => ?_)
  · have hF := am_pos hc8 hF
    refine lv_iload_n hx hb dJ5_append_c97b9_37 rfl (lv_at hl 3 rfl) ?_
    refine lv_iload_n hx hb dJ5_append_c97b9_38 rfl (lv_at hl 1 rfl) ?_
    refine lv_iload_n hx hb dJ5_append_c97b9_39 rfl (lv_at hl 0 rfl) ?_
    refine lv_aload_n hx hb dJ5_append_c97b9_40 rfl (lv_at hl 2 rfl) ?_
    refine am_getR X hh 139 1 0 140 (by decide) rfl rfl (by decide) hwRJ4 (show Cond.fieldLink RJ5 15 "java/lang/AbstractStringBuilder" "value" "[B" ∈ wsJ5_append_c97b9 by decide +kernel) rfl dJ5_append_c97b9_41 ?_
    cases hF
  · have hF := am_neg hc8 hF
    refine lv_iload_n hx hb dJ5_append_c97b9_24 rfl (lv_at hl 3 rfl) ?_
    refine lv_iload_n hx hb dJ5_append_c97b9_25 rfl (lv_at hl 0 rfl) ?_
    refine lv_aload_n hx hb dJ5_append_c97b9_26 rfl (lv_at hl 2 rfl) ?_
    refine am_getR X hh 139 1 0 140 (by decide) rfl rfl (by decide) hwRJ4 (show Cond.fieldLink RJ5 15 "java/lang/AbstractStringBuilder" "value" "[B" ∈ wsJ5_append_c97b9 by decide +kernel) rfl dJ5_append_c97b9_27 ?_
    obtain ⟨⟨r10, w11⟩, hk9, hF⟩ := am_bind hF
    have hF := am_u2 hF
    refine am_callF X hh (va_runS (As := [.int x1, .int ((gI w 139 3) + r2), .ref ab]) (rest := []) X.1 (c_J6_getChars_ba4f3 l G hk9) (va_cwS 3 hts gJ5_append_c97b9_J6_getChars_ba4f3 rfl rfl rfl (by decide +kernel) ⟨Nat.le_of_ble_eq_true rfl, Nat.le_of_ble_eq_true rfl⟩) (am_preSF X hh) rfl rfl hl.1 rfl (lv_room (Nat.le_of_ble_eq_true rfl)) dJ5_append_c97b9_30 ⟨Nat.le_of_ble_eq_true rfl, Nat.le_of_ble_eq_true rfl⟩) (fun H locs hh => ?_)
    refine lv_pop hx hb dJ5_append_c97b9_33 rfl ?_
    refine lv_goto (tgt := 48) hx hb dJ5_append_c97b9_34 (by decide) ?_
    refine lv_aload_n hx hb dJ5_append_c97b9_48 rfl (lv_at hl 2 rfl) ?_
    refine lv_iload_n hx hb dJ5_append_c97b9_49 rfl (lv_at hl 0 rfl) ?_
    refine am_putI X hh 139 1 3 (by decide) rfl rfl (by decide) hwRJ4 tyJ4 tyJ4_ok nmJ4 (show Cond.fieldLink RJ5 79 "java/lang/AbstractStringBuilder" "count" "I" ∈ wsJ5_append_c97b9 by decide +kernel) rfl rfl rfl rfl dJ5_append_c97b9_50 (fun H locs hh => ?_)
    obtain ⟨w13, hw13, hF⟩ := am_wl hF
    have hh := AH_eq hw13 hh
    refine lv_aload_n hx hb dJ5_append_c97b9_53 rfl (lv_at hl 2 rfl) ?_
    exact am_aret X hr (Or.inl ⟨_, rfl⟩) (Or.inr ⟨_, rfl⟩) hh (fun t ht => am_qvT hF ht) (Nat.le_of_ble_eq_true rfl) (Nat.le_of_ble_eq_true rfl) dJ5_append_c97b9_54
set_option maxHeartbeats 4000000 in
set_option maxRecDepth 100000 in
theorem c_J4_append_cf468 (l : Launch) (G : GG) {w : Wd} {x1 : Int32} {w1 : Wd} (hF : f_J4_append_cf468 w x1 = some w1) : Met l yJ4_append_cf468 wsJ4_append_cf468 ({ frames := 6, cells := 1, slots := 64, locals := 163 } : Room) (va_Pc [.ref (gAd G 139), .int x1] (Rel G w)) (amQ G (some (.ref (gAd G 139))) w1) 1 64 (gA G) := by
  refine am_metF (own := RJ4) (cc := cJ4_append_cf468) (maxL := 2) (ret := (some (.object "java/lang/StringBuilder"))) (by decide +kernel) rfl rfl (Nat.le_of_ble_eq_true rfl) ?_
  intro p e s m args below meth c ab H locs ls X hr hh hl
  have hx := X.1.1; have hb := X.1.2.1; have hml := X.1.2.2.1; have hown := X.1.2.2.2.1; have hts := X.1.2.2.2.2
  have hl : lv_has ls 2 [(0, .ref (gAd G 139)), (1, .int x1)] := hl
  unfold f_J4_append_cf468 at hF
  refine lv_aload_n hx hb dJ4_append_cf468_0 rfl (lv_at hl 0 rfl) ?_
  refine lv_iload_n hx hb dJ4_append_cf468_1 rfl (lv_at hl 1 rfl) ?_
  obtain ⟨w3, hk1, hF⟩ := am_bind hF
  refine am_call X hh (va_runSU (As := [.int x1]) (rest := []) (X.2.1.1 1 _ rfl).2 X.1 (c_J5_append_3fe6f l G hk1) (va_cwSU 1 hts gJ4_append_cf468_J5_append_3fe6f_s50 rfl rfl rfl (by decide +kernel) ⟨Nat.le_of_ble_eq_true rfl, Nat.le_of_ble_eq_true rfl⟩) (am_preV X hh 139 1 (by decide) rfl rfl) rfl rfl hl.1 rfl (lv_room (Nat.le_of_ble_eq_true rfl)) dJ4_append_cf468_2 ⟨Nat.le_of_ble_eq_true rfl, Nat.le_of_ble_eq_true rfl⟩) (fun ab H locs hh => ?_)
  refine lv_pop hx hb dJ4_append_cf468_5 rfl ?_
  refine lv_aload_n hx hb dJ4_append_cf468_6 rfl (lv_at hl 0 rfl) ?_
  exact am_aret X hr (Or.inl ⟨_, rfl⟩) (Or.inr ⟨_, rfl⟩) hh (fun t ht => am_qvT hF ht) (Nat.le_of_ble_eq_true rfl) (Nat.le_of_ble_eq_true rfl) dJ4_append_cf468_7
set_option maxHeartbeats 4000000 in
set_option maxRecDepth 100000 in
theorem c_J4_append_bf812 (l : Launch) (G : GG) {w : Wd} {x1 : Int32} {w1 : Wd} (hF : f_J4_append_bf812 w x1 = some w1) : Met l yJ4_append_bf812 wsJ4_append_bf812 ({ frames := 6, cells := 1, slots := 64, locals := 165 } : Room) (va_Pc [.ref (gAd G 139), .int x1] (Rel G w)) (amQ G (some (.ref (gAd G 139))) w1) 1 64 (gA G) := by
  refine am_metF (own := RJ4) (cc := cJ4_append_bf812) (maxL := 2) (ret := (some (.object "java/lang/StringBuilder"))) (by decide +kernel) rfl rfl (Nat.le_of_ble_eq_true rfl) ?_
  intro p e s m args below meth c ab H locs ls X hr hh hl
  have hx := X.1.1; have hb := X.1.2.1; have hml := X.1.2.2.1; have hown := X.1.2.2.2.1; have hts := X.1.2.2.2.2
  have hl : lv_has ls 2 [(0, .ref (gAd G 139)), (1, .int x1)] := hl
  unfold f_J4_append_bf812 at hF
  refine lv_aload_n hx hb dJ4_append_bf812_0 rfl (lv_at hl 0 rfl) ?_
  refine lv_iload_n hx hb dJ4_append_bf812_1 rfl (lv_at hl 1 rfl) ?_
  obtain ⟨w3, hk1, hF⟩ := am_bind hF
  refine am_call X hh (va_runSU (As := [.int x1]) (rest := []) (X.2.1.1 1 _ rfl).2 X.1 (c_J5_append_c97b9 l G hk1) (va_cwSU 1 hts gJ4_append_bf812_J5_append_c97b9_s53 rfl rfl rfl (by decide +kernel) ⟨Nat.le_of_ble_eq_true rfl, Nat.le_of_ble_eq_true rfl⟩) (am_preV X hh 139 1 (by decide) rfl rfl) rfl rfl hl.1 rfl (lv_room (Nat.le_of_ble_eq_true rfl)) dJ4_append_bf812_2 ⟨Nat.le_of_ble_eq_true rfl, Nat.le_of_ble_eq_true rfl⟩) (fun ab H locs hh => ?_)
  refine lv_pop hx hb dJ4_append_bf812_5 rfl ?_
  refine lv_aload_n hx hb dJ4_append_bf812_6 rfl (lv_at hl 0 rfl) ?_
  exact am_aret X hr (Or.inl ⟨_, rfl⟩) (Or.inr ⟨_, rfl⟩) hh (fun t ht => am_qvT hF ht) (Nat.le_of_ble_eq_true rfl) (Nat.le_of_ble_eq_true rfl) dJ4_append_bf812_7
set_option maxHeartbeats 4000000 in
set_option maxRecDepth 100000 in
theorem c_J5_setLength_d00df (l : Launch) (G : GG) {w : Wd} {x1 : Int32} {w1 : Wd} (hF : f_J5_setLength_d00df w x1 = some w1) : Met l yJ5_setLength_d00df wsJ5_setLength_d00df ({ frames := 5, cells := 1, slots := 64, locals := 142 } : Room) (va_Pc [.ref (gAd G 139), .int x1] (Rel G w)) (amQ G none w1) 1 64 (gA G) := by
  refine am_metF (own := RJ5) (cc := cJ5_setLength_d00df) (maxL := 2) (ret := none) (by decide +kernel) rfl rfl (Nat.le_of_ble_eq_true rfl) ?_
  intro p e s m args below meth c ab H locs ls X hr hh hl
  have hx := X.1.1; have hb := X.1.2.1; have hml := X.1.2.2.1; have hown := X.1.2.2.2.1; have hts := X.1.2.2.2.2
  have hl : lv_has ls 2 [(0, .ref (gAd G 139)), (1, .int x1)] := hl
  have hwRJ4 : ∀ z ∈ u_ws RJ4 TJ4 4, z ∈ wsJ5_setLength_d00df := by decide +kernel
  unfold f_J5_setLength_d00df at hF
  refine lv_iload_n hx hb dJ5_setLength_d00df_0 rfl (lv_at hl 1 rfl) ?_
  refine lv_if_ge (tgt := 13) hx hb dJ5_setLength_d00df_1 (by decide) (fun hc1 => ?_) (fun hc1 => ?_)
  · have hF := am_pos hc1 hF
    refine lv_aload_n hx hb dJ5_setLength_d00df_13 rfl (lv_at hl 0 rfl) ?_
    refine lv_iload_n hx hb dJ5_setLength_d00df_14 rfl (lv_at hl 1 rfl) ?_
    obtain ⟨w4, hk2, hF⟩ := am_bind hF
    refine am_call X hh (va_runU (As := [.int x1]) (rest := []) X.1 (c_J5_ensureCapacityInternal_d00df l G hk2) (va_cwU 1 hts gJ5_setLength_d00df_J5_ensureCapacityInternal_d00df_u100J4 rfl rfl rfl rfl (by decide +kernel) ⟨Nat.le_of_ble_eq_true rfl, Nat.le_of_ble_eq_true rfl⟩) (am_preV X hh 139 1 (by decide) rfl rfl) rfl rfl hl.1 rfl (lv_room (Nat.le_of_ble_eq_true rfl)) dJ5_setLength_d00df_15 ⟨Nat.le_of_ble_eq_true rfl, Nat.le_of_ble_eq_true rfl⟩) (fun ab H locs hh => ?_)
    refine lv_aload_n hx hb dJ5_setLength_d00df_18 rfl (lv_at hl 0 rfl) ?_
    refine am_getI X hh 139 1 3 (by decide) rfl rfl (by decide) hwRJ4 (show Cond.fieldLink RJ5 79 "java/lang/AbstractStringBuilder" "count" "I" ∈ wsJ5_setLength_d00df by decide +kernel) rfl dJ5_setLength_d00df_19 ?_
    refine lv_iload_n hx hb dJ5_setLength_d00df_22 rfl (lv_at hl 1 rfl) ?_
    refine lv_icmp_ge (tgt := 63) hx hb dJ5_setLength_d00df_23 (by decide) (fun hc5 => ?_) (fun hc5 => ?_)
    · have hF := am_pos hc5 hF
      refine lv_aload_n hx hb dJ5_setLength_d00df_63 rfl (lv_at hl 0 rfl) ?_
      refine am_getI X hh 139 1 3 (by decide) rfl rfl (by decide) hwRJ4 (show Cond.fieldLink RJ5 79 "java/lang/AbstractStringBuilder" "count" "I" ∈ wsJ5_setLength_d00df by decide +kernel) rfl dJ5_setLength_d00df_64 ?_
      refine lv_iload_n hx hb dJ5_setLength_d00df_67 rfl (lv_at hl 1 rfl) ?_
      refine lv_icmp_le (tgt := 76) hx hb dJ5_setLength_d00df_68 (by decide) (fun hc6 => ?_) (fun hc6 => ?_)
      · have hF := am_pos hc6 hF
        refine lv_aload_n hx hb dJ5_setLength_d00df_76 rfl (lv_at hl 0 rfl) ?_
        refine lv_iload_n hx hb dJ5_setLength_d00df_77 rfl (lv_at hl 1 rfl) ?_
        refine am_putI X hh 139 1 3 (by decide) rfl rfl (by decide) hwRJ4 tyJ4 tyJ4_ok nmJ4 (show Cond.fieldLink RJ5 79 "java/lang/AbstractStringBuilder" "count" "I" ∈ wsJ5_setLength_d00df by decide +kernel) rfl rfl rfl rfl dJ5_setLength_d00df_78 (fun H locs hh => ?_)
        obtain ⟨w7, hw7, hF⟩ := am_wl hF
        have hh := AH_eq hw7 hh
        exact am_vret X hr hh (fun t ht => am_qv hF ht) (Nat.le_of_ble_eq_true rfl) (Nat.le_of_ble_eq_true rfl) dJ5_setLength_d00df_81
      · have hF := am_neg hc6 hF
        refine lv_aload_n hx hb dJ5_setLength_d00df_71 rfl (lv_at hl 0 rfl) ?_
        refine lv_iconst (v := (1 : Int32)) hx hb dJ5_setLength_d00df_72 (by decide) ?_
        refine am_putI X hh 139 1 2 (by decide) rfl rfl (by decide) hwRJ4 tyJ4 tyJ4_ok nmJ4 (show Cond.fieldLink RJ5 73 "java/lang/AbstractStringBuilder" "maybeLatin1" "Z" ∈ wsJ5_setLength_d00df by decide +kernel) rfl rfl rfl rfl dJ5_setLength_d00df_73 (fun H locs hh => ?_)
        obtain ⟨w8, hw8, hF⟩ := am_wl hF
        have hh := AH_eq hw8 hh
        refine lv_aload_n hx hb dJ5_setLength_d00df_76 rfl (lv_at hl 0 rfl) ?_
        refine lv_iload_n hx hb dJ5_setLength_d00df_77 rfl (lv_at hl 1 rfl) ?_
        refine am_putI X hh 139 1 3 (by decide) rfl rfl (by decide) hwRJ4 tyJ4 tyJ4_ok nmJ4 (show Cond.fieldLink RJ5 79 "java/lang/AbstractStringBuilder" "count" "I" ∈ wsJ5_setLength_d00df by decide +kernel) rfl rfl rfl rfl dJ5_setLength_d00df_78 (fun H locs hh => ?_)
        obtain ⟨w9, hw9, hF⟩ := am_wl hF
        have hh := AH_eq hw9 hh
        exact am_vret X hr hh (fun t ht => am_qv hF ht) (Nat.le_of_ble_eq_true rfl) (Nat.le_of_ble_eq_true rfl) dJ5_setLength_d00df_81
    · have hF := am_neg hc5 hF
      refine lv_aload_n hx hb dJ5_setLength_d00df_26 rfl (lv_at hl 0 rfl) ?_
      obtain ⟨r11, hk10, hF⟩ := am_bind hF
      refine am_call X hh (va_runU (As := []) (rest := []) X.1 (c_J5_isLatin1_aae02 l G hk10) (va_cwU 0 hts gJ5_setLength_d00df_J5_isLatin1_aae02_u83J4 rfl rfl rfl rfl (by decide +kernel) ⟨Nat.le_of_ble_eq_true rfl, Nat.le_of_ble_eq_true rfl⟩) (am_preV X hh 139 1 (by decide) rfl rfl) rfl rfl hl.1 rfl (lv_room (Nat.le_of_ble_eq_true rfl)) dJ5_setLength_d00df_27 ⟨Nat.le_of_ble_eq_true rfl, Nat.le_of_ble_eq_true rfl⟩) (fun ab H locs hh => ?_)
      refine lv_if_eq (tgt := 48) hx hb dJ5_setLength_d00df_30 (by decide) (fun hc12 => ?_) (fun hc12 => ?_)
      · have hF := am_pos hc12 hF
        refine lv_aload_n hx hb dJ5_setLength_d00df_48 rfl (lv_at hl 0 rfl) ?_
        refine am_getR X hh 139 1 0 140 (by decide) rfl rfl (by decide) hwRJ4 (show Cond.fieldLink RJ5 15 "java/lang/AbstractStringBuilder" "value" "[B" ∈ wsJ5_setLength_d00df by decide +kernel) rfl dJ5_setLength_d00df_49 ?_
        refine lv_aload_n hx hb dJ5_setLength_d00df_52 rfl (lv_at hl 0 rfl) ?_
        refine am_getI X hh 139 1 3 (by decide) rfl rfl (by decide) hwRJ4 (show Cond.fieldLink RJ5 79 "java/lang/AbstractStringBuilder" "count" "I" ∈ wsJ5_setLength_d00df by decide +kernel) rfl dJ5_setLength_d00df_53 ?_
        refine lv_iload_n hx hb dJ5_setLength_d00df_56 rfl (lv_at hl 1 rfl) ?_
        cases hF
      · have hF := am_neg hc12 hF
        refine lv_aload_n hx hb dJ5_setLength_d00df_33 rfl (lv_at hl 0 rfl) ?_
        refine am_getR X hh 139 1 0 140 (by decide) rfl rfl (by decide) hwRJ4 (show Cond.fieldLink RJ5 15 "java/lang/AbstractStringBuilder" "value" "[B" ∈ wsJ5_setLength_d00df by decide +kernel) rfl dJ5_setLength_d00df_34 ?_
        refine lv_aload_n hx hb dJ5_setLength_d00df_37 rfl (lv_at hl 0 rfl) ?_
        refine am_getI X hh 139 1 3 (by decide) rfl rfl (by decide) hwRJ4 (show Cond.fieldLink RJ5 79 "java/lang/AbstractStringBuilder" "count" "I" ∈ wsJ5_setLength_d00df by decide +kernel) rfl dJ5_setLength_d00df_38 ?_
        refine lv_iload_n hx hb dJ5_setLength_d00df_41 rfl (lv_at hl 1 rfl) ?_
        cases hF
  · have hF := am_neg hc1 hF
    cases hF
set_option maxHeartbeats 4000000 in
set_option maxRecDepth 100000 in
theorem c_J4_setLength_d00df (l : Launch) (G : GG) {w : Wd} {x1 : Int32} {w1 : Wd} (hF : f_J4_setLength_d00df w x1 = some w1) : Met l yJ4_setLength_d00df wsJ4_setLength_d00df ({ frames := 6, cells := 1, slots := 64, locals := 163 } : Room) (va_Pc [.ref (gAd G 139), .int x1] (Rel G w)) (amQ G none w1) 1 64 (gA G) := by
  refine am_metF (own := RJ4) (cc := cJ4_setLength_d00df) (maxL := 2) (ret := none) (by decide +kernel) rfl rfl (Nat.le_of_ble_eq_true rfl) ?_
  intro p e s m args below meth c ab H locs ls X hr hh hl
  have hx := X.1.1; have hb := X.1.2.1; have hml := X.1.2.2.1; have hown := X.1.2.2.2.1; have hts := X.1.2.2.2.2
  have hl : lv_has ls 2 [(0, .ref (gAd G 139)), (1, .int x1)] := hl
  unfold f_J4_setLength_d00df at hF
  refine lv_aload_n hx hb dJ4_setLength_d00df_0 rfl (lv_at hl 0 rfl) ?_
  refine lv_iload_n hx hb dJ4_setLength_d00df_1 rfl (lv_at hl 1 rfl) ?_
  obtain ⟨w3, hk1, hF⟩ := am_bind hF
  refine am_call X hh (va_runSU (As := [.int x1]) (rest := []) (X.2.1.1 1 _ rfl).2 X.1 (c_J5_setLength_d00df l G hk1) (va_cwSU 1 hts gJ4_setLength_d00df_J5_setLength_d00df_s333 rfl rfl rfl (by decide +kernel) ⟨Nat.le_of_ble_eq_true rfl, Nat.le_of_ble_eq_true rfl⟩) (am_preV X hh 139 1 (by decide) rfl rfl) rfl rfl hl.1 rfl (lv_room (Nat.le_of_ble_eq_true rfl)) dJ4_setLength_d00df_2 ⟨Nat.le_of_ble_eq_true rfl, Nat.le_of_ble_eq_true rfl⟩) (fun ab H locs hh => ?_)
  exact am_vret X hr hh (fun t ht => am_qv hF ht) (Nat.le_of_ble_eq_true rfl) (Nat.le_of_ble_eq_true rfl) dJ4_setLength_d00df_5
