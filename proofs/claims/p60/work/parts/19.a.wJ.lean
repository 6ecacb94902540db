set_option maxHeartbeats 4000000 in
set_option maxRecDepth 100000 in
theorem c_J0_coder_7d493 (l : Launch) (G : GG) {ab : Nat} {w : Wd} {x0 : Nat} {r0 : Int32} (hx0 : gAv G (300 + x0) = 1) (hF : f_J0_coder_7d493 x0 = some r0) : Met l yJ0_coder_7d493 wsJ0_coder_7d493 ({ frames := 0, cells := 0, slots := 0, locals := 0 } : Room) (va_Pc [.ref (gAv G (100 + x0))] (RelF G ab w)) (amQF G ab (oI r0) w) 0 0 (gA G) := by
  refine am_metB (own := RJ0) (cc := cJ0_coder_7d493) (maxL := 1) (ret := (some .byte)) (by decide +kernel) rfl rfl (Nat.le_of_ble_eq_true rfl) ?_
  intro p e s m args below meth c H locs ls X hr hh hl
  have hx := X.1.1; have hb := X.1.2.1; have hml := X.1.2.2.1; have hown := X.1.2.2.2.1; have hts := X.1.2.2.2.2
  have hl : lv_has ls 1 [(0, .ref (gAv G (100 + x0)))] := hl
  unfold f_J0_coder_7d493 at hF
  refine va_gets hx hb X.2.2.1.2.2.1.1 hh.2.2 hown (hts _ (show Cond.fieldLink RJ0 38 "java/lang/String" "COMPACT_STRINGS" "Z"  ∈ wsJ0_coder_7d493 by decide +kernel)) (fun _ h9 => h9) dJ0_coder_7d493_0 ?_
  refine lv_if_eq (tgt := 13) hx hb dJ0_coder_7d493_3 (by decide) (fun hz => absurd hz (by decide)) (fun _ => ?_)
  refine lv_aload_n hx hb dJ0_coder_7d493_6 rfl (lv_at hl 0 rfl) ?_
  refine vk_getf hx hb (X.2.2.1.2.1.2.2.2.2.1 x0 hx0).2.1 hh.2.2 hown (hts _ (show Cond.fieldLink RJ0 15 "java/lang/String" "coder" "B"  ∈ wsJ0_coder_7d493 by decide +kernel)) (fun _ h9 => h9) dJ0_coder_7d493_7 ?_
  refine lv_goto (tgt := 14) hx hb dJ0_coder_7d493_10 (by decide) ?_
  exact amF_zret (v' := (0 : Int32)) X hr rfl hh (fun t ht => am_qpF (mk := oI) hF ht) (Nat.le_of_ble_eq_true rfl) (Nat.le_of_ble_eq_true rfl) dJ0_coder_7d493_14
set_option maxHeartbeats 4000000 in
set_option maxRecDepth 100000 in
theorem c_J0_isLatin1_aae02 (l : Launch) (G : GG) {ab : Nat} {w : Wd} {x0 : Nat} {r0 : Int32} (hx0 : gAv G (300 + x0) = 1) (hF : f_J0_isLatin1_aae02 x0 = some r0) : Met l yJ0_isLatin1_aae02 wsJ0_isLatin1_aae02 ({ frames := 0, cells := 0, slots := 0, locals := 0 } : Room) (va_Pc [.ref (gAv G (100 + x0))] (RelF G ab w)) (amQF G ab (oI r0) w) 0 0 (gA G) := by
  refine am_metB (own := RJ0) (cc := cJ0_isLatin1_aae02) (maxL := 1) (ret := (some .boolean)) (by decide +kernel) rfl rfl (Nat.le_of_ble_eq_true rfl) ?_
  intro p e s m args below meth c H locs ls X hr hh hl
  have hx := X.1.1; have hb := X.1.2.1; have hml := X.1.2.2.1; have hown := X.1.2.2.2.1; have hts := X.1.2.2.2.2
  have hl : lv_has ls 1 [(0, .ref (gAv G (100 + x0)))] := hl
  unfold f_J0_isLatin1_aae02 at hF
  refine va_gets hx hb X.2.2.1.2.2.1.1 hh.2.2 hown (hts _ (show Cond.fieldLink RJ0 38 "java/lang/String" "COMPACT_STRINGS" "Z"  ∈ wsJ0_isLatin1_aae02 by decide +kernel)) (fun _ h9 => h9) dJ0_isLatin1_aae02_0 ?_
  refine lv_if_eq (tgt := 17) hx hb dJ0_isLatin1_aae02_3 (by decide) (fun hz => absurd hz (by decide)) (fun _ => ?_)
  refine lv_aload_n hx hb dJ0_isLatin1_aae02_6 rfl (lv_at hl 0 rfl) ?_
  refine vk_getf hx hb (X.2.2.1.2.1.2.2.2.2.1 x0 hx0).2.1 hh.2.2 hown (hts _ (show Cond.fieldLink RJ0 15 "java/lang/String" "coder" "B"  ∈ wsJ0_isLatin1_aae02 by decide +kernel)) (fun _ h9 => h9) dJ0_isLatin1_aae02_7 ?_
  refine lv_if_ne (tgt := 17) hx hb dJ0_isLatin1_aae02_10 (by decide) (fun hz => absurd (by decide) hz) (fun _ => ?_)
  refine lv_iconst (v := (1 : Int32)) hx hb dJ0_isLatin1_aae02_13 (by decide) ?_
  refine lv_goto (tgt := 18) hx hb dJ0_isLatin1_aae02_14 (by decide) ?_
  exact amF_zret (v' := (1 : Int32)) X hr rfl hh (fun t ht => am_qpF (mk := oI) hF ht) (Nat.le_of_ble_eq_true rfl) (Nat.le_of_ble_eq_true rfl) dJ0_isLatin1_aae02_18
set_option maxHeartbeats 4000000 in
set_option maxRecDepth 100000 in
theorem c_J0_length_8abf5 (l : Launch) (G : GG) {ab : Nat} {w : Wd} {x0 : Nat} {r0 : Int32} (hx0 : gAv G (300 + x0) = 1) (hF : f_J0_length_8abf5 x0 = some r0) : Met l yJ0_length_8abf5 wsJ0_length_8abf5 ({ frames := 1, cells := 0, slots := 0, locals := 20 } : Room) (va_Pc [.ref (gAv G (100 + x0))] (RelF G ab w)) (amQF G ab (oI r0) w) 0 0 (gA G) := by
  refine am_metB (own := RJ0) (cc := cJ0_length_8abf5) (maxL := 1) (ret := (some .int)) (by decide +kernel) rfl rfl (Nat.le_of_ble_eq_true rfl) ?_
  intro p e s m args below meth c H locs ls X hr hh hl
  have hx := X.1.1; have hb := X.1.2.1; have hml := X.1.2.2.1; have hown := X.1.2.2.2.1; have hts := X.1.2.2.2.2
  have hl : lv_has ls 1 [(0, .ref (gAv G (100 + x0)))] := hl
  unfold f_J0_length_8abf5 at hF
  refine lv_aload_n hx hb dJ0_length_8abf5_0 rfl (lv_at hl 0 rfl) ?_
  refine vk_getf hx hb (X.2.2.1.2.1.2.2.2.2.1 x0 hx0).2.2.1 hh.2.2 hown (hts _ (show Cond.fieldLink RJ0 9 "java/lang/String" "value" "[B"  ∈ wsJ0_length_8abf5 by decide +kernel)) (fun _ h9 => h9) dJ0_length_8abf5_1 ?_
  refine va_tlen (v := nI (cLens.getD x0 0)) hx hb (X.2.2.1.2.1.2.2.2.2.1 x0 hx0).2.2.2 hh.2.2 rfl dJ0_length_8abf5_4 ?_
  refine lv_aload_n hx hb dJ0_length_8abf5_5 rfl (lv_at hl 0 rfl) ?_
  obtain ⟨r2, hk1, hF⟩ := am_bind hF
  refine am_callF X hh (va_runV (As := []) (rest := [.int (nI (cLens.getD x0 0))]) X.1 (c_J0_coder_7d493 l G hx0 hk1) (cwV 0 hts gJ0_length_8abf5_J0_coder_7d493 rfl rfl rfl (by decide +kernel) ⟨Nat.le_of_ble_eq_true rfl, Nat.le_of_ble_eq_true rfl⟩) ⟨am_blindF, tx_recv X.2.2.1.2.1.2.2.2.2 (i := x0) hx0 hh.2.2, fun U hU hW => ⟨rfl, am_relF X hh hU hW⟩⟩ rfl rfl hl.1 rfl (lv_room (Nat.le_of_ble_eq_true rfl)) dJ0_length_8abf5_6 ⟨Nat.le_of_ble_eq_true rfl, Nat.le_of_ble_eq_true rfl⟩) (fun H locs hh => ?_)
  refine lv_ishr hx hb dJ0_length_8abf5_9 ?_
  exact amF_iret X hr hh (fun t ht => am_qpF (mk := oI) hF ht) (Nat.le_of_ble_eq_true rfl) (Nat.le_of_ble_eq_true rfl) dJ0_length_8abf5_10
set_option maxHeartbeats 4000000 in
set_option maxRecDepth 100000 in
theorem c_J3_checkIndex_8e157_n (l : Launch) (G : GG) {ab : Nat} {w : Wd} {x0 : Int32} {x1 : Int32} {r0 : Int32} (hF : f_J3_checkIndex_8e157 x0 x1 = some r0) : Met l yJ3_checkIndex_8e157 wsJ3_checkIndex_8e157 ({ frames := 0, cells := 0, slots := 0, locals := 0 } : Room) (va_Pc [.int x0, .int x1, .null] (RelF G ab w)) (amQF G ab (oI r0) w) 0 0 (gA G) := by
  refine am_metB (own := RJ3) (cc := cJ3_checkIndex_8e157) (maxL := 3) (ret := (some .int)) (by decide +kernel) rfl rfl (Nat.le_of_ble_eq_true rfl) ?_
  intro p e s m args below meth c H locs ls X hr hh hl
  have hx := X.1.1; have hb := X.1.2.1; have hml := X.1.2.2.1; have hown := X.1.2.2.2.1; have hts := X.1.2.2.2.2
  have hl : lv_has ls 3 [(0, .int x0), (1, .int x1), (2, .null)] := hl
  unfold f_J3_checkIndex_8e157 at hF
  refine lv_iload_n hx hb dJ3_checkIndex_8e157_0 rfl (lv_at hl 0 rfl) ?_
  refine lv_if_lt (tgt := 9) hx hb dJ3_checkIndex_8e157_1 (by decide) (fun hc1 => ?_) (fun hc1 => ?_)
  · have hF := am_pos hc1 hF
    refine lv_aload_nN hx hb dJ3_checkIndex_8e157_9 rfl (lv_at hl 2 rfl) ?_
    refine lv_iload_n hx hb dJ3_checkIndex_8e157_10 rfl (lv_at hl 0 rfl) ?_
    refine lv_iload_n hx hb dJ3_checkIndex_8e157_11 rfl (lv_at hl 1 rfl) ?_
    cases hF
  · have hF := am_neg hc1 hF
    refine lv_iload_n hx hb dJ3_checkIndex_8e157_4 rfl (lv_at hl 0 rfl) ?_
    refine lv_iload_n hx hb dJ3_checkIndex_8e157_5 rfl (lv_at hl 1 rfl) ?_
    refine lv_icmp_lt (tgt := 16) hx hb dJ3_checkIndex_8e157_6 (by decide) (fun hc2 => ?_) (fun hc2 => ?_)
    · have hF := am_pos hc2 hF
      refine lv_iload_n hx hb dJ3_checkIndex_8e157_16 rfl (lv_at hl 0 rfl) ?_
      exact amF_iret X hr hh (fun t ht => am_qpF (mk := oI) hF ht) (Nat.le_of_ble_eq_true rfl) (Nat.le_of_ble_eq_true rfl) dJ3_checkIndex_8e157_17
    · have hF := am_neg hc2 hF
      refine lv_aload_nN hx hb dJ3_checkIndex_8e157_9 rfl (lv_at hl 2 rfl) ?_
      refine lv_iload_n hx hb dJ3_checkIndex_8e157_10 rfl (lv_at hl 0 rfl) ?_
      refine lv_iload_n hx hb dJ3_checkIndex_8e157_11 rfl (lv_at hl 1 rfl) ?_
      cases hF
set_option maxHeartbeats 4000000 in
set_option maxRecDepth 100000 in
theorem c_J3_checkIndex_8e157_r (l : Launch) (G : GG) {ab : Nat} {qa : Nat} {w : Wd} {x0 : Int32} {x1 : Int32} {r0 : Int32} (hF : f_J3_checkIndex_8e157 x0 x1 = some r0) : Met l yJ3_checkIndex_8e157 wsJ3_checkIndex_8e157 ({ frames := 0, cells := 0, slots := 0, locals := 0 } : Room) (va_Pc [.int x0, .int x1, .ref qa] (RelF G ab w)) (amQF G ab (oI r0) w) 0 0 (gA G) := by
  refine am_metB (own := RJ3) (cc := cJ3_checkIndex_8e157) (maxL := 3) (ret := (some .int)) (by decide +kernel) rfl rfl (Nat.le_of_ble_eq_true rfl) ?_
  intro p e s m args below meth c H locs ls X hr hh hl
  have hx := X.1.1; have hb := X.1.2.1; have hml := X.1.2.2.1; have hown := X.1.2.2.2.1; have hts := X.1.2.2.2.2
  have hl : lv_has ls 3 [(0, .int x0), (1, .int x1), (2, .ref qa)] := hl
  unfold f_J3_checkIndex_8e157 at hF
  refine lv_iload_n hx hb dJ3_checkIndex_8e157_0 rfl (lv_at hl 0 rfl) ?_
  refine lv_if_lt (tgt := 9) hx hb dJ3_checkIndex_8e157_1 (by decide) (fun hc1 => ?_) (fun hc1 => ?_)
  · have hF := am_pos hc1 hF
    refine lv_aload_n hx hb dJ3_checkIndex_8e157_9 rfl (lv_at hl 2 rfl) ?_
    refine lv_iload_n hx hb dJ3_checkIndex_8e157_10 rfl (lv_at hl 0 rfl) ?_
    refine lv_iload_n hx hb dJ3_checkIndex_8e157_11 rfl (lv_at hl 1 rfl) ?_
    cases hF
  · have hF := am_neg hc1 hF
    refine lv_iload_n hx hb dJ3_checkIndex_8e157_4 rfl (lv_at hl 0 rfl) ?_
    refine lv_iload_n hx hb dJ3_checkIndex_8e157_5 rfl (lv_at hl 1 rfl) ?_
    refine lv_icmp_lt (tgt := 16) hx hb dJ3_checkIndex_8e157_6 (by decide) (fun hc2 => ?_) (fun hc2 => ?_)
    · have hF := am_pos hc2 hF
      refine lv_iload_n hx hb dJ3_checkIndex_8e157_16 rfl (lv_at hl 0 rfl) ?_
      exact amF_iret X hr hh (fun t ht => am_qpF (mk := oI) hF ht) (Nat.le_of_ble_eq_true rfl) (Nat.le_of_ble_eq_true rfl) dJ3_checkIndex_8e157_17
    · have hF := am_neg hc2 hF
      refine lv_aload_n hx hb dJ3_checkIndex_8e157_9 rfl (lv_at hl 2 rfl) ?_
      refine lv_iload_n hx hb dJ3_checkIndex_8e157_10 rfl (lv_at hl 0 rfl) ?_
      refine lv_iload_n hx hb dJ3_checkIndex_8e157_11 rfl (lv_at hl 1 rfl) ?_
      cases hF
set_option maxHeartbeats 4000000 in
set_option maxRecDepth 100000 in
theorem c_J0_checkIndex_df160 (l : Launch) (G : GG) {ab : Nat} {w : Wd} {x0 : Int32} {x1 : Int32} {r0 : Unit} (hF : f_J0_checkIndex_df160 x0 x1 = some r0) : Met l yJ0_checkIndex_df160 wsJ0_checkIndex_df160 ({ frames := 1, cells := 0, slots := 0, locals := 22 } : Room) (va_Pc [.int x0, .int x1] (RelF G ab w)) (amQF G ab none w) 0 0 (gA G) := by
  refine am_metB (own := RJ0) (cc := cJ0_checkIndex_df160) (maxL := 2) (ret := none) (by decide +kernel) rfl rfl (Nat.le_of_ble_eq_true rfl) ?_
  intro p e s m args below meth c H locs ls X hr hh hl
  have hx := X.1.1; have hb := X.1.2.1; have hml := X.1.2.2.1; have hown := X.1.2.2.2.1; have hts := X.1.2.2.2.2
  have hl : lv_has ls 2 [(0, .int x0), (1, .int x1)] := hl
  unfold f_J0_checkIndex_df160 at hF
  refine lv_iload_n hx hb dJ0_checkIndex_df160_0 rfl (lv_at hl 0 rfl) ?_
  refine lv_iload_n hx hb dJ0_checkIndex_df160_1 rfl (lv_at hl 1 rfl) ?_
  rcases X.2.2.1.2.2.1.2.1 with hz | ⟨qa, hz⟩
  · refine va_gets hx hb hz hh.2.2 hown (hts _ (show Cond.fieldLink RJ0 1053 "jdk/internal/util/Preconditions" "SIOOBE_FORMATTER" "Ljava/util/function/BiFunction;"  ∈ wsJ0_checkIndex_df160 by decide +kernel)) (fun _ h9 => h9) dJ0_checkIndex_df160_2 ?_
    obtain ⟨r2, hk1, hF⟩ := am_bind hF
    refine am_callF X hh (va_runS (As := [.int x0, .int x1, .null]) (rest := []) X.1 (c_J3_checkIndex_8e157_n l G hk1) (va_cwS 3 hts gJ0_checkIndex_df160_J3_checkIndex_8e157 rfl rfl rfl (by decide +kernel) ⟨Nat.le_of_ble_eq_true rfl, Nat.le_of_ble_eq_true rfl⟩) (am_preSF X hh) rfl rfl hl.1 rfl (lv_room (Nat.le_of_ble_eq_true rfl)) dJ0_checkIndex_df160_5 ⟨Nat.le_of_ble_eq_true rfl, Nat.le_of_ble_eq_true rfl⟩) (fun H locs hh => ?_)
    refine lv_pop hx hb dJ0_checkIndex_df160_8 rfl ?_
    exact amF_vret X hr hh (fun t ht => am_qpF (mk := oV) hF ht) (Nat.le_of_ble_eq_true rfl) (Nat.le_of_ble_eq_true rfl) dJ0_checkIndex_df160_9
  · refine va_gets hx hb hz hh.2.2 hown (hts _ (show Cond.fieldLink RJ0 1053 "jdk/internal/util/Preconditions" "SIOOBE_FORMATTER" "Ljava/util/function/BiFunction;"  ∈ wsJ0_checkIndex_df160 by decide +kernel)) (fun _ h9 => h9) dJ0_checkIndex_df160_2 ?_
    obtain ⟨r2, hk1, hF⟩ := am_bind hF
    refine am_callF X hh (va_runS (As := [.int x0, .int x1, .ref qa]) (rest := []) X.1 (c_J3_checkIndex_8e157_r l G hk1) (va_cwS 3 hts gJ0_checkIndex_df160_J3_checkIndex_8e157 rfl rfl rfl (by decide +kernel) ⟨Nat.le_of_ble_eq_true rfl, Nat.le_of_ble_eq_true rfl⟩) (am_preSF X hh) rfl rfl hl.1 rfl (lv_room (Nat.le_of_ble_eq_true rfl)) dJ0_checkIndex_df160_5 ⟨Nat.le_of_ble_eq_true rfl, Nat.le_of_ble_eq_true rfl⟩) (fun H locs hh => ?_)
    refine lv_pop hx hb dJ0_checkIndex_df160_8 rfl ?_
    exact amF_vret X hr hh (fun t ht => am_qpF (mk := oV) hF ht) (Nat.le_of_ble_eq_true rfl) (Nat.le_of_ble_eq_true rfl) dJ0_checkIndex_df160_9
set_option maxHeartbeats 4000000 in
set_option maxRecDepth 100000 in
theorem c_J1_charAt_3b067 (l : Launch) (G : GG) {ab : Nat} {w : Wd} {x0 : Nat} {x1 : Int32} {r0 : Int32} (hx0 : gAv G (300 + x0) = 1) (hF : f_J1_charAt_3b067 x0 x1 = some r0) : Met l yJ1_charAt_3b067 wsJ1_charAt_3b067 ({ frames := 2, cells := 0, slots := 0, locals := 43 } : Room) (va_Pc [.ref (gAv G (200 + x0)), .int x1] (RelF G ab w)) (amQF G ab (oI r0) w) 0 0 (gA G) := by
  refine am_metB (own := RJ1) (cc := cJ1_charAt_3b067) (maxL := 2) (ret := (some .char)) (by decide +kernel) rfl rfl (Nat.le_of_ble_eq_true rfl) ?_
  intro p e s m args below meth c H locs ls X hr hh hl
  have hx := X.1.1; have hb := X.1.2.1; have hml := X.1.2.2.1; have hown := X.1.2.2.2.1; have hts := X.1.2.2.2.2
  have hl : lv_has ls 2 [(0, .ref (gAv G (200 + x0))), (1, .int x1)] := hl
  unfold f_J1_charAt_3b067 at hF
  refine lv_iload_n hx hb dJ1_charAt_3b067_0 rfl (lv_at hl 1 rfl) ?_
  refine lv_aload_n hx hb dJ1_charAt_3b067_1 rfl (lv_at hl 0 rfl) ?_
  refine va_tlen (v := nI (cLens.getD x0 0)) hx hb (X.2.2.1.2.1.2.2.2.2.1 x0 hx0).2.2.2 hh.2.2 rfl dJ1_charAt_3b067_2 ?_
  obtain ⟨r2, hk1, hF⟩ := am_bind hF
  refine am_callF X hh (va_runS (As := [.int x1, .int (nI (cLens.getD x0 0))]) (rest := []) X.1 (c_J0_checkIndex_df160 l G hk1) (va_cwS 2 hts gJ1_charAt_3b067_J0_checkIndex_df160 rfl rfl rfl (by decide +kernel) ⟨Nat.le_of_ble_eq_true rfl, Nat.le_of_ble_eq_true rfl⟩) (am_preSF X hh) rfl rfl hl.1 rfl (lv_room (Nat.le_of_ble_eq_true rfl)) dJ1_charAt_3b067_3 ⟨Nat.le_of_ble_eq_true rfl, Nat.le_of_ble_eq_true rfl⟩) (fun H locs hh => ?_)
  refine lv_aload_n hx hb dJ1_charAt_3b067_6 rfl (lv_at hl 0 rfl) ?_
  refine lv_iload_n hx hb dJ1_charAt_3b067_7 rfl (lv_at hl 1 rfl) ?_
  obtain ⟨hq3, hF⟩ := am_ifR hF
  refine va_tb hx hb (X.2.2.1.2.1.2.2.2.2.1 x0 hx0).2.2.2 hh.2.2 hq3 rfl dJ1_charAt_3b067_8 ?_
  refine lv_sipush (v := (255 : Int32)) hx hb dJ1_charAt_3b067_9 (by decide) ?_
  refine lv_iand hx hb dJ1_charAt_3b067_12 ?_
  refine lv_i2c hx hb dJ1_charAt_3b067_13 rfl ?_
  exact amF_zret (v' := (vp_nar .char (((((cWords.getD x0 []).getD (x1).toNatClampNeg 0) &&& (255 : Int32))).toUInt32 % 65536).toInt32)) X hr (nar_c _) hh (fun t ht => am_qpF (mk := oI) hF ht) (Nat.le_of_ble_eq_true rfl) (Nat.le_of_ble_eq_true rfl) dJ1_charAt_3b067_14
set_option maxHeartbeats 4000000 in
set_option maxRecDepth 100000 in
theorem c_J0_charAt_5068e (l : Launch) (G : GG) {ab : Nat} {w : Wd} {x0 : Nat} {x1 : Int32} {r0 : Int32} (hx0 : gAv G (300 + x0) = 1) (hF : f_J0_charAt_5068e w x0 x1 = some r0) : Met l yJ0_charAt_5068e wsJ0_charAt_5068e ({ frames := 3, cells := 0, slots := 0, locals := 64 } : Room) (va_Pc [.ref (gAv G (100 + x0)), .int x1] (RelF G ab w)) (amQF G ab (oI r0) w) 0 0 (gA G) := by
  refine am_metB (own := RJ0) (cc := cJ0_charAt_5068e) (maxL := 2) (ret := (some .char)) (by decide +kernel) rfl rfl (Nat.le_of_ble_eq_true rfl) ?_
  intro p e s m args below meth c H locs ls X hr hh hl
  have hx := X.1.1; have hb := X.1.2.1; have hml := X.1.2.2.1; have hown := X.1.2.2.2.1; have hts := X.1.2.2.2.2
  have hl : lv_has ls 2 [(0, .ref (gAv G (100 + x0))), (1, .int x1)] := hl
  unfold f_J0_charAt_5068e at hF
  refine lv_aload_n hx hb dJ0_charAt_5068e_0 rfl (lv_at hl 0 rfl) ?_
  obtain ⟨r2, hk1, hF⟩ := am_bind hF
  refine am_callF X hh (va_runV (As := []) (rest := []) X.1 (c_J0_isLatin1_aae02 l G hx0 hk1) (cwV 0 hts gJ0_charAt_5068e_J0_isLatin1_aae02 rfl rfl rfl (by decide +kernel) ⟨Nat.le_of_ble_eq_true rfl, Nat.le_of_ble_eq_true rfl⟩) ⟨am_blindF, tx_recv X.2.2.1.2.1.2.2.2.2 (i := x0) hx0 hh.2.2, fun U hU hW => ⟨rfl, am_relF X hh hU hW⟩⟩ rfl rfl hl.1 rfl (lv_room (Nat.le_of_ble_eq_true rfl)) dJ0_charAt_5068e_1 ⟨Nat.le_of_ble_eq_true rfl, Nat.le_of_ble_eq_true rfl⟩) (fun H locs hh => ?_)
  refine lv_if_eq (tgt := 16) hx hb dJ0_charAt_5068e_4 (by decide) (fun hc3 => ?_) (fun hc3 => ?_)
  · have hF := am_pos hc3 hF
    refine lv_aload_n hx hb dJ0_charAt_5068e_16 rfl (lv_at hl 0 rfl) ?_
    refine vk_getf hx hb (X.2.2.1.2.1.2.2.2.2.1 x0 hx0).2.2.1 hh.2.2 hown (hts _ (show Cond.fieldLink RJ0 9 "java/lang/String" "value" "[B"  ∈ wsJ0_charAt_5068e by decide +kernel)) (fun _ h9 => h9) dJ0_charAt_5068e_17 ?_
    refine lv_iload_n hx hb dJ0_charAt_5068e_20 rfl (lv_at hl 1 rfl) ?_
    cases hF
  · have hF := am_neg hc3 hF
    refine lv_aload_n hx hb dJ0_charAt_5068e_7 rfl (lv_at hl 0 rfl) ?_
    refine vk_getf hx hb (X.2.2.1.2.1.2.2.2.2.1 x0 hx0).2.2.1 hh.2.2 hown (hts _ (show Cond.fieldLink RJ0 9 "java/lang/String" "value" "[B"  ∈ wsJ0_charAt_5068e by decide +kernel)) (fun _ h9 => h9) dJ0_charAt_5068e_8 ?_
    refine lv_iload_n hx hb dJ0_charAt_5068e_11 rfl (lv_at hl 1 rfl) ?_
    obtain ⟨r5, hk4, hF⟩ := am_bind hF
    refine am_callF X hh (va_runS (As := [.ref (gAv G (200 + x0)), .int x1]) (rest := []) X.1 (c_J1_charAt_3b067 l G hx0 hk4) (va_cwS 2 hts gJ0_charAt_5068e_J1_charAt_3b067 rfl rfl rfl (by decide +kernel) ⟨Nat.le_of_ble_eq_true rfl, Nat.le_of_ble_eq_true rfl⟩) (am_preSF X hh) rfl rfl hl.1 rfl (lv_room (Nat.le_of_ble_eq_true rfl)) dJ0_charAt_5068e_12 ⟨Nat.le_of_ble_eq_true rfl, Nat.le_of_ble_eq_true rfl⟩) (fun H locs hh => ?_)
    exact amF_zret (v' := (vp_nar .char r5)) X hr (nar_c _) hh (fun t ht => am_qpF (mk := oI) hF ht) (Nat.le_of_ble_eq_true rfl) (Nat.le_of_ble_eq_true rfl) dJ0_charAt_5068e_15
set_option maxHeartbeats 4000000 in
set_option maxRecDepth 100000 in
theorem c_J1_canEncode_fc78d (l : Launch) (G : GG) {ab : Nat} {w : Wd} {x0 : Int32} {r0 : Int32} (hF : f_J1_canEncode_fc78d x0 = some r0) : Met l yJ1_canEncode_fc78d wsJ1_canEncode_fc78d ({ frames := 0, cells := 0, slots := 0, locals := 0 } : Room) (va_Pc [.int x0] (RelF G ab w)) (amQF G ab (oI r0) w) 0 0 (gA G) := by
  refine am_metB (own := RJ1) (cc := cJ1_canEncode_fc78d) (maxL := 1) (ret := (some .boolean)) (by decide +kernel) rfl rfl (Nat.le_of_ble_eq_true rfl) ?_
  intro p e s m args below meth c H locs ls X hr hh hl
  have hx := X.1.1; have hb := X.1.2.1; have hml := X.1.2.2.1; have hown := X.1.2.2.2.1; have hts := X.1.2.2.2.2
  have hl : lv_has ls 1 [(0, .int x0)] := hl
  unfold f_J1_canEncode_fc78d at hF
  refine lv_iload_n hx hb dJ1_canEncode_fc78d_0 rfl (lv_at hl 0 rfl) ?_
  refine lv_sipush (v := (255 : Int32)) hx hb dJ1_canEncode_fc78d_1 (by decide) ?_
  refine lv_icmp_gt (tgt := 11) hx hb dJ1_canEncode_fc78d_4 (by decide) (fun hc1 => ?_) (fun hc1 => ?_)
  · have hF := am_pos hc1 hF
    refine lv_iconst (v := (0 : Int32)) hx hb dJ1_canEncode_fc78d_11 (by decide) ?_
    exact amF_zret (v' := (0 : Int32)) X hr rfl hh (fun t ht => am_qpF (mk := oI) hF ht) (Nat.le_of_ble_eq_true rfl) (Nat.le_of_ble_eq_true rfl) dJ1_canEncode_fc78d_12
  · have hF := am_neg hc1 hF
    refine lv_iconst (v := (1 : Int32)) hx hb dJ1_canEncode_fc78d_7 (by decide) ?_
    refine lv_goto (tgt := 12) hx hb dJ1_canEncode_fc78d_8 (by decide) ?_
    exact amF_zret (v' := (1 : Int32)) X hr rfl hh (fun t ht => am_qpF (mk := oI) hF ht) (Nat.le_of_ble_eq_true rfl) (Nat.le_of_ble_eq_true rfl) dJ1_canEncode_fc78d_12
set_option maxHeartbeats 4000000 in
set_option maxRecDepth 100000 in
theorem c_J6_stringSize_0f7a4 (l : Launch) (G : GG) {ab : Nat} {w : Wd} {x0 : Int32} {r0 : Int32} (hF : f_J6_stringSize_0f7a4 x0 = some r0) : Met l yJ6_stringSize_0f7a4 wsJ6_stringSize_0f7a4 ({ frames := 0, cells := 0, slots := 0, locals := 0 } : Room) (va_Pc [.int x0] (RelF G ab w)) (amQF G ab (oI r0) w) 0 0 (gA G) := by
  refine am_metB (own := RJ6) (cc := cJ6_stringSize_0f7a4) (maxL := 4) (ret := (some .int)) (by decide +kernel) rfl rfl (Nat.le_of_ble_eq_true rfl) ?_
  intro p e s m args below meth c H locs ls X hr hh hl
  have hx := X.1.1; have hb := X.1.2.1; have hml := X.1.2.2.1; have hown := X.1.2.2.2.1; have hts := X.1.2.2.2.2
  have hl : lv_has ls 4 [(0, .int x0)] := hl
  unfold f_J6_stringSize_0f7a4 at hF
  refine lv_iconst (v := (1 : Int32)) hx hb dJ6_stringSize_0f7a4_0 (by decide) ?_
  refine lv_istore_n (lv' := [(1, .int (1 : Int32)), (0, .int x0)]) hx hb dJ6_stringSize_0f7a4_1 rfl hl (by decide) rfl (fun ls hl => ?_)
  refine lv_iload_n hx hb dJ6_stringSize_0f7a4_2 rfl (lv_at hl 1 rfl) ?_
  refine lv_if_lt (tgt := 11) hx hb dJ6_stringSize_0f7a4_3 (by decide) (fun hc1 => ?_) (fun hc1 => ?_)
  · have hF := am_pos hc1 hF
    refine lv_bipush (v := (-10 : Int32)) hx hb dJ6_stringSize_0f7a4_11 (by decide) ?_
    refine lv_istore_n (lv' := [(2, .int (-10 : Int32)), (1, .int (1 : Int32)), (0, .int x0)]) hx hb dJ6_stringSize_0f7a4_13 rfl hl (by decide) rfl (fun ls hl => ?_)
    refine lv_iconst (v := (1 : Int32)) hx hb dJ6_stringSize_0f7a4_14 (by decide) ?_
    refine lv_istore_n (lv' := [(3, .int (1 : Int32)), (2, .int (-10 : Int32)), (1, .int (1 : Int32)), (0, .int x0)]) hx hb dJ6_stringSize_0f7a4_15 rfl hl (by decide) rfl (fun ls hl => ?_)
    have hlp16 : ∀ (n : Nat) (y2 : Int32) (y3 : Int32) (ab : Nat) (H : Heap) (locs : List Loc) (ls : Array Slot) (z : (Int32 × Int32) ⊕ Int32), p_J6_stringSize_0f7a4_16 x0 n y2 y3 = some z → AH G s.heap w ab H locs → lv_has ls 4 [(2, .int y2), (3, .int y3), (1, .int (1 : Int32)), (0, .int x0)] → (∀ (y2 : Int32) (y3 : Int32) (ab : Nat) (H : Heap) (locs : List Loc) (ls : Array Slot), z = .inl (y2, y3) → AH G s.heap w ab H locs → lv_has ls 4 [(2, .int y2), (3, .int y3), (1, .int (1 : Int32)), (0, .int x0)] → W p l e ({ frames := 0, cells := 0, slots := 0, locals := 0 } : Room) s m args below meth c H locs 0 0 (MQ below (amQF G ab (oI r0) w) args s 0 0 (gA G)) (F0 m 42 ls [])) → (∀ r, z = .inr r → some r = some r0) → W p l e ({ frames := 0, cells := 0, slots := 0, locals := 0 } : Room) s m args below meth c H locs 0 0 (MQ below (amQF G ab (oI r0) w) args s 0 0 (gA G)) (F0 m 16 ls []) := by
      intro n
      induction n with
      | zero =>
        intro y2 y3 ab H locs ls z hF
        unfold p_J6_stringSize_0f7a4_16 at hF
        cases hF
      | succ n ih =>
        intro y2 y3 ab H locs ls z hF hh hl kE kR
        unfold p_J6_stringSize_0f7a4_16 at hF
        refine lv_iload_n hx hb dJ6_stringSize_0f7a4_16 rfl (lv_at hl 1 rfl) ?_
        refine lv_bipush (v := (10 : Int32)) hx hb dJ6_stringSize_0f7a4_17 (by decide) ?_
        refine lv_icmp_ge (tgt := 42) hx hb dJ6_stringSize_0f7a4_19 (by decide) (fun hc5 => ?_) (fun hc5 => ?_)
        · have hF := am_pos hc5 hF
          exact kE y2 y3 ab H locs ls (Option.some.inj hF).symm hh (lv_sub hl [0, 1, 2, 3] rfl)
        · have hF := am_neg hc5 hF
          refine lv_iload_n hx hb dJ6_stringSize_0f7a4_22 rfl (lv_at hl 3 rfl) ?_
          refine lv_iload_n hx hb dJ6_stringSize_0f7a4_23 rfl (lv_at hl 0 rfl) ?_
          refine lv_icmp_le (tgt := 31) hx hb dJ6_stringSize_0f7a4_24 (by decide) (fun hc6 => ?_) (fun hc6 => ?_)
          · have hF := am_pos hc6 hF
            refine lv_bipush (v := (10 : Int32)) hx hb dJ6_stringSize_0f7a4_31 (by decide) ?_
            refine lv_iload_n hx hb dJ6_stringSize_0f7a4_33 rfl (lv_at hl 0 rfl) ?_
            refine lv_imul hx hb dJ6_stringSize_0f7a4_34 ?_
            refine lv_istore_n (lv' := [(2, .int ((10 : Int32) * y2)), (3, .int y3), (1, .int (1 : Int32)), (0, .int x0)]) hx hb dJ6_stringSize_0f7a4_35 rfl hl (by decide) rfl (fun ls hl => ?_)
            refine lv_iinc (v := (y3 + (1 : Int32))) (lv' := [(3, .int (y3 + (1 : Int32))), (2, .int ((10 : Int32) * y2)), (1, .int (1 : Int32)), (0, .int x0)]) hx hb dJ6_stringSize_0f7a4_36 hl (k := 1) rfl rfl (by decide) rfl (fun ls hl => ?_)
            refine lv_goto (tgt := 16) hx hb dJ6_stringSize_0f7a4_39 (by decide) ?_
            exact ih ((10 : Int32) * y2) (y3 + (1 : Int32)) ab H locs ls _ hF hh (lv_sub hl [1, 0, 2, 3] rfl) kE kR
          · have hF := am_neg hc6 hF
            refine lv_iload_n hx hb dJ6_stringSize_0f7a4_27 rfl (lv_at hl 1 rfl) ?_
            refine lv_iload_n hx hb dJ6_stringSize_0f7a4_28 rfl (lv_at hl 2 rfl) ?_
            refine lv_iadd hx hb dJ6_stringSize_0f7a4_29 ?_
            have hF := kR _ (Option.some.inj hF).symm
            exact amF_iret X hr hh (fun t ht => am_qpF (mk := oI) hF ht) (Nat.le_of_ble_eq_true rfl) (Nat.le_of_ble_eq_true rfl) dJ6_stringSize_0f7a4_30
    obtain ⟨z7, hz8, hF⟩ := am_bind hF
    refine hlp16 2000 (-10 : Int32) (1 : Int32) ab H locs ls z7 hz8 hh (lv_sub hl [1, 0, 2, 3] rfl) (fun y2 y3 ab H locs ls hz hh hl => ?_) (fun r hz => ?_)
    · subst hz
      have hF := am_zl hF
      have hF := am_u2 hF
      refine lv_bipush (v := (10 : Int32)) hx hb dJ6_stringSize_0f7a4_42 (by decide) ?_
      refine lv_iload_n hx hb dJ6_stringSize_0f7a4_44 rfl (lv_at hl 2 rfl) ?_
      refine lv_iadd hx hb dJ6_stringSize_0f7a4_45 ?_
      exact amF_iret X hr hh (fun t ht => am_qpF (mk := oI) hF ht) (Nat.le_of_ble_eq_true rfl) (Nat.le_of_ble_eq_true rfl) dJ6_stringSize_0f7a4_46
    · subst hz
      have hF := am_zr hF
      exact hF
  · have hF := am_neg hc1 hF
    refine lv_iconst (v := (0 : Int32)) hx hb dJ6_stringSize_0f7a4_6 (by decide) ?_
    refine lv_istore_n (lv' := [(1, .int (0 : Int32)), (0, .int x0)]) hx hb dJ6_stringSize_0f7a4_7 rfl hl (by decide) rfl (fun ls hl => ?_)
    refine lv_iload_n hx hb dJ6_stringSize_0f7a4_8 rfl (lv_at hl 1 rfl) ?_
    refine lv_ineg hx hb dJ6_stringSize_0f7a4_9 ?_
    refine lv_istore_n (lv' := [(0, .int (-x0)), (1, .int (0 : Int32))]) hx hb dJ6_stringSize_0f7a4_10 rfl hl (by decide) rfl (fun ls hl => ?_)
    refine lv_bipush (v := (-10 : Int32)) hx hb dJ6_stringSize_0f7a4_11 (by decide) ?_
    refine lv_istore_n (lv' := [(2, .int (-10 : Int32)), (0, .int (-x0)), (1, .int (0 : Int32))]) hx hb dJ6_stringSize_0f7a4_13 rfl hl (by decide) rfl (fun ls hl => ?_)
    refine lv_iconst (v := (1 : Int32)) hx hb dJ6_stringSize_0f7a4_14 (by decide) ?_
    refine lv_istore_n (lv' := [(3, .int (1 : Int32)), (2, .int (-10 : Int32)), (0, .int (-x0)), (1, .int (0 : Int32))]) hx hb dJ6_stringSize_0f7a4_15 rfl hl (by decide) rfl (fun ls hl => ?_)
    have hlp16 : ∀ (c11 : Int32) (n : Nat) (y9 : Int32) (y10 : Int32) (ab : Nat) (H : Heap) (locs : List Loc) (ls : Array Slot) (z : (Int32 × Int32) ⊕ Int32), p_J6_stringSize_0f7a4_16b c11 n y9 y10 = some z → AH G s.heap w ab H locs → lv_has ls 4 [(2, .int y9), (3, .int y10), (0, .int c11), (1, .int (0 : Int32))] → (∀ (y9 : Int32) (y10 : Int32) (ab : Nat) (H : Heap) (locs : List Loc) (ls : Array Slot), z = .inl (y9, y10) → AH G s.heap w ab H locs → lv_has ls 4 [(2, .int y9), (3, .int y10), (0, .int c11), (1, .int (0 : Int32))] → W p l e ({ frames := 0, cells := 0, slots := 0, locals := 0 } : Room) s m args below meth c H locs 0 0 (MQ below (amQF G ab (oI r0) w) args s 0 0 (gA G)) (F0 m 42 ls [])) → (∀ r, z = .inr r → some r = some r0) → W p l e ({ frames := 0, cells := 0, slots := 0, locals := 0 } : Room) s m args below meth c H locs 0 0 (MQ below (amQF G ab (oI r0) w) args s 0 0 (gA G)) (F0 m 16 ls []) := by
      intro c11 n
      induction n with
      | zero =>
        intro y9 y10 ab H locs ls z hF
        unfold p_J6_stringSize_0f7a4_16b at hF
        cases hF
      | succ n ih =>
        intro y9 y10 ab H locs ls z hF hh hl kE kR
        unfold p_J6_stringSize_0f7a4_16b at hF
        refine lv_iload_n hx hb dJ6_stringSize_0f7a4_16 rfl (lv_at hl 1 rfl) ?_
        refine lv_bipush (v := (10 : Int32)) hx hb dJ6_stringSize_0f7a4_17 (by decide) ?_
        refine lv_icmp_ge (tgt := 42) hx hb dJ6_stringSize_0f7a4_19 (by decide) (fun hc13 => ?_) (fun hc13 => ?_)
        · have hF := am_pos hc13 hF
          exact kE y9 y10 ab H locs ls (Option.some.inj hF).symm hh (lv_sub hl [0, 1, 2, 3] rfl)
        · have hF := am_neg hc13 hF
          refine lv_iload_n hx hb dJ6_stringSize_0f7a4_22 rfl (lv_at hl 2 rfl) ?_
          refine lv_iload_n hx hb dJ6_stringSize_0f7a4_23 rfl (lv_at hl 0 rfl) ?_
          refine lv_icmp_le (tgt := 31) hx hb dJ6_stringSize_0f7a4_24 (by decide) (fun hc14 => ?_) (fun hc14 => ?_)
          · have hF := am_pos hc14 hF
            refine lv_bipush (v := (10 : Int32)) hx hb dJ6_stringSize_0f7a4_31 (by decide) ?_
            refine lv_iload_n hx hb dJ6_stringSize_0f7a4_33 rfl (lv_at hl 0 rfl) ?_
            refine lv_imul hx hb dJ6_stringSize_0f7a4_34 ?_
            refine lv_istore_n (lv' := [(2, .int ((10 : Int32) * y9)), (3, .int y10), (0, .int c11), (1, .int (0 : Int32))]) hx hb dJ6_stringSize_0f7a4_35 rfl hl (by decide) rfl (fun ls hl => ?_)
            refine lv_iinc (v := (y10 + (1 : Int32))) (lv' := [(3, .int (y10 + (1 : Int32))), (2, .int ((10 : Int32) * y9)), (0, .int c11), (1, .int (0 : Int32))]) hx hb dJ6_stringSize_0f7a4_36 hl (k := 1) rfl rfl (by decide) rfl (fun ls hl => ?_)
            refine lv_goto (tgt := 16) hx hb dJ6_stringSize_0f7a4_39 (by decide) ?_
            exact ih ((10 : Int32) * y9) (y10 + (1 : Int32)) ab H locs ls _ hF hh (lv_sub hl [1, 0, 2, 3] rfl) kE kR
          · have hF := am_neg hc14 hF
            refine lv_iload_n hx hb dJ6_stringSize_0f7a4_27 rfl (lv_at hl 1 rfl) ?_
            refine lv_iload_n hx hb dJ6_stringSize_0f7a4_28 rfl (lv_at hl 3 rfl) ?_
            refine lv_iadd hx hb dJ6_stringSize_0f7a4_29 ?_
            have hF := kR _ (Option.some.inj hF).symm
            exact amF_iret X hr hh (fun t ht => am_qpF (mk := oI) hF ht) (Nat.le_of_ble_eq_true rfl) (Nat.le_of_ble_eq_true rfl) dJ6_stringSize_0f7a4_30
    obtain ⟨z15, hz16, hF⟩ := am_bind hF
    refine hlp16 (-x0) 2000 (-10 : Int32) (1 : Int32) ab H locs ls z15 hz16 hh (lv_sub hl [1, 0, 2, 3] rfl) (fun y9 y10 ab H locs ls hz hh hl => ?_) (fun r hz => ?_)
    · subst hz
      have hF := am_zl hF
      have hF := am_u2 hF
      refine lv_bipush (v := (10 : Int32)) hx hb dJ6_stringSize_0f7a4_42 (by decide) ?_
      refine lv_iload_n hx hb dJ6_stringSize_0f7a4_44 rfl (lv_at hl 3 rfl) ?_
      refine lv_iadd hx hb dJ6_stringSize_0f7a4_45 ?_
      exact amF_iret X hr hh (fun t ht => am_qpF (mk := oI) hF ht) (Nat.le_of_ble_eq_true rfl) (Nat.le_of_ble_eq_true rfl) dJ6_stringSize_0f7a4_46
    · subst hz
      have hF := am_zr hF
      exact hF
set_option maxHeartbeats 4000000 in
set_option maxRecDepth 100000 in
theorem c_J6_getChars_ba4f3 (l : Launch) (G : GG) {ab : Nat} {w : Wd} {x0 : Int32} {x1 : Int32} {r0 : Int32} {w1 : Wd} (hF : f_J6_getChars_ba4f3 w x0 x1 = some (r0, w1)) : Met l yJ6_getChars_ba4f3 wsJ6_getChars_ba4f3 ({ frames := 0, cells := 0, slots := 0, locals := 0 } : Room) (va_Pc [.int x0, .int x1, .ref ab] (RelF G ab w)) (amQF G ab (oI r0) w1) 0 0 (gA G) := by
  refine am_metB (own := RJ6) (cc := cJ6_getChars_ba4f3) (maxL := 7) (ret := (some .int)) (by decide +kernel) rfl rfl (Nat.le_of_ble_eq_true rfl) ?_
  intro p e s m args below meth c H locs ls X hr hh hl
  have hx := X.1.1; have hb := X.1.2.1; have hml := X.1.2.2.1; have hown := X.1.2.2.2.1; have hts := X.1.2.2.2.2
  have hl : lv_has ls 7 [(0, .int x0), (1, .int x1), (2, .ref ab)] := hl
  unfold f_J6_getChars_ba4f3 at hF
  refine lv_iload_n hx hb dJ6_getChars_ba4f3_0 rfl (lv_at hl 1 rfl) ?_
  refine lv_istore (lv' := [(5, .int x1), (0, .int x0), (1, .int x1), (2, .ref ab)]) hx hb dJ6_getChars_ba4f3_1 hl (by decide) rfl (fun ls hl => ?_)
  refine lv_iload_n hx hb dJ6_getChars_ba4f3_3 rfl (lv_at hl 1 rfl) ?_
  refine lv_if_ge (tgt := 11) hx hb dJ6_getChars_ba4f3_4 (by decide) (fun hc1 => ?_) (fun hc1 => ?_)
  · have hF := am_pos hc1 hF
    refine lv_iconst (v := (0 : Int32)) hx hb dJ6_getChars_ba4f3_11 (by decide) ?_
    refine lv_istore (lv' := [(6, .int (0 : Int32)), (5, .int x1), (0, .int x0), (1, .int x1), (2, .ref ab)]) hx hb dJ6_getChars_ba4f3_12 hl (by decide) rfl (fun ls hl => ?_)
    refine lv_iload hx hb dJ6_getChars_ba4f3_14 (lv_at hl 0 rfl) ?_
    refine lv_if_ne (tgt := 22) hx hb dJ6_getChars_ba4f3_16 (by decide) (fun hz => absurd (by decide) hz) (fun _ => ?_)
    refine lv_iload_n hx hb dJ6_getChars_ba4f3_19 rfl (lv_at hl 2 rfl) ?_
    refine lv_ineg hx hb dJ6_getChars_ba4f3_20 ?_
    refine lv_istore_n (lv' := [(0, .int (-x0)), (6, .int (0 : Int32)), (5, .int x1), (1, .int x1), (2, .ref ab)]) hx hb dJ6_getChars_ba4f3_21 rfl hl (by decide) rfl (fun ls hl => ?_)
    have hlp22 : ∀ (n : Nat) (y2 : Int32) (y3 : Int32) (w4 : Wd) (ab : Nat) (H : Heap) (locs : List Loc) (ls : Array Slot) (z : (Int32 × Int32 × Wd) ⊕ Unit), p_J6_getChars_ba4f3_22 n y2 y3 w4 = some z → AH G s.heap w4 ab H locs → lv_has ls 7 [(0, .int y2), (5, .int y3), (6, .int (0 : Int32)), (1, .int x1), (2, .ref ab)] → (∀ (y2 : Int32) (y3 : Int32) (w4 : Wd) (ab : Nat) (H : Heap) (locs : List Loc) (ls : Array Slot), z = .inl (y2, y3, w4) → AH G s.heap w4 ab H locs → lv_has ls 7 [(0, .int y2), (5, .int y3), (6, .int (0 : Int32)), (1, .int x1), (2, .ref ab)] → W p l e ({ frames := 0, cells := 0, slots := 0, locals := 0 } : Room) s m args below meth c H locs 0 0 (MQ below (amQF G ab (oI r0) w1) args s 0 0 (gA G)) (F0 m 72 ls [])) → W p l e ({ frames := 0, cells := 0, slots := 0, locals := 0 } : Room) s m args below meth c H locs 0 0 (MQ below (amQF G ab (oI r0) w1) args s 0 0 (gA G)) (F0 m 22 ls []) := by
      intro n
      induction n with
      | zero =>
        intro y2 y3 w4 ab H locs ls z hF
        unfold p_J6_getChars_ba4f3_22 at hF
        cases hF
      | succ n ih =>
        intro y2 y3 w4 ab H locs ls z hF hh hl kE
        unfold p_J6_getChars_ba4f3_22 at hF
        refine lv_iload_n hx hb dJ6_getChars_ba4f3_22 rfl (lv_at hl 0 rfl) ?_
        refine lv_bipush (v := (-100 : Int32)) hx hb dJ6_getChars_ba4f3_23 (by decide) ?_
        refine lv_icmp_gt (tgt := 72) hx hb dJ6_getChars_ba4f3_25 (by decide) (fun hc6 => ?_) (fun hc6 => ?_)
        · have hF := am_pos hc6 hF
          exact kE y2 y3 w4 ab H locs ls (Option.some.inj hF).symm hh (lv_sub hl [0, 1, 2, 3, 4] rfl)
        · have hF := am_neg hc6 hF
          refine lv_iload_n hx hb dJ6_getChars_ba4f3_28 rfl (lv_at hl 0 rfl) ?_
          refine lv_bipush (v := (100 : Int32)) hx hb dJ6_getChars_ba4f3_29 (by decide) ?_
          obtain ⟨hq7, hF⟩ := am_if hF
          refine lv_idiv hx hb dJ6_getChars_ba4f3_31 hq7 ?_
          refine lv_istore_n (lv' := [(3, .int (y2 / (100 : Int32))), (0, .int y2), (5, .int y3), (6, .int (0 : Int32)), (1, .int x1), (2, .ref ab)]) hx hb dJ6_getChars_ba4f3_32 rfl hl (by decide) rfl (fun ls hl => ?_)
          refine lv_iload_n hx hb dJ6_getChars_ba4f3_33 rfl (lv_at hl 0 rfl) ?_
          refine lv_bipush (v := (100 : Int32)) hx hb dJ6_getChars_ba4f3_34 (by decide) ?_
          refine lv_imul hx hb dJ6_getChars_ba4f3_36 ?_
          refine lv_iload_n hx hb dJ6_getChars_ba4f3_37 rfl (lv_at hl 1 rfl) ?_
          refine lv_isub hx hb dJ6_getChars_ba4f3_38 ?_
          refine lv_istore (lv' := [(4, .int (((y2 / (100 : Int32)) * (100 : Int32)) - y2)), (3, .int (y2 / (100 : Int32))), (0, .int y2), (5, .int y3), (6, .int (0 : Int32)), (1, .int x1), (2, .ref ab)]) hx hb dJ6_getChars_ba4f3_39 hl (by decide) rfl (fun ls hl => ?_)
          refine lv_iload_n hx hb dJ6_getChars_ba4f3_41 rfl (lv_at hl 1 rfl) ?_
          refine lv_istore_n (lv' := [(0, .int (y2 / (100 : Int32))), (4, .int (((y2 / (100 : Int32)) * (100 : Int32)) - y2)), (3, .int (y2 / (100 : Int32))), (5, .int y3), (6, .int (0 : Int32)), (1, .int x1), (2, .ref ab)]) hx hb dJ6_getChars_ba4f3_42 rfl hl (by decide) rfl (fun ls hl => ?_)
          refine lv_aload_n hx hb dJ6_getChars_ba4f3_43 rfl (lv_at hl 6 rfl) ?_
          refine lv_iinc (v := (y3 + (-1 : Int32))) (lv' := [(5, .int (y3 + (-1 : Int32))), (0, .int (y2 / (100 : Int32))), (4, .int (((y2 / (100 : Int32)) * (100 : Int32)) - y2)), (3, .int (y2 / (100 : Int32))), (6, .int (0 : Int32)), (1, .int x1), (2, .ref ab)]) hx hb dJ6_getChars_ba4f3_44 hl (k := 3) rfl rfl (by decide) rfl (fun ls hl => ?_)
          refine lv_iload hx hb dJ6_getChars_ba4f3_47 (lv_at hl 0 rfl) ?_
          refine va_gets hx hb X.2.2.1.1.2.2.2.2.2.2.1 hh.2.2 hown (hts _ (show Cond.fieldLink RJ6 83 "java/lang/Integer" "DigitOnes" "[B"  ∈ wsJ6_getChars_ba4f3 by decide +kernel)) (fun _ h9 => h9) dJ6_getChars_ba4f3_49 ?_
          refine lv_iload hx hb dJ6_getChars_ba4f3_52 (lv_at hl 2 rfl) ?_
          obtain ⟨hq8, hF⟩ := am_ifR hF
          refine va_tb hx hb X.2.2.1.1.2.2.2.2.2.2.2.1 hh.2.2 hq8 rfl dJ6_getChars_ba4f3_54 ?_
          obtain ⟨hq9, hF⟩ := am_ifR hF
          refine am_bast X hh 140 (by decide) rfl hq9 dJ6_getChars_ba4f3_55 (fun H locs hh => ?_)
          obtain ⟨w10, hw10, hF⟩ := am_wl hF
          have hh := AH_eq hw10 hh
          refine lv_aload_n hx hb dJ6_getChars_ba4f3_56 rfl (lv_at hl 6 rfl) ?_
          refine lv_iinc (v := ((y3 + (-1 : Int32)) + (-1 : Int32))) (lv' := [(5, .int ((y3 + (-1 : Int32)) + (-1 : Int32))), (0, .int (y2 / (100 : Int32))), (4, .int (((y2 / (100 : Int32)) * (100 : Int32)) - y2)), (3, .int (y2 / (100 : Int32))), (6, .int (0 : Int32)), (1, .int x1), (2, .ref ab)]) hx hb dJ6_getChars_ba4f3_57 hl (k := 0) rfl rfl (by decide) rfl (fun ls hl => ?_)
          refine lv_iload hx hb dJ6_getChars_ba4f3_60 (lv_at hl 0 rfl) ?_
          refine va_gets hx hb X.2.2.1.1.2.2.2.2.2.2.2.2.1 hh.2.2 hown (hts _ (show Cond.fieldLink RJ6 87 "java/lang/Integer" "DigitTens" "[B"  ∈ wsJ6_getChars_ba4f3 by decide +kernel)) (fun _ h9 => h9) dJ6_getChars_ba4f3_62 ?_
          refine lv_iload hx hb dJ6_getChars_ba4f3_65 (lv_at hl 2 rfl) ?_
          obtain ⟨hq11, hF⟩ := am_ifR hF
          refine va_tb hx hb X.2.2.1.1.2.2.2.2.2.2.2.2.2.1 hh.2.2 hq11 rfl dJ6_getChars_ba4f3_67 ?_
          obtain ⟨hq12, hF⟩ := am_ifR hF
          refine am_bast X hh 140 (by decide) rfl hq12 dJ6_getChars_ba4f3_68 (fun H locs hh => ?_)
          obtain ⟨w13, hw13, hF⟩ := am_wl hF
          have hh := AH_eq hw13 hh
          refine lv_goto (tgt := 22) hx hb dJ6_getChars_ba4f3_69 (by decide) ?_
          exact ih (y2 / (100 : Int32)) ((y3 + (-1 : Int32)) + (-1 : Int32)) w13 ab H locs ls _ hF hh (lv_sub hl [1, 0, 4, 5, 6] rfl) kE
    obtain ⟨z14, hz15, hF⟩ := am_bind hF
    refine hlp22 2000 (-x0) x1 w ab H locs ls z14 hz15 hh (lv_sub hl [0, 2, 1, 3, 4] rfl) (fun y2 y3 w4 ab H locs ls hz hh hl => ?_)
    · subst hz
      have hF := am_zl hF
      have hF := am_u3 hF
      refine lv_aload_n hx hb dJ6_getChars_ba4f3_72 rfl (lv_at hl 4 rfl) ?_
      refine lv_iinc (v := (y3 + (-1 : Int32))) (lv' := [(5, .int (y3 + (-1 : Int32))), (0, .int y2), (6, .int (0 : Int32)), (1, .int x1), (2, .ref ab)]) hx hb dJ6_getChars_ba4f3_73 hl (k := 1) rfl rfl (by decide) rfl (fun ls hl => ?_)
      refine lv_iload hx hb dJ6_getChars_ba4f3_76 (lv_at hl 0 rfl) ?_
      refine va_gets hx hb X.2.2.1.1.2.2.2.2.2.2.1 hh.2.2 hown (hts _ (show Cond.fieldLink RJ6 83 "java/lang/Integer" "DigitOnes" "[B"  ∈ wsJ6_getChars_ba4f3 by decide +kernel)) (fun _ h9 => h9) dJ6_getChars_ba4f3_78 ?_
      refine lv_iload_n hx hb dJ6_getChars_ba4f3_81 rfl (lv_at hl 1 rfl) ?_
      refine lv_ineg hx hb dJ6_getChars_ba4f3_82 ?_
      obtain ⟨hq16, hF⟩ := am_ifR hF
      refine va_tb hx hb X.2.2.1.1.2.2.2.2.2.2.2.1 hh.2.2 hq16 rfl dJ6_getChars_ba4f3_83 ?_
      obtain ⟨hq17, hF⟩ := am_ifR hF
      refine am_bast X hh 140 (by decide) rfl hq17 dJ6_getChars_ba4f3_84 (fun H locs hh => ?_)
      obtain ⟨w18, hw18, hF⟩ := am_wl hF
      have hh := AH_eq hw18 hh
      refine lv_iload_n hx hb dJ6_getChars_ba4f3_85 rfl (lv_at hl 1 rfl) ?_
      refine lv_bipush (v := (-9 : Int32)) hx hb dJ6_getChars_ba4f3_86 (by decide) ?_
      refine lv_icmp_ge (tgt := 104) hx hb dJ6_getChars_ba4f3_88 (by decide) (fun hc19 => ?_) (fun hc19 => ?_)
      · have hF := am_pos hc19 hF
        refine lv_iload hx hb dJ6_getChars_ba4f3_104 (lv_at hl 2 rfl) ?_
        refine lv_if_eq (tgt := 118) hx hb dJ6_getChars_ba4f3_106 (by decide) (fun _ => ?_) (fun hz => absurd (by decide) hz)
        refine lv_iload hx hb dJ6_getChars_ba4f3_118 (lv_at hl 0 rfl) ?_
        exact amF_iret X hr hh (fun t ht => am_qwF (mk := oI) hF ht) (Nat.le_of_ble_eq_true rfl) (Nat.le_of_ble_eq_true rfl) dJ6_getChars_ba4f3_120
      · have hF := am_neg hc19 hF
        refine lv_aload_n hx hb dJ6_getChars_ba4f3_91 rfl (lv_at hl 4 rfl) ?_
        refine lv_iinc (v := ((y3 + (-1 : Int32)) + (-1 : Int32))) (lv' := [(5, .int ((y3 + (-1 : Int32)) + (-1 : Int32))), (0, .int y2), (6, .int (0 : Int32)), (1, .int x1), (2, .ref ab)]) hx hb dJ6_getChars_ba4f3_92 hl (k := 0) rfl rfl (by decide) rfl (fun ls hl => ?_)
        refine lv_iload hx hb dJ6_getChars_ba4f3_95 (lv_at hl 0 rfl) ?_
        refine va_gets hx hb X.2.2.1.1.2.2.2.2.2.2.2.2.1 hh.2.2 hown (hts _ (show Cond.fieldLink RJ6 87 "java/lang/Integer" "DigitTens" "[B"  ∈ wsJ6_getChars_ba4f3 by decide +kernel)) (fun _ h9 => h9) dJ6_getChars_ba4f3_97 ?_
        refine lv_iload_n hx hb dJ6_getChars_ba4f3_100 rfl (lv_at hl 1 rfl) ?_
        refine lv_ineg hx hb dJ6_getChars_ba4f3_101 ?_
        obtain ⟨hq20, hF⟩ := am_ifR hF
        refine va_tb hx hb X.2.2.1.1.2.2.2.2.2.2.2.2.2.1 hh.2.2 hq20 rfl dJ6_getChars_ba4f3_102 ?_
        obtain ⟨hq21, hF⟩ := am_ifR hF
        refine am_bast X hh 140 (by decide) rfl hq21 dJ6_getChars_ba4f3_103 (fun H locs hh => ?_)
        obtain ⟨w22, hw22, hF⟩ := am_wl hF
        have hh := AH_eq hw22 hh
        refine lv_iload hx hb dJ6_getChars_ba4f3_104 (lv_at hl 2 rfl) ?_
        refine lv_if_eq (tgt := 118) hx hb dJ6_getChars_ba4f3_106 (by decide) (fun _ => ?_) (fun hz => absurd (by decide) hz)
        refine lv_iload hx hb dJ6_getChars_ba4f3_118 (lv_at hl 0 rfl) ?_
        exact amF_iret X hr hh (fun t ht => am_qwF (mk := oI) hF ht) (Nat.le_of_ble_eq_true rfl) (Nat.le_of_ble_eq_true rfl) dJ6_getChars_ba4f3_120
  · have hF := am_neg hc1 hF
    refine lv_iconst (v := (1 : Int32)) hx hb dJ6_getChars_ba4f3_7 (by decide) ?_
    refine lv_goto (tgt := 12) hx hb dJ6_getChars_ba4f3_8 (by decide) ?_
    refine lv_istore (lv' := [(6, .int (1 : Int32)), (5, .int x1), (0, .int x0), (1, .int x1), (2, .ref ab)]) hx hb dJ6_getChars_ba4f3_12 hl (by decide) rfl (fun ls hl => ?_)
    refine lv_iload hx hb dJ6_getChars_ba4f3_14 (lv_at hl 0 rfl) ?_
    refine lv_if_ne (tgt := 22) hx hb dJ6_getChars_ba4f3_16 (by decide) (fun _ => ?_) (fun hz => absurd hz (by decide))
    have hlp22 : ∀ (n : Nat) (y23 : Int32) (y24 : Int32) (w25 : Wd) (ab : Nat) (H : Heap) (locs : List Loc) (ls : Array Slot) (z : (Int32 × Int32 × Wd) ⊕ Unit), p_J6_getChars_ba4f3_22 n y23 y24 w25 = some z → AH G s.heap w25 ab H locs → lv_has ls 7 [(0, .int y23), (5, .int y24), (6, .int (1 : Int32)), (1, .int x1), (2, .ref ab)] → (∀ (y23 : Int32) (y24 : Int32) (w25 : Wd) (ab : Nat) (H : Heap) (locs : List Loc) (ls : Array Slot), z = .inl (y23, y24, w25) → AH G s.heap w25 ab H locs → lv_has ls 7 [(0, .int y23), (5, .int y24), (6, .int (1 : Int32)), (1, .int x1), (2, .ref ab)] → W p l e ({ frames := 0, cells := 0, slots := 0, locals := 0 } : Room) s m args below meth c H locs 0 0 (MQ below (amQF G ab (oI r0) w1) args s 0 0 (gA G)) (F0 m 72 ls [])) → W p l e ({ frames := 0, cells := 0, slots := 0, locals := 0 } : Room) s m args below meth c H locs 0 0 (MQ below (amQF G ab (oI r0) w1) args s 0 0 (gA G)) (F0 m 22 ls []) := by
      intro n
      induction n with
      | zero =>
        intro y23 y24 w25 ab H locs ls z hF
        unfold p_J6_getChars_ba4f3_22 at hF
        cases hF
      | succ n ih =>
        intro y23 y24 w25 ab H locs ls z hF hh hl kE
        unfold p_J6_getChars_ba4f3_22 at hF
        refine lv_iload_n hx hb dJ6_getChars_ba4f3_22 rfl (lv_at hl 0 rfl) ?_
        refine lv_bipush (v := (-100 : Int32)) hx hb dJ6_getChars_ba4f3_23 (by decide) ?_
        refine lv_icmp_gt (tgt := 72) hx hb dJ6_getChars_ba4f3_25 (by decide) (fun hc27 => ?_) (fun hc27 => ?_)
        · have hF := am_pos hc27 hF
          exact kE y23 y24 w25 ab H locs ls (Option.some.inj hF).symm hh (lv_sub hl [0, 1, 2, 3, 4] rfl)
        · have hF := am_neg hc27 hF
          refine lv_iload_n hx hb dJ6_getChars_ba4f3_28 rfl (lv_at hl 0 rfl) ?_
          refine lv_bipush (v := (100 : Int32)) hx hb dJ6_getChars_ba4f3_29 (by decide) ?_
          obtain ⟨hq28, hF⟩ := am_if hF
          refine lv_idiv hx hb dJ6_getChars_ba4f3_31 hq28 ?_
          refine lv_istore_n (lv' := [(3, .int (y23 / (100 : Int32))), (0, .int y23), (5, .int y24), (6, .int (1 : Int32)), (1, .int x1), (2, .ref ab)]) hx hb dJ6_getChars_ba4f3_32 rfl hl (by decide) rfl (fun ls hl => ?_)
          refine lv_iload_n hx hb dJ6_getChars_ba4f3_33 rfl (lv_at hl 0 rfl) ?_
          refine lv_bipush (v := (100 : Int32)) hx hb dJ6_getChars_ba4f3_34 (by decide) ?_
          refine lv_imul hx hb dJ6_getChars_ba4f3_36 ?_
          refine lv_iload_n hx hb dJ6_getChars_ba4f3_37 rfl (lv_at hl 1 rfl) ?_
          refine lv_isub hx hb dJ6_getChars_ba4f3_38 ?_
          refine lv_istore (lv' := [(4, .int (((y23 / (100 : Int32)) * (100 : Int32)) - y23)), (3, .int (y23 / (100 : Int32))), (0, .int y23), (5, .int y24), (6, .int (1 : Int32)), (1, .int x1), (2, .ref ab)]) hx hb dJ6_getChars_ba4f3_39 hl (by decide) rfl (fun ls hl => ?_)
          refine lv_iload_n hx hb dJ6_getChars_ba4f3_41 rfl (lv_at hl 1 rfl) ?_
          refine lv_istore_n (lv' := [(0, .int (y23 / (100 : Int32))), (4, .int (((y23 / (100 : Int32)) * (100 : Int32)) - y23)), (3, .int (y23 / (100 : Int32))), (5, .int y24), (6, .int (1 : Int32)), (1, .int x1), (2, .ref ab)]) hx hb dJ6_getChars_ba4f3_42 rfl hl (by decide) rfl (fun ls hl => ?_)
          refine lv_aload_n hx hb dJ6_getChars_ba4f3_43 rfl (lv_at hl 6 rfl) ?_
          refine lv_iinc (v := (y24 + (-1 : Int32))) (lv' := [(5, .int (y24 + (-1 : Int32))), (0, .int (y23 / (100 : Int32))), (4, .int (((y23 / (100 : Int32)) * (100 : Int32)) - y23)), (3, .int (y23 / (100 : Int32))), (6, .int (1 : Int32)), (1, .int x1), (2, .ref ab)]) hx hb dJ6_getChars_ba4f3_44 hl (k := 3) rfl rfl (by decide) rfl (fun ls hl => ?_)
          refine lv_iload hx hb dJ6_getChars_ba4f3_47 (lv_at hl 0 rfl) ?_
          refine va_gets hx hb X.2.2.1.1.2.2.2.2.2.2.1 hh.2.2 hown (hts _ (show Cond.fieldLink RJ6 83 "java/lang/Integer" "DigitOnes" "[B"  ∈ wsJ6_getChars_ba4f3 by decide +kernel)) (fun _ h9 => h9) dJ6_getChars_ba4f3_49 ?_
          refine lv_iload hx hb dJ6_getChars_ba4f3_52 (lv_at hl 2 rfl) ?_
          obtain ⟨hq29, hF⟩ := am_ifR hF
          refine va_tb hx hb X.2.2.1.1.2.2.2.2.2.2.2.1 hh.2.2 hq29 rfl dJ6_getChars_ba4f3_54 ?_
          obtain ⟨hq30, hF⟩ := am_ifR hF
          refine am_bast X hh 140 (by decide) rfl hq30 dJ6_getChars_ba4f3_55 (fun H locs hh => ?_)
          obtain ⟨w31, hw31, hF⟩ := am_wl hF
          have hh := AH_eq hw31 hh
          refine lv_aload_n hx hb dJ6_getChars_ba4f3_56 rfl (lv_at hl 6 rfl) ?_
          refine lv_iinc (v := ((y24 + (-1 : Int32)) + (-1 : Int32))) (lv' := [(5, .int ((y24 + (-1 : Int32)) + (-1 : Int32))), (0, .int (y23 / (100 : Int32))), (4, .int (((y23 / (100 : Int32)) * (100 : Int32)) - y23)), (3, .int (y23 / (100 : Int32))), (6, .int (1 : Int32)), (1, .int x1), (2, .ref ab)]) hx hb dJ6_getChars_ba4f3_57 hl (k := 0) rfl rfl (by decide) rfl (fun ls hl => ?_)
          refine lv_iload hx hb dJ6_getChars_ba4f3_60 (lv_at hl 0 rfl) ?_
          refine va_gets hx hb X.2.2.1.1.2.2.2.2.2.2.2.2.1 hh.2.2 hown (hts _ (show Cond.fieldLink RJ6 87 "java/lang/Integer" "DigitTens" "[B"  ∈ wsJ6_getChars_ba4f3 by decide +kernel)) (fun _ h9 => h9) dJ6_getChars_ba4f3_62 ?_
          refine lv_iload hx hb dJ6_getChars_ba4f3_65 (lv_at hl 2 rfl) ?_
          obtain ⟨hq32, hF⟩ := am_ifR hF
          refine va_tb hx hb X.2.2.1.1.2.2.2.2.2.2.2.2.2.1 hh.2.2 hq32 rfl dJ6_getChars_ba4f3_67 ?_
          obtain ⟨hq33, hF⟩ := am_ifR hF
          refine am_bast X hh 140 (by decide) rfl hq33 dJ6_getChars_ba4f3_68 (fun H locs hh => ?_)
          obtain ⟨w34, hw34, hF⟩ := am_wl hF
          have hh := AH_eq hw34 hh
          refine lv_goto (tgt := 22) hx hb dJ6_getChars_ba4f3_69 (by decide) ?_
          exact ih (y23 / (100 : Int32)) ((y24 + (-1 : Int32)) + (-1 : Int32)) w34 ab H locs ls _ hF hh (lv_sub hl [1, 0, 4, 5, 6] rfl) kE
    obtain ⟨z35, hz36, hF⟩ := am_bind hF
    refine hlp22 2000 x0 x1 w ab H locs ls z35 hz36 hh (lv_sub hl [2, 1, 0, 3, 4] rfl) (fun y23 y24 w25 ab H locs ls hz hh hl => ?_)
    · subst hz
      have hF := am_zl hF
      have hF := am_u3 hF
      refine lv_aload_n hx hb dJ6_getChars_ba4f3_72 rfl (lv_at hl 4 rfl) ?_
      refine lv_iinc (v := (y24 + (-1 : Int32))) (lv' := [(5, .int (y24 + (-1 : Int32))), (0, .int y23), (6, .int (1 : Int32)), (1, .int x1), (2, .ref ab)]) hx hb dJ6_getChars_ba4f3_73 hl (k := 1) rfl rfl (by decide) rfl (fun ls hl => ?_)
      refine lv_iload hx hb dJ6_getChars_ba4f3_76 (lv_at hl 0 rfl) ?_
      refine va_gets hx hb X.2.2.1.1.2.2.2.2.2.2.1 hh.2.2 hown (hts _ (show Cond.fieldLink RJ6 83 "java/lang/Integer" "DigitOnes" "[B"  ∈ wsJ6_getChars_ba4f3 by decide +kernel)) (fun _ h9 => h9) dJ6_getChars_ba4f3_78 ?_
      refine lv_iload_n hx hb dJ6_getChars_ba4f3_81 rfl (lv_at hl 1 rfl) ?_
      refine lv_ineg hx hb dJ6_getChars_ba4f3_82 ?_
      obtain ⟨hq37, hF⟩ := am_ifR hF
      refine va_tb hx hb X.2.2.1.1.2.2.2.2.2.2.2.1 hh.2.2 hq37 rfl dJ6_getChars_ba4f3_83 ?_
      obtain ⟨hq38, hF⟩ := am_ifR hF
      refine am_bast X hh 140 (by decide) rfl hq38 dJ6_getChars_ba4f3_84 (fun H locs hh => ?_)
      obtain ⟨w39, hw39, hF⟩ := am_wl hF
      have hh := AH_eq hw39 hh
      refine lv_iload_n hx hb dJ6_getChars_ba4f3_85 rfl (lv_at hl 1 rfl) ?_
      refine lv_bipush (v := (-9 : Int32)) hx hb dJ6_getChars_ba4f3_86 (by decide) ?_
      refine lv_icmp_ge (tgt := 104) hx hb dJ6_getChars_ba4f3_88 (by decide) (fun hc40 => ?_) (fun hc40 => ?_)
      · have hF := am_pos hc40 hF
        refine lv_iload hx hb dJ6_getChars_ba4f3_104 (lv_at hl 2 rfl) ?_
        refine lv_if_eq (tgt := 118) hx hb dJ6_getChars_ba4f3_106 (by decide) (fun hz => absurd hz (by decide)) (fun _ => ?_)
        refine lv_aload_n hx hb dJ6_getChars_ba4f3_109 rfl (lv_at hl 4 rfl) ?_
        refine lv_iinc (v := ((y24 + (-1 : Int32)) + (-1 : Int32))) (lv' := [(5, .int ((y24 + (-1 : Int32)) + (-1 : Int32))), (0, .int y23), (6, .int (1 : Int32)), (1, .int x1), (2, .ref ab)]) hx hb dJ6_getChars_ba4f3_110 hl (k := 0) rfl rfl (by decide) rfl (fun ls hl => ?_)
        refine lv_iload hx hb dJ6_getChars_ba4f3_113 (lv_at hl 0 rfl) ?_
        refine lv_bipush (v := (45 : Int32)) hx hb dJ6_getChars_ba4f3_115 (by decide) ?_
        obtain ⟨hq41, hF⟩ := am_ifR hF
        refine am_bast X hh 140 (by decide) rfl hq41 dJ6_getChars_ba4f3_117 (fun H locs hh => ?_)
        obtain ⟨w42, hw42, hF⟩ := am_wl hF
        have hh := AH_eq hw42 hh
        refine lv_iload hx hb dJ6_getChars_ba4f3_118 (lv_at hl 0 rfl) ?_
        exact amF_iret X hr hh (fun t ht => am_qwF (mk := oI) hF ht) (Nat.le_of_ble_eq_true rfl) (Nat.le_of_ble_eq_true rfl) dJ6_getChars_ba4f3_120
      · have hF := am_neg hc40 hF
        refine lv_aload_n hx hb dJ6_getChars_ba4f3_91 rfl (lv_at hl 4 rfl) ?_
        refine lv_iinc (v := ((y24 + (-1 : Int32)) + (-1 : Int32))) (lv' := [(5, .int ((y24 + (-1 : Int32)) + (-1 : Int32))), (0, .int y23), (6, .int (1 : Int32)), (1, .int x1), (2, .ref ab)]) hx hb dJ6_getChars_ba4f3_92 hl (k := 0) rfl rfl (by decide) rfl (fun ls hl => ?_)
        refine lv_iload hx hb dJ6_getChars_ba4f3_95 (lv_at hl 0 rfl) ?_
        refine va_gets hx hb X.2.2.1.1.2.2.2.2.2.2.2.2.1 hh.2.2 hown (hts _ (show Cond.fieldLink RJ6 87 "java/lang/Integer" "DigitTens" "[B"  ∈ wsJ6_getChars_ba4f3 by decide +kernel)) (fun _ h9 => h9) dJ6_getChars_ba4f3_97 ?_
        refine lv_iload_n hx hb dJ6_getChars_ba4f3_100 rfl (lv_at hl 1 rfl) ?_
        refine lv_ineg hx hb dJ6_getChars_ba4f3_101 ?_
        obtain ⟨hq43, hF⟩ := am_ifR hF
        refine va_tb hx hb X.2.2.1.1.2.2.2.2.2.2.2.2.2.1 hh.2.2 hq43 rfl dJ6_getChars_ba4f3_102 ?_
        obtain ⟨hq44, hF⟩ := am_ifR hF
        refine am_bast X hh 140 (by decide) rfl hq44 dJ6_getChars_ba4f3_103 (fun H locs hh => ?_)
        obtain ⟨w45, hw45, hF⟩ := am_wl hF
        have hh := AH_eq hw45 hh
        refine lv_iload hx hb dJ6_getChars_ba4f3_104 (lv_at hl 2 rfl) ?_
        refine lv_if_eq (tgt := 118) hx hb dJ6_getChars_ba4f3_106 (by decide) (fun hz => absurd hz (by decide)) (fun _ => ?_)
        refine lv_aload_n hx hb dJ6_getChars_ba4f3_109 rfl (lv_at hl 4 rfl) ?_
        refine lv_iinc (v := (((y24 + (-1 : Int32)) + (-1 : Int32)) + (-1 : Int32))) (lv' := [(5, .int (((y24 + (-1 : Int32)) + (-1 : Int32)) + (-1 : Int32))), (0, .int y23), (6, .int (1 : Int32)), (1, .int x1), (2, .ref ab)]) hx hb dJ6_getChars_ba4f3_110 hl (k := 0) rfl rfl (by decide) rfl (fun ls hl => ?_)
        refine lv_iload hx hb dJ6_getChars_ba4f3_113 (lv_at hl 0 rfl) ?_
        refine lv_bipush (v := (45 : Int32)) hx hb dJ6_getChars_ba4f3_115 (by decide) ?_
        obtain ⟨hq46, hF⟩ := am_ifR hF
        refine am_bast X hh 140 (by decide) rfl hq46 dJ6_getChars_ba4f3_117 (fun H locs hh => ?_)
        obtain ⟨w47, hw47, hF⟩ := am_wl hF
        have hh := AH_eq hw47 hh
        refine lv_iload hx hb dJ6_getChars_ba4f3_118 (lv_at hl 0 rfl) ?_
        exact amF_iret X hr hh (fun t ht => am_qwF (mk := oI) hF ht) (Nat.le_of_ble_eq_true rfl) (Nat.le_of_ble_eq_true rfl) dJ6_getChars_ba4f3_120
set_option maxHeartbeats 4000000 in
set_option maxRecDepth 100000 in
theorem c_J5_isLatin1_aae02 (l : Launch) (G : GG) {w : Wd} {r0 : Int32} (hF : f_J5_isLatin1_aae02 w = some r0) : Met l yJ5_isLatin1_aae02 wsJ5_isLatin1_aae02 ({ frames := 0, cells := 0, slots := 0, locals := 0 } : Room) (va_Pc [.ref (gAd G 139)] (Rel G w)) (amQ G (oI r0) w) 0 0 (gA G) := by
  refine am_metF (own := RJ5) (cc := cJ5_isLatin1_aae02) (maxL := 1) (ret := (some .boolean)) (by decide +kernel) rfl rfl (Nat.le_of_ble_eq_true rfl) ?_
  intro p e s m args below meth c ab H locs ls X hr hh hl
  have hx := X.1.1; have hb := X.1.2.1; have hml := X.1.2.2.1; have hown := X.1.2.2.2.1; have hts := X.1.2.2.2.2
  have hl : lv_has ls 1 [(0, .ref (gAd G 139))] := hl
  have hwRJ4 : ∀ z ∈ u_ws RJ4 TJ4 4, z ∈ wsJ5_isLatin1_aae02 := by decide +kernel
  unfold f_J5_isLatin1_aae02 at hF
  refine va_gets hx hb X.2.2.1.2.2.1.1 hh.2.2 hown (hts _ (show Cond.fieldLink RJ5 18 "java/lang/String" "COMPACT_STRINGS" "Z"  ∈ wsJ5_isLatin1_aae02 by decide +kernel)) (fun _ h9 => h9) dJ5_isLatin1_aae02_0 ?_
  refine lv_if_eq (tgt := 17) hx hb dJ5_isLatin1_aae02_3 (by decide) (fun hz => absurd hz (by decide)) (fun _ => ?_)
  refine lv_aload_n hx hb dJ5_isLatin1_aae02_6 rfl (lv_at hl 0 rfl) ?_
  refine am_getI X hh 139 1 1 (by decide) rfl rfl (by decide) hwRJ4 (show Cond.fieldLink RJ5 22 "java/lang/AbstractStringBuilder" "coder" "B" ∈ wsJ5_isLatin1_aae02 by decide +kernel) rfl dJ5_isLatin1_aae02_7 ?_
  refine lv_if_ne (tgt := 17) hx hb dJ5_isLatin1_aae02_10 (by decide) (fun hc1 => ?_) (fun hc1 => ?_)
  · have hF := am_neg hc1 hF
    refine lv_iconst (v := (0 : Int32)) hx hb dJ5_isLatin1_aae02_17 (by decide) ?_
    exact am_zret (v' := (0 : Int32)) X hr rfl hh (fun t ht => am_qp (mk := oI) hF ht) (Nat.le_of_ble_eq_true rfl) (Nat.le_of_ble_eq_true rfl) dJ5_isLatin1_aae02_18
  · have hF := am_pos hc1 hF
    refine lv_iconst (v := (1 : Int32)) hx hb dJ5_isLatin1_aae02_13 (by decide) ?_
    refine lv_goto (tgt := 18) hx hb dJ5_isLatin1_aae02_14 (by decide) ?_
    exact am_zret (v' := (1 : Int32)) X hr rfl hh (fun t ht => am_qp (mk := oI) hF ht) (Nat.le_of_ble_eq_true rfl) (Nat.le_of_ble_eq_true rfl) dJ5_isLatin1_aae02_18
set_option maxHeartbeats 4000000 in
set_option maxRecDepth 100000 in
theorem c_J5_length_8abf5 (l : Launch) (G : GG) {w : Wd} {r0 : Int32} (hF : f_J5_length_8abf5 w = some r0) : Met l yJ5_length_8abf5 wsJ5_length_8abf5 ({ frames := 0, cells := 0, slots := 0, locals := 0 } : Room) (va_Pc [.ref (gAd G 139)] (Rel G w)) (amQ G (oI r0) w) 0 0 (gA G) := by
  refine am_metF (own := RJ5) (cc := cJ5_length_8abf5) (maxL := 1) (ret := (some .int)) (by decide +kernel) rfl rfl (Nat.le_of_ble_eq_true rfl) ?_
  intro p e s m args below meth c ab H locs ls X hr hh hl
  have hx := X.1.1; have hb := X.1.2.1; have hml := X.1.2.2.1; have hown := X.1.2.2.2.1; have hts := X.1.2.2.2.2
  have hl : lv_has ls 1 [(0, .ref (gAd G 139))] := hl
  have hwRJ4 : ∀ z ∈ u_ws RJ4 TJ4 4, z ∈ wsJ5_length_8abf5 := by decide +kernel
  unfold f_J5_length_8abf5 at hF
  refine lv_aload_n hx hb dJ5_length_8abf5_0 rfl (lv_at hl 0 rfl) ?_
  refine am_getI X hh 139 1 3 (by decide) rfl rfl (by decide) hwRJ4 (show Cond.fieldLink RJ5 79 "java/lang/AbstractStringBuilder" "count" "I" ∈ wsJ5_length_8abf5 by decide +kernel) rfl dJ5_length_8abf5_1 ?_
  exact am_iret X hr hh (fun t ht => am_qp (mk := oI) hF ht) (Nat.le_of_ble_eq_true rfl) (Nat.le_of_ble_eq_true rfl) dJ5_length_8abf5_4
set_option maxHeartbeats 4000000 in
set_option maxRecDepth 100000 in
theorem c_J4_length_8abf5 (l : Launch) (G : GG) {w : Wd} {r0 : Int32} (hF : f_J4_length_8abf5 w = some r0) : Met l yJ4_length_8abf5 wsJ4_length_8abf5 ({ frames := 1, cells := 0, slots := 0, locals := 20 } : Room) (va_Pc [.ref (gAd G 139)] (Rel G w)) (amQ G (oI r0) w) 0 0 (gA G) := by
  refine am_metF (own := RJ4) (cc := cJ4_length_8abf5) (maxL := 1) (ret := (some .int)) (by decide +kernel) rfl rfl (Nat.le_of_ble_eq_true rfl) ?_
  intro p e s m args below meth c ab H locs ls X hr hh hl
  have hx := X.1.1; have hb := X.1.2.1; have hml := X.1.2.2.1; have hown := X.1.2.2.2.1; have hts := X.1.2.2.2.2
  have hl : lv_has ls 1 [(0, .ref (gAd G 139))] := hl
  unfold f_J4_length_8abf5 at hF
  refine lv_aload_n hx hb dJ4_length_8abf5_0 rfl (lv_at hl 0 rfl) ?_
  obtain ⟨r2, hk1, hF⟩ := am_bind hF
  refine am_call X hh (va_runSU (As := []) (rest := []) (X.2.1.1 1 _ rfl).2 X.1 (c_J5_length_8abf5 l G hk1) (va_cwSU 0 hts gJ4_length_8abf5_J5_length_8abf5_s343 rfl rfl rfl (by decide +kernel) ⟨Nat.le_of_ble_eq_true rfl, Nat.le_of_ble_eq_true rfl⟩) (am_preV X hh 139 1 (by decide) rfl rfl) rfl rfl hl.1 rfl (lv_room (Nat.le_of_ble_eq_true rfl)) dJ4_length_8abf5_1 ⟨Nat.le_of_ble_eq_true rfl, Nat.le_of_ble_eq_true rfl⟩) (fun ab H locs hh => ?_)
  exact am_iret X hr hh (fun t ht => am_qp (mk := oI) hF ht) (Nat.le_of_ble_eq_true rfl) (Nat.le_of_ble_eq_true rfl) dJ4_length_8abf5_4
set_option maxHeartbeats 4000000 in
set_option maxRecDepth 100000 in
theorem c_J5_charAt_5068e (l : Launch) (G : GG) {ab : Nat} {w : Wd} {x1 : Int32} {r0 : Int32} (hF : f_J5_charAt_5068e w x1 = some r0) : Met l yJ5_charAt_5068e wsJ5_charAt_5068e ({ frames := 2, cells := 0, slots := 0, locals := 43 } : Room) (va_Pc [.ref (gAd G 139), .int x1] (RelF G ab w)) (amQF G ab (oI r0) w) 0 0 (gA G) := by
  refine am_metB (own := RJ5) (cc := cJ5_charAt_5068e) (maxL := 5) (ret := (some .char)) (by decide +kernel) rfl rfl (Nat.le_of_ble_eq_true rfl) ?_
  intro p e s m args below meth c H locs ls X hr hh hl
  have hx := X.1.1; have hb := X.1.2.1; have hml := X.1.2.2.1; have hown := X.1.2.2.2.1; have hts := X.1.2.2.2.2
  have hl : lv_has ls 5 [(0, .ref (gAd G 139)), (1, .int x1)] := hl
  have hwRJ4 : ∀ z ∈ u_ws RJ4 TJ4 4, z ∈ wsJ5_charAt_5068e := by decide +kernel
  unfold f_J5_charAt_5068e at hF
  refine lv_aload_n hx hb dJ5_charAt_5068e_0 rfl (lv_at hl 0 rfl) ?_
  refine am_getI X hh 139 1 1 (by decide) rfl rfl (by decide) hwRJ4 (show Cond.fieldLink RJ5 22 "java/lang/AbstractStringBuilder" "coder" "B" ∈ wsJ5_charAt_5068e by decide +kernel) rfl dJ5_charAt_5068e_1 ?_
  refine lv_istore_n (lv' := [(2, .int (gI w 139 1)), (0, .ref (gAd G 139)), (1, .int x1)]) hx hb dJ5_charAt_5068e_4 rfl hl (by decide) rfl (fun ls hl => ?_)
  refine lv_aload_n hx hb dJ5_charAt_5068e_5 rfl (lv_at hl 1 rfl) ?_
  refine am_getR X hh 139 1 0 140 (by decide) rfl rfl (by decide) hwRJ4 (show Cond.fieldLink RJ5 15 "java/lang/AbstractStringBuilder" "value" "[B" ∈ wsJ5_charAt_5068e by decide +kernel) rfl dJ5_charAt_5068e_6 ?_
  refine lv_astore_n (lv' := [(3, .ref ab), (2, .int (gI w 139 1)), (0, .ref (gAd G 139)), (1, .int x1)]) hx hb dJ5_charAt_5068e_9 rfl hl (by decide) rfl (fun ls hl => ?_)
  refine lv_aload_n hx hb dJ5_charAt_5068e_10 rfl (lv_at hl 2 rfl) ?_
  refine am_getI X hh 139 1 3 (by decide) rfl rfl (by decide) hwRJ4 (show Cond.fieldLink RJ5 79 "java/lang/AbstractStringBuilder" "count" "I" ∈ wsJ5_charAt_5068e by decide +kernel) rfl dJ5_charAt_5068e_11 ?_
  refine lv_aload_n hx hb dJ5_charAt_5068e_14 rfl (lv_at hl 0 rfl) ?_
  refine am_alenC X hh dJ5_charAt_5068e_15 ?_
  refine lv_iload_n hx hb dJ5_charAt_5068e_16 rfl (lv_at hl 1 rfl) ?_
  refine lv_ishr hx hb dJ5_charAt_5068e_17 ?_
  refine va_mmin hx hb (hml.trans hl.1.symm) hown (hts _ (show Cond.methodLink RJ5 138 Lib.Math.min.name ∈ wsJ5_charAt_5068e by decide +kernel)) (hts _ (show Cond.static Lib.Math.min.name ∈ wsJ5_charAt_5068e by decide +kernel)) (hts _ (show Cond.initialized "java/lang/Math"  ∈ wsJ5_charAt_5068e by decide +kernel)) (hts _ (show Cond.code Lib.Math.min.name Lib.Math.min.code 2 (some .int) ∈ wsJ5_charAt_5068e by decide +kernel)) (Nat.le_of_ble_eq_true rfl) (Nat.le_of_ble_eq_true rfl) (Nat.le_of_ble_eq_true rfl) (Nat.le_of_ble_eq_true rfl) dJ5_charAt_5068e_18 ?_
  refine lv_istore (lv' := [(4, .int (if ((nI (gC w)) >>> ((gI w 139 1) &&& 31)) < (gI w 139 3) then ((nI (gC w)) >>> ((gI w 139 1) &&& 31)) else (gI w 139 3))), (3, .ref ab), (2, .int (gI w 139 1)), (0, .ref (gAd G 139)), (1, .int x1)]) hx hb dJ5_charAt_5068e_21 hl (by decide) rfl (fun ls hl => ?_)
  refine lv_iload_n hx hb dJ5_charAt_5068e_23 rfl (lv_at hl 4 rfl) ?_
  refine lv_iload hx hb dJ5_charAt_5068e_24 (lv_at hl 0 rfl) ?_
  obtain ⟨r2, hk1, hF⟩ := am_bind hF
  refine am_callF X hh (va_runS (As := [.int x1, .int (if ((nI (gC w)) >>> ((gI w 139 1) &&& 31)) < (gI w 139 3) then ((nI (gC w)) >>> ((gI w 139 1) &&& 31)) else (gI w 139 3))]) (rest := []) X.1 (c_J0_checkIndex_df160 l G hk1) (va_cwS 2 hts gJ5_charAt_5068e_J0_checkIndex_df160 rfl rfl rfl (by decide +kernel) ⟨Nat.le_of_ble_eq_true rfl, Nat.le_of_ble_eq_true rfl⟩) (am_preSF X hh) rfl rfl hl.1 rfl (lv_room (Nat.le_of_ble_eq_true rfl)) dJ5_charAt_5068e_26 ⟨Nat.le_of_ble_eq_true rfl, Nat.le_of_ble_eq_true rfl⟩) (fun H locs hh => ?_)
  refine lv_iload_n hx hb dJ5_charAt_5068e_29 rfl (lv_at hl 2 rfl) ?_
  refine lv_if_ne (tgt := 42) hx hb dJ5_charAt_5068e_30 (by decide) (fun hc3 => ?_) (fun hc3 => ?_)
  · have hF := am_neg hc3 hF
    refine lv_aload_n hx hb dJ5_charAt_5068e_42 rfl (lv_at hl 1 rfl) ?_
    refine lv_iload_n hx hb dJ5_charAt_5068e_43 rfl (lv_at hl 4 rfl) ?_
    cases hF
  · have hF := am_pos hc3 hF
    refine lv_aload_n hx hb dJ5_charAt_5068e_33 rfl (lv_at hl 1 rfl) ?_
    refine lv_iload_n hx hb dJ5_charAt_5068e_34 rfl (lv_at hl 4 rfl) ?_
    obtain ⟨hq4, hF⟩ := am_ifR hF
    refine am_bald X hh 140 (by decide) rfl hq4 dJ5_charAt_5068e_35 ?_
    refine lv_sipush (v := (255 : Int32)) hx hb dJ5_charAt_5068e_36 (by decide) ?_
    refine lv_iand hx hb dJ5_charAt_5068e_39 ?_
    refine lv_i2c hx hb dJ5_charAt_5068e_40 rfl ?_
    exact amF_zret (v' := (vp_nar .char ((((gI w 140 (x1).toNatClampNeg) &&& (255 : Int32))).toUInt32 % 65536).toInt32)) X hr (nar_c _) hh (fun t ht => am_qpF (mk := oI) hF ht) (Nat.le_of_ble_eq_true rfl) (Nat.le_of_ble_eq_true rfl) dJ5_charAt_5068e_41
set_option maxHeartbeats 4000000 in
set_option maxRecDepth 100000 in
theorem c_J4_charAt_5068e (l : Launch) (G : GG) {w : Wd} {x1 : Int32} {r0 : Int32} (hF : f_J4_charAt_5068e w x1 = some r0) : Met l yJ4_charAt_5068e wsJ4_charAt_5068e ({ frames := 3, cells := 0, slots := 0, locals := 67 } : Room) (va_Pc [.ref (gAd G 139), .int x1] (Rel G w)) (amQ G (oI r0) w) 0 0 (gA G) := by
  refine am_metF (own := RJ4) (cc := cJ4_charAt_5068e) (maxL := 2) (ret := (some .char)) (by decide +kernel) rfl rfl (Nat.le_of_ble_eq_true rfl) ?_
  intro p e s m args below meth c ab H locs ls X hr hh hl
  have hx := X.1.1; have hb := X.1.2.1; have hml := X.1.2.2.1; have hown := X.1.2.2.2.1; have hts := X.1.2.2.2.2
  have hl : lv_has ls 2 [(0, .ref (gAd G 139)), (1, .int x1)] := hl
  unfold f_J4_charAt_5068e at hF
  refine lv_aload_n hx hb dJ4_charAt_5068e_0 rfl (lv_at hl 0 rfl) ?_
  refine lv_iload_n hx hb dJ4_charAt_5068e_1 rfl (lv_at hl 1 rfl) ?_
  obtain ⟨r2, hk1, hF⟩ := am_bind hF
  refine am_callF X hh (va_runSU (As := [.int x1]) (rest := []) (X.2.1.1 1 _ rfl).2 X.1 (c_J5_charAt_5068e l G hk1) (va_cwSU 1 hts gJ4_charAt_5068e_J5_charAt_5068e_s329 rfl rfl rfl (by decide +kernel) ⟨Nat.le_of_ble_eq_true rfl, Nat.le_of_ble_eq_true rfl⟩) (am_preVF X hh 139 1 (by decide) rfl rfl) rfl rfl hl.1 rfl (lv_room (Nat.le_of_ble_eq_true rfl)) dJ4_charAt_5068e_2 ⟨Nat.le_of_ble_eq_true rfl, Nat.le_of_ble_eq_true rfl⟩) (fun H locs hh => ?_)
  exact am_zret (v' := (vp_nar .char r2)) X hr (nar_c _) hh (fun t ht => am_qp (mk := oI) hF ht) (Nat.le_of_ble_eq_true rfl) (Nat.le_of_ble_eq_true rfl) dJ4_charAt_5068e_5
set_option maxHeartbeats 4000000 in
set_option maxRecDepth 100000 in
theorem c_J8_newLength_cabcc (l : Launch) (G : GG) {ab : Nat} {w : Wd} {x0 : Int32} {x1 : Int32} {x2 : Int32} {r0 : Int32} (hF : f_J8_newLength_cabcc x0 x1 x2 = some r0) : Met l yJ8_newLength_cabcc wsJ8_newLength_cabcc ({ frames := 1, cells := 0, slots := 0, locals := 30 } : Room) (va_Pc [.int x0, .int x1, .int x2] (RelF G ab w)) (amQF G ab (oI r0) w) 0 0 (gA G) := by
  refine am_metB (own := RJ8) (cc := cJ8_newLength_cabcc) (maxL := 4) (ret := (some .int)) (by decide +kernel) rfl rfl (Nat.le_of_ble_eq_true rfl) ?_
  intro p e s m args below meth c H locs ls X hr hh hl
  have hx := X.1.1; have hb := X.1.2.1; have hml := X.1.2.2.1; have hown := X.1.2.2.2.1; have hts := X.1.2.2.2.2
  have hl : lv_has ls 4 [(0, .int x0), (1, .int x1), (2, .int x2)] := hl
  unfold f_J8_newLength_cabcc at hF
  refine lv_iload_n hx hb dJ8_newLength_cabcc_0 rfl (lv_at hl 0 rfl) ?_
  refine lv_iload_n hx hb dJ8_newLength_cabcc_1 rfl (lv_at hl 1 rfl) ?_
  refine lv_iload_n hx hb dJ8_newLength_cabcc_2 rfl (lv_at hl 2 rfl) ?_
  refine va_mmax hx hb (hml.trans hl.1.symm) hown (hts _ (show Cond.methodLink RJ8 194 Lib.Math.max.name ∈ wsJ8_newLength_cabcc by decide +kernel)) (hts _ (show Cond.static Lib.Math.max.name ∈ wsJ8_newLength_cabcc by decide +kernel)) (hts _ (show Cond.initialized "java/lang/Math"  ∈ wsJ8_newLength_cabcc by decide +kernel)) (hts _ (show Cond.code Lib.Math.max.name Lib.Math.max.code 2 (some .int) ∈ wsJ8_newLength_cabcc by decide +kernel)) (Nat.le_of_ble_eq_true rfl) (Nat.le_of_ble_eq_true rfl) (Nat.le_of_ble_eq_true rfl) (Nat.le_of_ble_eq_true rfl) dJ8_newLength_cabcc_3 ?_
  refine lv_iadd hx hb dJ8_newLength_cabcc_6 ?_
  refine lv_istore_n (lv' := [(3, .int (x0 + (if x1 < x2 then x2 else x1))), (0, .int x0), (1, .int x1), (2, .int x2)]) hx hb dJ8_newLength_cabcc_7 rfl hl (by decide) rfl (fun ls hl => ?_)
  refine lv_iconst (v := (0 : Int32)) hx hb dJ8_newLength_cabcc_8 (by decide) ?_
  refine lv_iload_n hx hb dJ8_newLength_cabcc_9 rfl (lv_at hl 0 rfl) ?_
  refine lv_icmp_ge (tgt := 21) hx hb dJ8_newLength_cabcc_10 (by decide) (fun hc1 => ?_) (fun hc1 => ?_)
  · have hF := am_pos hc1 hF
    refine lv_iload_n hx hb dJ8_newLength_cabcc_21 rfl (lv_at hl 1 rfl) ?_
    refine lv_iload_n hx hb dJ8_newLength_cabcc_22 rfl (lv_at hl 2 rfl) ?_
    cases hF
  · have hF := am_neg hc1 hF
    refine lv_iload_n hx hb dJ8_newLength_cabcc_13 rfl (lv_at hl 0 rfl) ?_
    refine lv_ldc (v := (2147483639 : Int32)) hx hb hown (hts _ (show Cond.constant RJ8 200 (2147483639) ∈ wsJ8_newLength_cabcc by decide +kernel)) dJ8_newLength_cabcc_14 ?_
    refine lv_icmp_gt (tgt := 21) hx hb dJ8_newLength_cabcc_16 (by decide) (fun hc2 => ?_) (fun hc2 => ?_)
    · have hF := am_pos hc2 hF
      refine lv_iload_n hx hb dJ8_newLength_cabcc_21 rfl (lv_at hl 1 rfl) ?_
      refine lv_iload_n hx hb dJ8_newLength_cabcc_22 rfl (lv_at hl 2 rfl) ?_
      cases hF
    · have hF := am_neg hc2 hF
      refine lv_iload_n hx hb dJ8_newLength_cabcc_19 rfl (lv_at hl 0 rfl) ?_
      exact amF_iret X hr hh (fun t ht => am_qpF (mk := oI) hF ht) (Nat.le_of_ble_eq_true rfl) (Nat.le_of_ble_eq_true rfl) dJ8_newLength_cabcc_20
set_option maxHeartbeats 4000000 in
set_option maxRecDepth 100000 in
theorem c_J5_newCapacity_0f7a4 (l : Launch) (G : GG) {ab : Nat} {w : Wd} {x1 : Int32} {r0 : Int32} (hF : f_J5_newCapacity_0f7a4 w x1 = some r0) : Met l yJ5_newCapacity_0f7a4 wsJ5_newCapacity_0f7a4 ({ frames := 2, cells := 0, slots := 0, locals := 53 } : Room) (va_Pc [.ref (gAd G 139), .int x1] (RelF G ab w)) (amQF G ab (oI r0) w) 0 0 (gA G) := by
  refine am_metB (own := RJ5) (cc := cJ5_newCapacity_0f7a4) (maxL := 6) (ret := (some .int)) (by decide +kernel) rfl rfl (Nat.le_of_ble_eq_true rfl) ?_
  intro p e s m args below meth c H locs ls X hr hh hl
  have hx := X.1.1; have hb := X.1.2.1; have hml := X.1.2.2.1; have hown := X.1.2.2.2.1; have hts := X.1.2.2.2.2
  have hl : lv_has ls 6 [(0, .ref (gAd G 139)), (1, .int x1)] := hl
  have hwRJ4 : ∀ z ∈ u_ws RJ4 TJ4 4, z ∈ wsJ5_newCapacity_0f7a4 := by decide +kernel
  unfold f_J5_newCapacity_0f7a4 at hF
  refine lv_aload_n hx hb dJ5_newCapacity_0f7a4_0 rfl (lv_at hl 0 rfl) ?_
  refine am_getR X hh 139 1 0 140 (by decide) rfl rfl (by decide) hwRJ4 (show Cond.fieldLink RJ5 15 "java/lang/AbstractStringBuilder" "value" "[B" ∈ wsJ5_newCapacity_0f7a4 by decide +kernel) rfl dJ5_newCapacity_0f7a4_1 ?_
  refine am_alenC X hh dJ5_newCapacity_0f7a4_4 ?_
  refine lv_istore_n (lv' := [(2, .int (nI (gC w))), (0, .ref (gAd G 139)), (1, .int x1)]) hx hb dJ5_newCapacity_0f7a4_5 rfl hl (by decide) rfl (fun ls hl => ?_)
  refine lv_iload_n hx hb dJ5_newCapacity_0f7a4_6 rfl (lv_at hl 2 rfl) ?_
  refine lv_aload_n hx hb dJ5_newCapacity_0f7a4_7 rfl (lv_at hl 1 rfl) ?_
  refine am_getI X hh 139 1 1 (by decide) rfl rfl (by decide) hwRJ4 (show Cond.fieldLink RJ5 22 "java/lang/AbstractStringBuilder" "coder" "B" ∈ wsJ5_newCapacity_0f7a4 by decide +kernel) rfl dJ5_newCapacity_0f7a4_8 ?_
  refine lv_ishl hx hb dJ5_newCapacity_0f7a4_11 ?_
  refine lv_istore_n (lv' := [(3, .int (x1 <<< ((gI w 139 1) &&& 31))), (2, .int (nI (gC w))), (0, .ref (gAd G 139)), (1, .int x1)]) hx hb dJ5_newCapacity_0f7a4_12 rfl hl (by decide) rfl (fun ls hl => ?_)
  refine lv_iload_n hx hb dJ5_newCapacity_0f7a4_13 rfl (lv_at hl 0 rfl) ?_
  refine lv_iload_n hx hb dJ5_newCapacity_0f7a4_14 rfl (lv_at hl 1 rfl) ?_
  refine lv_isub hx hb dJ5_newCapacity_0f7a4_15 ?_
  refine lv_istore (lv' := [(4, .int ((x1 <<< ((gI w 139 1) &&& 31)) - (nI (gC w)))), (3, .int (x1 <<< ((gI w 139 1) &&& 31))), (2, .int (nI (gC w))), (0, .ref (gAd G 139)), (1, .int x1)]) hx hb dJ5_newCapacity_0f7a4_16 hl (by decide) rfl (fun ls hl => ?_)
  refine lv_iload_n hx hb dJ5_newCapacity_0f7a4_18 rfl (lv_at hl 2 rfl) ?_
  refine lv_iload hx hb dJ5_newCapacity_0f7a4_19 (lv_at hl 0 rfl) ?_
  refine lv_iload_n hx hb dJ5_newCapacity_0f7a4_21 rfl (lv_at hl 2 rfl) ?_
  refine lv_iconst (v := (2 : Int32)) hx hb dJ5_newCapacity_0f7a4_22 (by decide) ?_
  refine lv_aload_n hx hb dJ5_newCapacity_0f7a4_23 rfl (lv_at hl 3 rfl) ?_
  refine am_getI X hh 139 1 1 (by decide) rfl rfl (by decide) hwRJ4 (show Cond.fieldLink RJ5 22 "java/lang/AbstractStringBuilder" "coder" "B" ∈ wsJ5_newCapacity_0f7a4 by decide +kernel) rfl dJ5_newCapacity_0f7a4_24 ?_
  refine lv_ishl hx hb dJ5_newCapacity_0f7a4_27 ?_
  refine lv_iadd hx hb dJ5_newCapacity_0f7a4_28 ?_
  obtain ⟨r2, hk1, hF⟩ := am_bind hF
  refine am_callF X hh (va_runS (As := [.int (nI (gC w)), .int ((x1 <<< ((gI w 139 1) &&& 31)) - (nI (gC w))), .int ((nI (gC w)) + ((2 : Int32) <<< ((gI w 139 1) &&& 31)))]) (rest := []) X.1 (c_J8_newLength_cabcc l G hk1) (va_cwS 3 hts gJ5_newCapacity_0f7a4_J8_newLength_cabcc rfl rfl rfl (by decide +kernel) ⟨Nat.le_of_ble_eq_true rfl, Nat.le_of_ble_eq_true rfl⟩) (am_preSF X hh) rfl rfl hl.1 rfl (lv_room (Nat.le_of_ble_eq_true rfl)) dJ5_newCapacity_0f7a4_29 ⟨Nat.le_of_ble_eq_true rfl, Nat.le_of_ble_eq_true rfl⟩) (fun H locs hh => ?_)
  refine lv_istore (lv' := [(5, .int r2), (4, .int ((x1 <<< ((gI w 139 1) &&& 31)) - (nI (gC w)))), (3, .int (x1 <<< ((gI w 139 1) &&& 31))), (2, .int (nI (gC w))), (0, .ref (gAd G 139)), (1, .int x1)]) hx hb dJ5_newCapacity_0f7a4_32 hl (by decide) rfl (fun ls hl => ?_)
  refine lv_iload hx hb dJ5_newCapacity_0f7a4_34 (lv_at hl 0 rfl) ?_
  refine lv_ldc (v := (2147483647 : Int32)) hx hb hown (hts _ (show Cond.constant RJ5 39 (2147483647) ∈ wsJ5_newCapacity_0f7a4 by decide +kernel)) dJ5_newCapacity_0f7a4_36 ?_
  refine lv_icmp_ne (tgt := 51) hx hb dJ5_newCapacity_0f7a4_38 (by decide) (fun hc3 => ?_) (fun hc3 => ?_)
  · have hF := am_neg hc3 hF
    refine lv_iload hx hb dJ5_newCapacity_0f7a4_51 (lv_at hl 0 rfl) ?_
    refine lv_aload_n hx hb dJ5_newCapacity_0f7a4_53 rfl (lv_at hl 4 rfl) ?_
    refine am_getI X hh 139 1 1 (by decide) rfl rfl (by decide) hwRJ4 (show Cond.fieldLink RJ5 22 "java/lang/AbstractStringBuilder" "coder" "B" ∈ wsJ5_newCapacity_0f7a4 by decide +kernel) rfl dJ5_newCapacity_0f7a4_54 ?_
    refine lv_ishr hx hb dJ5_newCapacity_0f7a4_57 ?_
    exact amF_iret X hr hh (fun t ht => am_qpF (mk := oI) hF ht) (Nat.le_of_ble_eq_true rfl) (Nat.le_of_ble_eq_true rfl) dJ5_newCapacity_0f7a4_58
  · have hF := am_pos hc3 hF
    cases hF
