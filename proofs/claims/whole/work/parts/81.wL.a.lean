set_option maxHeartbeats 4000000 in
set_option maxRecDepth 100000 in
theorem c_L_planetByAngle (l : Launch) (G : GG) (hst : l.stackTraces = false) {w : Wd} {x1 : Int32} {r0 : Int32} {w1 : Wd} (hF : f_L_planetByAngle w x1 = some (r0, w1)) : vx_Met l yL_planetByAngle wsL_planetByAngle ({ frames := 7, cells := 1, slots := 6, locals := 112 } : Room) (va_Pc [.ref (gAd G 0), .int x1, .ref (gAd G 151)] (Rel G w)) (amQ G (oI r0) w1) (fun _ _ _ => False) 1 6 (gA G) := by
  refine am_metW (own := RL) (cc := cL_planetByAngle) (maxL := 4) (ret := (some .int)) (by decide +kernel) rfl rfl (Nat.le_of_ble_eq_true rfl) ?_
  intro p e s m args below meth c ab H locs ls X hr htb hh hl
  have hx := X.1.1; have hb := X.1.2.1; have hml := X.1.2.2.1; have hown := X.1.2.2.2.1; have hts := X.1.2.2.2.2
  have hl : lv_has ls 4 [(0, .ref (gAd G 0)), (1, .int x1), (2, .ref (gAd G 151))] := hl
  unfold f_L_planetByAngle at hF
  refine lv_aload_n hx hb dL_planetByAngle_0 rfl (lv_at hl 2 rfl) ?_
  refine lv_iconst (v := (0 : Int32)) hx hb dL_planetByAngle_1 (by decide) ?_
  refine lv_aload_n hx hb dL_planetByAngle_2 rfl (lv_at hl 0 rfl) ?_
  refine lv_iload_n hx hb dL_planetByAngle_3 rfl (lv_at hl 1 rfl) ?_
  obtain ⟨z3, hk1, hF⟩ := am_bind hF
  refine am_callX X hh (vx_runV (As := [.int x1]) (rest := [.int (0 : Int32), .ref (gAd G 151)]) X.1 (c_X10_planetByAngle l G hst hk1) (cwV 1 hts gL_planetByAngle_X10_planetByAngle rfl rfl rfl (by decide +kernel) ⟨Nat.le_of_ble_eq_true rfl, Nat.le_of_ble_eq_true rfl⟩) (am_preV X hh 0 11 (by decide) rfl rfl) rfl rfl hl.1 rfl (lv_room (Nat.le_of_ble_eq_true rfl)) dL_planetByAngle_4 ⟨Nat.le_of_ble_eq_true rfl, Nat.le_of_ble_eq_true rfl⟩) (fun k ab H locs ce q hz hh hce hcv hcl => ?_) (fun r2 ab H locs hz hh => ?_)
  · subst hz
    have hF := am_zl hF
    by_cases he4 : k = 4
    · subst he4
      have hF := am_pos rfl hF
      refine vx_catch (own := RL) (name := exN 4) (E := exN 4) hown [] ⟨0, 9, 12, 31⟩ [] (htb.trans rfl) (List.forall_mem_nil _) (by decide) (by decide) (hts _ (show Cond.classLink RL 31 "java/util/NoSuchElementException" ∈ wsL_planetByAngle by decide +kernel)) ((X.2.2.1.2.2.2.1 4).use rfl) hce hcv hcl ?_
      refine lv_astore_n (lv' := [(3, .ref q), (0, .ref (gAd G 0)), (1, .int x1), (2, .ref (gAd G 151))]) hx hb dL_planetByAngle_12 rfl hl (by decide) rfl (fun ls hl => ?_)
      refine lv_iconst (v := (1 : Int32)) hx hb dL_planetByAngle_13 (by decide) ?_
      exact am_iret X hr hh (fun t ht => am_qw (mk := oI) hF ht) (Nat.le_of_ble_eq_true rfl) (Nat.le_of_ble_eq_true rfl) dL_planetByAngle_14
    · have hF := am_neg he4 hF
      cases hF
  · subst hz
    have hF := am_zr hF
    refine lv_i2l hx hb dL_planetByAngle_7 rfl ?_
    obtain ⟨hq5, hF⟩ := am_ifR hF
    refine am_last X hh 151 (by decide) rfl hq5 dL_planetByAngle_8 (fun H locs hh => ?_)
    obtain ⟨w6, hw6, hF⟩ := am_wl hF
    have hh := AH_eq hw6 hh
    refine lv_goto (tgt := 15) hx hb dL_planetByAngle_9 (by decide) ?_
    refine lv_iconst (v := (0 : Int32)) hx hb dL_planetByAngle_15 (by decide) ?_
    exact am_iret X hr hh (fun t ht => am_qw (mk := oI) hF ht) (Nat.le_of_ble_eq_true rfl) (Nat.le_of_ble_eq_true rfl) dL_planetByAngle_16
set_option maxHeartbeats 4000000 in
set_option maxRecDepth 100000 in
theorem c_L_meanTeeth (l : Launch) (G : GG) (hst : l.stackTraces = false) {w : Wd} {r0 : Int32} {w1 : Wd} (hF : f_L_meanTeeth w = some (r0, w1)) : vx_Met l yL_meanTeeth wsL_meanTeeth ({ frames := 7, cells := 1, slots := 6, locals := 110 } : Room) (va_Pc [.ref (gAd G 0), .ref (gAd G 152)] (Rel G w)) (amQ G (oI r0) w1) (fun _ _ _ => False) 1 6 (gA G) := by
  refine am_metW (own := RL) (cc := cL_meanTeeth) (maxL := 3) (ret := (some .int)) (by decide +kernel) rfl rfl (Nat.le_of_ble_eq_true rfl) ?_
  intro p e s m args below meth c ab H locs ls X hr htb hh hl
  have hx := X.1.1; have hb := X.1.2.1; have hml := X.1.2.2.1; have hown := X.1.2.2.2.1; have hts := X.1.2.2.2.2
  have hl : lv_has ls 3 [(0, .ref (gAd G 0)), (1, .ref (gAd G 152))] := hl
  unfold f_L_meanTeeth at hF
  refine lv_aload_n hx hb dL_meanTeeth_0 rfl (lv_at hl 1 rfl) ?_
  refine lv_iconst (v := (0 : Int32)) hx hb dL_meanTeeth_1 (by decide) ?_
  refine lv_aload_n hx hb dL_meanTeeth_2 rfl (lv_at hl 0 rfl) ?_
  obtain ⟨z3, hk1, hF⟩ := am_bind hF
  refine am_callX X hh (vx_runV (As := []) (rest := [.int (0 : Int32), .ref (gAd G 152)]) X.1 (c_X10_meanTeeth l G hst hk1) (cwV 0 hts gL_meanTeeth_X10_meanTeeth rfl rfl rfl (by decide +kernel) ⟨Nat.le_of_ble_eq_true rfl, Nat.le_of_ble_eq_true rfl⟩) (am_preV X hh 0 11 (by decide) rfl rfl) rfl rfl hl.1 rfl (lv_room (Nat.le_of_ble_eq_true rfl)) dL_meanTeeth_3 ⟨Nat.le_of_ble_eq_true rfl, Nat.le_of_ble_eq_true rfl⟩) (fun k ab H locs ce q hz hh hce hcv hcl => ?_) (fun r2 ab H locs hz hh => ?_)
  · subst hz
    have hF := am_zl hF
    by_cases he4 : k = 5
    · subst he4
      have hF := am_pos rfl hF
      refine vx_catch (own := RL) (name := exN 5) (E := exN 5) hown [] ⟨0, 7, 10, 141⟩ [] (htb.trans rfl) (List.forall_mem_nil _) (by decide) (by decide) (hts _ (show Cond.classLink RL 141 "java/lang/ArithmeticException" ∈ wsL_meanTeeth by decide +kernel)) ((X.2.2.1.2.2.2.1 5).use rfl) hce hcv hcl ?_
      refine lv_astore_n (lv' := [(2, .ref q), (0, .ref (gAd G 0)), (1, .ref (gAd G 152))]) hx hb dL_meanTeeth_10 rfl hl (by decide) rfl (fun ls hl => ?_)
      refine lv_iconst (v := (1 : Int32)) hx hb dL_meanTeeth_11 (by decide) ?_
      exact am_iret X hr hh (fun t ht => am_qw (mk := oI) hF ht) (Nat.le_of_ble_eq_true rfl) (Nat.le_of_ble_eq_true rfl) dL_meanTeeth_12
    · have hF := am_neg he4 hF
      cases hF
  · subst hz
    have hF := am_zr hF
    obtain ⟨hq5, hF⟩ := am_ifR hF
    refine am_dast X hh 152 (by decide) rfl hq5 dL_meanTeeth_6 (fun H locs hh => ?_)
    obtain ⟨w6, hw6, hF⟩ := am_wl hF
    have hh := AH_eq hw6 hh
    refine lv_goto (tgt := 13) hx hb dL_meanTeeth_7 (by decide) ?_
    refine lv_iconst (v := (0 : Int32)) hx hb dL_meanTeeth_13 (by decide) ?_
    exact am_iret X hr hh (fun t ht => am_qw (mk := oI) hF ht) (Nat.le_of_ble_eq_true rfl) (Nat.le_of_ble_eq_true rfl) dL_meanTeeth_14
set_option maxHeartbeats 4000000 in
set_option maxRecDepth 100000 in
theorem c_L_dryShare (l : Launch) (G : GG) (hst : l.stackTraces = false) {w : Wd} {r0 : Int32} {w1 : Wd} (hF : f_L_dryShare w = some (r0, w1)) : vx_Met l yL_dryShare wsL_dryShare ({ frames := 7, cells := 1, slots := 6, locals := 110 } : Room) (va_Pc [.ref (gAd G 0), .ref (gAd G 152)] (Rel G w)) (amQ G (oI r0) w1) (fun _ _ _ => False) 1 6 (gA G) := by
  refine am_metW (own := RL) (cc := cL_dryShare) (maxL := 3) (ret := (some .int)) (by decide +kernel) rfl rfl (Nat.le_of_ble_eq_true rfl) ?_
  intro p e s m args below meth c ab H locs ls X hr htb hh hl
  have hx := X.1.1; have hb := X.1.2.1; have hml := X.1.2.2.1; have hown := X.1.2.2.2.1; have hts := X.1.2.2.2.2
  have hl : lv_has ls 3 [(0, .ref (gAd G 0)), (1, .ref (gAd G 152))] := hl
  unfold f_L_dryShare at hF
  refine lv_aload_n hx hb dL_dryShare_0 rfl (lv_at hl 1 rfl) ?_
  refine lv_iconst (v := (0 : Int32)) hx hb dL_dryShare_1 (by decide) ?_
  refine lv_aload_n hx hb dL_dryShare_2 rfl (lv_at hl 0 rfl) ?_
  obtain ⟨z3, hk1, hF⟩ := am_bind hF
  refine am_callX X hh (vx_runV (As := []) (rest := [.int (0 : Int32), .ref (gAd G 152)]) X.1 (c_X10_dryShare l G hst hk1) (cwV 0 hts gL_dryShare_X10_dryShare rfl rfl rfl (by decide +kernel) ⟨Nat.le_of_ble_eq_true rfl, Nat.le_of_ble_eq_true rfl⟩) (am_preV X hh 0 11 (by decide) rfl rfl) rfl rfl hl.1 rfl (lv_room (Nat.le_of_ble_eq_true rfl)) dL_dryShare_3 ⟨Nat.le_of_ble_eq_true rfl, Nat.le_of_ble_eq_true rfl⟩) (fun k ab H locs ce q hz hh hce hcv hcl => ?_) (fun r2 ab H locs hz hh => ?_)
  · subst hz
    have hF := am_zl hF
    by_cases he4 : k = 5
    · subst he4
      have hF := am_pos rfl hF
      refine vx_catch (own := RL) (name := exN 5) (E := exN 5) hown [] ⟨0, 8, 11, 141⟩ [] (htb.trans rfl) (List.forall_mem_nil _) (by decide) (by decide) (hts _ (show Cond.classLink RL 141 "java/lang/ArithmeticException" ∈ wsL_dryShare by decide +kernel)) ((X.2.2.1.2.2.2.1 5).use rfl) hce hcv hcl ?_
      refine lv_astore_n (lv' := [(2, .ref q), (0, .ref (gAd G 0)), (1, .ref (gAd G 152))]) hx hb dL_dryShare_11 rfl hl (by decide) rfl (fun ls hl => ?_)
      refine lv_iconst (v := (1 : Int32)) hx hb dL_dryShare_12 (by decide) ?_
      exact am_iret X hr hh (fun t ht => am_qw (mk := oI) hF ht) (Nat.le_of_ble_eq_true rfl) (Nat.le_of_ble_eq_true rfl) dL_dryShare_13
    · have hF := am_neg he4 hF
      cases hF
  · subst hz
    have hF := am_zr hF
    obtain ⟨hq5, hF⟩ := am_ifN64 hF
    refine lv_f2d hx hb dL_dryShare_6 hq5 ?_
    obtain ⟨hq6, hF⟩ := am_ifR hF
    refine am_dast X hh 152 (by decide) rfl hq6 dL_dryShare_7 (fun H locs hh => ?_)
    obtain ⟨w7, hw7, hF⟩ := am_wl hF
    have hh := AH_eq hw7 hh
    refine lv_goto (tgt := 14) hx hb dL_dryShare_8 (by decide) ?_
    refine lv_iconst (v := (0 : Int32)) hx hb dL_dryShare_14 (by decide) ?_
    exact am_iret X hr hh (fun t ht => am_qw (mk := oI) hF ht) (Nat.le_of_ble_eq_true rfl) (Nat.le_of_ble_eq_true rfl) dL_dryShare_15
set_option maxHeartbeats 4000000 in
set_option maxRecDepth 100000 in
theorem c_L_outputAt (l : Launch) (G : GG) (hst : l.stackTraces = false) {w : Wd} {x1 : Int32} {r0 : Int32} {w1 : Wd} (hF : f_L_outputAt w x1 = some (r0, w1)) : vx_Met l yL_outputAt wsL_outputAt ({ frames := 7, cells := 1, slots := 6, locals := 111 } : Room) (va_Pc [.ref (gAd G 0), .int x1, .ref (gAd G 151)] (Rel G w)) (amQ G (oI r0) w1) (fun _ _ _ => False) 1 6 (gA G) := by
  refine am_metW (own := RL) (cc := cL_outputAt) (maxL := 4) (ret := (some .int)) (by decide +kernel) rfl rfl (Nat.le_of_ble_eq_true rfl) ?_
  intro p e s m args below meth c ab H locs ls X hr htb hh hl
  have hx := X.1.1; have hb := X.1.2.1; have hml := X.1.2.2.1; have hown := X.1.2.2.2.1; have hts := X.1.2.2.2.2
  have hl : lv_has ls 4 [(0, .ref (gAd G 0)), (1, .int x1), (2, .ref (gAd G 151))] := hl
  unfold f_L_outputAt at hF
  refine lv_aload_n hx hb dL_outputAt_0 rfl (lv_at hl 2 rfl) ?_
  refine lv_iconst (v := (0 : Int32)) hx hb dL_outputAt_1 (by decide) ?_
  refine lv_aload_n hx hb dL_outputAt_2 rfl (lv_at hl 0 rfl) ?_
  refine lv_iload_n hx hb dL_outputAt_3 rfl (lv_at hl 1 rfl) ?_
  obtain ⟨z3, hk1, hF⟩ := am_bind hF
  refine am_callX X hh (vx_runV (As := [.int x1]) (rest := [.int (0 : Int32), .ref (gAd G 151)]) X.1 (c_X10_outputAt l G hst hk1) (cwV 1 hts gL_outputAt_X10_outputAt rfl rfl rfl (by decide +kernel) ⟨Nat.le_of_ble_eq_true rfl, Nat.le_of_ble_eq_true rfl⟩) (am_preV X hh 0 11 (by decide) rfl rfl) rfl rfl hl.1 rfl (lv_room (Nat.le_of_ble_eq_true rfl)) dL_outputAt_4 ⟨Nat.le_of_ble_eq_true rfl, Nat.le_of_ble_eq_true rfl⟩) (fun k ab H locs ce q hz hh hce hcv hcl => ?_) (fun r2 ab H locs hz hh => ?_)
  · subst hz
    have hF := am_zl hF
    by_cases he4 : k = 0
    · subst he4
      have hF := am_pos rfl hF
      refine vx_catch (own := RL) (name := exN 0) (E := exN 0) hown [] ⟨0, 9, 12, 21⟩ [] (htb.trans rfl) (List.forall_mem_nil _) (by decide) (by decide) (hts _ (show Cond.classLink RL 21 "java/lang/IndexOutOfBoundsException" ∈ wsL_outputAt by decide +kernel)) ((X.2.2.1.2.2.2.1 0).use rfl) hce hcv hcl ?_
      refine lv_astore_n (lv' := [(3, .ref q), (0, .ref (gAd G 0)), (1, .int x1), (2, .ref (gAd G 151))]) hx hb dL_outputAt_12 rfl hl (by decide) rfl (fun ls hl => ?_)
      refine lv_iconst (v := (1 : Int32)) hx hb dL_outputAt_13 (by decide) ?_
      exact am_iret X hr hh (fun t ht => am_qw (mk := oI) hF ht) (Nat.le_of_ble_eq_true rfl) (Nat.le_of_ble_eq_true rfl) dL_outputAt_14
    · have hF := am_neg he4 hF
      cases hF
  · subst hz
    have hF := am_zr hF
    refine lv_i2l hx hb dL_outputAt_7 rfl ?_
    obtain ⟨hq5, hF⟩ := am_ifR hF
    refine am_last X hh 151 (by decide) rfl hq5 dL_outputAt_8 (fun H locs hh => ?_)
    obtain ⟨w6, hw6, hF⟩ := am_wl hF
    have hh := AH_eq hw6 hh
    refine lv_goto (tgt := 15) hx hb dL_outputAt_9 (by decide) ?_
    refine lv_iconst (v := (0 : Int32)) hx hb dL_outputAt_15 (by decide) ?_
    exact am_iret X hr hh (fun t ht => am_qw (mk := oI) hF ht) (Nat.le_of_ble_eq_true rfl) (Nat.le_of_ble_eq_true rfl) dL_outputAt_16
set_option maxHeartbeats 4000000 in
set_option maxRecDepth 100000 in
theorem c_L_type (l : Launch) (G : GG) (hst : l.stackTraces = false) {w : Wd} {x1 : Int32} {r0 : Int32} {w1 : Wd} (hF : f_L_type w x1 = some (r0, w1)) : vx_Met l yL_type wsL_type ({ frames := 7, cells := 1, slots := 6, locals := 111 } : Room) (va_Pc [.ref (gAd G 0), .int x1, .ref (gAd G 151)] (Rel G w)) (amQ G (oI r0) w1) (fun _ _ _ => False) 1 6 (gA G) := by
  refine am_metW (own := RL) (cc := cL_type) (maxL := 4) (ret := (some .int)) (by decide +kernel) rfl rfl (Nat.le_of_ble_eq_true rfl) ?_
  intro p e s m args below meth c ab H locs ls X hr htb hh hl
  have hx := X.1.1; have hb := X.1.2.1; have hml := X.1.2.2.1; have hown := X.1.2.2.2.1; have hts := X.1.2.2.2.2
  have hl : lv_has ls 4 [(0, .ref (gAd G 0)), (1, .int x1), (2, .ref (gAd G 151))] := hl
  unfold f_L_type at hF
  refine lv_aload_n hx hb dL_type_0 rfl (lv_at hl 2 rfl) ?_
  refine lv_iconst (v := (0 : Int32)) hx hb dL_type_1 (by decide) ?_
  refine lv_aload_n hx hb dL_type_2 rfl (lv_at hl 0 rfl) ?_
  refine lv_iload_n hx hb dL_type_3 rfl (lv_at hl 1 rfl) ?_
  obtain ⟨⟨z4, w3⟩, hk1, hF⟩ := am_bind hF
  have hF := am_u2 hF
  refine am_callX X hh (vx_runV (As := [.int x1]) (rest := [.int (0 : Int32), .ref (gAd G 151)]) X.1 (c_X10_type l G hst hk1) (cwV 1 hts gL_type_X10_type rfl rfl rfl (by decide +kernel) ⟨Nat.le_of_ble_eq_true rfl, Nat.le_of_ble_eq_true rfl⟩) (am_preV X hh 0 11 (by decide) rfl rfl) rfl rfl hl.1 rfl (lv_room (Nat.le_of_ble_eq_true rfl)) dL_type_4 ⟨Nat.le_of_ble_eq_true rfl, Nat.le_of_ble_eq_true rfl⟩) (fun k ab H locs ce q hz hh hce hcv hcl => ?_) (fun r2 ab H locs hz hh => ?_)
  · subst hz
    have hF := am_zl hF
    by_cases he5 : k = 1
    · subst he5
      have hF := am_pos rfl hF
      refine vx_catch (own := RL) (name := exN 1) (E := exN 1) hown [] ⟨0, 9, 12, 13⟩ [⟨0, 9, 15, 15⟩] (htb.trans rfl) (List.forall_mem_nil _) (by decide) (by decide) (hts _ (show Cond.classLink RL 13 "java/lang/IllegalArgumentException" ∈ wsL_type by decide +kernel)) ((X.2.2.1.2.2.2.1 1).use rfl) hce hcv hcl ?_
      refine lv_astore_n (lv' := [(3, .ref q), (0, .ref (gAd G 0)), (1, .int x1), (2, .ref (gAd G 151))]) hx hb dL_type_12 rfl hl (by decide) rfl (fun ls hl => ?_)
      refine lv_iconst (v := (1 : Int32)) hx hb dL_type_13 (by decide) ?_
      exact am_iret X hr hh (fun t ht => am_qw (mk := oI) hF ht) (Nat.le_of_ble_eq_true rfl) (Nat.le_of_ble_eq_true rfl) dL_type_14
    · have hF := am_neg he5 hF
      by_cases he6 : k = 2
      · subst he6
        have hF := am_pos rfl hF
        refine vx_catch (own := RL) (name := exN 2) (E := exN 2) hown [⟨0, 9, 12, 13⟩] ⟨0, 9, 15, 15⟩ [] (htb.trans rfl) (List.forall_mem_cons.mpr ⟨Or.inr ⟨by decide, exN 1, hts _ (show Cond.classLink RL 13 "java/lang/IllegalArgumentException" ∈ wsL_type by decide +kernel), X.2.2.1.2.2.2.2.1 2 1 (by decide) (by decide) (by decide)⟩, List.forall_mem_nil _⟩) (by decide) (by decide) (hts _ (show Cond.classLink RL 15 "java/lang/IllegalStateException" ∈ wsL_type by decide +kernel)) ((X.2.2.1.2.2.2.1 2).use rfl) hce hcv hcl ?_
        refine lv_astore_n (lv' := [(3, .ref q), (0, .ref (gAd G 0)), (1, .int x1), (2, .ref (gAd G 151))]) hx hb dL_type_15 rfl hl (by decide) rfl (fun ls hl => ?_)
        refine lv_iconst (v := (2 : Int32)) hx hb dL_type_16 (by decide) ?_
        exact am_iret X hr hh (fun t ht => am_qw (mk := oI) hF ht) (Nat.le_of_ble_eq_true rfl) (Nat.le_of_ble_eq_true rfl) dL_type_17
      · have hF := am_neg he6 hF
        cases hF
  · subst hz
    have hF := am_zr hF
    refine lv_i2l hx hb dL_type_7 rfl ?_
    obtain ⟨hq7, hF⟩ := am_ifR hF
    refine am_last X hh 151 (by decide) rfl hq7 dL_type_8 (fun H locs hh => ?_)
    obtain ⟨w8, hw8, hF⟩ := am_wl hF
    have hh := AH_eq hw8 hh
    refine lv_goto (tgt := 18) hx hb dL_type_9 (by decide) ?_
    refine lv_iconst (v := (0 : Int32)) hx hb dL_type_18 (by decide) ?_
    exact am_iret X hr hh (fun t ht => am_qw (mk := oI) hF ht) (Nat.le_of_ble_eq_true rfl) (Nat.le_of_ble_eq_true rfl) dL_type_19
set_option maxHeartbeats 4000000 in
set_option maxRecDepth 100000 in
theorem c_L_errorPosition (l : Launch) (G : GG) (hst : l.stackTraces = false) {w : Wd} {r0 : Int32} {w1 : Wd} (hF : f_L_errorPosition w = some (r0, w1)) : vx_Met l yL_errorPosition wsL_errorPosition ({ frames := 7, cells := 1, slots := 6, locals := 110 } : Room) (va_Pc [.ref (gAd G 0), .ref (gAd G 151)] (Rel G w)) (amQ G (oI r0) w1) (fun _ _ _ => False) 1 6 (gA G) := by
  refine am_metW (own := RL) (cc := cL_errorPosition) (maxL := 3) (ret := (some .int)) (by decide +kernel) rfl rfl (Nat.le_of_ble_eq_true rfl) ?_
  intro p e s m args below meth c ab H locs ls X hr htb hh hl
  have hx := X.1.1; have hb := X.1.2.1; have hml := X.1.2.2.1; have hown := X.1.2.2.2.1; have hts := X.1.2.2.2.2
  have hl : lv_has ls 3 [(0, .ref (gAd G 0)), (1, .ref (gAd G 151))] := hl
  unfold f_L_errorPosition at hF
  refine lv_aload_n hx hb dL_errorPosition_0 rfl (lv_at hl 1 rfl) ?_
  refine lv_iconst (v := (0 : Int32)) hx hb dL_errorPosition_1 (by decide) ?_
  refine lv_aload_n hx hb dL_errorPosition_2 rfl (lv_at hl 0 rfl) ?_
  obtain ⟨z3, hk1, hF⟩ := am_bind hF
  refine am_callX X hh (vx_runV (As := []) (rest := [.int (0 : Int32), .ref (gAd G 151)]) X.1 (c_X10_errorPosition l G hst hk1) (cwV 0 hts gL_errorPosition_X10_errorPosition rfl rfl rfl (by decide +kernel) ⟨Nat.le_of_ble_eq_true rfl, Nat.le_of_ble_eq_true rfl⟩) (am_preV X hh 0 11 (by decide) rfl rfl) rfl rfl hl.1 rfl (lv_room (Nat.le_of_ble_eq_true rfl)) dL_errorPosition_3 ⟨Nat.le_of_ble_eq_true rfl, Nat.le_of_ble_eq_true rfl⟩) (fun k ab H locs ce q hz hh hce hcv hcl => ?_) (fun r2 ab H locs hz hh => ?_)
  · subst hz
    have hF := am_zl hF
    by_cases he4 : k = 4
    · subst he4
      have hF := am_pos rfl hF
      refine vx_catch (own := RL) (name := exN 4) (E := exN 4) hown [] ⟨0, 8, 11, 31⟩ [] (htb.trans rfl) (List.forall_mem_nil _) (by decide) (by decide) (hts _ (show Cond.classLink RL 31 "java/util/NoSuchElementException" ∈ wsL_errorPosition by decide +kernel)) ((X.2.2.1.2.2.2.1 4).use rfl) hce hcv hcl ?_
      refine lv_astore_n (lv' := [(2, .ref q), (0, .ref (gAd G 0)), (1, .ref (gAd G 151))]) hx hb dL_errorPosition_11 rfl hl (by decide) rfl (fun ls hl => ?_)
      refine lv_iconst (v := (1 : Int32)) hx hb dL_errorPosition_12 (by decide) ?_
      exact am_iret X hr hh (fun t ht => am_qw (mk := oI) hF ht) (Nat.le_of_ble_eq_true rfl) (Nat.le_of_ble_eq_true rfl) dL_errorPosition_13
    · have hF := am_neg he4 hF
      cases hF
  · subst hz
    have hF := am_zr hF
    refine lv_i2l hx hb dL_errorPosition_6 rfl ?_
    obtain ⟨hq5, hF⟩ := am_ifR hF
    refine am_last X hh 151 (by decide) rfl hq5 dL_errorPosition_7 (fun H locs hh => ?_)
    obtain ⟨w6, hw6, hF⟩ := am_wl hF
    have hh := AH_eq hw6 hh
    refine lv_goto (tgt := 14) hx hb dL_errorPosition_8 (by decide) ?_
    refine lv_iconst (v := (0 : Int32)) hx hb dL_errorPosition_14 (by decide) ?_
    exact am_iret X hr hh (fun t ht => am_qw (mk := oI) hF ht) (Nat.le_of_ble_eq_true rfl) (Nat.le_of_ble_eq_true rfl) dL_errorPosition_15
set_option maxHeartbeats 4000000 in
set_option maxRecDepth 100000 in
theorem c_L_failedCommand (l : Launch) (G : GG) (hst : l.stackTraces = false) {w : Wd} {r0 : Int32} {w1 : Wd} (hF : f_L_failedCommand w = some (r0, w1)) : vx_Met l yL_failedCommand wsL_failedCommand ({ frames := 7, cells := 1, slots := 6, locals := 110 } : Room) (va_Pc [.ref (gAd G 0), .ref (gAd G 151)] (Rel G w)) (amQ G (oI r0) w1) (fun _ _ _ => False) 1 6 (gA G) := by
  refine am_metW (own := RL) (cc := cL_failedCommand) (maxL := 3) (ret := (some .int)) (by decide +kernel) rfl rfl (Nat.le_of_ble_eq_true rfl) ?_
  intro p e s m args below meth c ab H locs ls X hr htb hh hl
  have hx := X.1.1; have hb := X.1.2.1; have hml := X.1.2.2.1; have hown := X.1.2.2.2.1; have hts := X.1.2.2.2.2
  have hl : lv_has ls 3 [(0, .ref (gAd G 0)), (1, .ref (gAd G 151))] := hl
  unfold f_L_failedCommand at hF
  refine lv_aload_n hx hb dL_failedCommand_0 rfl (lv_at hl 1 rfl) ?_
  refine lv_iconst (v := (0 : Int32)) hx hb dL_failedCommand_1 (by decide) ?_
  refine lv_aload_n hx hb dL_failedCommand_2 rfl (lv_at hl 0 rfl) ?_
  obtain ⟨z3, hk1, hF⟩ := am_bind hF
  refine am_callX X hh (vx_runV (As := []) (rest := [.int (0 : Int32), .ref (gAd G 151)]) X.1 (c_X10_failedCommand l G hst hk1) (cwV 0 hts gL_failedCommand_X10_failedCommand rfl rfl rfl (by decide +kernel) ⟨Nat.le_of_ble_eq_true rfl, Nat.le_of_ble_eq_true rfl⟩) (am_preV X hh 0 11 (by decide) rfl rfl) rfl rfl hl.1 rfl (lv_room (Nat.le_of_ble_eq_true rfl)) dL_failedCommand_3 ⟨Nat.le_of_ble_eq_true rfl, Nat.le_of_ble_eq_true rfl⟩) (fun k ab H locs ce q hz hh hce hcv hcl => ?_) (fun r2 ab H locs hz hh => ?_)
  · subst hz
    have hF := am_zl hF
    by_cases he4 : k = 4
    · subst he4
      have hF := am_pos rfl hF
      refine vx_catch (own := RL) (name := exN 4) (E := exN 4) hown [] ⟨0, 8, 11, 31⟩ [] (htb.trans rfl) (List.forall_mem_nil _) (by decide) (by decide) (hts _ (show Cond.classLink RL 31 "java/util/NoSuchElementException" ∈ wsL_failedCommand by decide +kernel)) ((X.2.2.1.2.2.2.1 4).use rfl) hce hcv hcl ?_
      refine lv_astore_n (lv' := [(2, .ref q), (0, .ref (gAd G 0)), (1, .ref (gAd G 151))]) hx hb dL_failedCommand_11 rfl hl (by decide) rfl (fun ls hl => ?_)
      refine lv_iconst (v := (1 : Int32)) hx hb dL_failedCommand_12 (by decide) ?_
      exact am_iret X hr hh (fun t ht => am_qw (mk := oI) hF ht) (Nat.le_of_ble_eq_true rfl) (Nat.le_of_ble_eq_true rfl) dL_failedCommand_13
    · have hF := am_neg he4 hF
      cases hF
  · subst hz
    have hF := am_zr hF
    refine lv_i2l hx hb dL_failedCommand_6 rfl ?_
    obtain ⟨hq5, hF⟩ := am_ifR hF
    refine am_last X hh 151 (by decide) rfl hq5 dL_failedCommand_7 (fun H locs hh => ?_)
    obtain ⟨w6, hw6, hF⟩ := am_wl hF
    have hh := AH_eq hw6 hh
    refine lv_goto (tgt := 14) hx hb dL_failedCommand_8 (by decide) ?_
    refine lv_iconst (v := (0 : Int32)) hx hb dL_failedCommand_14 (by decide) ?_
    exact am_iret X hr hh (fun t ht => am_qw (mk := oI) hF ht) (Nat.le_of_ble_eq_true rfl) (Nat.le_of_ble_eq_true rfl) dL_failedCommand_15
set_option maxHeartbeats 4000000 in
set_option maxRecDepth 100000 in
theorem c_L_restore (l : Launch) (G : GG) (hst : l.stackTraces = false) {w : Wd} {r0 : Int32} {w1 : Wd} (hF : f_L_restore w = some (r0, w1)) : vx_Met l yL_restore wsL_restore ({ frames := 7, cells := 1, slots := 6, locals := 110 } : Room) (va_Pc [.ref (gAd G 0), .ref (gAd G 151)] (Rel G w)) (amQ G (oI r0) w1) (fun _ _ _ => False) 1 6 (gA G) := by
  refine am_metW (own := RL) (cc := cL_restore) (maxL := 3) (ret := (some .int)) (by decide +kernel) rfl rfl (Nat.le_of_ble_eq_true rfl) ?_
  intro p e s m args below meth c ab H locs ls X hr htb hh hl
  have hx := X.1.1; have hb := X.1.2.1; have hml := X.1.2.2.1; have hown := X.1.2.2.2.1; have hts := X.1.2.2.2.2
  have hl : lv_has ls 3 [(0, .ref (gAd G 0)), (1, .ref (gAd G 151))] := hl
  unfold f_L_restore at hF
  refine lv_aload_n hx hb dL_restore_0 rfl (lv_at hl 1 rfl) ?_
  refine lv_iconst (v := (0 : Int32)) hx hb dL_restore_1 (by decide) ?_
  refine lv_aload_n hx hb dL_restore_2 rfl (lv_at hl 0 rfl) ?_
  obtain ⟨⟨z4, w3⟩, hk1, hF⟩ := am_bind hF
  have hF := am_u2 hF
  refine am_callX X hh (vx_runV (As := []) (rest := [.int (0 : Int32), .ref (gAd G 151)]) X.1 (c_X10_restore l G hst hk1) (cwV 0 hts gL_restore_X10_restore rfl rfl rfl (by decide +kernel) ⟨Nat.le_of_ble_eq_true rfl, Nat.le_of_ble_eq_true rfl⟩) (am_preV X hh 0 11 (by decide) rfl rfl) rfl rfl hl.1 rfl (lv_room (Nat.le_of_ble_eq_true rfl)) dL_restore_3 ⟨Nat.le_of_ble_eq_true rfl, Nat.le_of_ble_eq_true rfl⟩) (fun k ab H locs ce q hz hh hce hcv hcl => ?_) (fun r2 ab H locs hz hh => ?_)
  · subst hz
    have hF := am_zl hF
    by_cases he5 : k = 2
    · subst he5
      have hF := am_pos rfl hF
      refine vx_catch (own := RL) (name := exN 2) (E := exN 2) hown [] ⟨0, 8, 11, 15⟩ [] (htb.trans rfl) (List.forall_mem_nil _) (by decide) (by decide) (hts _ (show Cond.classLink RL 15 "java/lang/IllegalStateException" ∈ wsL_restore by decide +kernel)) ((X.2.2.1.2.2.2.1 2).use rfl) hce hcv hcl ?_
      refine lv_astore_n (lv' := [(2, .ref q), (0, .ref (gAd G 0)), (1, .ref (gAd G 151))]) hx hb dL_restore_11 rfl hl (by decide) rfl (fun ls hl => ?_)
      refine lv_iconst (v := (1 : Int32)) hx hb dL_restore_12 (by decide) ?_
      exact am_iret X hr hh (fun t ht => am_qw (mk := oI) hF ht) (Nat.le_of_ble_eq_true rfl) (Nat.le_of_ble_eq_true rfl) dL_restore_13
    · have hF := am_neg he5 hF
      cases hF
  · subst hz
    have hF := am_zr hF
    refine lv_i2l hx hb dL_restore_6 rfl ?_
    obtain ⟨hq6, hF⟩ := am_ifR hF
    refine am_last X hh 151 (by decide) rfl hq6 dL_restore_7 (fun H locs hh => ?_)
    obtain ⟨w7, hw7, hF⟩ := am_wl hF
    have hh := AH_eq hw7 hh
    refine lv_goto (tgt := 14) hx hb dL_restore_8 (by decide) ?_
    refine lv_iconst (v := (0 : Int32)) hx hb dL_restore_14 (by decide) ?_
    exact am_iret X hr hh (fun t ht => am_qw (mk := oI) hF ht) (Nat.le_of_ble_eq_true rfl) (Nat.le_of_ble_eq_true rfl) dL_restore_15
set_option maxHeartbeats 4000000 in
set_option maxRecDepth 100000 in
theorem c_L_teeth (l : Launch) (G : GG) (hst : l.stackTraces = false) {w : Wd} {x1 : Int32} {r0 : Int32} {w1 : Wd} (hF : f_L_teeth w x1 = some (r0, w1)) : vx_Met l yL_teeth wsL_teeth ({ frames := 8, cells := 1, slots := 6, locals := 132 } : Room) (va_Pc [.ref (gAd G 0), .int x1, .ref (gAd G 151)] (Rel G w)) (amQ G (oI r0) w1) (fun _ _ _ => False) 1 6 (gA G) := by
  refine am_metW (own := RL) (cc := cL_teeth) (maxL := 4) (ret := (some .int)) (by decide +kernel) rfl rfl (Nat.le_of_ble_eq_true rfl) ?_
  intro p e s m args below meth c ab H locs ls X hr htb hh hl
  have hx := X.1.1; have hb := X.1.2.1; have hml := X.1.2.2.1; have hown := X.1.2.2.2.1; have hts := X.1.2.2.2.2
  have hl : lv_has ls 4 [(0, .ref (gAd G 0)), (1, .int x1), (2, .ref (gAd G 151))] := hl
  unfold f_L_teeth at hF
  refine lv_aload_n hx hb dL_teeth_0 rfl (lv_at hl 2 rfl) ?_
  refine lv_iconst (v := (0 : Int32)) hx hb dL_teeth_1 (by decide) ?_
  refine lv_aload_n hx hb dL_teeth_2 rfl (lv_at hl 0 rfl) ?_
  refine lv_iload_n hx hb dL_teeth_3 rfl (lv_at hl 1 rfl) ?_
  obtain ⟨z3, hk1, hF⟩ := am_bind hF
  refine am_callX X hh (vx_runV (As := [.int x1]) (rest := [.int (0 : Int32), .ref (gAd G 151)]) X.1 (c_X10_teeth l G hst hk1) (cwV 1 hts gL_teeth_X10_teeth rfl rfl rfl (by decide +kernel) ⟨Nat.le_of_ble_eq_true rfl, Nat.le_of_ble_eq_true rfl⟩) (am_preV X hh 0 11 (by decide) rfl rfl) rfl rfl hl.1 rfl (lv_room (Nat.le_of_ble_eq_true rfl)) dL_teeth_4 ⟨Nat.le_of_ble_eq_true rfl, Nat.le_of_ble_eq_true rfl⟩) (fun k ab H locs ce q hz hh hce hcv hcl => ?_) (fun r2 ab H locs hz hh => ?_)
  · subst hz
    have hF := am_zl hF
    by_cases he4 : k = 0
    · subst he4
      have hF := am_pos rfl hF
      refine vx_catch (own := RL) (name := exN 0) (E := exN 0) hown [] ⟨0, 9, 12, 21⟩ [] (htb.trans rfl) (List.forall_mem_nil _) (by decide) (by decide) (hts _ (show Cond.classLink RL 21 "java/lang/IndexOutOfBoundsException" ∈ wsL_teeth by decide +kernel)) ((X.2.2.1.2.2.2.1 0).use rfl) hce hcv hcl ?_
      refine lv_astore_n (lv' := [(3, .ref q), (0, .ref (gAd G 0)), (1, .int x1), (2, .ref (gAd G 151))]) hx hb dL_teeth_12 rfl hl (by decide) rfl (fun ls hl => ?_)
      refine lv_iconst (v := (1 : Int32)) hx hb dL_teeth_13 (by decide) ?_
      exact am_iret X hr hh (fun t ht => am_qw (mk := oI) hF ht) (Nat.le_of_ble_eq_true rfl) (Nat.le_of_ble_eq_true rfl) dL_teeth_14
    · have hF := am_neg he4 hF
      cases hF
  · subst hz
    have hF := am_zr hF
    refine lv_i2l hx hb dL_teeth_7 rfl ?_
    obtain ⟨hq5, hF⟩ := am_ifR hF
    refine am_last X hh 151 (by decide) rfl hq5 dL_teeth_8 (fun H locs hh => ?_)
    obtain ⟨w6, hw6, hF⟩ := am_wl hF
    have hh := AH_eq hw6 hh
    refine lv_goto (tgt := 15) hx hb dL_teeth_9 (by decide) ?_
    refine lv_iconst (v := (0 : Int32)) hx hb dL_teeth_15 (by decide) ?_
    exact am_iret X hr hh (fun t ht => am_qw (mk := oI) hF ht) (Nat.le_of_ble_eq_true rfl) (Nat.le_of_ble_eq_true rfl) dL_teeth_16
set_option maxHeartbeats 4000000 in
set_option maxRecDepth 100000 in
theorem c_L_joint (l : Launch) (G : GG) (hst : l.stackTraces = false) {w : Wd} {x1 : Int32} {x2 : Int32} {r0 : Int32} {w1 : Wd} (hF : f_L_joint w x1 x2 = some (r0, w1)) : vx_Met l yL_joint wsL_joint ({ frames := 8, cells := 3, slots := 18, locals := 134 } : Room) (va_Pc [.ref (gAd G 0), .int x1, .int x2, .ref (gAd G 151)] (Rel G w)) (amQ G (oI r0) w1) (fun _ _ _ => False) 3 18 (gA G) := by
  refine am_metW (own := RL) (cc := cL_joint) (maxL := 5) (ret := (some .int)) (by decide +kernel) rfl rfl (Nat.le_of_ble_eq_true rfl) ?_
  intro p e s m args below meth c ab H locs ls X hr htb hh hl
  have hx := X.1.1; have hb := X.1.2.1; have hml := X.1.2.2.1; have hown := X.1.2.2.2.1; have hts := X.1.2.2.2.2
  have hl : lv_has ls 5 [(0, .ref (gAd G 0)), (1, .int x1), (2, .int x2), (3, .ref (gAd G 151))] := hl
  unfold f_L_joint at hF
  refine lv_aload_n hx hb dL_joint_0 rfl (lv_at hl 3 rfl) ?_
  refine lv_iconst (v := (0 : Int32)) hx hb dL_joint_1 (by decide) ?_
  refine lv_aload_n hx hb dL_joint_2 rfl (lv_at hl 0 rfl) ?_
  refine lv_iload_n hx hb dL_joint_3 rfl (lv_at hl 1 rfl) ?_
  refine lv_iload_n hx hb dL_joint_4 rfl (lv_at hl 2 rfl) ?_
  obtain ⟨z3, hk1, hF⟩ := am_bind hF
  refine am_callX X hh (vx_runV (As := [.int x1, .int x2]) (rest := [.int (0 : Int32), .ref (gAd G 151)]) X.1 (c_X10_joint l G hst hk1) (cwV 2 hts gL_joint_X10_joint rfl rfl rfl (by decide +kernel) ⟨Nat.le_of_ble_eq_true rfl, Nat.le_of_ble_eq_true rfl⟩) (am_preV X hh 0 11 (by decide) rfl rfl) rfl rfl hl.1 rfl (lv_room (Nat.le_of_ble_eq_true rfl)) dL_joint_5 ⟨Nat.le_of_ble_eq_true rfl, Nat.le_of_ble_eq_true rfl⟩) (fun k ab H locs ce q hz hh hce hcv hcl => ?_) (fun r2 ab H locs hz hh => ?_)
  · subst hz
    have hF := am_zl hF
    by_cases he4 : k = 0
    · subst he4
      have hF := am_pos rfl hF
      refine vx_catch (own := RL) (name := exN 0) (E := exN 0) hown [] ⟨0, 10, 13, 21⟩ [⟨0, 10, 17, 31⟩] (htb.trans rfl) (List.forall_mem_nil _) (by decide) (by decide) (hts _ (show Cond.classLink RL 21 "java/lang/IndexOutOfBoundsException" ∈ wsL_joint by decide +kernel)) ((X.2.2.1.2.2.2.1 0).use rfl) hce hcv hcl ?_
      refine lv_astore (lv' := [(4, .ref q), (0, .ref (gAd G 0)), (1, .int x1), (2, .int x2), (3, .ref (gAd G 151))]) hx hb dL_joint_13 hl (by decide) rfl (fun ls hl => ?_)
      refine lv_iconst (v := (1 : Int32)) hx hb dL_joint_15 (by decide) ?_
      exact am_iret X hr hh (fun t ht => am_qw (mk := oI) hF ht) (Nat.le_of_ble_eq_true rfl) (Nat.le_of_ble_eq_true rfl) dL_joint_16
    · have hF := am_neg he4 hF
      by_cases he5 : k = 4
      · subst he5
        have hF := am_pos rfl hF
        refine vx_catch (own := RL) (name := exN 4) (E := exN 4) hown [⟨0, 10, 13, 21⟩] ⟨0, 10, 17, 31⟩ [] (htb.trans rfl) (List.forall_mem_cons.mpr ⟨Or.inr ⟨by decide, exN 0, hts _ (show Cond.classLink RL 21 "java/lang/IndexOutOfBoundsException" ∈ wsL_joint by decide +kernel), X.2.2.1.2.2.2.2.1 4 0 (by decide) (by decide) (by decide)⟩, List.forall_mem_nil _⟩) (by decide) (by decide) (hts _ (show Cond.classLink RL 31 "java/util/NoSuchElementException" ∈ wsL_joint by decide +kernel)) ((X.2.2.1.2.2.2.1 4).use rfl) hce hcv hcl ?_
        refine lv_astore (lv' := [(4, .ref q), (0, .ref (gAd G 0)), (1, .int x1), (2, .int x2), (3, .ref (gAd G 151))]) hx hb dL_joint_17 hl (by decide) rfl (fun ls hl => ?_)
        refine lv_iconst (v := (2 : Int32)) hx hb dL_joint_19 (by decide) ?_
        exact am_iret X hr hh (fun t ht => am_qw (mk := oI) hF ht) (Nat.le_of_ble_eq_true rfl) (Nat.le_of_ble_eq_true rfl) dL_joint_20
      · have hF := am_neg he5 hF
        cases hF
  · subst hz
    have hF := am_zr hF
    refine lv_i2l hx hb dL_joint_8 rfl ?_
    obtain ⟨hq6, hF⟩ := am_ifR hF
    refine am_last X hh 151 (by decide) rfl hq6 dL_joint_9 (fun H locs hh => ?_)
    obtain ⟨w7, hw7, hF⟩ := am_wl hF
    have hh := AH_eq hw7 hh
    refine lv_goto (tgt := 21) hx hb dL_joint_10 (by decide) ?_
    refine lv_iconst (v := (0 : Int32)) hx hb dL_joint_21 (by decide) ?_
    exact am_iret X hr hh (fun t ht => am_qw (mk := oI) hF ht) (Nat.le_of_ble_eq_true rfl) (Nat.le_of_ble_eq_true rfl) dL_joint_22
set_option maxHeartbeats 4000000 in
set_option maxRecDepth 100000 in
theorem c_L_trainSize (l : Launch) (G : GG) (hst : l.stackTraces = false) {w : Wd} {x1 : Int32} {r0 : Int32} {w1 : Wd} (hF : f_L_trainSize w x1 = some (r0, w1)) : vx_Met l yL_trainSize wsL_trainSize ({ frames := 8, cells := 1, slots := 6, locals := 132 } : Room) (va_Pc [.ref (gAd G 0), .int x1, .ref (gAd G 151)] (Rel G w)) (amQ G (oI r0) w1) (fun _ _ _ => False) 1 6 (gA G) := by
  refine am_metW (own := RL) (cc := cL_trainSize) (maxL := 4) (ret := (some .int)) (by decide +kernel) rfl rfl (Nat.le_of_ble_eq_true rfl) ?_
  intro p e s m args below meth c ab H locs ls X hr htb hh hl
  have hx := X.1.1; have hb := X.1.2.1; have hml := X.1.2.2.1; have hown := X.1.2.2.2.1; have hts := X.1.2.2.2.2
  have hl : lv_has ls 4 [(0, .ref (gAd G 0)), (1, .int x1), (2, .ref (gAd G 151))] := hl
  unfold f_L_trainSize at hF
  refine lv_aload_n hx hb dL_trainSize_0 rfl (lv_at hl 2 rfl) ?_
  refine lv_iconst (v := (0 : Int32)) hx hb dL_trainSize_1 (by decide) ?_
  refine lv_aload_n hx hb dL_trainSize_2 rfl (lv_at hl 0 rfl) ?_
  refine lv_iload_n hx hb dL_trainSize_3 rfl (lv_at hl 1 rfl) ?_
  obtain ⟨⟨z4, w3⟩, hk1, hF⟩ := am_bind hF
  have hF := am_u2 hF
  refine am_callX X hh (vx_runV (As := [.int x1]) (rest := [.int (0 : Int32), .ref (gAd G 151)]) X.1 (c_X10_trainSize l G hst hk1) (cwV 1 hts gL_trainSize_X10_trainSize rfl rfl rfl (by decide +kernel) ⟨Nat.le_of_ble_eq_true rfl, Nat.le_of_ble_eq_true rfl⟩) (am_preV X hh 0 11 (by decide) rfl rfl) rfl rfl hl.1 rfl (lv_room (Nat.le_of_ble_eq_true rfl)) dL_trainSize_4 ⟨Nat.le_of_ble_eq_true rfl, Nat.le_of_ble_eq_true rfl⟩) (fun k ab H locs ce q hz hh hce hcv hcl => ?_) (fun r2 ab H locs hz hh => ?_)
  · subst hz
    have hF := am_zl hF
    by_cases he5 : k = 0
    · subst he5
      have hF := am_pos rfl hF
      refine vx_catch (own := RL) (name := exN 0) (E := exN 0) hown [] ⟨0, 9, 12, 21⟩ [] (htb.trans rfl) (List.forall_mem_nil _) (by decide) (by decide) (hts _ (show Cond.classLink RL 21 "java/lang/IndexOutOfBoundsException" ∈ wsL_trainSize by decide +kernel)) ((X.2.2.1.2.2.2.1 0).use rfl) hce hcv hcl ?_
      refine lv_astore_n (lv' := [(3, .ref q), (0, .ref (gAd G 0)), (1, .int x1), (2, .ref (gAd G 151))]) hx hb dL_trainSize_12 rfl hl (by decide) rfl (fun ls hl => ?_)
      refine lv_iconst (v := (1 : Int32)) hx hb dL_trainSize_13 (by decide) ?_
      exact am_iret X hr hh (fun t ht => am_qw (mk := oI) hF ht) (Nat.le_of_ble_eq_true rfl) (Nat.le_of_ble_eq_true rfl) dL_trainSize_14
    · have hF := am_neg he5 hF
      cases hF
  · subst hz
    have hF := am_zr hF
    refine lv_i2l hx hb dL_trainSize_7 rfl ?_
    obtain ⟨hq6, hF⟩ := am_ifR hF
    refine am_last X hh 151 (by decide) rfl hq6 dL_trainSize_8 (fun H locs hh => ?_)
    obtain ⟨w7, hw7, hF⟩ := am_wl hF
    have hh := AH_eq hw7 hh
    refine lv_goto (tgt := 15) hx hb dL_trainSize_9 (by decide) ?_
    refine lv_iconst (v := (0 : Int32)) hx hb dL_trainSize_15 (by decide) ?_
    exact am_iret X hr hh (fun t ht => am_qw (mk := oI) hF ht) (Nat.le_of_ble_eq_true rfl) (Nat.le_of_ble_eq_true rfl) dL_trainSize_16
set_option maxHeartbeats 4000000 in
set_option maxRecDepth 100000 in
theorem c_L_areInTrain (l : Launch) (G : GG) (hst : l.stackTraces = false) {w : Wd} {x1 : Int32} {x2 : Int32} {r0 : Int32} {w1 : Wd} (hF : f_L_areInTrain w x1 x2 = some (r0, w1)) : vx_Met l yL_areInTrain wsL_areInTrain ({ frames := 8, cells := 2, slots := 12, locals := 133 } : Room) (va_Pc [.ref (gAd G 0), .int x1, .int x2, .ref (gAd G 151)] (Rel G w)) (amQ G (oI r0) w1) (fun _ _ _ => False) 2 12 (gA G) := by
  refine am_metW (own := RL) (cc := cL_areInTrain) (maxL := 5) (ret := (some .int)) (by decide +kernel) rfl rfl (Nat.le_of_ble_eq_true rfl) ?_
  intro p e s m args below meth c ab H locs ls X hr htb hh hl
  have hx := X.1.1; have hb := X.1.2.1; have hml := X.1.2.2.1; have hown := X.1.2.2.2.1; have hts := X.1.2.2.2.2
  have hl : lv_has ls 5 [(0, .ref (gAd G 0)), (1, .int x1), (2, .int x2), (3, .ref (gAd G 151))] := hl
  unfold f_L_areInTrain at hF
  refine lv_aload_n hx hb dL_areInTrain_0 rfl (lv_at hl 3 rfl) ?_
  refine lv_iconst (v := (0 : Int32)) hx hb dL_areInTrain_1 (by decide) ?_
  refine lv_aload_n hx hb dL_areInTrain_2 rfl (lv_at hl 0 rfl) ?_
  refine lv_iload_n hx hb dL_areInTrain_3 rfl (lv_at hl 1 rfl) ?_
  refine lv_iload_n hx hb dL_areInTrain_4 rfl (lv_at hl 2 rfl) ?_
  obtain ⟨⟨z4, w3⟩, hk1, hF⟩ := am_bind hF
  have hF := am_u2 hF
  refine am_callX X hh (vx_runV (As := [.int x1, .int x2]) (rest := [.int (0 : Int32), .ref (gAd G 151)]) X.1 (c_X10_areInTrain l G hst hk1) (cwV 2 hts gL_areInTrain_X10_areInTrain rfl rfl rfl (by decide +kernel) ⟨Nat.le_of_ble_eq_true rfl, Nat.le_of_ble_eq_true rfl⟩) (am_preV X hh 0 11 (by decide) rfl rfl) rfl rfl hl.1 rfl (lv_room (Nat.le_of_ble_eq_true rfl)) dL_areInTrain_5 ⟨Nat.le_of_ble_eq_true rfl, Nat.le_of_ble_eq_true rfl⟩) (fun k ab H locs ce q hz hh hce hcv hcl => ?_) (fun r2 ab H locs hz hh => ?_)
  · subst hz
    have hF := am_zl hF
    by_cases he5 : k = 0
    · subst he5
      have hF := am_pos rfl hF
      refine vx_catch (own := RL) (name := exN 0) (E := exN 0) hown [] ⟨0, 17, 20, 21⟩ [] (htb.trans rfl) (List.forall_mem_nil _) (by decide) (by decide) (hts _ (show Cond.classLink RL 21 "java/lang/IndexOutOfBoundsException" ∈ wsL_areInTrain by decide +kernel)) ((X.2.2.1.2.2.2.1 0).use rfl) hce hcv hcl ?_
      refine lv_astore (lv' := [(4, .ref q), (0, .ref (gAd G 0)), (1, .int x1), (2, .int x2), (3, .ref (gAd G 151))]) hx hb dL_areInTrain_20 hl (by decide) rfl (fun ls hl => ?_)
      refine lv_iconst (v := (1 : Int32)) hx hb dL_areInTrain_22 (by decide) ?_
      exact am_iret X hr hh (fun t ht => am_qw (mk := oI) hF ht) (Nat.le_of_ble_eq_true rfl) (Nat.le_of_ble_eq_true rfl) dL_areInTrain_23
    · have hF := am_neg he5 hF
      cases hF
  · subst hz
    have hF := am_zr hF
    refine lv_if_eq (tgt := 15) hx hb dL_areInTrain_8 (by decide) (fun hc6 => ?_) (fun hc6 => ?_)
    · have hF := am_pos hc6 hF
      refine lv_lconst (v := (0 : Int64)) hx hb dL_areInTrain_15 (by decide) ?_
      obtain ⟨hq7, hF⟩ := am_ifR hF
      refine am_last X hh 151 (by decide) rfl hq7 dL_areInTrain_16 (fun H locs hh => ?_)
      obtain ⟨w8, hw8, hF⟩ := am_wl hF
      have hh := AH_eq hw8 hh
      refine lv_goto (tgt := 24) hx hb dL_areInTrain_17 (by decide) ?_
      refine lv_iconst (v := (0 : Int32)) hx hb dL_areInTrain_24 (by decide) ?_
      exact am_iret X hr hh (fun t ht => am_qw (mk := oI) hF ht) (Nat.le_of_ble_eq_true rfl) (Nat.le_of_ble_eq_true rfl) dL_areInTrain_25
    · have hF := am_neg hc6 hF
      refine lv_lconst (v := (1 : Int64)) hx hb dL_areInTrain_11 (by decide) ?_
      refine lv_goto (tgt := 16) hx hb dL_areInTrain_12 (by decide) ?_
      obtain ⟨hq9, hF⟩ := am_ifR hF
      refine am_last X hh 151 (by decide) rfl hq9 dL_areInTrain_16 (fun H locs hh => ?_)
      obtain ⟨w10, hw10, hF⟩ := am_wl hF
      have hh := AH_eq hw10 hh
      refine lv_goto (tgt := 24) hx hb dL_areInTrain_17 (by decide) ?_
      refine lv_iconst (v := (0 : Int32)) hx hb dL_areInTrain_24 (by decide) ?_
      exact am_iret X hr hh (fun t ht => am_qw (mk := oI) hF ht) (Nat.le_of_ble_eq_true rfl) (Nat.le_of_ble_eq_true rfl) dL_areInTrain_25
set_option maxHeartbeats 4000000 in
set_option maxRecDepth 100000 in
theorem c_L_angle (l : Launch) (G : GG) (hst : l.stackTraces = false) {w : Wd} {x1 : Int32} {r0 : Int32} {w1 : Wd} (hF : f_L_angle w x1 = some (r0, w1)) : vx_Met l yL_angle wsL_angle ({ frames := 8, cells := 1, slots := 6, locals := 132 } : Room) (va_Pc [.ref (gAd G 0), .int x1, .ref (gAd G 151)] (Rel G w)) (amQ G (oI r0) w1) (fun _ _ _ => False) 1 6 (gA G) := by
  refine am_metW (own := RL) (cc := cL_angle) (maxL := 4) (ret := (some .int)) (by decide +kernel) rfl rfl (Nat.le_of_ble_eq_true rfl) ?_
  intro p e s m args below meth c ab H locs ls X hr htb hh hl
  have hx := X.1.1; have hb := X.1.2.1; have hml := X.1.2.2.1; have hown := X.1.2.2.2.1; have hts := X.1.2.2.2.2
  have hl : lv_has ls 4 [(0, .ref (gAd G 0)), (1, .int x1), (2, .ref (gAd G 151))] := hl
  unfold f_L_angle at hF
  refine lv_aload_n hx hb dL_angle_0 rfl (lv_at hl 2 rfl) ?_
  refine lv_iconst (v := (0 : Int32)) hx hb dL_angle_1 (by decide) ?_
  refine lv_aload_n hx hb dL_angle_2 rfl (lv_at hl 0 rfl) ?_
  refine lv_iload_n hx hb dL_angle_3 rfl (lv_at hl 1 rfl) ?_
  obtain ⟨z3, hk1, hF⟩ := am_bind hF
  refine am_callX X hh (vx_runV (As := [.int x1]) (rest := [.int (0 : Int32), .ref (gAd G 151)]) X.1 (c_X10_angle l G hst hk1) (cwV 1 hts gL_angle_X10_angle rfl rfl rfl (by decide +kernel) ⟨Nat.le_of_ble_eq_true rfl, Nat.le_of_ble_eq_true rfl⟩) (am_preV X hh 0 11 (by decide) rfl rfl) rfl rfl hl.1 rfl (lv_room (Nat.le_of_ble_eq_true rfl)) dL_angle_4 ⟨Nat.le_of_ble_eq_true rfl, Nat.le_of_ble_eq_true rfl⟩) (fun k ab H locs ce q hz hh hce hcv hcl => ?_) (fun r2 ab H locs hz hh => ?_)
  · subst hz
    have hF := am_zl hF
    by_cases he4 : k = 0
    · subst he4
      have hF := am_pos rfl hF
      refine vx_catch (own := RL) (name := exN 0) (E := exN 0) hown [] ⟨0, 8, 11, 21⟩ [] (htb.trans rfl) (List.forall_mem_nil _) (by decide) (by decide) (hts _ (show Cond.classLink RL 21 "java/lang/IndexOutOfBoundsException" ∈ wsL_angle by decide +kernel)) ((X.2.2.1.2.2.2.1 0).use rfl) hce hcv hcl ?_
      refine lv_astore_n (lv' := [(3, .ref q), (0, .ref (gAd G 0)), (1, .int x1), (2, .ref (gAd G 151))]) hx hb dL_angle_11 rfl hl (by decide) rfl (fun ls hl => ?_)
      refine lv_iconst (v := (1 : Int32)) hx hb dL_angle_12 (by decide) ?_
      exact am_iret X hr hh (fun t ht => am_qw (mk := oI) hF ht) (Nat.le_of_ble_eq_true rfl) (Nat.le_of_ble_eq_true rfl) dL_angle_13
    · have hF := am_neg he4 hF
      cases hF
  · subst hz
    have hF := am_zr hF
    obtain ⟨hq5, hF⟩ := am_ifR hF
    refine am_last X hh 151 (by decide) rfl hq5 dL_angle_7 (fun H locs hh => ?_)
    obtain ⟨w6, hw6, hF⟩ := am_wl hF
    have hh := AH_eq hw6 hh
    refine lv_goto (tgt := 14) hx hb dL_angle_8 (by decide) ?_
    refine lv_iconst (v := (0 : Int32)) hx hb dL_angle_14 (by decide) ?_
    exact am_iret X hr hh (fun t ht => am_qw (mk := oI) hF ht) (Nat.le_of_ble_eq_true rfl) (Nat.le_of_ble_eq_true rfl) dL_angle_15
set_option maxHeartbeats 4000000 in
set_option maxRecDepth 100000 in
theorem c_L_anglePart (l : Launch) (G : GG) (hst : l.stackTraces = false) {w : Wd} {x1 : Int32} {r0 : Int32} {w1 : Wd} (hF : f_L_anglePart w x1 = some (r0, w1)) : vx_Met l yL_anglePart wsL_anglePart ({ frames := 8, cells := 1, slots := 6, locals := 132 } : Room) (va_Pc [.ref (gAd G 0), .int x1, .ref (gAd G 152)] (Rel G w)) (amQ G (oI r0) w1) (fun _ _ _ => False) 1 6 (gA G) := by
  refine am_metW (own := RL) (cc := cL_anglePart) (maxL := 4) (ret := (some .int)) (by decide +kernel) rfl rfl (Nat.le_of_ble_eq_true rfl) ?_
  intro p e s m args below meth c ab H locs ls X hr htb hh hl
  have hx := X.1.1; have hb := X.1.2.1; have hml := X.1.2.2.1; have hown := X.1.2.2.2.1; have hts := X.1.2.2.2.2
  have hl : lv_has ls 4 [(0, .ref (gAd G 0)), (1, .int x1), (2, .ref (gAd G 152))] := hl
  unfold f_L_anglePart at hF
  refine lv_aload_n hx hb dL_anglePart_0 rfl (lv_at hl 2 rfl) ?_
  refine lv_iconst (v := (0 : Int32)) hx hb dL_anglePart_1 (by decide) ?_
  refine lv_aload_n hx hb dL_anglePart_2 rfl (lv_at hl 0 rfl) ?_
  refine lv_iload_n hx hb dL_anglePart_3 rfl (lv_at hl 1 rfl) ?_
  obtain ⟨z3, hk1, hF⟩ := am_bind hF
  refine am_callX X hh (vx_runV (As := [.int x1]) (rest := [.int (0 : Int32), .ref (gAd G 152)]) X.1 (c_X10_anglePart l G hst hk1) (cwV 1 hts gL_anglePart_X10_anglePart rfl rfl rfl (by decide +kernel) ⟨Nat.le_of_ble_eq_true rfl, Nat.le_of_ble_eq_true rfl⟩) (am_preV X hh 0 11 (by decide) rfl rfl) rfl rfl hl.1 rfl (lv_room (Nat.le_of_ble_eq_true rfl)) dL_anglePart_4 ⟨Nat.le_of_ble_eq_true rfl, Nat.le_of_ble_eq_true rfl⟩) (fun k ab H locs ce q hz hh hce hcv hcl => ?_) (fun r2 ab H locs hz hh => ?_)
  · subst hz
    have hF := am_zl hF
    by_cases he4 : k = 0
    · subst he4
      have hF := am_pos rfl hF
      refine vx_catch (own := RL) (name := exN 0) (E := exN 0) hown [] ⟨0, 8, 11, 21⟩ [] (htb.trans rfl) (List.forall_mem_nil _) (by decide) (by decide) (hts _ (show Cond.classLink RL 21 "java/lang/IndexOutOfBoundsException" ∈ wsL_anglePart by decide +kernel)) ((X.2.2.1.2.2.2.1 0).use rfl) hce hcv hcl ?_
      refine lv_astore_n (lv' := [(3, .ref q), (0, .ref (gAd G 0)), (1, .int x1), (2, .ref (gAd G 152))]) hx hb dL_anglePart_11 rfl hl (by decide) rfl (fun ls hl => ?_)
      refine lv_iconst (v := (1 : Int32)) hx hb dL_anglePart_12 (by decide) ?_
      exact am_iret X hr hh (fun t ht => am_qw (mk := oI) hF ht) (Nat.le_of_ble_eq_true rfl) (Nat.le_of_ble_eq_true rfl) dL_anglePart_13
    · have hF := am_neg he4 hF
      cases hF
  · subst hz
    have hF := am_zr hF
    obtain ⟨hq5, hF⟩ := am_ifR hF
    refine am_dast X hh 152 (by decide) rfl hq5 dL_anglePart_7 (fun H locs hh => ?_)
    obtain ⟨w6, hw6, hF⟩ := am_wl hF
    have hh := AH_eq hw6 hh
    refine lv_goto (tgt := 14) hx hb dL_anglePart_8 (by decide) ?_
    refine lv_iconst (v := (0 : Int32)) hx hb dL_anglePart_14 (by decide) ?_
    exact am_iret X hr hh (fun t ht => am_qw (mk := oI) hF ht) (Nat.le_of_ble_eq_true rfl) (Nat.le_of_ble_eq_true rfl) dL_anglePart_15
set_option maxHeartbeats 4000000 in
set_option maxRecDepth 100000 in
theorem c_L_tension (l : Launch) (G : GG) (hst : l.stackTraces = false) {w : Wd} {x1 : Int32} {r0 : Int32} {w1 : Wd} (hF : f_L_tension w x1 = some (r0, w1)) : vx_Met l yL_tension wsL_tension ({ frames := 9, cells := 2, slots := 12, locals := 153 } : Room) (va_Pc [.ref (gAd G 0), .int x1, .ref (gAd G 151)] (Rel G w)) (amQ G (oI r0) w1) (fun _ _ _ => False) 2 12 (gA G) := by
  refine am_metW (own := RL) (cc := cL_tension) (maxL := 4) (ret := (some .int)) (by decide +kernel) rfl rfl (Nat.le_of_ble_eq_true rfl) ?_
  intro p e s m args below meth c ab H locs ls X hr htb hh hl
  have hx := X.1.1; have hb := X.1.2.1; have hml := X.1.2.2.1; have hown := X.1.2.2.2.1; have hts := X.1.2.2.2.2
  have hl : lv_has ls 4 [(0, .ref (gAd G 0)), (1, .int x1), (2, .ref (gAd G 151))] := hl
  unfold f_L_tension at hF
  refine lv_aload_n hx hb dL_tension_0 rfl (lv_at hl 2 rfl) ?_
  refine lv_iconst (v := (0 : Int32)) hx hb dL_tension_1 (by decide) ?_
  refine lv_aload_n hx hb dL_tension_2 rfl (lv_at hl 0 rfl) ?_
  refine lv_iload_n hx hb dL_tension_3 rfl (lv_at hl 1 rfl) ?_
  obtain ⟨z3, hk1, hF⟩ := am_bind hF
  refine am_callX X hh (vx_runV (As := [.int x1]) (rest := [.int (0 : Int32), .ref (gAd G 151)]) X.1 (c_X10_tension l G hst hk1) (cwV 1 hts gL_tension_X10_tension rfl rfl rfl (by decide +kernel) ⟨Nat.le_of_ble_eq_true rfl, Nat.le_of_ble_eq_true rfl⟩) (am_preV X hh 0 11 (by decide) rfl rfl) rfl rfl hl.1 rfl (lv_room (Nat.le_of_ble_eq_true rfl)) dL_tension_4 ⟨Nat.le_of_ble_eq_true rfl, Nat.le_of_ble_eq_true rfl⟩) (fun k ab H locs ce q hz hh hce hcv hcl => ?_) (fun r2 ab H locs hz hh => ?_)
  · subst hz
    have hF := am_zl hF
    by_cases he4 : k = 0
    · subst he4
      have hF := am_pos rfl hF
      refine vx_catch (own := RL) (name := exN 0) (E := exN 0) hown [] ⟨0, 9, 12, 21⟩ [⟨0, 9, 15, 31⟩] (htb.trans rfl) (List.forall_mem_nil _) (by decide) (by decide) (hts _ (show Cond.classLink RL 21 "java/lang/IndexOutOfBoundsException" ∈ wsL_tension by decide +kernel)) ((X.2.2.1.2.2.2.1 0).use rfl) hce hcv hcl ?_
      refine lv_astore_n (lv' := [(3, .ref q), (0, .ref (gAd G 0)), (1, .int x1), (2, .ref (gAd G 151))]) hx hb dL_tension_12 rfl hl (by decide) rfl (fun ls hl => ?_)
      refine lv_iconst (v := (1 : Int32)) hx hb dL_tension_13 (by decide) ?_
      exact am_iret X hr hh (fun t ht => am_qw (mk := oI) hF ht) (Nat.le_of_ble_eq_true rfl) (Nat.le_of_ble_eq_true rfl) dL_tension_14
    · have hF := am_neg he4 hF
      by_cases he5 : k = 4
      · subst he5
        have hF := am_pos rfl hF
        refine vx_catch (own := RL) (name := exN 4) (E := exN 4) hown [⟨0, 9, 12, 21⟩] ⟨0, 9, 15, 31⟩ [] (htb.trans rfl) (List.forall_mem_cons.mpr ⟨Or.inr ⟨by decide, exN 0, hts _ (show Cond.classLink RL 21 "java/lang/IndexOutOfBoundsException" ∈ wsL_tension by decide +kernel), X.2.2.1.2.2.2.2.1 4 0 (by decide) (by decide) (by decide)⟩, List.forall_mem_nil _⟩) (by decide) (by decide) (hts _ (show Cond.classLink RL 31 "java/util/NoSuchElementException" ∈ wsL_tension by decide +kernel)) ((X.2.2.1.2.2.2.1 4).use rfl) hce hcv hcl ?_
        refine lv_astore_n (lv' := [(3, .ref q), (0, .ref (gAd G 0)), (1, .int x1), (2, .ref (gAd G 151))]) hx hb dL_tension_15 rfl hl (by decide) rfl (fun ls hl => ?_)
        refine lv_iconst (v := (2 : Int32)) hx hb dL_tension_16 (by decide) ?_
        exact am_iret X hr hh (fun t ht => am_qw (mk := oI) hF ht) (Nat.le_of_ble_eq_true rfl) (Nat.le_of_ble_eq_true rfl) dL_tension_17
      · have hF := am_neg he5 hF
        cases hF
  · subst hz
    have hF := am_zr hF
    refine lv_i2l hx hb dL_tension_7 rfl ?_
    obtain ⟨hq6, hF⟩ := am_ifR hF
    refine am_last X hh 151 (by decide) rfl hq6 dL_tension_8 (fun H locs hh => ?_)
    obtain ⟨w7, hw7, hF⟩ := am_wl hF
    have hh := AH_eq hw7 hh
    refine lv_goto (tgt := 18) hx hb dL_tension_9 (by decide) ?_
    refine lv_iconst (v := (0 : Int32)) hx hb dL_tension_18 (by decide) ?_
    exact am_iret X hr hh (fun t ht => am_qw (mk := oI) hF ht) (Nat.le_of_ble_eq_true rfl) (Nat.le_of_ble_eq_true rfl) dL_tension_19
set_option maxHeartbeats 4000000 in
set_option maxRecDepth 100000 in
theorem c_L_springSize (l : Launch) (G : GG) (hst : l.stackTraces = false) {w : Wd} {x1 : Int32} {r0 : Int32} {w1 : Wd} (hF : f_L_springSize w x1 = some (r0, w1)) : vx_Met l yL_springSize wsL_springSize ({ frames := 9, cells := 2, slots := 12, locals := 153 } : Room) (va_Pc [.ref (gAd G 0), .int x1, .ref (gAd G 151)] (Rel G w)) (amQ G (oI r0) w1) (fun _ _ _ => False) 2 12 (gA G) := by
  refine am_metW (own := RL) (cc := cL_springSize) (maxL := 4) (ret := (some .int)) (by decide +kernel) rfl rfl (Nat.le_of_ble_eq_true rfl) ?_
  intro p e s m args below meth c ab H locs ls X hr htb hh hl
  have hx := X.1.1; have hb := X.1.2.1; have hml := X.1.2.2.1; have hown := X.1.2.2.2.1; have hts := X.1.2.2.2.2
  have hl : lv_has ls 4 [(0, .ref (gAd G 0)), (1, .int x1), (2, .ref (gAd G 151))] := hl
  unfold f_L_springSize at hF
  refine lv_aload_n hx hb dL_springSize_0 rfl (lv_at hl 2 rfl) ?_
  refine lv_iconst (v := (0 : Int32)) hx hb dL_springSize_1 (by decide) ?_
  refine lv_aload_n hx hb dL_springSize_2 rfl (lv_at hl 0 rfl) ?_
  refine lv_iload_n hx hb dL_springSize_3 rfl (lv_at hl 1 rfl) ?_
  obtain ⟨z3, hk1, hF⟩ := am_bind hF
  refine am_callX X hh (vx_runV (As := [.int x1]) (rest := [.int (0 : Int32), .ref (gAd G 151)]) X.1 (c_X10_springSize l G hst hk1) (cwV 1 hts gL_springSize_X10_springSize rfl rfl rfl (by decide +kernel) ⟨Nat.le_of_ble_eq_true rfl, Nat.le_of_ble_eq_true rfl⟩) (am_preV X hh 0 11 (by decide) rfl rfl) rfl rfl hl.1 rfl (lv_room (Nat.le_of_ble_eq_true rfl)) dL_springSize_4 ⟨Nat.le_of_ble_eq_true rfl, Nat.le_of_ble_eq_true rfl⟩) (fun k ab H locs ce q hz hh hce hcv hcl => ?_) (fun r2 ab H locs hz hh => ?_)
  · subst hz
    have hF := am_zl hF
    by_cases he4 : k = 0
    · subst he4
      have hF := am_pos rfl hF
      refine vx_catch (own := RL) (name := exN 0) (E := exN 0) hown [] ⟨0, 9, 12, 21⟩ [⟨0, 9, 15, 31⟩] (htb.trans rfl) (List.forall_mem_nil _) (by decide) (by decide) (hts _ (show Cond.classLink RL 21 "java/lang/IndexOutOfBoundsException" ∈ wsL_springSize by decide +kernel)) ((X.2.2.1.2.2.2.1 0).use rfl) hce hcv hcl ?_
      refine lv_astore_n (lv' := [(3, .ref q), (0, .ref (gAd G 0)), (1, .int x1), (2, .ref (gAd G 151))]) hx hb dL_springSize_12 rfl hl (by decide) rfl (fun ls hl => ?_)
      refine lv_iconst (v := (1 : Int32)) hx hb dL_springSize_13 (by decide) ?_
      exact am_iret X hr hh (fun t ht => am_qw (mk := oI) hF ht) (Nat.le_of_ble_eq_true rfl) (Nat.le_of_ble_eq_true rfl) dL_springSize_14
    · have hF := am_neg he4 hF
      by_cases he5 : k = 4
      · subst he5
        have hF := am_pos rfl hF
        refine vx_catch (own := RL) (name := exN 4) (E := exN 4) hown [⟨0, 9, 12, 21⟩] ⟨0, 9, 15, 31⟩ [] (htb.trans rfl) (List.forall_mem_cons.mpr ⟨Or.inr ⟨by decide, exN 0, hts _ (show Cond.classLink RL 21 "java/lang/IndexOutOfBoundsException" ∈ wsL_springSize by decide +kernel), X.2.2.1.2.2.2.2.1 4 0 (by decide) (by decide) (by decide)⟩, List.forall_mem_nil _⟩) (by decide) (by decide) (hts _ (show Cond.classLink RL 31 "java/util/NoSuchElementException" ∈ wsL_springSize by decide +kernel)) ((X.2.2.1.2.2.2.1 4).use rfl) hce hcv hcl ?_
        refine lv_astore_n (lv' := [(3, .ref q), (0, .ref (gAd G 0)), (1, .int x1), (2, .ref (gAd G 151))]) hx hb dL_springSize_15 rfl hl (by decide) rfl (fun ls hl => ?_)
        refine lv_iconst (v := (2 : Int32)) hx hb dL_springSize_16 (by decide) ?_
        exact am_iret X hr hh (fun t ht => am_qw (mk := oI) hF ht) (Nat.le_of_ble_eq_true rfl) (Nat.le_of_ble_eq_true rfl) dL_springSize_17
      · have hF := am_neg he5 hF
        cases hF
  · subst hz
    have hF := am_zr hF
    refine lv_i2l hx hb dL_springSize_7 rfl ?_
    obtain ⟨hq6, hF⟩ := am_ifR hF
    refine am_last X hh 151 (by decide) rfl hq6 dL_springSize_8 (fun H locs hh => ?_)
    obtain ⟨w7, hw7, hF⟩ := am_wl hF
    have hh := AH_eq hw7 hh
    refine lv_goto (tgt := 18) hx hb dL_springSize_9 (by decide) ?_
    refine lv_iconst (v := (0 : Int32)) hx hb dL_springSize_18 (by decide) ?_
    exact am_iret X hr hh (fun t ht => am_qw (mk := oI) hF ht) (Nat.le_of_ble_eq_true rfl) (Nat.le_of_ble_eq_true rfl) dL_springSize_19
set_option maxHeartbeats 4000000 in
set_option maxRecDepth 100000 in
theorem c_L_springOf (l : Launch) (G : GG) (hst : l.stackTraces = false) {w : Wd} {x1 : Int32} {r0 : Int32} {w1 : Wd} (hF : f_L_springOf w x1 = some (r0, w1)) : vx_Met l yL_springOf wsL_springOf ({ frames := 8, cells := 2, slots := 12, locals := 133 } : Room) (va_Pc [.ref (gAd G 0), .int x1, .ref (gAd G 151)] (Rel G w)) (amQ G (oI r0) w1) (fun _ _ _ => False) 2 12 (gA G) := by
  refine am_metW (own := RL) (cc := cL_springOf) (maxL := 4) (ret := (some .int)) (by decide +kernel) rfl rfl (Nat.le_of_ble_eq_true rfl) ?_
  intro p e s m args below meth c ab H locs ls X hr htb hh hl
  have hx := X.1.1; have hb := X.1.2.1; have hml := X.1.2.2.1; have hown := X.1.2.2.2.1; have hts := X.1.2.2.2.2
  have hl : lv_has ls 4 [(0, .ref (gAd G 0)), (1, .int x1), (2, .ref (gAd G 151))] := hl
  unfold f_L_springOf at hF
  refine lv_aload_n hx hb dL_springOf_0 rfl (lv_at hl 2 rfl) ?_
  refine lv_iconst (v := (0 : Int32)) hx hb dL_springOf_1 (by decide) ?_
  refine lv_aload_n hx hb dL_springOf_2 rfl (lv_at hl 0 rfl) ?_
  refine lv_iload_n hx hb dL_springOf_3 rfl (lv_at hl 1 rfl) ?_
  obtain ⟨⟨z4, w3⟩, hk1, hF⟩ := am_bind hF
  have hF := am_u2 hF
  refine am_callX X hh (vx_runV (As := [.int x1]) (rest := [.int (0 : Int32), .ref (gAd G 151)]) X.1 (c_X10_springOf l G hst hk1) (cwV 1 hts gL_springOf_X10_springOf rfl rfl rfl (by decide +kernel) ⟨Nat.le_of_ble_eq_true rfl, Nat.le_of_ble_eq_true rfl⟩) (am_preV X hh 0 11 (by decide) rfl rfl) rfl rfl hl.1 rfl (lv_room (Nat.le_of_ble_eq_true rfl)) dL_springOf_4 ⟨Nat.le_of_ble_eq_true rfl, Nat.le_of_ble_eq_true rfl⟩) (fun k ab H locs ce q hz hh hce hcv hcl => ?_) (fun r2 ab H locs hz hh => ?_)
  · subst hz
    have hF := am_zl hF
    by_cases he5 : k = 0
    · subst he5
      have hF := am_pos rfl hF
      refine vx_catch (own := RL) (name := exN 0) (E := exN 0) hown [] ⟨0, 9, 12, 21⟩ [⟨0, 9, 15, 31⟩] (htb.trans rfl) (List.forall_mem_nil _) (by decide) (by decide) (hts _ (show Cond.classLink RL 21 "java/lang/IndexOutOfBoundsException" ∈ wsL_springOf by decide +kernel)) ((X.2.2.1.2.2.2.1 0).use rfl) hce hcv hcl ?_
      refine lv_astore_n (lv' := [(3, .ref q), (0, .ref (gAd G 0)), (1, .int x1), (2, .ref (gAd G 151))]) hx hb dL_springOf_12 rfl hl (by decide) rfl (fun ls hl => ?_)
      refine lv_iconst (v := (1 : Int32)) hx hb dL_springOf_13 (by decide) ?_
      exact am_iret X hr hh (fun t ht => am_qw (mk := oI) hF ht) (Nat.le_of_ble_eq_true rfl) (Nat.le_of_ble_eq_true rfl) dL_springOf_14
    · have hF := am_neg he5 hF
      by_cases he6 : k = 4
      · subst he6
        have hF := am_pos rfl hF
        refine vx_catch (own := RL) (name := exN 4) (E := exN 4) hown [⟨0, 9, 12, 21⟩] ⟨0, 9, 15, 31⟩ [] (htb.trans rfl) (List.forall_mem_cons.mpr ⟨Or.inr ⟨by decide, exN 0, hts _ (show Cond.classLink RL 21 "java/lang/IndexOutOfBoundsException" ∈ wsL_springOf by decide +kernel), X.2.2.1.2.2.2.2.1 4 0 (by decide) (by decide) (by decide)⟩, List.forall_mem_nil _⟩) (by decide) (by decide) (hts _ (show Cond.classLink RL 31 "java/util/NoSuchElementException" ∈ wsL_springOf by decide +kernel)) ((X.2.2.1.2.2.2.1 4).use rfl) hce hcv hcl ?_
        refine lv_astore_n (lv' := [(3, .ref q), (0, .ref (gAd G 0)), (1, .int x1), (2, .ref (gAd G 151))]) hx hb dL_springOf_15 rfl hl (by decide) rfl (fun ls hl => ?_)
        refine lv_iconst (v := (2 : Int32)) hx hb dL_springOf_16 (by decide) ?_
        exact am_iret X hr hh (fun t ht => am_qw (mk := oI) hF ht) (Nat.le_of_ble_eq_true rfl) (Nat.le_of_ble_eq_true rfl) dL_springOf_17
      · have hF := am_neg he6 hF
        cases hF
  · subst hz
    have hF := am_zr hF
    refine lv_i2l hx hb dL_springOf_7 rfl ?_
    obtain ⟨hq7, hF⟩ := am_ifR hF
    refine am_last X hh 151 (by decide) rfl hq7 dL_springOf_8 (fun H locs hh => ?_)
    obtain ⟨w8, hw8, hF⟩ := am_wl hF
    have hh := AH_eq hw8 hh
    refine lv_goto (tgt := 18) hx hb dL_springOf_9 (by decide) ?_
    refine lv_iconst (v := (0 : Int32)) hx hb dL_springOf_18 (by decide) ?_
    exact am_iret X hr hh (fun t ht => am_qw (mk := oI) hF ht) (Nat.le_of_ble_eq_true rfl) (Nat.le_of_ble_eq_true rfl) dL_springOf_19
set_option maxHeartbeats 4000000 in
set_option maxRecDepth 100000 in
theorem c_L_friction (l : Launch) (G : GG) (hst : l.stackTraces = false) {w : Wd} {x1 : Int32} {r0 : Int32} {w1 : Wd} (hF : f_L_friction w x1 = some (r0, w1)) : vx_Met l yL_friction wsL_friction ({ frames := 8, cells := 1, slots := 6, locals := 132 } : Room) (va_Pc [.ref (gAd G 0), .int x1, .ref (gAd G 151)] (Rel G w)) (amQ G (oI r0) w1) (fun _ _ _ => False) 1 6 (gA G) := by
  refine am_metW (own := RL) (cc := cL_friction) (maxL := 4) (ret := (some .int)) (by decide +kernel) rfl rfl (Nat.le_of_ble_eq_true rfl) ?_
  intro p e s m args below meth c ab H locs ls X hr htb hh hl
  have hx := X.1.1; have hb := X.1.2.1; have hml := X.1.2.2.1; have hown := X.1.2.2.2.1; have hts := X.1.2.2.2.2
  have hl : lv_has ls 4 [(0, .ref (gAd G 0)), (1, .int x1), (2, .ref (gAd G 151))] := hl
  unfold f_L_friction at hF
  refine lv_aload_n hx hb dL_friction_0 rfl (lv_at hl 2 rfl) ?_
  refine lv_iconst (v := (0 : Int32)) hx hb dL_friction_1 (by decide) ?_
  refine lv_aload_n hx hb dL_friction_2 rfl (lv_at hl 0 rfl) ?_
  refine lv_iload_n hx hb dL_friction_3 rfl (lv_at hl 1 rfl) ?_
  obtain ⟨⟨z4, w3⟩, hk1, hF⟩ := am_bind hF
  have hF := am_u2 hF
  refine am_callX X hh (vx_runV (As := [.int x1]) (rest := [.int (0 : Int32), .ref (gAd G 151)]) X.1 (c_X10_friction l G hst hk1) (cwV 1 hts gL_friction_X10_friction rfl rfl rfl (by decide +kernel) ⟨Nat.le_of_ble_eq_true rfl, Nat.le_of_ble_eq_true rfl⟩) (am_preV X hh 0 11 (by decide) rfl rfl) rfl rfl hl.1 rfl (lv_room (Nat.le_of_ble_eq_true rfl)) dL_friction_4 ⟨Nat.le_of_ble_eq_true rfl, Nat.le_of_ble_eq_true rfl⟩) (fun k ab H locs ce q hz hh hce hcv hcl => ?_) (fun r2 ab H locs hz hh => ?_)
  · subst hz
    have hF := am_zl hF
    by_cases he5 : k = 0
    · subst he5
      have hF := am_pos rfl hF
      refine vx_catch (own := RL) (name := exN 0) (E := exN 0) hown [] ⟨0, 9, 12, 21⟩ [] (htb.trans rfl) (List.forall_mem_nil _) (by decide) (by decide) (hts _ (show Cond.classLink RL 21 "java/lang/IndexOutOfBoundsException" ∈ wsL_friction by decide +kernel)) ((X.2.2.1.2.2.2.1 0).use rfl) hce hcv hcl ?_
      refine lv_astore_n (lv' := [(3, .ref q), (0, .ref (gAd G 0)), (1, .int x1), (2, .ref (gAd G 151))]) hx hb dL_friction_12 rfl hl (by decide) rfl (fun ls hl => ?_)
      refine lv_iconst (v := (1 : Int32)) hx hb dL_friction_13 (by decide) ?_
      exact am_iret X hr hh (fun t ht => am_qw (mk := oI) hF ht) (Nat.le_of_ble_eq_true rfl) (Nat.le_of_ble_eq_true rfl) dL_friction_14
    · have hF := am_neg he5 hF
      cases hF
  · subst hz
    have hF := am_zr hF
    refine lv_i2l hx hb dL_friction_7 rfl ?_
    obtain ⟨hq6, hF⟩ := am_ifR hF
    refine am_last X hh 151 (by decide) rfl hq6 dL_friction_8 (fun H locs hh => ?_)
    obtain ⟨w7, hw7, hF⟩ := am_wl hF
    have hh := AH_eq hw7 hh
    refine lv_goto (tgt := 15) hx hb dL_friction_9 (by decide) ?_
    refine lv_iconst (v := (0 : Int32)) hx hb dL_friction_15 (by decide) ?_
    exact am_iret X hr hh (fun t ht => am_qw (mk := oI) hF ht) (Nat.le_of_ble_eq_true rfl) (Nat.le_of_ble_eq_true rfl) dL_friction_16
set_option maxHeartbeats 4000000 in
set_option maxRecDepth 100000 in
theorem c_L_turnsLeft (l : Launch) (G : GG) (hst : l.stackTraces = false) {w : Wd} {x1 : Int32} {r0 : Int32} {w1 : Wd} (hF : f_L_turnsLeft w x1 = some (r0, w1)) : vx_Met l yL_turnsLeft wsL_turnsLeft ({ frames := 9, cells := 2, slots := 12, locals := 153 } : Room) (va_Pc [.ref (gAd G 0), .int x1, .ref (gAd G 151)] (Rel G w)) (amQ G (oI r0) w1) (fun _ _ _ => False) 2 12 (gA G) := by
  refine am_metW (own := RL) (cc := cL_turnsLeft) (maxL := 4) (ret := (some .int)) (by decide +kernel) rfl rfl (Nat.le_of_ble_eq_true rfl) ?_
  intro p e s m args below meth c ab H locs ls X hr htb hh hl
  have hx := X.1.1; have hb := X.1.2.1; have hml := X.1.2.2.1; have hown := X.1.2.2.2.1; have hts := X.1.2.2.2.2
  have hl : lv_has ls 4 [(0, .ref (gAd G 0)), (1, .int x1), (2, .ref (gAd G 151))] := hl
  unfold f_L_turnsLeft at hF
  refine lv_aload_n hx hb dL_turnsLeft_0 rfl (lv_at hl 2 rfl) ?_
  refine lv_iconst (v := (0 : Int32)) hx hb dL_turnsLeft_1 (by decide) ?_
  refine lv_aload_n hx hb dL_turnsLeft_2 rfl (lv_at hl 0 rfl) ?_
  refine lv_iload_n hx hb dL_turnsLeft_3 rfl (lv_at hl 1 rfl) ?_
  obtain ⟨⟨z4, w3⟩, hk1, hF⟩ := am_bind hF
  have hF := am_u2 hF
  refine am_callX X hh (vx_runV (As := [.int x1]) (rest := [.int (0 : Int32), .ref (gAd G 151)]) X.1 (c_X10_turnsLeft l G hst hk1) (cwV 1 hts gL_turnsLeft_X10_turnsLeft rfl rfl rfl (by decide +kernel) ⟨Nat.le_of_ble_eq_true rfl, Nat.le_of_ble_eq_true rfl⟩) (am_preV X hh 0 11 (by decide) rfl rfl) rfl rfl hl.1 rfl (lv_room (Nat.le_of_ble_eq_true rfl)) dL_turnsLeft_4 ⟨Nat.le_of_ble_eq_true rfl, Nat.le_of_ble_eq_true rfl⟩) (fun k ab H locs ce q hz hh hce hcv hcl => ?_) (fun r2 ab H locs hz hh => ?_)
  · subst hz
    have hF := am_zl hF
    by_cases he5 : k = 0
    · subst he5
      have hF := am_pos rfl hF
      refine vx_catch (own := RL) (name := exN 0) (E := exN 0) hown [] ⟨0, 9, 12, 21⟩ [⟨0, 9, 15, 31⟩] (htb.trans rfl) (List.forall_mem_nil _) (by decide) (by decide) (hts _ (show Cond.classLink RL 21 "java/lang/IndexOutOfBoundsException" ∈ wsL_turnsLeft by decide +kernel)) ((X.2.2.1.2.2.2.1 0).use rfl) hce hcv hcl ?_
      refine lv_astore_n (lv' := [(3, .ref q), (0, .ref (gAd G 0)), (1, .int x1), (2, .ref (gAd G 151))]) hx hb dL_turnsLeft_12 rfl hl (by decide) rfl (fun ls hl => ?_)
      refine lv_iconst (v := (1 : Int32)) hx hb dL_turnsLeft_13 (by decide) ?_
      exact am_iret X hr hh (fun t ht => am_qw (mk := oI) hF ht) (Nat.le_of_ble_eq_true rfl) (Nat.le_of_ble_eq_true rfl) dL_turnsLeft_14
    · have hF := am_neg he5 hF
      by_cases he6 : k = 4
      · subst he6
        have hF := am_pos rfl hF
        refine vx_catch (own := RL) (name := exN 4) (E := exN 4) hown [⟨0, 9, 12, 21⟩] ⟨0, 9, 15, 31⟩ [] (htb.trans rfl) (List.forall_mem_cons.mpr ⟨Or.inr ⟨by decide, exN 0, hts _ (show Cond.classLink RL 21 "java/lang/IndexOutOfBoundsException" ∈ wsL_turnsLeft by decide +kernel), X.2.2.1.2.2.2.2.1 4 0 (by decide) (by decide) (by decide)⟩, List.forall_mem_nil _⟩) (by decide) (by decide) (hts _ (show Cond.classLink RL 31 "java/util/NoSuchElementException" ∈ wsL_turnsLeft by decide +kernel)) ((X.2.2.1.2.2.2.1 4).use rfl) hce hcv hcl ?_
        refine lv_astore_n (lv' := [(3, .ref q), (0, .ref (gAd G 0)), (1, .int x1), (2, .ref (gAd G 151))]) hx hb dL_turnsLeft_15 rfl hl (by decide) rfl (fun ls hl => ?_)
        refine lv_iconst (v := (2 : Int32)) hx hb dL_turnsLeft_16 (by decide) ?_
        exact am_iret X hr hh (fun t ht => am_qw (mk := oI) hF ht) (Nat.le_of_ble_eq_true rfl) (Nat.le_of_ble_eq_true rfl) dL_turnsLeft_17
      · have hF := am_neg he6 hF
        cases hF
  · subst hz
    have hF := am_zr hF
    refine lv_i2l hx hb dL_turnsLeft_7 rfl ?_
    obtain ⟨hq7, hF⟩ := am_ifR hF
    refine am_last X hh 151 (by decide) rfl hq7 dL_turnsLeft_8 (fun H locs hh => ?_)
    obtain ⟨w8, hw8, hF⟩ := am_wl hF
    have hh := AH_eq hw8 hh
    refine lv_goto (tgt := 18) hx hb dL_turnsLeft_9 (by decide) ?_
    refine lv_iconst (v := (0 : Int32)) hx hb dL_turnsLeft_18 (by decide) ?_
    exact am_iret X hr hh (fun t ht => am_qw (mk := oI) hF ht) (Nat.le_of_ble_eq_true rfl) (Nat.le_of_ble_eq_true rfl) dL_turnsLeft_19
set_option maxHeartbeats 4000000 in
set_option maxRecDepth 100000 in
theorem c_L_canRelease (l : Launch) (G : GG) (hst : l.stackTraces = false) {w : Wd} {x1 : Int32} {r0 : Int32} {w1 : Wd} (hF : f_L_canRelease w x1 = some (r0, w1)) : vx_Met l yL_canRelease wsL_canRelease ({ frames := 8, cells := 1, slots := 6, locals := 132 } : Room) (va_Pc [.ref (gAd G 0), .int x1, .ref (gAd G 151)] (Rel G w)) (amQ G (oI r0) w1) (fun _ _ _ => False) 1 6 (gA G) := by
  refine am_metW (own := RL) (cc := cL_canRelease) (maxL := 4) (ret := (some .int)) (by decide +kernel) rfl rfl (Nat.le_of_ble_eq_true rfl) ?_
  intro p e s m args below meth c ab H locs ls X hr htb hh hl
  have hx := X.1.1; have hb := X.1.2.1; have hml := X.1.2.2.1; have hown := X.1.2.2.2.1; have hts := X.1.2.2.2.2
  have hl : lv_has ls 4 [(0, .ref (gAd G 0)), (1, .int x1), (2, .ref (gAd G 151))] := hl
  unfold f_L_canRelease at hF
  refine lv_aload_n hx hb dL_canRelease_0 rfl (lv_at hl 2 rfl) ?_
  refine lv_iconst (v := (0 : Int32)) hx hb dL_canRelease_1 (by decide) ?_
  refine lv_aload_n hx hb dL_canRelease_2 rfl (lv_at hl 0 rfl) ?_
  refine lv_iload_n hx hb dL_canRelease_3 rfl (lv_at hl 1 rfl) ?_
  obtain ⟨⟨z4, w3⟩, hk1, hF⟩ := am_bind hF
  have hF := am_u2 hF
  refine am_callX X hh (vx_runV (As := [.int x1]) (rest := [.int (0 : Int32), .ref (gAd G 151)]) X.1 (c_X10_canRelease l G hst hk1) (cwV 1 hts gL_canRelease_X10_canRelease rfl rfl rfl (by decide +kernel) ⟨Nat.le_of_ble_eq_true rfl, Nat.le_of_ble_eq_true rfl⟩) (am_preV X hh 0 11 (by decide) rfl rfl) rfl rfl hl.1 rfl (lv_room (Nat.le_of_ble_eq_true rfl)) dL_canRelease_4 ⟨Nat.le_of_ble_eq_true rfl, Nat.le_of_ble_eq_true rfl⟩) (fun k ab H locs ce q hz hh hce hcv hcl => ?_) (fun r2 ab H locs hz hh => ?_)
  · subst hz
    have hF := am_zl hF
    by_cases he5 : k = 0
    · subst he5
      have hF := am_pos rfl hF
      refine vx_catch (own := RL) (name := exN 0) (E := exN 0) hown [] ⟨0, 16, 19, 21⟩ [] (htb.trans rfl) (List.forall_mem_nil _) (by decide) (by decide) (hts _ (show Cond.classLink RL 21 "java/lang/IndexOutOfBoundsException" ∈ wsL_canRelease by decide +kernel)) ((X.2.2.1.2.2.2.1 0).use rfl) hce hcv hcl ?_
      refine lv_astore_n (lv' := [(3, .ref q), (0, .ref (gAd G 0)), (1, .int x1), (2, .ref (gAd G 151))]) hx hb dL_canRelease_19 rfl hl (by decide) rfl (fun ls hl => ?_)
      refine lv_iconst (v := (1 : Int32)) hx hb dL_canRelease_20 (by decide) ?_
      exact am_iret X hr hh (fun t ht => am_qw (mk := oI) hF ht) (Nat.le_of_ble_eq_true rfl) (Nat.le_of_ble_eq_true rfl) dL_canRelease_21
    · have hF := am_neg he5 hF
      cases hF
  · subst hz
    have hF := am_zr hF
    refine lv_if_eq (tgt := 14) hx hb dL_canRelease_7 (by decide) (fun hc6 => ?_) (fun hc6 => ?_)
    · have hF := am_pos hc6 hF
      refine lv_lconst (v := (0 : Int64)) hx hb dL_canRelease_14 (by decide) ?_
      obtain ⟨hq7, hF⟩ := am_ifR hF
      refine am_last X hh 151 (by decide) rfl hq7 dL_canRelease_15 (fun H locs hh => ?_)
      obtain ⟨w8, hw8, hF⟩ := am_wl hF
      have hh := AH_eq hw8 hh
      refine lv_goto (tgt := 22) hx hb dL_canRelease_16 (by decide) ?_
      refine lv_iconst (v := (0 : Int32)) hx hb dL_canRelease_22 (by decide) ?_
      exact am_iret X hr hh (fun t ht => am_qw (mk := oI) hF ht) (Nat.le_of_ble_eq_true rfl) (Nat.le_of_ble_eq_true rfl) dL_canRelease_23
    · have hF := am_neg hc6 hF
      refine lv_lconst (v := (1 : Int64)) hx hb dL_canRelease_10 (by decide) ?_
      refine lv_goto (tgt := 15) hx hb dL_canRelease_11 (by decide) ?_
      obtain ⟨hq9, hF⟩ := am_ifR hF
      refine am_last X hh 151 (by decide) rfl hq9 dL_canRelease_15 (fun H locs hh => ?_)
      obtain ⟨w10, hw10, hF⟩ := am_wl hF
      have hh := AH_eq hw10 hh
      refine lv_goto (tgt := 22) hx hb dL_canRelease_16 (by decide) ?_
      refine lv_iconst (v := (0 : Int32)) hx hb dL_canRelease_22 (by decide) ?_
      exact am_iret X hr hh (fun t ht => am_qw (mk := oI) hF ht) (Nat.le_of_ble_eq_true rfl) (Nat.le_of_ble_eq_true rfl) dL_canRelease_23
set_option maxHeartbeats 4000000 in
set_option maxRecDepth 100000 in
theorem c_L_hasRatchet (l : Launch) (G : GG) (hst : l.stackTraces = false) {w : Wd} {x1 : Int32} {r0 : Int32} {w1 : Wd} (hF : f_L_hasRatchet w x1 = some (r0, w1)) : vx_Met l yL_hasRatchet wsL_hasRatchet ({ frames := 8, cells := 1, slots := 6, locals := 132 } : Room) (va_Pc [.ref (gAd G 0), .int x1, .ref (gAd G 151)] (Rel G w)) (amQ G (oI r0) w1) (fun _ _ _ => False) 1 6 (gA G) := by
  refine am_metW (own := RL) (cc := cL_hasRatchet) (maxL := 4) (ret := (some .int)) (by decide +kernel) rfl rfl (Nat.le_of_ble_eq_true rfl) ?_
  intro p e s m args below meth c ab H locs ls X hr htb hh hl
  have hx := X.1.1; have hb := X.1.2.1; have hml := X.1.2.2.1; have hown := X.1.2.2.2.1; have hts := X.1.2.2.2.2
  have hl : lv_has ls 4 [(0, .ref (gAd G 0)), (1, .int x1), (2, .ref (gAd G 151))] := hl
  unfold f_L_hasRatchet at hF
  refine lv_aload_n hx hb dL_hasRatchet_0 rfl (lv_at hl 2 rfl) ?_
  refine lv_iconst (v := (0 : Int32)) hx hb dL_hasRatchet_1 (by decide) ?_
  refine lv_aload_n hx hb dL_hasRatchet_2 rfl (lv_at hl 0 rfl) ?_
  refine lv_iload_n hx hb dL_hasRatchet_3 rfl (lv_at hl 1 rfl) ?_
  obtain ⟨z3, hk1, hF⟩ := am_bind hF
  refine am_callX X hh (vx_runV (As := [.int x1]) (rest := [.int (0 : Int32), .ref (gAd G 151)]) X.1 (c_X10_hasRatchet l G hst hk1) (cwV 1 hts gL_hasRatchet_X10_hasRatchet rfl rfl rfl (by decide +kernel) ⟨Nat.le_of_ble_eq_true rfl, Nat.le_of_ble_eq_true rfl⟩) (am_preV X hh 0 11 (by decide) rfl rfl) rfl rfl hl.1 rfl (lv_room (Nat.le_of_ble_eq_true rfl)) dL_hasRatchet_4 ⟨Nat.le_of_ble_eq_true rfl, Nat.le_of_ble_eq_true rfl⟩) (fun k ab H locs ce q hz hh hce hcv hcl => ?_) (fun r2 ab H locs hz hh => ?_)
  · subst hz
    have hF := am_zl hF
    by_cases he4 : k = 0
    · subst he4
      have hF := am_pos rfl hF
      refine vx_catch (own := RL) (name := exN 0) (E := exN 0) hown [] ⟨0, 16, 19, 21⟩ [] (htb.trans rfl) (List.forall_mem_nil _) (by decide) (by decide) (hts _ (show Cond.classLink RL 21 "java/lang/IndexOutOfBoundsException" ∈ wsL_hasRatchet by decide +kernel)) ((X.2.2.1.2.2.2.1 0).use rfl) hce hcv hcl ?_
      refine lv_astore_n (lv' := [(3, .ref q), (0, .ref (gAd G 0)), (1, .int x1), (2, .ref (gAd G 151))]) hx hb dL_hasRatchet_19 rfl hl (by decide) rfl (fun ls hl => ?_)
      refine lv_iconst (v := (1 : Int32)) hx hb dL_hasRatchet_20 (by decide) ?_
      exact am_iret X hr hh (fun t ht => am_qw (mk := oI) hF ht) (Nat.le_of_ble_eq_true rfl) (Nat.le_of_ble_eq_true rfl) dL_hasRatchet_21
    · have hF := am_neg he4 hF
      cases hF
  · subst hz
    have hF := am_zr hF
    refine lv_if_eq (tgt := 14) hx hb dL_hasRatchet_7 (by decide) (fun hc5 => ?_) (fun hc5 => ?_)
    · have hF := am_pos hc5 hF
      refine lv_lconst (v := (0 : Int64)) hx hb dL_hasRatchet_14 (by decide) ?_
      obtain ⟨hq6, hF⟩ := am_ifR hF
      refine am_last X hh 151 (by decide) rfl hq6 dL_hasRatchet_15 (fun H locs hh => ?_)
      obtain ⟨w7, hw7, hF⟩ := am_wl hF
      have hh := AH_eq hw7 hh
      refine lv_goto (tgt := 22) hx hb dL_hasRatchet_16 (by decide) ?_
      refine lv_iconst (v := (0 : Int32)) hx hb dL_hasRatchet_22 (by decide) ?_
      exact am_iret X hr hh (fun t ht => am_qw (mk := oI) hF ht) (Nat.le_of_ble_eq_true rfl) (Nat.le_of_ble_eq_true rfl) dL_hasRatchet_23
    · have hF := am_neg hc5 hF
      refine lv_lconst (v := (1 : Int64)) hx hb dL_hasRatchet_10 (by decide) ?_
      refine lv_goto (tgt := 15) hx hb dL_hasRatchet_11 (by decide) ?_
      obtain ⟨hq8, hF⟩ := am_ifR hF
      refine am_last X hh 151 (by decide) rfl hq8 dL_hasRatchet_15 (fun H locs hh => ?_)
      obtain ⟨w9, hw9, hF⟩ := am_wl hF
      have hh := AH_eq hw9 hh
      refine lv_goto (tgt := 22) hx hb dL_hasRatchet_16 (by decide) ?_
      refine lv_iconst (v := (0 : Int32)) hx hb dL_hasRatchet_22 (by decide) ?_
      exact am_iret X hr hh (fun t ht => am_qw (mk := oI) hF ht) (Nat.le_of_ble_eq_true rfl) (Nat.le_of_ble_eq_true rfl) dL_hasRatchet_23
set_option maxHeartbeats 4000000 in
set_option maxRecDepth 100000 in
theorem c_L_isDry (l : Launch) (G : GG) (hst : l.stackTraces = false) {w : Wd} {x1 : Int32} {r0 : Int32} {w1 : Wd} (hF : f_L_isDry w x1 = some (r0, w1)) : vx_Met l yL_isDry wsL_isDry ({ frames := 8, cells := 1, slots := 6, locals := 132 } : Room) (va_Pc [.ref (gAd G 0), .int x1, .ref (gAd G 151)] (Rel G w)) (amQ G (oI r0) w1) (fun _ _ _ => False) 1 6 (gA G) := by
  refine am_metW (own := RL) (cc := cL_isDry) (maxL := 4) (ret := (some .int)) (by decide +kernel) rfl rfl (Nat.le_of_ble_eq_true rfl) ?_
  intro p e s m args below meth c ab H locs ls X hr htb hh hl
  have hx := X.1.1; have hb := X.1.2.1; have hml := X.1.2.2.1; have hown := X.1.2.2.2.1; have hts := X.1.2.2.2.2
  have hl : lv_has ls 4 [(0, .ref (gAd G 0)), (1, .int x1), (2, .ref (gAd G 151))] := hl
  unfold f_L_isDry at hF
  refine lv_aload_n hx hb dL_isDry_0 rfl (lv_at hl 2 rfl) ?_
  refine lv_iconst (v := (0 : Int32)) hx hb dL_isDry_1 (by decide) ?_
  refine lv_aload_n hx hb dL_isDry_2 rfl (lv_at hl 0 rfl) ?_
  refine lv_iload_n hx hb dL_isDry_3 rfl (lv_at hl 1 rfl) ?_
  obtain ⟨z3, hk1, hF⟩ := am_bind hF
  refine am_callX X hh (vx_runV (As := [.int x1]) (rest := [.int (0 : Int32), .ref (gAd G 151)]) X.1 (c_X10_isDry l G hst hk1) (cwV 1 hts gL_isDry_X10_isDry rfl rfl rfl (by decide +kernel) ⟨Nat.le_of_ble_eq_true rfl, Nat.le_of_ble_eq_true rfl⟩) (am_preV X hh 0 11 (by decide) rfl rfl) rfl rfl hl.1 rfl (lv_room (Nat.le_of_ble_eq_true rfl)) dL_isDry_4 ⟨Nat.le_of_ble_eq_true rfl, Nat.le_of_ble_eq_true rfl⟩) (fun k ab H locs ce q hz hh hce hcv hcl => ?_) (fun r2 ab H locs hz hh => ?_)
  · subst hz
    have hF := am_zl hF
    by_cases he4 : k = 0
    · subst he4
      have hF := am_pos rfl hF
      refine vx_catch (own := RL) (name := exN 0) (E := exN 0) hown [] ⟨0, 16, 19, 21⟩ [] (htb.trans rfl) (List.forall_mem_nil _) (by decide) (by decide) (hts _ (show Cond.classLink RL 21 "java/lang/IndexOutOfBoundsException" ∈ wsL_isDry by decide +kernel)) ((X.2.2.1.2.2.2.1 0).use rfl) hce hcv hcl ?_
      refine lv_astore_n (lv' := [(3, .ref q), (0, .ref (gAd G 0)), (1, .int x1), (2, .ref (gAd G 151))]) hx hb dL_isDry_19 rfl hl (by decide) rfl (fun ls hl => ?_)
      refine lv_iconst (v := (1 : Int32)) hx hb dL_isDry_20 (by decide) ?_
      exact am_iret X hr hh (fun t ht => am_qw (mk := oI) hF ht) (Nat.le_of_ble_eq_true rfl) (Nat.le_of_ble_eq_true rfl) dL_isDry_21
    · have hF := am_neg he4 hF
      cases hF
  · subst hz
    have hF := am_zr hF
    refine lv_if_eq (tgt := 14) hx hb dL_isDry_7 (by decide) (fun hc5 => ?_) (fun hc5 => ?_)
    · have hF := am_pos hc5 hF
      refine lv_lconst (v := (0 : Int64)) hx hb dL_isDry_14 (by decide) ?_
      obtain ⟨hq6, hF⟩ := am_ifR hF
      refine am_last X hh 151 (by decide) rfl hq6 dL_isDry_15 (fun H locs hh => ?_)
      obtain ⟨w7, hw7, hF⟩ := am_wl hF
      have hh := AH_eq hw7 hh
      refine lv_goto (tgt := 22) hx hb dL_isDry_16 (by decide) ?_
      refine lv_iconst (v := (0 : Int32)) hx hb dL_isDry_22 (by decide) ?_
      exact am_iret X hr hh (fun t ht => am_qw (mk := oI) hF ht) (Nat.le_of_ble_eq_true rfl) (Nat.le_of_ble_eq_true rfl) dL_isDry_23
    · have hF := am_neg hc5 hF
      refine lv_lconst (v := (1 : Int64)) hx hb dL_isDry_10 (by decide) ?_
      refine lv_goto (tgt := 15) hx hb dL_isDry_11 (by decide) ?_
      obtain ⟨hq8, hF⟩ := am_ifR hF
      refine am_last X hh 151 (by decide) rfl hq8 dL_isDry_15 (fun H locs hh => ?_)
      obtain ⟨w9, hw9, hF⟩ := am_wl hF
      have hh := AH_eq hw9 hh
      refine lv_goto (tgt := 22) hx hb dL_isDry_16 (by decide) ?_
      refine lv_iconst (v := (0 : Int32)) hx hb dL_isDry_22 (by decide) ?_
      exact am_iret X hr hh (fun t ht => am_qw (mk := oI) hF ht) (Nat.le_of_ble_eq_true rfl) (Nat.le_of_ble_eq_true rfl) dL_isDry_23
set_option maxHeartbeats 4000000 in
set_option maxRecDepth 100000 in
theorem c_L_wear (l : Launch) (G : GG) (hst : l.stackTraces = false) {w : Wd} {x1 : Int32} {r0 : Int32} {w1 : Wd} (hF : f_L_wear w x1 = some (r0, w1)) : vx_Met l yL_wear wsL_wear ({ frames := 8, cells := 2, slots := 12, locals := 132 } : Room) (va_Pc [.ref (gAd G 0), .int x1, .ref (gAd G 151)] (Rel G w)) (amQ G (oI r0) w1) (fun _ _ _ => False) 2 12 (gA G) := by
  refine am_metW (own := RL) (cc := cL_wear) (maxL := 4) (ret := (some .int)) (by decide +kernel) rfl rfl (Nat.le_of_ble_eq_true rfl) ?_
  intro p e s m args below meth c ab H locs ls X hr htb hh hl
  have hx := X.1.1; have hb := X.1.2.1; have hml := X.1.2.2.1; have hown := X.1.2.2.2.1; have hts := X.1.2.2.2.2
  have hl : lv_has ls 4 [(0, .ref (gAd G 0)), (1, .int x1), (2, .ref (gAd G 151))] := hl
  unfold f_L_wear at hF
  refine lv_aload_n hx hb dL_wear_0 rfl (lv_at hl 2 rfl) ?_
  refine lv_iconst (v := (0 : Int32)) hx hb dL_wear_1 (by decide) ?_
  refine lv_aload_n hx hb dL_wear_2 rfl (lv_at hl 0 rfl) ?_
  refine lv_iload_n hx hb dL_wear_3 rfl (lv_at hl 1 rfl) ?_
  obtain ⟨z3, hk1, hF⟩ := am_bind hF
  refine am_callX X hh (vx_runV (As := [.int x1]) (rest := [.int (0 : Int32), .ref (gAd G 151)]) X.1 (c_X10_wear l G hst hk1) (cwV 1 hts gL_wear_X10_wear rfl rfl rfl (by decide +kernel) ⟨Nat.le_of_ble_eq_true rfl, Nat.le_of_ble_eq_true rfl⟩) (am_preV X hh 0 11 (by decide) rfl rfl) rfl rfl hl.1 rfl (lv_room (Nat.le_of_ble_eq_true rfl)) dL_wear_4 ⟨Nat.le_of_ble_eq_true rfl, Nat.le_of_ble_eq_true rfl⟩) (fun k ab H locs ce q hz hh hce hcv hcl => ?_) (fun r2 ab H locs hz hh => ?_)
  · subst hz
    have hF := am_zl hF
    by_cases he4 : k = 0
    · subst he4
      have hF := am_pos rfl hF
      refine vx_catch (own := RL) (name := exN 0) (E := exN 0) hown [] ⟨0, 9, 12, 21⟩ [⟨0, 9, 15, 31⟩] (htb.trans rfl) (List.forall_mem_nil _) (by decide) (by decide) (hts _ (show Cond.classLink RL 21 "java/lang/IndexOutOfBoundsException" ∈ wsL_wear by decide +kernel)) ((X.2.2.1.2.2.2.1 0).use rfl) hce hcv hcl ?_
      refine lv_astore_n (lv' := [(3, .ref q), (0, .ref (gAd G 0)), (1, .int x1), (2, .ref (gAd G 151))]) hx hb dL_wear_12 rfl hl (by decide) rfl (fun ls hl => ?_)
      refine lv_iconst (v := (1 : Int32)) hx hb dL_wear_13 (by decide) ?_
      exact am_iret X hr hh (fun t ht => am_qw (mk := oI) hF ht) (Nat.le_of_ble_eq_true rfl) (Nat.le_of_ble_eq_true rfl) dL_wear_14
    · have hF := am_neg he4 hF
      by_cases he5 : k = 4
      · subst he5
        have hF := am_pos rfl hF
        refine vx_catch (own := RL) (name := exN 4) (E := exN 4) hown [⟨0, 9, 12, 21⟩] ⟨0, 9, 15, 31⟩ [] (htb.trans rfl) (List.forall_mem_cons.mpr ⟨Or.inr ⟨by decide, exN 0, hts _ (show Cond.classLink RL 21 "java/lang/IndexOutOfBoundsException" ∈ wsL_wear by decide +kernel), X.2.2.1.2.2.2.2.1 4 0 (by decide) (by decide) (by decide)⟩, List.forall_mem_nil _⟩) (by decide) (by decide) (hts _ (show Cond.classLink RL 31 "java/util/NoSuchElementException" ∈ wsL_wear by decide +kernel)) ((X.2.2.1.2.2.2.1 4).use rfl) hce hcv hcl ?_
        refine lv_astore_n (lv' := [(3, .ref q), (0, .ref (gAd G 0)), (1, .int x1), (2, .ref (gAd G 151))]) hx hb dL_wear_15 rfl hl (by decide) rfl (fun ls hl => ?_)
        refine lv_iconst (v := (2 : Int32)) hx hb dL_wear_16 (by decide) ?_
        exact am_iret X hr hh (fun t ht => am_qw (mk := oI) hF ht) (Nat.le_of_ble_eq_true rfl) (Nat.le_of_ble_eq_true rfl) dL_wear_17
      · have hF := am_neg he5 hF
        cases hF
  · subst hz
    have hF := am_zr hF
    refine lv_i2l hx hb dL_wear_7 rfl ?_
    obtain ⟨hq6, hF⟩ := am_ifR hF
    refine am_last X hh 151 (by decide) rfl hq6 dL_wear_8 (fun H locs hh => ?_)
    obtain ⟨w7, hw7, hF⟩ := am_wl hF
    have hh := AH_eq hw7 hh
    refine lv_goto (tgt := 18) hx hb dL_wear_9 (by decide) ?_
    refine lv_iconst (v := (0 : Int32)) hx hb dL_wear_18 (by decide) ?_
    exact am_iret X hr hh (fun t ht => am_qw (mk := oI) hF ht) (Nat.le_of_ble_eq_true rfl) (Nat.le_of_ble_eq_true rfl) dL_wear_19
set_option maxHeartbeats 4000000 in
set_option maxRecDepth 100000 in
theorem c_L_gearOf (l : Launch) (G : GG) (hst : l.stackTraces = false) {w : Wd} {x1 : Int32} {r0 : Int32} {w1 : Wd} (hF : f_L_gearOf w x1 = some (r0, w1)) : vx_Met l yL_gearOf wsL_gearOf ({ frames := 8, cells := 1, slots := 6, locals := 132 } : Room) (va_Pc [.ref (gAd G 0), .int x1, .ref (gAd G 151)] (Rel G w)) (amQ G (oI r0) w1) (fun _ _ _ => False) 1 6 (gA G) := by
  refine am_metW (own := RL) (cc := cL_gearOf) (maxL := 4) (ret := (some .int)) (by decide +kernel) rfl rfl (Nat.le_of_ble_eq_true rfl) ?_
  intro p e s m args below meth c ab H locs ls X hr htb hh hl
  have hx := X.1.1; have hb := X.1.2.1; have hml := X.1.2.2.1; have hown := X.1.2.2.2.1; have hts := X.1.2.2.2.2
  have hl : lv_has ls 4 [(0, .ref (gAd G 0)), (1, .int x1), (2, .ref (gAd G 151))] := hl
  unfold f_L_gearOf at hF
  refine lv_aload_n hx hb dL_gearOf_0 rfl (lv_at hl 2 rfl) ?_
  refine lv_iconst (v := (0 : Int32)) hx hb dL_gearOf_1 (by decide) ?_
  refine lv_aload_n hx hb dL_gearOf_2 rfl (lv_at hl 0 rfl) ?_
  refine lv_iload_n hx hb dL_gearOf_3 rfl (lv_at hl 1 rfl) ?_
  obtain ⟨z3, hk1, hF⟩ := am_bind hF
  refine am_callX X hh (vx_runV (As := [.int x1]) (rest := [.int (0 : Int32), .ref (gAd G 151)]) X.1 (c_X10_gearOf l G hst hk1) (cwV 1 hts gL_gearOf_X10_gearOf rfl rfl rfl (by decide +kernel) ⟨Nat.le_of_ble_eq_true rfl, Nat.le_of_ble_eq_true rfl⟩) (am_preV X hh 0 11 (by decide) rfl rfl) rfl rfl hl.1 rfl (lv_room (Nat.le_of_ble_eq_true rfl)) dL_gearOf_4 ⟨Nat.le_of_ble_eq_true rfl, Nat.le_of_ble_eq_true rfl⟩) (fun k ab H locs ce q hz hh hce hcv hcl => ?_) (fun r2 ab H locs hz hh => ?_)
  · subst hz
    have hF := am_zl hF
    by_cases he4 : k = 0
    · subst he4
      have hF := am_pos rfl hF
      refine vx_catch (own := RL) (name := exN 0) (E := exN 0) hown [] ⟨0, 9, 12, 21⟩ [] (htb.trans rfl) (List.forall_mem_nil _) (by decide) (by decide) (hts _ (show Cond.classLink RL 21 "java/lang/IndexOutOfBoundsException" ∈ wsL_gearOf by decide +kernel)) ((X.2.2.1.2.2.2.1 0).use rfl) hce hcv hcl ?_
      refine lv_astore_n (lv' := [(3, .ref q), (0, .ref (gAd G 0)), (1, .int x1), (2, .ref (gAd G 151))]) hx hb dL_gearOf_12 rfl hl (by decide) rfl (fun ls hl => ?_)
      refine lv_iconst (v := (1 : Int32)) hx hb dL_gearOf_13 (by decide) ?_
      exact am_iret X hr hh (fun t ht => am_qw (mk := oI) hF ht) (Nat.le_of_ble_eq_true rfl) (Nat.le_of_ble_eq_true rfl) dL_gearOf_14
    · have hF := am_neg he4 hF
      cases hF
  · subst hz
    have hF := am_zr hF
    refine lv_i2l hx hb dL_gearOf_7 rfl ?_
    obtain ⟨hq5, hF⟩ := am_ifR hF
    refine am_last X hh 151 (by decide) rfl hq5 dL_gearOf_8 (fun H locs hh => ?_)
    obtain ⟨w6, hw6, hF⟩ := am_wl hF
    have hh := AH_eq hw6 hh
    refine lv_goto (tgt := 15) hx hb dL_gearOf_9 (by decide) ?_
    refine lv_iconst (v := (0 : Int32)) hx hb dL_gearOf_15 (by decide) ?_
    exact am_iret X hr hh (fun t ht => am_qw (mk := oI) hF ht) (Nat.le_of_ble_eq_true rfl) (Nat.le_of_ble_eq_true rfl) dL_gearOf_16
set_option maxHeartbeats 4000000 in
set_option maxRecDepth 100000 in
theorem c_L_areInLine (l : Launch) (G : GG) (hst : l.stackTraces = false) {w : Wd} {x1 : Int32} {x2 : Int32} {r0 : Int32} {w1 : Wd} (hF : f_L_areInLine w x1 x2 = some (r0, w1)) : vx_Met l yL_areInLine wsL_areInLine ({ frames := 8, cells := 3, slots := 18, locals := 133 } : Room) (va_Pc [.ref (gAd G 0), .int x1, .int x2, .ref (gAd G 151)] (Rel G w)) (amQ G (oI r0) w1) (fun _ _ _ => False) 3 18 (gA G) := by
  refine am_metW (own := RL) (cc := cL_areInLine) (maxL := 5) (ret := (some .int)) (by decide +kernel) rfl rfl (Nat.le_of_ble_eq_true rfl) ?_
  intro p e s m args below meth c ab H locs ls X hr htb hh hl
  have hx := X.1.1; have hb := X.1.2.1; have hml := X.1.2.2.1; have hown := X.1.2.2.2.1; have hts := X.1.2.2.2.2
  have hl : lv_has ls 5 [(0, .ref (gAd G 0)), (1, .int x1), (2, .int x2), (3, .ref (gAd G 151))] := hl
  unfold f_L_areInLine at hF
  refine lv_aload_n hx hb dL_areInLine_0 rfl (lv_at hl 3 rfl) ?_
  refine lv_iconst (v := (0 : Int32)) hx hb dL_areInLine_1 (by decide) ?_
  refine lv_aload_n hx hb dL_areInLine_2 rfl (lv_at hl 0 rfl) ?_
  refine lv_iload_n hx hb dL_areInLine_3 rfl (lv_at hl 1 rfl) ?_
  refine lv_iload_n hx hb dL_areInLine_4 rfl (lv_at hl 2 rfl) ?_
  obtain ⟨z3, hk1, hF⟩ := am_bind hF
  refine am_callX X hh (vx_runV (As := [.int x1, .int x2]) (rest := [.int (0 : Int32), .ref (gAd G 151)]) X.1 (c_X10_areInLine l G hst hk1) (cwV 2 hts gL_areInLine_X10_areInLine rfl rfl rfl (by decide +kernel) ⟨Nat.le_of_ble_eq_true rfl, Nat.le_of_ble_eq_true rfl⟩) (am_preV X hh 0 11 (by decide) rfl rfl) rfl rfl hl.1 rfl (lv_room (Nat.le_of_ble_eq_true rfl)) dL_areInLine_5 ⟨Nat.le_of_ble_eq_true rfl, Nat.le_of_ble_eq_true rfl⟩) (fun k ab H locs ce q hz hh hce hcv hcl => ?_) (fun r2 ab H locs hz hh => ?_)
  · subst hz
    have hF := am_zl hF
    by_cases he4 : k = 0
    · subst he4
      have hF := am_pos rfl hF
      refine vx_catch (own := RL) (name := exN 0) (E := exN 0) hown [] ⟨0, 17, 20, 21⟩ [⟨0, 17, 24, 13⟩] (htb.trans rfl) (List.forall_mem_nil _) (by decide) (by decide) (hts _ (show Cond.classLink RL 21 "java/lang/IndexOutOfBoundsException" ∈ wsL_areInLine by decide +kernel)) ((X.2.2.1.2.2.2.1 0).use rfl) hce hcv hcl ?_
      refine lv_astore (lv' := [(4, .ref q), (0, .ref (gAd G 0)), (1, .int x1), (2, .int x2), (3, .ref (gAd G 151))]) hx hb dL_areInLine_20 hl (by decide) rfl (fun ls hl => ?_)
      refine lv_iconst (v := (1 : Int32)) hx hb dL_areInLine_22 (by decide) ?_
      exact am_iret X hr hh (fun t ht => am_qw (mk := oI) hF ht) (Nat.le_of_ble_eq_true rfl) (Nat.le_of_ble_eq_true rfl) dL_areInLine_23
    · have hF := am_neg he4 hF
      by_cases he5 : k = 1
      · subst he5
        have hF := am_pos rfl hF
        refine vx_catch (own := RL) (name := exN 1) (E := exN 1) hown [⟨0, 17, 20, 21⟩] ⟨0, 17, 24, 13⟩ [] (htb.trans rfl) (List.forall_mem_cons.mpr ⟨Or.inr ⟨by decide, exN 0, hts _ (show Cond.classLink RL 21 "java/lang/IndexOutOfBoundsException" ∈ wsL_areInLine by decide +kernel), X.2.2.1.2.2.2.2.1 1 0 (by decide) (by decide) (by decide)⟩, List.forall_mem_nil _⟩) (by decide) (by decide) (hts _ (show Cond.classLink RL 13 "java/lang/IllegalArgumentException" ∈ wsL_areInLine by decide +kernel)) ((X.2.2.1.2.2.2.1 1).use rfl) hce hcv hcl ?_
        refine lv_astore (lv' := [(4, .ref q), (0, .ref (gAd G 0)), (1, .int x1), (2, .int x2), (3, .ref (gAd G 151))]) hx hb dL_areInLine_24 hl (by decide) rfl (fun ls hl => ?_)
        refine lv_iconst (v := (2 : Int32)) hx hb dL_areInLine_26 (by decide) ?_
        exact am_iret X hr hh (fun t ht => am_qw (mk := oI) hF ht) (Nat.le_of_ble_eq_true rfl) (Nat.le_of_ble_eq_true rfl) dL_areInLine_27
      · have hF := am_neg he5 hF
        cases hF
  · subst hz
    have hF := am_zr hF
    refine lv_if_eq (tgt := 15) hx hb dL_areInLine_8 (by decide) (fun hc6 => ?_) (fun hc6 => ?_)
    · have hF := am_pos hc6 hF
      refine lv_lconst (v := (0 : Int64)) hx hb dL_areInLine_15 (by decide) ?_
      obtain ⟨hq7, hF⟩ := am_ifR hF
      refine am_last X hh 151 (by decide) rfl hq7 dL_areInLine_16 (fun H locs hh => ?_)
      obtain ⟨w8, hw8, hF⟩ := am_wl hF
      have hh := AH_eq hw8 hh
      refine lv_goto (tgt := 28) hx hb dL_areInLine_17 (by decide) ?_
      refine lv_iconst (v := (0 : Int32)) hx hb dL_areInLine_28 (by decide) ?_
      exact am_iret X hr hh (fun t ht => am_qw (mk := oI) hF ht) (Nat.le_of_ble_eq_true rfl) (Nat.le_of_ble_eq_true rfl) dL_areInLine_29
    · have hF := am_neg hc6 hF
      refine lv_lconst (v := (1 : Int64)) hx hb dL_areInLine_11 (by decide) ?_
      refine lv_goto (tgt := 16) hx hb dL_areInLine_12 (by decide) ?_
      obtain ⟨hq9, hF⟩ := am_ifR hF
      refine am_last X hh 151 (by decide) rfl hq9 dL_areInLine_16 (fun H locs hh => ?_)
      obtain ⟨w10, hw10, hF⟩ := am_wl hF
      have hh := AH_eq hw10 hh
      refine lv_goto (tgt := 28) hx hb dL_areInLine_17 (by decide) ?_
      refine lv_iconst (v := (0 : Int32)) hx hb dL_areInLine_28 (by decide) ?_
      exact am_iret X hr hh (fun t ht => am_qw (mk := oI) hF ht) (Nat.le_of_ble_eq_true rfl) (Nat.le_of_ble_eq_true rfl) dL_areInLine_29
