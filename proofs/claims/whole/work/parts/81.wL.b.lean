set_option maxHeartbeats 4000000 in
set_option maxRecDepth 100000 in
theorem c_L_fewestPairs (l : Launch) (G : GG) (hst : l.stackTraces = false) {w : Wd} {x1 : Int32} {x2 : Int32} {r0 : Int32} {w1 : Wd} (hF : f_L_fewestPairs w x1 x2 = some (r0, w1)) : vx_Met l yL_fewestPairs wsL_fewestPairs ({ frames := 8, cells := 2, slots := 12, locals := 133 } : Room) (va_Pc [.ref (gAd G 0), .int x1, .int x2, .ref (gAd G 151)] (Rel G w)) (amQ G (oI r0) w1) (fun _ _ _ => False) 2 12 (gA G) := by
  refine am_metW (own := RL) (cc := cL_fewestPairs) (maxL := 5) (ret := (some .int)) (by decide +kernel) rfl rfl (Nat.le_of_ble_eq_true rfl) ?_
  intro p e s m args below meth c ab H locs ls X hr htb hh hl
  have hx := X.1.1; have hb := X.1.2.1; have hml := X.1.2.2.1; have hown := X.1.2.2.2.1; have hts := X.1.2.2.2.2
  have hl : lv_has ls 5 [(0, .ref (gAd G 0)), (1, .int x1), (2, .int x2), (3, .ref (gAd G 151))] := hl
  unfold f_L_fewestPairs at hF
  refine lv_aload_n hx hb dL_fewestPairs_0 rfl (lv_at hl 3 rfl) ?_
  refine lv_iconst (v := (0 : Int32)) hx hb dL_fewestPairs_1 (by decide) ?_
  refine lv_aload_n hx hb dL_fewestPairs_2 rfl (lv_at hl 0 rfl) ?_
  refine lv_iload_n hx hb dL_fewestPairs_3 rfl (lv_at hl 1 rfl) ?_
  refine lv_iload_n hx hb dL_fewestPairs_4 rfl (lv_at hl 2 rfl) ?_
  obtain ⟨z3, hk1, hF⟩ := am_bind hF
  refine am_callX X hh (vx_runV (As := [.int x1, .int x2]) (rest := [.int (0 : Int32), .ref (gAd G 151)]) X.1 (c_X10_fewestPairs l G hst hk1) (cwV 2 hts gL_fewestPairs_X10_fewestPairs rfl rfl rfl (by decide +kernel) ⟨Nat.le_of_ble_eq_true rfl, Nat.le_of_ble_eq_true rfl⟩) (am_preV X hh 0 11 (by decide) rfl rfl) rfl rfl hl.1 rfl (lv_room (Nat.le_of_ble_eq_true rfl)) dL_fewestPairs_5 ⟨Nat.le_of_ble_eq_true rfl, Nat.le_of_ble_eq_true rfl⟩) (fun k ab H locs ce q hz hh hce hcv hcl => ?_) (fun r2 ab H locs hz hh => ?_)
  · subst hz
    have hF := am_zl hF
    by_cases he4 : k = 1
    · subst he4
      have hF := am_pos rfl hF
      refine vx_catch (own := RL) (name := exN 1) (E := exN 1) hown [] ⟨0, 10, 13, 13⟩ [⟨0, 10, 17, 31⟩] (htb.trans rfl) (List.forall_mem_nil _) (by decide) (by decide) (hts _ (show Cond.classLink RL 13 "java/lang/IllegalArgumentException" ∈ wsL_fewestPairs by decide +kernel)) ((X.2.2.1.2.2.2.1 1).use rfl) hce hcv hcl ?_
      refine lv_astore (lv' := [(4, .ref q), (0, .ref (gAd G 0)), (1, .int x1), (2, .int x2), (3, .ref (gAd G 151))]) hx hb dL_fewestPairs_13 hl (by decide) rfl (fun ls hl => ?_)
      refine lv_iconst (v := (1 : Int32)) hx hb dL_fewestPairs_15 (by decide) ?_
      exact am_iret X hr hh (fun t ht => am_qw (mk := oI) hF ht) (Nat.le_of_ble_eq_true rfl) (Nat.le_of_ble_eq_true rfl) dL_fewestPairs_16
    · have hF := am_neg he4 hF
      by_cases he5 : k = 4
      · subst he5
        have hF := am_pos rfl hF
        refine vx_catch (own := RL) (name := exN 4) (E := exN 4) hown [⟨0, 10, 13, 13⟩] ⟨0, 10, 17, 31⟩ [] (htb.trans rfl) (List.forall_mem_cons.mpr ⟨Or.inr ⟨by decide, exN 1, hts _ (show Cond.classLink RL 13 "java/lang/IllegalArgumentException" ∈ wsL_fewestPairs by decide +kernel), X.2.2.1.2.2.2.2.1 4 1 (by decide) (by decide) (by decide)⟩, List.forall_mem_nil _⟩) (by decide) (by decide) (hts _ (show Cond.classLink RL 31 "java/util/NoSuchElementException" ∈ wsL_fewestPairs by decide +kernel)) ((X.2.2.1.2.2.2.1 4).use rfl) hce hcv hcl ?_
        refine lv_astore (lv' := [(4, .ref q), (0, .ref (gAd G 0)), (1, .int x1), (2, .int x2), (3, .ref (gAd G 151))]) hx hb dL_fewestPairs_17 hl (by decide) rfl (fun ls hl => ?_)
        refine lv_iconst (v := (2 : Int32)) hx hb dL_fewestPairs_19 (by decide) ?_
        exact am_iret X hr hh (fun t ht => am_qw (mk := oI) hF ht) (Nat.le_of_ble_eq_true rfl) (Nat.le_of_ble_eq_true rfl) dL_fewestPairs_20
      · have hF := am_neg he5 hF
        cases hF
  · subst hz
    have hF := am_zr hF
    refine lv_i2l hx hb dL_fewestPairs_8 rfl ?_
    obtain ⟨hq6, hF⟩ := am_ifR hF
    refine am_last X hh 151 (by decide) rfl hq6 dL_fewestPairs_9 (fun H locs hh => ?_)
    obtain ⟨w7, hw7, hF⟩ := am_wl hF
    have hh := AH_eq hw7 hh
    refine lv_goto (tgt := 21) hx hb dL_fewestPairs_10 (by decide) ?_
    refine lv_iconst (v := (0 : Int32)) hx hb dL_fewestPairs_21 (by decide) ?_
    exact am_iret X hr hh (fun t ht => am_qw (mk := oI) hF ht) (Nat.le_of_ble_eq_true rfl) (Nat.le_of_ble_eq_true rfl) dL_fewestPairs_22
set_option maxHeartbeats 4000000 in
set_option maxRecDepth 100000 in
theorem c_L_renderGear (l : Launch) (G : GG) (hst : l.stackTraces = false) {w : Wd} {x1 : Int32} {r0 : Int32} {w1 : Wd} (hF : f_L_renderGear w x1 = some (r0, w1)) : vx_Met l yL_renderGear wsL_renderGear ({ frames := 8, cells := 12, slots := 710, locals := 207 } : Room) (va_Pc [.ref (gAd G 0), .int x1, .ref (gAd G 151)] (Rel G w)) (amQ G (oI r0) w1) (fun _ _ _ => False) 12 710 (gA G) := by
  refine am_metW (own := RL) (cc := cL_renderGear) (maxL := 4) (ret := (some .int)) (by decide +kernel) rfl rfl (Nat.le_of_ble_eq_true rfl) ?_
  intro p e s m args below meth c ab H locs ls X hr htb hh hl
  have hx := X.1.1; have hb := X.1.2.1; have hml := X.1.2.2.1; have hown := X.1.2.2.2.1; have hts := X.1.2.2.2.2
  have hl : lv_has ls 4 [(0, .ref (gAd G 0)), (1, .int x1), (2, .ref (gAd G 151))] := hl
  unfold f_L_renderGear at hF
  refine lv_aload_n hx hb dL_renderGear_0 rfl (lv_at hl 2 rfl) ?_
  refine lv_iconst (v := (0 : Int32)) hx hb dL_renderGear_1 (by decide) ?_
  refine lv_aload_n hx hb dL_renderGear_2 rfl (lv_at hl 0 rfl) ?_
  refine lv_iload_n hx hb dL_renderGear_3 rfl (lv_at hl 1 rfl) ?_
  obtain ⟨⟨z4, w3⟩, hk1, hF⟩ := am_bind hF
  have hF := am_u2 hF
  refine am_callX X hh (vx_runV (As := [.int x1]) (rest := [.int (0 : Int32), .ref (gAd G 151)]) X.1 (c_X10_renderGear l G hst hk1) (cwV 1 hts gL_renderGear_X10_renderGear rfl rfl rfl (by decide +kernel) ⟨Nat.le_of_ble_eq_true rfl, Nat.le_of_ble_eq_true rfl⟩) (am_preV X hh 0 11 (by decide) rfl rfl) rfl rfl hl.1 rfl (lv_room (Nat.le_of_ble_eq_true rfl)) dL_renderGear_4 ⟨Nat.le_of_ble_eq_true rfl, Nat.le_of_ble_eq_true rfl⟩) (fun k ab H locs ce q hz hh hce hcv hcl => ?_) (fun r2 ab H locs hz hh => ?_)
  · subst hz
    have hF := am_zl hF
    by_cases he5 : k = 0
    · subst he5
      have hF := am_pos rfl hF
      refine vx_catch (own := RL) (name := exN 0) (E := exN 0) hown [] ⟨0, 9, 12, 21⟩ [] (htb.trans rfl) (List.forall_mem_nil _) (by decide) (by decide) (hts _ (show Cond.classLink RL 21 "java/lang/IndexOutOfBoundsException" ∈ wsL_renderGear by decide +kernel)) ((X.2.2.1.2.2.2.1 0).use rfl) hce hcv hcl ?_
      refine lv_astore_n (lv' := [(3, .ref q), (0, .ref (gAd G 0)), (1, .int x1), (2, .ref (gAd G 151))]) hx hb dL_renderGear_12 rfl hl (by decide) rfl (fun ls hl => ?_)
      refine lv_iconst (v := (1 : Int32)) hx hb dL_renderGear_13 (by decide) ?_
      exact am_iret X hr hh (fun t ht => am_qw (mk := oI) hF ht) (Nat.le_of_ble_eq_true rfl) (Nat.le_of_ble_eq_true rfl) dL_renderGear_14
    · have hF := am_neg he5 hF
      cases hF
  · subst hz
    have hF := am_zr hF
    refine lv_i2l hx hb dL_renderGear_7 rfl ?_
    obtain ⟨hq6, hF⟩ := am_ifR hF
    refine am_last X hh 151 (by decide) rfl hq6 dL_renderGear_8 (fun H locs hh => ?_)
    obtain ⟨w7, hw7, hF⟩ := am_wl hF
    have hh := AH_eq hw7 hh
    refine lv_goto (tgt := 15) hx hb dL_renderGear_9 (by decide) ?_
    refine lv_iconst (v := (0 : Int32)) hx hb dL_renderGear_15 (by decide) ?_
    exact am_iret X hr hh (fun t ht => am_qw (mk := oI) hF ht) (Nat.le_of_ble_eq_true rfl) (Nat.le_of_ble_eq_true rfl) dL_renderGear_16
set_option maxHeartbeats 4000000 in
set_option maxRecDepth 100000 in
theorem c_L_renderTrain (l : Launch) (G : GG) (hst : l.stackTraces = false) {w : Wd} {x1 : Int32} {r0 : Int32} {w1 : Wd} (hF : f_L_renderTrain w x1 = some (r0, w1)) : vx_Met l yL_renderTrain wsL_renderTrain ({ frames := 8, cells := 35, slots := 2182, locals := 208 } : Room) (va_Pc [.ref (gAd G 0), .int x1, .ref (gAd G 151)] (Rel G w)) (amQ G (oI r0) w1) (fun _ _ _ => False) 35 2182 (gA G) := by
  refine am_metW (own := RL) (cc := cL_renderTrain) (maxL := 4) (ret := (some .int)) (by decide +kernel) rfl rfl (Nat.le_of_ble_eq_true rfl) ?_
  intro p e s m args below meth c ab H locs ls X hr htb hh hl
  have hx := X.1.1; have hb := X.1.2.1; have hml := X.1.2.2.1; have hown := X.1.2.2.2.1; have hts := X.1.2.2.2.2
  have hl : lv_has ls 4 [(0, .ref (gAd G 0)), (1, .int x1), (2, .ref (gAd G 151))] := hl
  unfold f_L_renderTrain at hF
  refine lv_aload_n hx hb dL_renderTrain_0 rfl (lv_at hl 2 rfl) ?_
  refine lv_iconst (v := (0 : Int32)) hx hb dL_renderTrain_1 (by decide) ?_
  refine lv_aload_n hx hb dL_renderTrain_2 rfl (lv_at hl 0 rfl) ?_
  refine lv_iload_n hx hb dL_renderTrain_3 rfl (lv_at hl 1 rfl) ?_
  obtain ⟨⟨z4, w3⟩, hk1, hF⟩ := am_bind hF
  have hF := am_u2 hF
  refine am_callX X hh (vx_runV (As := [.int x1]) (rest := [.int (0 : Int32), .ref (gAd G 151)]) X.1 (c_X10_renderTrain l G hst hk1) (cwV 1 hts gL_renderTrain_X10_renderTrain rfl rfl rfl (by decide +kernel) ⟨Nat.le_of_ble_eq_true rfl, Nat.le_of_ble_eq_true rfl⟩) (am_preV X hh 0 11 (by decide) rfl rfl) rfl rfl hl.1 rfl (lv_room (Nat.le_of_ble_eq_true rfl)) dL_renderTrain_4 ⟨Nat.le_of_ble_eq_true rfl, Nat.le_of_ble_eq_true rfl⟩) (fun k ab H locs ce q hz hh hce hcv hcl => ?_) (fun r2 ab H locs hz hh => ?_)
  · subst hz
    have hF := am_zl hF
    by_cases he5 : k = 0
    · subst he5
      have hF := am_pos rfl hF
      refine vx_catch (own := RL) (name := exN 0) (E := exN 0) hown [] ⟨0, 9, 12, 21⟩ [] (htb.trans rfl) (List.forall_mem_nil _) (by decide) (by decide) (hts _ (show Cond.classLink RL 21 "java/lang/IndexOutOfBoundsException" ∈ wsL_renderTrain by decide +kernel)) ((X.2.2.1.2.2.2.1 0).use rfl) hce hcv hcl ?_
      refine lv_astore_n (lv' := [(3, .ref q), (0, .ref (gAd G 0)), (1, .int x1), (2, .ref (gAd G 151))]) hx hb dL_renderTrain_12 rfl hl (by decide) rfl (fun ls hl => ?_)
      refine lv_iconst (v := (1 : Int32)) hx hb dL_renderTrain_13 (by decide) ?_
      exact am_iret X hr hh (fun t ht => am_qw (mk := oI) hF ht) (Nat.le_of_ble_eq_true rfl) (Nat.le_of_ble_eq_true rfl) dL_renderTrain_14
    · have hF := am_neg he5 hF
      cases hF
  · subst hz
    have hF := am_zr hF
    refine lv_i2l hx hb dL_renderTrain_7 rfl ?_
    obtain ⟨hq6, hF⟩ := am_ifR hF
    refine am_last X hh 151 (by decide) rfl hq6 dL_renderTrain_8 (fun H locs hh => ?_)
    obtain ⟨w7, hw7, hF⟩ := am_wl hF
    have hh := AH_eq hw7 hh
    refine lv_goto (tgt := 15) hx hb dL_renderTrain_9 (by decide) ?_
    refine lv_iconst (v := (0 : Int32)) hx hb dL_renderTrain_15 (by decide) ?_
    exact am_iret X hr hh (fun t ht => am_qw (mk := oI) hF ht) (Nat.le_of_ble_eq_true rfl) (Nat.le_of_ble_eq_true rfl) dL_renderTrain_16
set_option maxHeartbeats 4000000 in
set_option maxRecDepth 100000 in
theorem c_L_undo (l : Launch) (G : GG) (hst : l.stackTraces = false) {w : Wd} {r0 : Int32} {w1 : Wd} (hF : f_L_undo w = some (r0, w1)) : vx_Met l yL_undo wsL_undo ({ frames := 7, cells := 1, slots := 6, locals := 110 } : Room) (va_Pc [.ref (gAd G 0), .ref (gAd G 151)] (Rel G w)) (amQ G (oI r0) w1) (fun _ _ _ => False) 1 6 (gA G) := by
  refine am_metW (own := RL) (cc := cL_undo) (maxL := 3) (ret := (some .int)) (by decide +kernel) rfl rfl (Nat.le_of_ble_eq_true rfl) ?_
  intro p e s m args below meth c ab H locs ls X hr htb hh hl
  have hx := X.1.1; have hb := X.1.2.1; have hml := X.1.2.2.1; have hown := X.1.2.2.2.1; have hts := X.1.2.2.2.2
  have hl : lv_has ls 3 [(0, .ref (gAd G 0)), (1, .ref (gAd G 151))] := hl
  unfold f_L_undo at hF
  refine lv_aload_n hx hb dL_undo_0 rfl (lv_at hl 1 rfl) ?_
  refine lv_iconst (v := (0 : Int32)) hx hb dL_undo_1 (by decide) ?_
  refine lv_aload_n hx hb dL_undo_2 rfl (lv_at hl 0 rfl) ?_
  obtain ⟨⟨z4, w3⟩, hk1, hF⟩ := am_bind hF
  have hF := am_u2 hF
  refine am_callX X hh (vx_runV (As := []) (rest := [.int (0 : Int32), .ref (gAd G 151)]) X.1 (c_X10_undo l G hst hk1) (cwV 0 hts gL_undo_X10_undo rfl rfl rfl (by decide +kernel) ⟨Nat.le_of_ble_eq_true rfl, Nat.le_of_ble_eq_true rfl⟩) (am_preV X hh 0 11 (by decide) rfl rfl) rfl rfl hl.1 rfl (lv_room (Nat.le_of_ble_eq_true rfl)) dL_undo_3 ⟨Nat.le_of_ble_eq_true rfl, Nat.le_of_ble_eq_true rfl⟩) (fun k ab H locs ce q hz hh hce hcv hcl => ?_) (fun r2 ab H locs hz hh => ?_)
  · subst hz
    have hF := am_zl hF
    by_cases he5 : k = 4
    · subst he5
      have hF := am_pos rfl hF
      refine vx_catch (own := RL) (name := exN 4) (E := exN 4) hown [] ⟨0, 8, 11, 31⟩ [] (htb.trans rfl) (List.forall_mem_nil _) (by decide) (by decide) (hts _ (show Cond.classLink RL 31 "java/util/NoSuchElementException" ∈ wsL_undo by decide +kernel)) ((X.2.2.1.2.2.2.1 4).use rfl) hce hcv hcl ?_
      refine lv_astore_n (lv' := [(2, .ref q), (0, .ref (gAd G 0)), (1, .ref (gAd G 151))]) hx hb dL_undo_11 rfl hl (by decide) rfl (fun ls hl => ?_)
      refine lv_iconst (v := (1 : Int32)) hx hb dL_undo_12 (by decide) ?_
      exact am_iret X hr hh (fun t ht => am_qw (mk := oI) hF ht) (Nat.le_of_ble_eq_true rfl) (Nat.le_of_ble_eq_true rfl) dL_undo_13
    · have hF := am_neg he5 hF
      cases hF
  · subst hz
    have hF := am_zr hF
    refine lv_i2l hx hb dL_undo_6 rfl ?_
    obtain ⟨hq6, hF⟩ := am_ifR hF
    refine am_last X hh 151 (by decide) rfl hq6 dL_undo_7 (fun H locs hh => ?_)
    obtain ⟨w7, hw7, hF⟩ := am_wl hF
    have hh := AH_eq hw7 hh
    refine lv_goto (tgt := 14) hx hb dL_undo_8 (by decide) ?_
    refine lv_iconst (v := (0 : Int32)) hx hb dL_undo_14 (by decide) ?_
    exact am_iret X hr hh (fun t ht => am_qw (mk := oI) hF ht) (Nat.le_of_ble_eq_true rfl) (Nat.le_of_ble_eq_true rfl) dL_undo_15
set_option maxHeartbeats 4000000 in
set_option maxRecDepth 100000 in
theorem c_L_addGear (l : Launch) (G : GG) (hst : l.stackTraces = false) {w : Wd} {x1 : Int32} {r0 : Int32} {w1 : Wd} (hF : f_L_addGear w x1 = some (r0, w1)) : vx_Met l yL_addGear wsL_addGear ({ frames := 9, cells := 1, slots := 6, locals := 152 } : Room) (va_Pc [.ref (gAd G 0), .int x1, .ref (gAd G 151)] (Rel G w)) (amQ G (oI r0) w1) (fun _ _ _ => False) 1 6 (gA G) := by
  refine am_metW (own := RL) (cc := cL_addGear) (maxL := 4) (ret := (some .int)) (by decide +kernel) rfl rfl (Nat.le_of_ble_eq_true rfl) ?_
  intro p e s m args below meth c ab H locs ls X hr htb hh hl
  have hx := X.1.1; have hb := X.1.2.1; have hml := X.1.2.2.1; have hown := X.1.2.2.2.1; have hts := X.1.2.2.2.2
  have hl : lv_has ls 4 [(0, .ref (gAd G 0)), (1, .int x1), (2, .ref (gAd G 151))] := hl
  unfold f_L_addGear at hF
  refine lv_aload_n hx hb dL_addGear_0 rfl (lv_at hl 2 rfl) ?_
  refine lv_iconst (v := (0 : Int32)) hx hb dL_addGear_1 (by decide) ?_
  refine lv_aload_n hx hb dL_addGear_2 rfl (lv_at hl 0 rfl) ?_
  refine lv_iload_n hx hb dL_addGear_3 rfl (lv_at hl 1 rfl) ?_
  obtain ⟨⟨z4, w3⟩, hk1, hF⟩ := am_bind hF
  have hF := am_u2 hF
  refine am_callX X hh (vx_runV (As := [.int x1]) (rest := [.int (0 : Int32), .ref (gAd G 151)]) X.1 (c_X10_addGear l G hst hk1) (cwV 1 hts gL_addGear_X10_addGear rfl rfl rfl (by decide +kernel) ⟨Nat.le_of_ble_eq_true rfl, Nat.le_of_ble_eq_true rfl⟩) (am_preV X hh 0 11 (by decide) rfl rfl) rfl rfl hl.1 rfl (lv_room (Nat.le_of_ble_eq_true rfl)) dL_addGear_4 ⟨Nat.le_of_ble_eq_true rfl, Nat.le_of_ble_eq_true rfl⟩) (fun k ab H locs ce q hz hh hce hcv hcl => ?_) (fun r2 ab H locs hz hh => ?_)
  · subst hz
    have hF := am_zl hF
    by_cases he5 : k = 1
    · subst he5
      have hF := am_pos rfl hF
      refine vx_catch (own := RL) (name := exN 1) (E := exN 1) hown [] ⟨0, 9, 12, 13⟩ [⟨0, 9, 15, 15⟩] (htb.trans rfl) (List.forall_mem_nil _) (by decide) (by decide) (hts _ (show Cond.classLink RL 13 "java/lang/IllegalArgumentException" ∈ wsL_addGear by decide +kernel)) ((X.2.2.1.2.2.2.1 1).use rfl) hce hcv hcl ?_
      refine lv_astore_n (lv' := [(3, .ref q), (0, .ref (gAd G 0)), (1, .int x1), (2, .ref (gAd G 151))]) hx hb dL_addGear_12 rfl hl (by decide) rfl (fun ls hl => ?_)
      refine lv_iconst (v := (1 : Int32)) hx hb dL_addGear_13 (by decide) ?_
      exact am_iret X hr hh (fun t ht => am_qw (mk := oI) hF ht) (Nat.le_of_ble_eq_true rfl) (Nat.le_of_ble_eq_true rfl) dL_addGear_14
    · have hF := am_neg he5 hF
      by_cases he6 : k = 2
      · subst he6
        have hF := am_pos rfl hF
        refine vx_catch (own := RL) (name := exN 2) (E := exN 2) hown [⟨0, 9, 12, 13⟩] ⟨0, 9, 15, 15⟩ [] (htb.trans rfl) (List.forall_mem_cons.mpr ⟨Or.inr ⟨by decide, exN 1, hts _ (show Cond.classLink RL 13 "java/lang/IllegalArgumentException" ∈ wsL_addGear by decide +kernel), X.2.2.1.2.2.2.2.1 2 1 (by decide) (by decide) (by decide)⟩, List.forall_mem_nil _⟩) (by decide) (by decide) (hts _ (show Cond.classLink RL 15 "java/lang/IllegalStateException" ∈ wsL_addGear by decide +kernel)) ((X.2.2.1.2.2.2.1 2).use rfl) hce hcv hcl ?_
        refine lv_astore_n (lv' := [(3, .ref q), (0, .ref (gAd G 0)), (1, .int x1), (2, .ref (gAd G 151))]) hx hb dL_addGear_15 rfl hl (by decide) rfl (fun ls hl => ?_)
        refine lv_iconst (v := (2 : Int32)) hx hb dL_addGear_16 (by decide) ?_
        exact am_iret X hr hh (fun t ht => am_qw (mk := oI) hF ht) (Nat.le_of_ble_eq_true rfl) (Nat.le_of_ble_eq_true rfl) dL_addGear_17
      · have hF := am_neg he6 hF
        cases hF
  · subst hz
    have hF := am_zr hF
    refine lv_i2l hx hb dL_addGear_7 rfl ?_
    obtain ⟨hq7, hF⟩ := am_ifR hF
    refine am_last X hh 151 (by decide) rfl hq7 dL_addGear_8 (fun H locs hh => ?_)
    obtain ⟨w8, hw8, hF⟩ := am_wl hF
    have hh := AH_eq hw8 hh
    refine lv_goto (tgt := 18) hx hb dL_addGear_9 (by decide) ?_
    refine lv_iconst (v := (0 : Int32)) hx hb dL_addGear_18 (by decide) ?_
    exact am_iret X hr hh (fun t ht => am_qw (mk := oI) hF ht) (Nat.le_of_ble_eq_true rfl) (Nat.le_of_ble_eq_true rfl) dL_addGear_19
set_option maxHeartbeats 4000000 in
set_option maxRecDepth 100000 in
theorem c_L_mesh (l : Launch) (G : GG) (hst : l.stackTraces = false) {w : Wd} {x1 : Int32} {x2 : Int32} {r0 : Int32} {w1 : Wd} (hF : f_L_mesh w x1 x2 = some (r0, w1)) : vx_Met l yL_mesh wsL_mesh ({ frames := 9, cells := 1, slots := 6, locals := 153 } : Room) (va_Pc [.ref (gAd G 0), .int x1, .int x2, .ref (gAd G 151)] (Rel G w)) (amQ G (oI r0) w1) (fun _ _ _ => False) 1 6 (gA G) := by
  refine am_metW (own := RL) (cc := cL_mesh) (maxL := 5) (ret := (some .int)) (by decide +kernel) rfl rfl (Nat.le_of_ble_eq_true rfl) ?_
  intro p e s m args below meth c ab H locs ls X hr htb hh hl
  have hx := X.1.1; have hb := X.1.2.1; have hml := X.1.2.2.1; have hown := X.1.2.2.2.1; have hts := X.1.2.2.2.2
  have hl : lv_has ls 5 [(0, .ref (gAd G 0)), (1, .int x1), (2, .int x2), (3, .ref (gAd G 151))] := hl
  unfold f_L_mesh at hF
  refine lv_aload_n hx hb dL_mesh_0 rfl (lv_at hl 3 rfl) ?_
  refine lv_iconst (v := (0 : Int32)) hx hb dL_mesh_1 (by decide) ?_
  refine lv_aload_n hx hb dL_mesh_2 rfl (lv_at hl 0 rfl) ?_
  refine lv_iload_n hx hb dL_mesh_3 rfl (lv_at hl 1 rfl) ?_
  refine lv_iload_n hx hb dL_mesh_4 rfl (lv_at hl 2 rfl) ?_
  obtain ⟨⟨z4, w3⟩, hk1, hF⟩ := am_bind hF
  have hF := am_u2 hF
  refine am_callX X hh (vx_runV (As := [.int x1, .int x2]) (rest := [.int (0 : Int32), .ref (gAd G 151)]) X.1 (c_X10_mesh l G hst hk1) (cwV 2 hts gL_mesh_X10_mesh rfl rfl rfl (by decide +kernel) ⟨Nat.le_of_ble_eq_true rfl, Nat.le_of_ble_eq_true rfl⟩) (am_preV X hh 0 11 (by decide) rfl rfl) rfl rfl hl.1 rfl (lv_room (Nat.le_of_ble_eq_true rfl)) dL_mesh_5 ⟨Nat.le_of_ble_eq_true rfl, Nat.le_of_ble_eq_true rfl⟩) (fun k ab H locs ce q hz hh hce hcv hcl => ?_) (fun r2 ab H locs hz hh => ?_)
  · subst hz
    have hF := am_zl hF
    by_cases he5 : k = 0
    · subst he5
      have hF := am_pos rfl hF
      refine vx_catch (own := RL) (name := exN 0) (E := exN 0) hown [] ⟨0, 10, 13, 21⟩ [⟨0, 10, 17, 13⟩, ⟨0, 10, 21, 15⟩, ⟨0, 10, 25, 23⟩] (htb.trans rfl) (List.forall_mem_nil _) (by decide) (by decide) (hts _ (show Cond.classLink RL 21 "java/lang/IndexOutOfBoundsException" ∈ wsL_mesh by decide +kernel)) ((X.2.2.1.2.2.2.1 0).use rfl) hce hcv hcl ?_
      refine lv_astore (lv' := [(4, .ref q), (0, .ref (gAd G 0)), (1, .int x1), (2, .int x2), (3, .ref (gAd G 151))]) hx hb dL_mesh_13 hl (by decide) rfl (fun ls hl => ?_)
      refine lv_iconst (v := (1 : Int32)) hx hb dL_mesh_15 (by decide) ?_
      exact am_iret X hr hh (fun t ht => am_qw (mk := oI) hF ht) (Nat.le_of_ble_eq_true rfl) (Nat.le_of_ble_eq_true rfl) dL_mesh_16
    · have hF := am_neg he5 hF
      by_cases he6 : k = 1
      · subst he6
        have hF := am_pos rfl hF
        refine vx_catch (own := RL) (name := exN 1) (E := exN 1) hown [⟨0, 10, 13, 21⟩] ⟨0, 10, 17, 13⟩ [⟨0, 10, 21, 15⟩, ⟨0, 10, 25, 23⟩] (htb.trans rfl) (List.forall_mem_cons.mpr ⟨Or.inr ⟨by decide, exN 0, hts _ (show Cond.classLink RL 21 "java/lang/IndexOutOfBoundsException" ∈ wsL_mesh by decide +kernel), X.2.2.1.2.2.2.2.1 1 0 (by decide) (by decide) (by decide)⟩, List.forall_mem_nil _⟩) (by decide) (by decide) (hts _ (show Cond.classLink RL 13 "java/lang/IllegalArgumentException" ∈ wsL_mesh by decide +kernel)) ((X.2.2.1.2.2.2.1 1).use rfl) hce hcv hcl ?_
        refine lv_astore (lv' := [(4, .ref q), (0, .ref (gAd G 0)), (1, .int x1), (2, .int x2), (3, .ref (gAd G 151))]) hx hb dL_mesh_17 hl (by decide) rfl (fun ls hl => ?_)
        refine lv_iconst (v := (2 : Int32)) hx hb dL_mesh_19 (by decide) ?_
        exact am_iret X hr hh (fun t ht => am_qw (mk := oI) hF ht) (Nat.le_of_ble_eq_true rfl) (Nat.le_of_ble_eq_true rfl) dL_mesh_20
      · have hF := am_neg he6 hF
        by_cases he7 : k = 2
        · subst he7
          have hF := am_pos rfl hF
          refine vx_catch (own := RL) (name := exN 2) (E := exN 2) hown [⟨0, 10, 13, 21⟩, ⟨0, 10, 17, 13⟩] ⟨0, 10, 21, 15⟩ [⟨0, 10, 25, 23⟩] (htb.trans rfl) (List.forall_mem_cons.mpr ⟨Or.inr ⟨by decide, exN 0, hts _ (show Cond.classLink RL 21 "java/lang/IndexOutOfBoundsException" ∈ wsL_mesh by decide +kernel), X.2.2.1.2.2.2.2.1 2 0 (by decide) (by decide) (by decide)⟩, List.forall_mem_cons.mpr ⟨Or.inr ⟨by decide, exN 1, hts _ (show Cond.classLink RL 13 "java/lang/IllegalArgumentException" ∈ wsL_mesh by decide +kernel), X.2.2.1.2.2.2.2.1 2 1 (by decide) (by decide) (by decide)⟩, List.forall_mem_nil _⟩⟩) (by decide) (by decide) (hts _ (show Cond.classLink RL 15 "java/lang/IllegalStateException" ∈ wsL_mesh by decide +kernel)) ((X.2.2.1.2.2.2.1 2).use rfl) hce hcv hcl ?_
          refine lv_astore (lv' := [(4, .ref q), (0, .ref (gAd G 0)), (1, .int x1), (2, .int x2), (3, .ref (gAd G 151))]) hx hb dL_mesh_21 hl (by decide) rfl (fun ls hl => ?_)
          refine lv_iconst (v := (3 : Int32)) hx hb dL_mesh_23 (by decide) ?_
          exact am_iret X hr hh (fun t ht => am_qw (mk := oI) hF ht) (Nat.le_of_ble_eq_true rfl) (Nat.le_of_ble_eq_true rfl) dL_mesh_24
        · have hF := am_neg he7 hF
          by_cases he8 : k = 3
          · subst he8
            have hF := am_pos rfl hF
            refine vx_catch (own := RL) (name := exN 3) (E := exN 3) hown [⟨0, 10, 13, 21⟩, ⟨0, 10, 17, 13⟩, ⟨0, 10, 21, 15⟩] ⟨0, 10, 25, 23⟩ [] (htb.trans rfl) (List.forall_mem_cons.mpr ⟨Or.inr ⟨by decide, exN 0, hts _ (show Cond.classLink RL 21 "java/lang/IndexOutOfBoundsException" ∈ wsL_mesh by decide +kernel), X.2.2.1.2.2.2.2.1 3 0 (by decide) (by decide) (by decide)⟩, List.forall_mem_cons.mpr ⟨Or.inr ⟨by decide, exN 1, hts _ (show Cond.classLink RL 13 "java/lang/IllegalArgumentException" ∈ wsL_mesh by decide +kernel), X.2.2.1.2.2.2.2.1 3 1 (by decide) (by decide) (by decide)⟩, List.forall_mem_cons.mpr ⟨Or.inr ⟨by decide, exN 2, hts _ (show Cond.classLink RL 15 "java/lang/IllegalStateException" ∈ wsL_mesh by decide +kernel), X.2.2.1.2.2.2.2.1 3 2 (by decide) (by decide) (by decide)⟩, List.forall_mem_nil _⟩⟩⟩) (by decide) (by decide) (hts _ (show Cond.classLink RL 23 "java/lang/UnsupportedOperationException" ∈ wsL_mesh by decide +kernel)) ((X.2.2.1.2.2.2.1 3).use rfl) hce hcv hcl ?_
            refine lv_astore (lv' := [(4, .ref q), (0, .ref (gAd G 0)), (1, .int x1), (2, .int x2), (3, .ref (gAd G 151))]) hx hb dL_mesh_25 hl (by decide) rfl (fun ls hl => ?_)
            refine lv_iconst (v := (4 : Int32)) hx hb dL_mesh_27 (by decide) ?_
            exact am_iret X hr hh (fun t ht => am_qw (mk := oI) hF ht) (Nat.le_of_ble_eq_true rfl) (Nat.le_of_ble_eq_true rfl) dL_mesh_28
          · have hF := am_neg he8 hF
            cases hF
  · subst hz
    have hF := am_zr hF
    refine lv_i2l hx hb dL_mesh_8 rfl ?_
    obtain ⟨hq9, hF⟩ := am_ifR hF
    refine am_last X hh 151 (by decide) rfl hq9 dL_mesh_9 (fun H locs hh => ?_)
    obtain ⟨w10, hw10, hF⟩ := am_wl hF
    have hh := AH_eq hw10 hh
    refine lv_goto (tgt := 29) hx hb dL_mesh_10 (by decide) ?_
    refine lv_iconst (v := (0 : Int32)) hx hb dL_mesh_29 (by decide) ?_
    exact am_iret X hr hh (fun t ht => am_qw (mk := oI) hF ht) (Nat.le_of_ble_eq_true rfl) (Nat.le_of_ble_eq_true rfl) dL_mesh_30
set_option maxHeartbeats 4000000 in
set_option maxRecDepth 100000 in
theorem c_L_shareAxle (l : Launch) (G : GG) (hst : l.stackTraces = false) {w : Wd} {x1 : Int32} {x2 : Int32} {r0 : Int32} {w1 : Wd} (hF : f_L_shareAxle w x1 x2 = some (r0, w1)) : vx_Met l yL_shareAxle wsL_shareAxle ({ frames := 9, cells := 1, slots := 6, locals := 153 } : Room) (va_Pc [.ref (gAd G 0), .int x1, .int x2, .ref (gAd G 151)] (Rel G w)) (amQ G (oI r0) w1) (fun _ _ _ => False) 1 6 (gA G) := by
  refine am_metW (own := RL) (cc := cL_shareAxle) (maxL := 5) (ret := (some .int)) (by decide +kernel) rfl rfl (Nat.le_of_ble_eq_true rfl) ?_
  intro p e s m args below meth c ab H locs ls X hr htb hh hl
  have hx := X.1.1; have hb := X.1.2.1; have hml := X.1.2.2.1; have hown := X.1.2.2.2.1; have hts := X.1.2.2.2.2
  have hl : lv_has ls 5 [(0, .ref (gAd G 0)), (1, .int x1), (2, .int x2), (3, .ref (gAd G 151))] := hl
  unfold f_L_shareAxle at hF
  refine lv_aload_n hx hb dL_shareAxle_0 rfl (lv_at hl 3 rfl) ?_
  refine lv_iconst (v := (0 : Int32)) hx hb dL_shareAxle_1 (by decide) ?_
  refine lv_aload_n hx hb dL_shareAxle_2 rfl (lv_at hl 0 rfl) ?_
  refine lv_iload_n hx hb dL_shareAxle_3 rfl (lv_at hl 1 rfl) ?_
  refine lv_iload_n hx hb dL_shareAxle_4 rfl (lv_at hl 2 rfl) ?_
  obtain ⟨⟨z4, w3⟩, hk1, hF⟩ := am_bind hF
  have hF := am_u2 hF
  refine am_callX X hh (vx_runV (As := [.int x1, .int x2]) (rest := [.int (0 : Int32), .ref (gAd G 151)]) X.1 (c_X10_shareAxle l G hst hk1) (cwV 2 hts gL_shareAxle_X10_shareAxle rfl rfl rfl (by decide +kernel) ⟨Nat.le_of_ble_eq_true rfl, Nat.le_of_ble_eq_true rfl⟩) (am_preV X hh 0 11 (by decide) rfl rfl) rfl rfl hl.1 rfl (lv_room (Nat.le_of_ble_eq_true rfl)) dL_shareAxle_5 ⟨Nat.le_of_ble_eq_true rfl, Nat.le_of_ble_eq_true rfl⟩) (fun k ab H locs ce q hz hh hce hcv hcl => ?_) (fun r2 ab H locs hz hh => ?_)
  · subst hz
    have hF := am_zl hF
    by_cases he5 : k = 0
    · subst he5
      have hF := am_pos rfl hF
      refine vx_catch (own := RL) (name := exN 0) (E := exN 0) hown [] ⟨0, 10, 13, 21⟩ [⟨0, 10, 17, 13⟩, ⟨0, 10, 21, 15⟩, ⟨0, 10, 25, 23⟩] (htb.trans rfl) (List.forall_mem_nil _) (by decide) (by decide) (hts _ (show Cond.classLink RL 21 "java/lang/IndexOutOfBoundsException" ∈ wsL_shareAxle by decide +kernel)) ((X.2.2.1.2.2.2.1 0).use rfl) hce hcv hcl ?_
      refine lv_astore (lv' := [(4, .ref q), (0, .ref (gAd G 0)), (1, .int x1), (2, .int x2), (3, .ref (gAd G 151))]) hx hb dL_shareAxle_13 hl (by decide) rfl (fun ls hl => ?_)
      refine lv_iconst (v := (1 : Int32)) hx hb dL_shareAxle_15 (by decide) ?_
      exact am_iret X hr hh (fun t ht => am_qw (mk := oI) hF ht) (Nat.le_of_ble_eq_true rfl) (Nat.le_of_ble_eq_true rfl) dL_shareAxle_16
    · have hF := am_neg he5 hF
      by_cases he6 : k = 1
      · subst he6
        have hF := am_pos rfl hF
        refine vx_catch (own := RL) (name := exN 1) (E := exN 1) hown [⟨0, 10, 13, 21⟩] ⟨0, 10, 17, 13⟩ [⟨0, 10, 21, 15⟩, ⟨0, 10, 25, 23⟩] (htb.trans rfl) (List.forall_mem_cons.mpr ⟨Or.inr ⟨by decide, exN 0, hts _ (show Cond.classLink RL 21 "java/lang/IndexOutOfBoundsException" ∈ wsL_shareAxle by decide +kernel), X.2.2.1.2.2.2.2.1 1 0 (by decide) (by decide) (by decide)⟩, List.forall_mem_nil _⟩) (by decide) (by decide) (hts _ (show Cond.classLink RL 13 "java/lang/IllegalArgumentException" ∈ wsL_shareAxle by decide +kernel)) ((X.2.2.1.2.2.2.1 1).use rfl) hce hcv hcl ?_
        refine lv_astore (lv' := [(4, .ref q), (0, .ref (gAd G 0)), (1, .int x1), (2, .int x2), (3, .ref (gAd G 151))]) hx hb dL_shareAxle_17 hl (by decide) rfl (fun ls hl => ?_)
        refine lv_iconst (v := (2 : Int32)) hx hb dL_shareAxle_19 (by decide) ?_
        exact am_iret X hr hh (fun t ht => am_qw (mk := oI) hF ht) (Nat.le_of_ble_eq_true rfl) (Nat.le_of_ble_eq_true rfl) dL_shareAxle_20
      · have hF := am_neg he6 hF
        by_cases he7 : k = 2
        · subst he7
          have hF := am_pos rfl hF
          refine vx_catch (own := RL) (name := exN 2) (E := exN 2) hown [⟨0, 10, 13, 21⟩, ⟨0, 10, 17, 13⟩] ⟨0, 10, 21, 15⟩ [⟨0, 10, 25, 23⟩] (htb.trans rfl) (List.forall_mem_cons.mpr ⟨Or.inr ⟨by decide, exN 0, hts _ (show Cond.classLink RL 21 "java/lang/IndexOutOfBoundsException" ∈ wsL_shareAxle by decide +kernel), X.2.2.1.2.2.2.2.1 2 0 (by decide) (by decide) (by decide)⟩, List.forall_mem_cons.mpr ⟨Or.inr ⟨by decide, exN 1, hts _ (show Cond.classLink RL 13 "java/lang/IllegalArgumentException" ∈ wsL_shareAxle by decide +kernel), X.2.2.1.2.2.2.2.1 2 1 (by decide) (by decide) (by decide)⟩, List.forall_mem_nil _⟩⟩) (by decide) (by decide) (hts _ (show Cond.classLink RL 15 "java/lang/IllegalStateException" ∈ wsL_shareAxle by decide +kernel)) ((X.2.2.1.2.2.2.1 2).use rfl) hce hcv hcl ?_
          refine lv_astore (lv' := [(4, .ref q), (0, .ref (gAd G 0)), (1, .int x1), (2, .int x2), (3, .ref (gAd G 151))]) hx hb dL_shareAxle_21 hl (by decide) rfl (fun ls hl => ?_)
          refine lv_iconst (v := (3 : Int32)) hx hb dL_shareAxle_23 (by decide) ?_
          exact am_iret X hr hh (fun t ht => am_qw (mk := oI) hF ht) (Nat.le_of_ble_eq_true rfl) (Nat.le_of_ble_eq_true rfl) dL_shareAxle_24
        · have hF := am_neg he7 hF
          by_cases he8 : k = 3
          · subst he8
            have hF := am_pos rfl hF
            refine vx_catch (own := RL) (name := exN 3) (E := exN 3) hown [⟨0, 10, 13, 21⟩, ⟨0, 10, 17, 13⟩, ⟨0, 10, 21, 15⟩] ⟨0, 10, 25, 23⟩ [] (htb.trans rfl) (List.forall_mem_cons.mpr ⟨Or.inr ⟨by decide, exN 0, hts _ (show Cond.classLink RL 21 "java/lang/IndexOutOfBoundsException" ∈ wsL_shareAxle by decide +kernel), X.2.2.1.2.2.2.2.1 3 0 (by decide) (by decide) (by decide)⟩, List.forall_mem_cons.mpr ⟨Or.inr ⟨by decide, exN 1, hts _ (show Cond.classLink RL 13 "java/lang/IllegalArgumentException" ∈ wsL_shareAxle by decide +kernel), X.2.2.1.2.2.2.2.1 3 1 (by decide) (by decide) (by decide)⟩, List.forall_mem_cons.mpr ⟨Or.inr ⟨by decide, exN 2, hts _ (show Cond.classLink RL 15 "java/lang/IllegalStateException" ∈ wsL_shareAxle by decide +kernel), X.2.2.1.2.2.2.2.1 3 2 (by decide) (by decide) (by decide)⟩, List.forall_mem_nil _⟩⟩⟩) (by decide) (by decide) (hts _ (show Cond.classLink RL 23 "java/lang/UnsupportedOperationException" ∈ wsL_shareAxle by decide +kernel)) ((X.2.2.1.2.2.2.1 3).use rfl) hce hcv hcl ?_
            refine lv_astore (lv' := [(4, .ref q), (0, .ref (gAd G 0)), (1, .int x1), (2, .int x2), (3, .ref (gAd G 151))]) hx hb dL_shareAxle_25 hl (by decide) rfl (fun ls hl => ?_)
            refine lv_iconst (v := (4 : Int32)) hx hb dL_shareAxle_27 (by decide) ?_
            exact am_iret X hr hh (fun t ht => am_qw (mk := oI) hF ht) (Nat.le_of_ble_eq_true rfl) (Nat.le_of_ble_eq_true rfl) dL_shareAxle_28
          · have hF := am_neg he8 hF
            cases hF
  · subst hz
    have hF := am_zr hF
    refine lv_i2l hx hb dL_shareAxle_8 rfl ?_
    obtain ⟨hq9, hF⟩ := am_ifR hF
    refine am_last X hh 151 (by decide) rfl hq9 dL_shareAxle_9 (fun H locs hh => ?_)
    obtain ⟨w10, hw10, hF⟩ := am_wl hF
    have hh := AH_eq hw10 hh
    refine lv_goto (tgt := 29) hx hb dL_shareAxle_10 (by decide) ?_
    refine lv_iconst (v := (0 : Int32)) hx hb dL_shareAxle_29 (by decide) ?_
    exact am_iret X hr hh (fun t ht => am_qw (mk := oI) hF ht) (Nat.le_of_ble_eq_true rfl) (Nat.le_of_ble_eq_true rfl) dL_shareAxle_30
set_option maxHeartbeats 4000000 in
set_option maxRecDepth 100000 in
theorem c_L_separate (l : Launch) (G : GG) (hst : l.stackTraces = false) {w : Wd} {x1 : Int32} {x2 : Int32} {r0 : Int32} {w1 : Wd} (hF : f_L_separate w x1 x2 = some (r0, w1)) : vx_Met l yL_separate wsL_separate ({ frames := 9, cells := 1, slots := 6, locals := 153 } : Room) (va_Pc [.ref (gAd G 0), .int x1, .int x2, .ref (gAd G 151)] (Rel G w)) (amQ G (oI r0) w1) (fun _ _ _ => False) 1 6 (gA G) := by
  refine am_metW (own := RL) (cc := cL_separate) (maxL := 5) (ret := (some .int)) (by decide +kernel) rfl rfl (Nat.le_of_ble_eq_true rfl) ?_
  intro p e s m args below meth c ab H locs ls X hr htb hh hl
  have hx := X.1.1; have hb := X.1.2.1; have hml := X.1.2.2.1; have hown := X.1.2.2.2.1; have hts := X.1.2.2.2.2
  have hl : lv_has ls 5 [(0, .ref (gAd G 0)), (1, .int x1), (2, .int x2), (3, .ref (gAd G 151))] := hl
  unfold f_L_separate at hF
  refine lv_aload_n hx hb dL_separate_0 rfl (lv_at hl 3 rfl) ?_
  refine lv_iconst (v := (0 : Int32)) hx hb dL_separate_1 (by decide) ?_
  refine lv_aload_n hx hb dL_separate_2 rfl (lv_at hl 0 rfl) ?_
  refine lv_iload_n hx hb dL_separate_3 rfl (lv_at hl 1 rfl) ?_
  refine lv_iload_n hx hb dL_separate_4 rfl (lv_at hl 2 rfl) ?_
  obtain ⟨⟨z4, w3⟩, hk1, hF⟩ := am_bind hF
  have hF := am_u2 hF
  refine am_callX X hh (vx_runV (As := [.int x1, .int x2]) (rest := [.int (0 : Int32), .ref (gAd G 151)]) X.1 (c_X10_separate l G hst hk1) (cwV 2 hts gL_separate_X10_separate rfl rfl rfl (by decide +kernel) ⟨Nat.le_of_ble_eq_true rfl, Nat.le_of_ble_eq_true rfl⟩) (am_preV X hh 0 11 (by decide) rfl rfl) rfl rfl hl.1 rfl (lv_room (Nat.le_of_ble_eq_true rfl)) dL_separate_5 ⟨Nat.le_of_ble_eq_true rfl, Nat.le_of_ble_eq_true rfl⟩) (fun k ab H locs ce q hz hh hce hcv hcl => ?_) (fun r2 ab H locs hz hh => ?_)
  · subst hz
    have hF := am_zl hF
    by_cases he5 : k = 0
    · subst he5
      have hF := am_pos rfl hF
      refine vx_catch (own := RL) (name := exN 0) (E := exN 0) hown [] ⟨0, 10, 13, 21⟩ [⟨0, 10, 17, 31⟩] (htb.trans rfl) (List.forall_mem_nil _) (by decide) (by decide) (hts _ (show Cond.classLink RL 21 "java/lang/IndexOutOfBoundsException" ∈ wsL_separate by decide +kernel)) ((X.2.2.1.2.2.2.1 0).use rfl) hce hcv hcl ?_
      refine lv_astore (lv' := [(4, .ref q), (0, .ref (gAd G 0)), (1, .int x1), (2, .int x2), (3, .ref (gAd G 151))]) hx hb dL_separate_13 hl (by decide) rfl (fun ls hl => ?_)
      refine lv_iconst (v := (1 : Int32)) hx hb dL_separate_15 (by decide) ?_
      exact am_iret X hr hh (fun t ht => am_qw (mk := oI) hF ht) (Nat.le_of_ble_eq_true rfl) (Nat.le_of_ble_eq_true rfl) dL_separate_16
    · have hF := am_neg he5 hF
      by_cases he6 : k = 4
      · subst he6
        have hF := am_pos rfl hF
        refine vx_catch (own := RL) (name := exN 4) (E := exN 4) hown [⟨0, 10, 13, 21⟩] ⟨0, 10, 17, 31⟩ [] (htb.trans rfl) (List.forall_mem_cons.mpr ⟨Or.inr ⟨by decide, exN 0, hts _ (show Cond.classLink RL 21 "java/lang/IndexOutOfBoundsException" ∈ wsL_separate by decide +kernel), X.2.2.1.2.2.2.2.1 4 0 (by decide) (by decide) (by decide)⟩, List.forall_mem_nil _⟩) (by decide) (by decide) (hts _ (show Cond.classLink RL 31 "java/util/NoSuchElementException" ∈ wsL_separate by decide +kernel)) ((X.2.2.1.2.2.2.1 4).use rfl) hce hcv hcl ?_
        refine lv_astore (lv' := [(4, .ref q), (0, .ref (gAd G 0)), (1, .int x1), (2, .int x2), (3, .ref (gAd G 151))]) hx hb dL_separate_17 hl (by decide) rfl (fun ls hl => ?_)
        refine lv_iconst (v := (2 : Int32)) hx hb dL_separate_19 (by decide) ?_
        exact am_iret X hr hh (fun t ht => am_qw (mk := oI) hF ht) (Nat.le_of_ble_eq_true rfl) (Nat.le_of_ble_eq_true rfl) dL_separate_20
      · have hF := am_neg he6 hF
        cases hF
  · subst hz
    have hF := am_zr hF
    refine lv_i2l hx hb dL_separate_8 rfl ?_
    obtain ⟨hq7, hF⟩ := am_ifR hF
    refine am_last X hh 151 (by decide) rfl hq7 dL_separate_9 (fun H locs hh => ?_)
    obtain ⟨w8, hw8, hF⟩ := am_wl hF
    have hh := AH_eq hw8 hh
    refine lv_goto (tgt := 21) hx hb dL_separate_10 (by decide) ?_
    refine lv_iconst (v := (0 : Int32)) hx hb dL_separate_21 (by decide) ?_
    exact am_iret X hr hh (fun t ht => am_qw (mk := oI) hF ht) (Nat.le_of_ble_eq_true rfl) (Nat.le_of_ble_eq_true rfl) dL_separate_22
set_option maxHeartbeats 4000000 in
set_option maxRecDepth 100000 in
theorem c_L_setSpring (l : Launch) (G : GG) (hst : l.stackTraces = false) {w : Wd} {x1 : Int32} {x2 : Int32} {r0 : Int32} {w1 : Wd} (hF : f_L_setSpring w x1 x2 = some (r0, w1)) : vx_Met l yL_setSpring wsL_setSpring ({ frames := 9, cells := 1, slots := 6, locals := 153 } : Room) (va_Pc [.ref (gAd G 0), .int x1, .int x2, .ref (gAd G 151)] (Rel G w)) (amQ G (oI r0) w1) (fun _ _ _ => False) 1 6 (gA G) := by
  refine am_metW (own := RL) (cc := cL_setSpring) (maxL := 5) (ret := (some .int)) (by decide +kernel) rfl rfl (Nat.le_of_ble_eq_true rfl) ?_
  intro p e s m args below meth c ab H locs ls X hr htb hh hl
  have hx := X.1.1; have hb := X.1.2.1; have hml := X.1.2.2.1; have hown := X.1.2.2.2.1; have hts := X.1.2.2.2.2
  have hl : lv_has ls 5 [(0, .ref (gAd G 0)), (1, .int x1), (2, .int x2), (3, .ref (gAd G 151))] := hl
  unfold f_L_setSpring at hF
  refine lv_aload_n hx hb dL_setSpring_0 rfl (lv_at hl 3 rfl) ?_
  refine lv_iconst (v := (0 : Int32)) hx hb dL_setSpring_1 (by decide) ?_
  refine lv_aload_n hx hb dL_setSpring_2 rfl (lv_at hl 0 rfl) ?_
  refine lv_iload_n hx hb dL_setSpring_3 rfl (lv_at hl 1 rfl) ?_
  refine lv_iload_n hx hb dL_setSpring_4 rfl (lv_at hl 2 rfl) ?_
  obtain ⟨⟨z4, w3⟩, hk1, hF⟩ := am_bind hF
  have hF := am_u2 hF
  refine am_callX X hh (vx_runV (As := [.int x1, .int x2]) (rest := [.int (0 : Int32), .ref (gAd G 151)]) X.1 (c_X10_setSpring l G hst hk1) (cwV 2 hts gL_setSpring_X10_setSpring rfl rfl rfl (by decide +kernel) ⟨Nat.le_of_ble_eq_true rfl, Nat.le_of_ble_eq_true rfl⟩) (am_preV X hh 0 11 (by decide) rfl rfl) rfl rfl hl.1 rfl (lv_room (Nat.le_of_ble_eq_true rfl)) dL_setSpring_5 ⟨Nat.le_of_ble_eq_true rfl, Nat.le_of_ble_eq_true rfl⟩) (fun k ab H locs ce q hz hh hce hcv hcl => ?_) (fun r2 ab H locs hz hh => ?_)
  · subst hz
    have hF := am_zl hF
    by_cases he5 : k = 0
    · subst he5
      have hF := am_pos rfl hF
      refine vx_catch (own := RL) (name := exN 0) (E := exN 0) hown [] ⟨0, 10, 13, 21⟩ [⟨0, 10, 17, 13⟩, ⟨0, 10, 21, 15⟩] (htb.trans rfl) (List.forall_mem_nil _) (by decide) (by decide) (hts _ (show Cond.classLink RL 21 "java/lang/IndexOutOfBoundsException" ∈ wsL_setSpring by decide +kernel)) ((X.2.2.1.2.2.2.1 0).use rfl) hce hcv hcl ?_
      refine lv_astore (lv' := [(4, .ref q), (0, .ref (gAd G 0)), (1, .int x1), (2, .int x2), (3, .ref (gAd G 151))]) hx hb dL_setSpring_13 hl (by decide) rfl (fun ls hl => ?_)
      refine lv_iconst (v := (1 : Int32)) hx hb dL_setSpring_15 (by decide) ?_
      exact am_iret X hr hh (fun t ht => am_qw (mk := oI) hF ht) (Nat.le_of_ble_eq_true rfl) (Nat.le_of_ble_eq_true rfl) dL_setSpring_16
    · have hF := am_neg he5 hF
      by_cases he6 : k = 1
      · subst he6
        have hF := am_pos rfl hF
        refine vx_catch (own := RL) (name := exN 1) (E := exN 1) hown [⟨0, 10, 13, 21⟩] ⟨0, 10, 17, 13⟩ [⟨0, 10, 21, 15⟩] (htb.trans rfl) (List.forall_mem_cons.mpr ⟨Or.inr ⟨by decide, exN 0, hts _ (show Cond.classLink RL 21 "java/lang/IndexOutOfBoundsException" ∈ wsL_setSpring by decide +kernel), X.2.2.1.2.2.2.2.1 1 0 (by decide) (by decide) (by decide)⟩, List.forall_mem_nil _⟩) (by decide) (by decide) (hts _ (show Cond.classLink RL 13 "java/lang/IllegalArgumentException" ∈ wsL_setSpring by decide +kernel)) ((X.2.2.1.2.2.2.1 1).use rfl) hce hcv hcl ?_
        refine lv_astore (lv' := [(4, .ref q), (0, .ref (gAd G 0)), (1, .int x1), (2, .int x2), (3, .ref (gAd G 151))]) hx hb dL_setSpring_17 hl (by decide) rfl (fun ls hl => ?_)
        refine lv_iconst (v := (2 : Int32)) hx hb dL_setSpring_19 (by decide) ?_
        exact am_iret X hr hh (fun t ht => am_qw (mk := oI) hF ht) (Nat.le_of_ble_eq_true rfl) (Nat.le_of_ble_eq_true rfl) dL_setSpring_20
      · have hF := am_neg he6 hF
        by_cases he7 : k = 2
        · subst he7
          have hF := am_pos rfl hF
          refine vx_catch (own := RL) (name := exN 2) (E := exN 2) hown [⟨0, 10, 13, 21⟩, ⟨0, 10, 17, 13⟩] ⟨0, 10, 21, 15⟩ [] (htb.trans rfl) (List.forall_mem_cons.mpr ⟨Or.inr ⟨by decide, exN 0, hts _ (show Cond.classLink RL 21 "java/lang/IndexOutOfBoundsException" ∈ wsL_setSpring by decide +kernel), X.2.2.1.2.2.2.2.1 2 0 (by decide) (by decide) (by decide)⟩, List.forall_mem_cons.mpr ⟨Or.inr ⟨by decide, exN 1, hts _ (show Cond.classLink RL 13 "java/lang/IllegalArgumentException" ∈ wsL_setSpring by decide +kernel), X.2.2.1.2.2.2.2.1 2 1 (by decide) (by decide) (by decide)⟩, List.forall_mem_nil _⟩⟩) (by decide) (by decide) (hts _ (show Cond.classLink RL 15 "java/lang/IllegalStateException" ∈ wsL_setSpring by decide +kernel)) ((X.2.2.1.2.2.2.1 2).use rfl) hce hcv hcl ?_
          refine lv_astore (lv' := [(4, .ref q), (0, .ref (gAd G 0)), (1, .int x1), (2, .int x2), (3, .ref (gAd G 151))]) hx hb dL_setSpring_21 hl (by decide) rfl (fun ls hl => ?_)
          refine lv_iconst (v := (3 : Int32)) hx hb dL_setSpring_23 (by decide) ?_
          exact am_iret X hr hh (fun t ht => am_qw (mk := oI) hF ht) (Nat.le_of_ble_eq_true rfl) (Nat.le_of_ble_eq_true rfl) dL_setSpring_24
        · have hF := am_neg he7 hF
          cases hF
  · subst hz
    have hF := am_zr hF
    refine lv_i2l hx hb dL_setSpring_8 rfl ?_
    obtain ⟨hq8, hF⟩ := am_ifR hF
    refine am_last X hh 151 (by decide) rfl hq8 dL_setSpring_9 (fun H locs hh => ?_)
    obtain ⟨w9, hw9, hF⟩ := am_wl hF
    have hh := AH_eq hw9 hh
    refine lv_goto (tgt := 25) hx hb dL_setSpring_10 (by decide) ?_
    refine lv_iconst (v := (0 : Int32)) hx hb dL_setSpring_25 (by decide) ?_
    exact am_iret X hr hh (fun t ht => am_qw (mk := oI) hF ht) (Nat.le_of_ble_eq_true rfl) (Nat.le_of_ble_eq_true rfl) dL_setSpring_26
set_option maxHeartbeats 4000000 in
set_option maxRecDepth 100000 in
theorem c_L_wind (l : Launch) (G : GG) (hst : l.stackTraces = false) {w : Wd} {x1 : Int32} {x2 : Int32} {r0 : Int32} {w1 : Wd} (hF : f_L_wind w x1 x2 = some (r0, w1)) : vx_Met l yL_wind wsL_wind ({ frames := 9, cells := 1, slots := 6, locals := 153 } : Room) (va_Pc [.ref (gAd G 0), .int x1, .int x2, .ref (gAd G 151)] (Rel G w)) (amQ G (oI r0) w1) (fun _ _ _ => False) 1 6 (gA G) := by
  refine am_metW (own := RL) (cc := cL_wind) (maxL := 5) (ret := (some .int)) (by decide +kernel) rfl rfl (Nat.le_of_ble_eq_true rfl) ?_
  intro p e s m args below meth c ab H locs ls X hr htb hh hl
  have hx := X.1.1; have hb := X.1.2.1; have hml := X.1.2.2.1; have hown := X.1.2.2.2.1; have hts := X.1.2.2.2.2
  have hl : lv_has ls 5 [(0, .ref (gAd G 0)), (1, .int x1), (2, .int x2), (3, .ref (gAd G 151))] := hl
  unfold f_L_wind at hF
  refine lv_aload_n hx hb dL_wind_0 rfl (lv_at hl 3 rfl) ?_
  refine lv_iconst (v := (0 : Int32)) hx hb dL_wind_1 (by decide) ?_
  refine lv_aload_n hx hb dL_wind_2 rfl (lv_at hl 0 rfl) ?_
  refine lv_iload_n hx hb dL_wind_3 rfl (lv_at hl 1 rfl) ?_
  refine lv_iload_n hx hb dL_wind_4 rfl (lv_at hl 2 rfl) ?_
  obtain ⟨⟨z4, w3⟩, hk1, hF⟩ := am_bind hF
  have hF := am_u2 hF
  refine am_callX X hh (vx_runV (As := [.int x1, .int x2]) (rest := [.int (0 : Int32), .ref (gAd G 151)]) X.1 (c_X10_wind l G hst hk1) (cwV 2 hts gL_wind_X10_wind rfl rfl rfl (by decide +kernel) ⟨Nat.le_of_ble_eq_true rfl, Nat.le_of_ble_eq_true rfl⟩) (am_preV X hh 0 11 (by decide) rfl rfl) rfl rfl hl.1 rfl (lv_room (Nat.le_of_ble_eq_true rfl)) dL_wind_5 ⟨Nat.le_of_ble_eq_true rfl, Nat.le_of_ble_eq_true rfl⟩) (fun k ab H locs ce q hz hh hce hcv hcl => ?_) (fun r2 ab H locs hz hh => ?_)
  · subst hz
    have hF := am_zl hF
    by_cases he5 : k = 0
    · subst he5
      have hF := am_pos rfl hF
      refine vx_catch (own := RL) (name := exN 0) (E := exN 0) hown [] ⟨0, 10, 13, 21⟩ [⟨0, 10, 17, 13⟩, ⟨0, 10, 21, 31⟩, ⟨0, 10, 25, 15⟩] (htb.trans rfl) (List.forall_mem_nil _) (by decide) (by decide) (hts _ (show Cond.classLink RL 21 "java/lang/IndexOutOfBoundsException" ∈ wsL_wind by decide +kernel)) ((X.2.2.1.2.2.2.1 0).use rfl) hce hcv hcl ?_
      refine lv_astore (lv' := [(4, .ref q), (0, .ref (gAd G 0)), (1, .int x1), (2, .int x2), (3, .ref (gAd G 151))]) hx hb dL_wind_13 hl (by decide) rfl (fun ls hl => ?_)
      refine lv_iconst (v := (1 : Int32)) hx hb dL_wind_15 (by decide) ?_
      exact am_iret X hr hh (fun t ht => am_qw (mk := oI) hF ht) (Nat.le_of_ble_eq_true rfl) (Nat.le_of_ble_eq_true rfl) dL_wind_16
    · have hF := am_neg he5 hF
      by_cases he6 : k = 1
      · subst he6
        have hF := am_pos rfl hF
        refine vx_catch (own := RL) (name := exN 1) (E := exN 1) hown [⟨0, 10, 13, 21⟩] ⟨0, 10, 17, 13⟩ [⟨0, 10, 21, 31⟩, ⟨0, 10, 25, 15⟩] (htb.trans rfl) (List.forall_mem_cons.mpr ⟨Or.inr ⟨by decide, exN 0, hts _ (show Cond.classLink RL 21 "java/lang/IndexOutOfBoundsException" ∈ wsL_wind by decide +kernel), X.2.2.1.2.2.2.2.1 1 0 (by decide) (by decide) (by decide)⟩, List.forall_mem_nil _⟩) (by decide) (by decide) (hts _ (show Cond.classLink RL 13 "java/lang/IllegalArgumentException" ∈ wsL_wind by decide +kernel)) ((X.2.2.1.2.2.2.1 1).use rfl) hce hcv hcl ?_
        refine lv_astore (lv' := [(4, .ref q), (0, .ref (gAd G 0)), (1, .int x1), (2, .int x2), (3, .ref (gAd G 151))]) hx hb dL_wind_17 hl (by decide) rfl (fun ls hl => ?_)
        refine lv_iconst (v := (2 : Int32)) hx hb dL_wind_19 (by decide) ?_
        exact am_iret X hr hh (fun t ht => am_qw (mk := oI) hF ht) (Nat.le_of_ble_eq_true rfl) (Nat.le_of_ble_eq_true rfl) dL_wind_20
      · have hF := am_neg he6 hF
        by_cases he7 : k = 4
        · subst he7
          have hF := am_pos rfl hF
          refine vx_catch (own := RL) (name := exN 4) (E := exN 4) hown [⟨0, 10, 13, 21⟩, ⟨0, 10, 17, 13⟩] ⟨0, 10, 21, 31⟩ [⟨0, 10, 25, 15⟩] (htb.trans rfl) (List.forall_mem_cons.mpr ⟨Or.inr ⟨by decide, exN 0, hts _ (show Cond.classLink RL 21 "java/lang/IndexOutOfBoundsException" ∈ wsL_wind by decide +kernel), X.2.2.1.2.2.2.2.1 4 0 (by decide) (by decide) (by decide)⟩, List.forall_mem_cons.mpr ⟨Or.inr ⟨by decide, exN 1, hts _ (show Cond.classLink RL 13 "java/lang/IllegalArgumentException" ∈ wsL_wind by decide +kernel), X.2.2.1.2.2.2.2.1 4 1 (by decide) (by decide) (by decide)⟩, List.forall_mem_nil _⟩⟩) (by decide) (by decide) (hts _ (show Cond.classLink RL 31 "java/util/NoSuchElementException" ∈ wsL_wind by decide +kernel)) ((X.2.2.1.2.2.2.1 4).use rfl) hce hcv hcl ?_
          refine lv_astore (lv' := [(4, .ref q), (0, .ref (gAd G 0)), (1, .int x1), (2, .int x2), (3, .ref (gAd G 151))]) hx hb dL_wind_21 hl (by decide) rfl (fun ls hl => ?_)
          refine lv_iconst (v := (3 : Int32)) hx hb dL_wind_23 (by decide) ?_
          exact am_iret X hr hh (fun t ht => am_qw (mk := oI) hF ht) (Nat.le_of_ble_eq_true rfl) (Nat.le_of_ble_eq_true rfl) dL_wind_24
        · have hF := am_neg he7 hF
          by_cases he8 : k = 2
          · subst he8
            have hF := am_pos rfl hF
            refine vx_catch (own := RL) (name := exN 2) (E := exN 2) hown [⟨0, 10, 13, 21⟩, ⟨0, 10, 17, 13⟩, ⟨0, 10, 21, 31⟩] ⟨0, 10, 25, 15⟩ [] (htb.trans rfl) (List.forall_mem_cons.mpr ⟨Or.inr ⟨by decide, exN 0, hts _ (show Cond.classLink RL 21 "java/lang/IndexOutOfBoundsException" ∈ wsL_wind by decide +kernel), X.2.2.1.2.2.2.2.1 2 0 (by decide) (by decide) (by decide)⟩, List.forall_mem_cons.mpr ⟨Or.inr ⟨by decide, exN 1, hts _ (show Cond.classLink RL 13 "java/lang/IllegalArgumentException" ∈ wsL_wind by decide +kernel), X.2.2.1.2.2.2.2.1 2 1 (by decide) (by decide) (by decide)⟩, List.forall_mem_cons.mpr ⟨Or.inr ⟨by decide, exN 4, hts _ (show Cond.classLink RL 31 "java/util/NoSuchElementException" ∈ wsL_wind by decide +kernel), X.2.2.1.2.2.2.2.1 2 4 (by decide) (by decide) (by decide)⟩, List.forall_mem_nil _⟩⟩⟩) (by decide) (by decide) (hts _ (show Cond.classLink RL 15 "java/lang/IllegalStateException" ∈ wsL_wind by decide +kernel)) ((X.2.2.1.2.2.2.1 2).use rfl) hce hcv hcl ?_
            refine lv_astore (lv' := [(4, .ref q), (0, .ref (gAd G 0)), (1, .int x1), (2, .int x2), (3, .ref (gAd G 151))]) hx hb dL_wind_25 hl (by decide) rfl (fun ls hl => ?_)
            refine lv_iconst (v := (4 : Int32)) hx hb dL_wind_27 (by decide) ?_
            exact am_iret X hr hh (fun t ht => am_qw (mk := oI) hF ht) (Nat.le_of_ble_eq_true rfl) (Nat.le_of_ble_eq_true rfl) dL_wind_28
          · have hF := am_neg he8 hF
            cases hF
  · subst hz
    have hF := am_zr hF
    refine lv_i2l hx hb dL_wind_8 rfl ?_
    obtain ⟨hq9, hF⟩ := am_ifR hF
    refine am_last X hh 151 (by decide) rfl hq9 dL_wind_9 (fun H locs hh => ?_)
    obtain ⟨w10, hw10, hF⟩ := am_wl hF
    have hh := AH_eq hw10 hh
    refine lv_goto (tgt := 29) hx hb dL_wind_10 (by decide) ?_
    refine lv_iconst (v := (0 : Int32)) hx hb dL_wind_29 (by decide) ?_
    exact am_iret X hr hh (fun t ht => am_qw (mk := oI) hF ht) (Nat.le_of_ble_eq_true rfl) (Nat.le_of_ble_eq_true rfl) dL_wind_30
set_option maxHeartbeats 4000000 in
set_option maxRecDepth 100000 in
theorem c_L_reverse (l : Launch) (G : GG) (hst : l.stackTraces = false) {w : Wd} {x1 : Int32} {r0 : Int32} {w1 : Wd} (hF : f_L_reverse w x1 = some (r0, w1)) : vx_Met l yL_reverse wsL_reverse ({ frames := 9, cells := 1, slots := 6, locals := 152 } : Room) (va_Pc [.ref (gAd G 0), .int x1, .ref (gAd G 151)] (Rel G w)) (amQ G (oI r0) w1) (fun _ _ _ => False) 1 6 (gA G) := by
  refine am_metW (own := RL) (cc := cL_reverse) (maxL := 4) (ret := (some .int)) (by decide +kernel) rfl rfl (Nat.le_of_ble_eq_true rfl) ?_
  intro p e s m args below meth c ab H locs ls X hr htb hh hl
  have hx := X.1.1; have hb := X.1.2.1; have hml := X.1.2.2.1; have hown := X.1.2.2.2.1; have hts := X.1.2.2.2.2
  have hl : lv_has ls 4 [(0, .ref (gAd G 0)), (1, .int x1), (2, .ref (gAd G 151))] := hl
  unfold f_L_reverse at hF
  refine lv_aload_n hx hb dL_reverse_0 rfl (lv_at hl 2 rfl) ?_
  refine lv_iconst (v := (0 : Int32)) hx hb dL_reverse_1 (by decide) ?_
  refine lv_aload_n hx hb dL_reverse_2 rfl (lv_at hl 0 rfl) ?_
  refine lv_iload_n hx hb dL_reverse_3 rfl (lv_at hl 1 rfl) ?_
  obtain ⟨⟨z4, w3⟩, hk1, hF⟩ := am_bind hF
  have hF := am_u2 hF
  refine am_callX X hh (vx_runV (As := [.int x1]) (rest := [.int (0 : Int32), .ref (gAd G 151)]) X.1 (c_X10_reverse l G hst hk1) (cwV 1 hts gL_reverse_X10_reverse rfl rfl rfl (by decide +kernel) ⟨Nat.le_of_ble_eq_true rfl, Nat.le_of_ble_eq_true rfl⟩) (am_preV X hh 0 11 (by decide) rfl rfl) rfl rfl hl.1 rfl (lv_room (Nat.le_of_ble_eq_true rfl)) dL_reverse_4 ⟨Nat.le_of_ble_eq_true rfl, Nat.le_of_ble_eq_true rfl⟩) (fun k ab H locs ce q hz hh hce hcv hcl => ?_) (fun r2 ab H locs hz hh => ?_)
  · subst hz
    have hF := am_zl hF
    by_cases he5 : k = 0
    · subst he5
      have hF := am_pos rfl hF
      refine vx_catch (own := RL) (name := exN 0) (E := exN 0) hown [] ⟨0, 16, 19, 21⟩ [⟨0, 16, 22, 31⟩] (htb.trans rfl) (List.forall_mem_nil _) (by decide) (by decide) (hts _ (show Cond.classLink RL 21 "java/lang/IndexOutOfBoundsException" ∈ wsL_reverse by decide +kernel)) ((X.2.2.1.2.2.2.1 0).use rfl) hce hcv hcl ?_
      refine lv_astore_n (lv' := [(3, .ref q), (0, .ref (gAd G 0)), (1, .int x1), (2, .ref (gAd G 151))]) hx hb dL_reverse_19 rfl hl (by decide) rfl (fun ls hl => ?_)
      refine lv_iconst (v := (1 : Int32)) hx hb dL_reverse_20 (by decide) ?_
      exact am_iret X hr hh (fun t ht => am_qw (mk := oI) hF ht) (Nat.le_of_ble_eq_true rfl) (Nat.le_of_ble_eq_true rfl) dL_reverse_21
    · have hF := am_neg he5 hF
      by_cases he6 : k = 4
      · subst he6
        have hF := am_pos rfl hF
        refine vx_catch (own := RL) (name := exN 4) (E := exN 4) hown [⟨0, 16, 19, 21⟩] ⟨0, 16, 22, 31⟩ [] (htb.trans rfl) (List.forall_mem_cons.mpr ⟨Or.inr ⟨by decide, exN 0, hts _ (show Cond.classLink RL 21 "java/lang/IndexOutOfBoundsException" ∈ wsL_reverse by decide +kernel), X.2.2.1.2.2.2.2.1 4 0 (by decide) (by decide) (by decide)⟩, List.forall_mem_nil _⟩) (by decide) (by decide) (hts _ (show Cond.classLink RL 31 "java/util/NoSuchElementException" ∈ wsL_reverse by decide +kernel)) ((X.2.2.1.2.2.2.1 4).use rfl) hce hcv hcl ?_
        refine lv_astore_n (lv' := [(3, .ref q), (0, .ref (gAd G 0)), (1, .int x1), (2, .ref (gAd G 151))]) hx hb dL_reverse_22 rfl hl (by decide) rfl (fun ls hl => ?_)
        refine lv_iconst (v := (2 : Int32)) hx hb dL_reverse_23 (by decide) ?_
        exact am_iret X hr hh (fun t ht => am_qw (mk := oI) hF ht) (Nat.le_of_ble_eq_true rfl) (Nat.le_of_ble_eq_true rfl) dL_reverse_24
      · have hF := am_neg he6 hF
        cases hF
  · subst hz
    have hF := am_zr hF
    refine lv_if_eq (tgt := 14) hx hb dL_reverse_7 (by decide) (fun hc7 => ?_) (fun hc7 => ?_)
    · have hF := am_pos hc7 hF
      refine lv_lconst (v := (0 : Int64)) hx hb dL_reverse_14 (by decide) ?_
      obtain ⟨hq8, hF⟩ := am_ifR hF
      refine am_last X hh 151 (by decide) rfl hq8 dL_reverse_15 (fun H locs hh => ?_)
      obtain ⟨w9, hw9, hF⟩ := am_wl hF
      have hh := AH_eq hw9 hh
      refine lv_goto (tgt := 25) hx hb dL_reverse_16 (by decide) ?_
      refine lv_iconst (v := (0 : Int32)) hx hb dL_reverse_25 (by decide) ?_
      exact am_iret X hr hh (fun t ht => am_qw (mk := oI) hF ht) (Nat.le_of_ble_eq_true rfl) (Nat.le_of_ble_eq_true rfl) dL_reverse_26
    · have hF := am_neg hc7 hF
      refine lv_lconst (v := (1 : Int64)) hx hb dL_reverse_10 (by decide) ?_
      refine lv_goto (tgt := 15) hx hb dL_reverse_11 (by decide) ?_
      obtain ⟨hq10, hF⟩ := am_ifR hF
      refine am_last X hh 151 (by decide) rfl hq10 dL_reverse_15 (fun H locs hh => ?_)
      obtain ⟨w11, hw11, hF⟩ := am_wl hF
      have hh := AH_eq hw11 hh
      refine lv_goto (tgt := 25) hx hb dL_reverse_16 (by decide) ?_
      refine lv_iconst (v := (0 : Int32)) hx hb dL_reverse_25 (by decide) ?_
      exact am_iret X hr hh (fun t ht => am_qw (mk := oI) hF ht) (Nat.le_of_ble_eq_true rfl) (Nat.le_of_ble_eq_true rfl) dL_reverse_26
set_option maxHeartbeats 4000000 in
set_option maxRecDepth 100000 in
theorem c_L_setRatchet (l : Launch) (G : GG) (hst : l.stackTraces = false) {w : Wd} {x1 : Int32} {x2 : Int32} {r0 : Int32} {w1 : Wd} (hF : f_L_setRatchet w x1 x2 = some (r0, w1)) : vx_Met l yL_setRatchet wsL_setRatchet ({ frames := 9, cells := 1, slots := 6, locals := 153 } : Room) (va_Pc [.ref (gAd G 0), .int x1, .int x2, .ref (gAd G 151)] (Rel G w)) (amQ G (oI r0) w1) (fun _ _ _ => False) 1 6 (gA G) := by
  refine am_metW (own := RL) (cc := cL_setRatchet) (maxL := 5) (ret := (some .int)) (by decide +kernel) rfl rfl (Nat.le_of_ble_eq_true rfl) ?_
  intro p e s m args below meth c ab H locs ls X hr htb hh hl
  have hx := X.1.1; have hb := X.1.2.1; have hml := X.1.2.2.1; have hown := X.1.2.2.2.1; have hts := X.1.2.2.2.2
  have hl : lv_has ls 5 [(0, .ref (gAd G 0)), (1, .int x1), (2, .int x2), (3, .ref (gAd G 151))] := hl
  unfold f_L_setRatchet at hF
  refine lv_aload_n hx hb dL_setRatchet_0 rfl (lv_at hl 3 rfl) ?_
  refine lv_iconst (v := (0 : Int32)) hx hb dL_setRatchet_1 (by decide) ?_
  refine lv_aload_n hx hb dL_setRatchet_2 rfl (lv_at hl 0 rfl) ?_
  refine lv_iload_n hx hb dL_setRatchet_3 rfl (lv_at hl 1 rfl) ?_
  refine lv_iload_n hx hb dL_setRatchet_4 rfl (lv_at hl 2 rfl) ?_
  obtain ⟨⟨z4, w3⟩, hk1, hF⟩ := am_bind hF
  have hF := am_u2 hF
  refine am_callX X hh (vx_runV (As := [.int x1, .int x2]) (rest := [.int (0 : Int32), .ref (gAd G 151)]) X.1 (c_X10_setRatchet l G hst hk1) (cwV 2 hts gL_setRatchet_X10_setRatchet rfl rfl rfl (by decide +kernel) ⟨Nat.le_of_ble_eq_true rfl, Nat.le_of_ble_eq_true rfl⟩) (am_preV X hh 0 11 (by decide) rfl rfl) rfl rfl hl.1 rfl (lv_room (Nat.le_of_ble_eq_true rfl)) dL_setRatchet_5 ⟨Nat.le_of_ble_eq_true rfl, Nat.le_of_ble_eq_true rfl⟩) (fun k ab H locs ce q hz hh hce hcv hcl => ?_) (fun r2 ab H locs hz hh => ?_)
  · subst hz
    have hF := am_zl hF
    by_cases he5 : k = 0
    · subst he5
      have hF := am_pos rfl hF
      refine vx_catch (own := RL) (name := exN 0) (E := exN 0) hown [] ⟨0, 17, 20, 21⟩ [] (htb.trans rfl) (List.forall_mem_nil _) (by decide) (by decide) (hts _ (show Cond.classLink RL 21 "java/lang/IndexOutOfBoundsException" ∈ wsL_setRatchet by decide +kernel)) ((X.2.2.1.2.2.2.1 0).use rfl) hce hcv hcl ?_
      refine lv_astore (lv' := [(4, .ref q), (0, .ref (gAd G 0)), (1, .int x1), (2, .int x2), (3, .ref (gAd G 151))]) hx hb dL_setRatchet_20 hl (by decide) rfl (fun ls hl => ?_)
      refine lv_iconst (v := (1 : Int32)) hx hb dL_setRatchet_22 (by decide) ?_
      exact am_iret X hr hh (fun t ht => am_qw (mk := oI) hF ht) (Nat.le_of_ble_eq_true rfl) (Nat.le_of_ble_eq_true rfl) dL_setRatchet_23
    · have hF := am_neg he5 hF
      cases hF
  · subst hz
    have hF := am_zr hF
    refine lv_if_eq (tgt := 15) hx hb dL_setRatchet_8 (by decide) (fun hc6 => ?_) (fun hc6 => ?_)
    · have hF := am_pos hc6 hF
      refine lv_lconst (v := (0 : Int64)) hx hb dL_setRatchet_15 (by decide) ?_
      obtain ⟨hq7, hF⟩ := am_ifR hF
      refine am_last X hh 151 (by decide) rfl hq7 dL_setRatchet_16 (fun H locs hh => ?_)
      obtain ⟨w8, hw8, hF⟩ := am_wl hF
      have hh := AH_eq hw8 hh
      refine lv_goto (tgt := 24) hx hb dL_setRatchet_17 (by decide) ?_
      refine lv_iconst (v := (0 : Int32)) hx hb dL_setRatchet_24 (by decide) ?_
      exact am_iret X hr hh (fun t ht => am_qw (mk := oI) hF ht) (Nat.le_of_ble_eq_true rfl) (Nat.le_of_ble_eq_true rfl) dL_setRatchet_25
    · have hF := am_neg hc6 hF
      refine lv_lconst (v := (1 : Int64)) hx hb dL_setRatchet_11 (by decide) ?_
      refine lv_goto (tgt := 16) hx hb dL_setRatchet_12 (by decide) ?_
      obtain ⟨hq9, hF⟩ := am_ifR hF
      refine am_last X hh 151 (by decide) rfl hq9 dL_setRatchet_16 (fun H locs hh => ?_)
      obtain ⟨w10, hw10, hF⟩ := am_wl hF
      have hh := AH_eq hw10 hh
      refine lv_goto (tgt := 24) hx hb dL_setRatchet_17 (by decide) ?_
      refine lv_iconst (v := (0 : Int32)) hx hb dL_setRatchet_24 (by decide) ?_
      exact am_iret X hr hh (fun t ht => am_qw (mk := oI) hF ht) (Nat.le_of_ble_eq_true rfl) (Nat.le_of_ble_eq_true rfl) dL_setRatchet_25
set_option maxHeartbeats 4000000 in
set_option maxRecDepth 100000 in
theorem c_L_oil (l : Launch) (G : GG) (hst : l.stackTraces = false) {w : Wd} {x1 : Int32} {r0 : Int32} {w1 : Wd} (hF : f_L_oil w x1 = some (r0, w1)) : vx_Met l yL_oil wsL_oil ({ frames := 9, cells := 1, slots := 6, locals := 152 } : Room) (va_Pc [.ref (gAd G 0), .int x1, .ref (gAd G 151)] (Rel G w)) (amQ G (oI r0) w1) (fun _ _ _ => False) 1 6 (gA G) := by
  refine am_metW (own := RL) (cc := cL_oil) (maxL := 4) (ret := (some .int)) (by decide +kernel) rfl rfl (Nat.le_of_ble_eq_true rfl) ?_
  intro p e s m args below meth c ab H locs ls X hr htb hh hl
  have hx := X.1.1; have hb := X.1.2.1; have hml := X.1.2.2.1; have hown := X.1.2.2.2.1; have hts := X.1.2.2.2.2
  have hl : lv_has ls 4 [(0, .ref (gAd G 0)), (1, .int x1), (2, .ref (gAd G 151))] := hl
  unfold f_L_oil at hF
  refine lv_aload_n hx hb dL_oil_0 rfl (lv_at hl 2 rfl) ?_
  refine lv_iconst (v := (0 : Int32)) hx hb dL_oil_1 (by decide) ?_
  refine lv_aload_n hx hb dL_oil_2 rfl (lv_at hl 0 rfl) ?_
  refine lv_iload_n hx hb dL_oil_3 rfl (lv_at hl 1 rfl) ?_
  obtain ⟨⟨z4, w3⟩, hk1, hF⟩ := am_bind hF
  have hF := am_u2 hF
  refine am_callX X hh (vx_runV (As := [.int x1]) (rest := [.int (0 : Int32), .ref (gAd G 151)]) X.1 (c_X10_oil l G hst hk1) (cwV 1 hts gL_oil_X10_oil rfl rfl rfl (by decide +kernel) ⟨Nat.le_of_ble_eq_true rfl, Nat.le_of_ble_eq_true rfl⟩) (am_preV X hh 0 11 (by decide) rfl rfl) rfl rfl hl.1 rfl (lv_room (Nat.le_of_ble_eq_true rfl)) dL_oil_4 ⟨Nat.le_of_ble_eq_true rfl, Nat.le_of_ble_eq_true rfl⟩) (fun k ab H locs ce q hz hh hce hcv hcl => ?_) (fun r2 ab H locs hz hh => ?_)
  · subst hz
    have hF := am_zl hF
    by_cases he5 : k = 0
    · subst he5
      have hF := am_pos rfl hF
      refine vx_catch (own := RL) (name := exN 0) (E := exN 0) hown [] ⟨0, 9, 12, 21⟩ [⟨0, 9, 15, 15⟩, ⟨0, 9, 18, 23⟩] (htb.trans rfl) (List.forall_mem_nil _) (by decide) (by decide) (hts _ (show Cond.classLink RL 21 "java/lang/IndexOutOfBoundsException" ∈ wsL_oil by decide +kernel)) ((X.2.2.1.2.2.2.1 0).use rfl) hce hcv hcl ?_
      refine lv_astore_n (lv' := [(3, .ref q), (0, .ref (gAd G 0)), (1, .int x1), (2, .ref (gAd G 151))]) hx hb dL_oil_12 rfl hl (by decide) rfl (fun ls hl => ?_)
      refine lv_iconst (v := (1 : Int32)) hx hb dL_oil_13 (by decide) ?_
      exact am_iret X hr hh (fun t ht => am_qw (mk := oI) hF ht) (Nat.le_of_ble_eq_true rfl) (Nat.le_of_ble_eq_true rfl) dL_oil_14
    · have hF := am_neg he5 hF
      by_cases he6 : k = 2
      · subst he6
        have hF := am_pos rfl hF
        refine vx_catch (own := RL) (name := exN 2) (E := exN 2) hown [⟨0, 9, 12, 21⟩] ⟨0, 9, 15, 15⟩ [⟨0, 9, 18, 23⟩] (htb.trans rfl) (List.forall_mem_cons.mpr ⟨Or.inr ⟨by decide, exN 0, hts _ (show Cond.classLink RL 21 "java/lang/IndexOutOfBoundsException" ∈ wsL_oil by decide +kernel), X.2.2.1.2.2.2.2.1 2 0 (by decide) (by decide) (by decide)⟩, List.forall_mem_nil _⟩) (by decide) (by decide) (hts _ (show Cond.classLink RL 15 "java/lang/IllegalStateException" ∈ wsL_oil by decide +kernel)) ((X.2.2.1.2.2.2.1 2).use rfl) hce hcv hcl ?_
        refine lv_astore_n (lv' := [(3, .ref q), (0, .ref (gAd G 0)), (1, .int x1), (2, .ref (gAd G 151))]) hx hb dL_oil_15 rfl hl (by decide) rfl (fun ls hl => ?_)
        refine lv_iconst (v := (2 : Int32)) hx hb dL_oil_16 (by decide) ?_
        exact am_iret X hr hh (fun t ht => am_qw (mk := oI) hF ht) (Nat.le_of_ble_eq_true rfl) (Nat.le_of_ble_eq_true rfl) dL_oil_17
      · have hF := am_neg he6 hF
        by_cases he7 : k = 3
        · subst he7
          have hF := am_pos rfl hF
          refine vx_catch (own := RL) (name := exN 3) (E := exN 3) hown [⟨0, 9, 12, 21⟩, ⟨0, 9, 15, 15⟩] ⟨0, 9, 18, 23⟩ [] (htb.trans rfl) (List.forall_mem_cons.mpr ⟨Or.inr ⟨by decide, exN 0, hts _ (show Cond.classLink RL 21 "java/lang/IndexOutOfBoundsException" ∈ wsL_oil by decide +kernel), X.2.2.1.2.2.2.2.1 3 0 (by decide) (by decide) (by decide)⟩, List.forall_mem_cons.mpr ⟨Or.inr ⟨by decide, exN 2, hts _ (show Cond.classLink RL 15 "java/lang/IllegalStateException" ∈ wsL_oil by decide +kernel), X.2.2.1.2.2.2.2.1 3 2 (by decide) (by decide) (by decide)⟩, List.forall_mem_nil _⟩⟩) (by decide) (by decide) (hts _ (show Cond.classLink RL 23 "java/lang/UnsupportedOperationException" ∈ wsL_oil by decide +kernel)) ((X.2.2.1.2.2.2.1 3).use rfl) hce hcv hcl ?_
          refine lv_astore_n (lv' := [(3, .ref q), (0, .ref (gAd G 0)), (1, .int x1), (2, .ref (gAd G 151))]) hx hb dL_oil_18 rfl hl (by decide) rfl (fun ls hl => ?_)
          refine lv_iconst (v := (3 : Int32)) hx hb dL_oil_19 (by decide) ?_
          exact am_iret X hr hh (fun t ht => am_qw (mk := oI) hF ht) (Nat.le_of_ble_eq_true rfl) (Nat.le_of_ble_eq_true rfl) dL_oil_20
        · have hF := am_neg he7 hF
          cases hF
  · subst hz
    have hF := am_zr hF
    refine lv_i2l hx hb dL_oil_7 rfl ?_
    obtain ⟨hq8, hF⟩ := am_ifR hF
    refine am_last X hh 151 (by decide) rfl hq8 dL_oil_8 (fun H locs hh => ?_)
    obtain ⟨w9, hw9, hF⟩ := am_wl hF
    have hh := AH_eq hw9 hh
    refine lv_goto (tgt := 21) hx hb dL_oil_9 (by decide) ?_
    refine lv_iconst (v := (0 : Int32)) hx hb dL_oil_21 (by decide) ?_
    exact am_iret X hr hh (fun t ht => am_qw (mk := oI) hF ht) (Nat.le_of_ble_eq_true rfl) (Nat.le_of_ble_eq_true rfl) dL_oil_22
set_option maxHeartbeats 4000000 in
set_option maxRecDepth 100000 in
theorem c_L_buyOil (l : Launch) (G : GG) (hst : l.stackTraces = false) {w : Wd} {x1 : Int32} {r0 : Int32} {w1 : Wd} (hF : f_L_buyOil w x1 = some (r0, w1)) : vx_Met l yL_buyOil wsL_buyOil ({ frames := 9, cells := 1, slots := 6, locals := 152 } : Room) (va_Pc [.ref (gAd G 0), .int x1, .ref (gAd G 151)] (Rel G w)) (amQ G (oI r0) w1) (fun _ _ _ => False) 1 6 (gA G) := by
  refine am_metW (own := RL) (cc := cL_buyOil) (maxL := 4) (ret := (some .int)) (by decide +kernel) rfl rfl (Nat.le_of_ble_eq_true rfl) ?_
  intro p e s m args below meth c ab H locs ls X hr htb hh hl
  have hx := X.1.1; have hb := X.1.2.1; have hml := X.1.2.2.1; have hown := X.1.2.2.2.1; have hts := X.1.2.2.2.2
  have hl : lv_has ls 4 [(0, .ref (gAd G 0)), (1, .int x1), (2, .ref (gAd G 151))] := hl
  unfold f_L_buyOil at hF
  refine lv_aload_n hx hb dL_buyOil_0 rfl (lv_at hl 2 rfl) ?_
  refine lv_iconst (v := (0 : Int32)) hx hb dL_buyOil_1 (by decide) ?_
  refine lv_aload_n hx hb dL_buyOil_2 rfl (lv_at hl 0 rfl) ?_
  refine lv_iload_n hx hb dL_buyOil_3 rfl (lv_at hl 1 rfl) ?_
  obtain ⟨⟨z4, w3⟩, hk1, hF⟩ := am_bind hF
  have hF := am_u2 hF
  refine am_callX X hh (vx_runV (As := [.int x1]) (rest := [.int (0 : Int32), .ref (gAd G 151)]) X.1 (c_X10_buyOil l G hst hk1) (cwV 1 hts gL_buyOil_X10_buyOil rfl rfl rfl (by decide +kernel) ⟨Nat.le_of_ble_eq_true rfl, Nat.le_of_ble_eq_true rfl⟩) (am_preV X hh 0 11 (by decide) rfl rfl) rfl rfl hl.1 rfl (lv_room (Nat.le_of_ble_eq_true rfl)) dL_buyOil_4 ⟨Nat.le_of_ble_eq_true rfl, Nat.le_of_ble_eq_true rfl⟩) (fun k ab H locs ce q hz hh hce hcv hcl => ?_) (fun r2 ab H locs hz hh => ?_)
  · subst hz
    have hF := am_zl hF
    by_cases he5 : k = 1
    · subst he5
      have hF := am_pos rfl hF
      refine vx_catch (own := RL) (name := exN 1) (E := exN 1) hown [] ⟨0, 9, 12, 13⟩ [⟨0, 9, 15, 15⟩] (htb.trans rfl) (List.forall_mem_nil _) (by decide) (by decide) (hts _ (show Cond.classLink RL 13 "java/lang/IllegalArgumentException" ∈ wsL_buyOil by decide +kernel)) ((X.2.2.1.2.2.2.1 1).use rfl) hce hcv hcl ?_
      refine lv_astore_n (lv' := [(3, .ref q), (0, .ref (gAd G 0)), (1, .int x1), (2, .ref (gAd G 151))]) hx hb dL_buyOil_12 rfl hl (by decide) rfl (fun ls hl => ?_)
      refine lv_iconst (v := (1 : Int32)) hx hb dL_buyOil_13 (by decide) ?_
      exact am_iret X hr hh (fun t ht => am_qw (mk := oI) hF ht) (Nat.le_of_ble_eq_true rfl) (Nat.le_of_ble_eq_true rfl) dL_buyOil_14
    · have hF := am_neg he5 hF
      by_cases he6 : k = 2
      · subst he6
        have hF := am_pos rfl hF
        refine vx_catch (own := RL) (name := exN 2) (E := exN 2) hown [⟨0, 9, 12, 13⟩] ⟨0, 9, 15, 15⟩ [] (htb.trans rfl) (List.forall_mem_cons.mpr ⟨Or.inr ⟨by decide, exN 1, hts _ (show Cond.classLink RL 13 "java/lang/IllegalArgumentException" ∈ wsL_buyOil by decide +kernel), X.2.2.1.2.2.2.2.1 2 1 (by decide) (by decide) (by decide)⟩, List.forall_mem_nil _⟩) (by decide) (by decide) (hts _ (show Cond.classLink RL 15 "java/lang/IllegalStateException" ∈ wsL_buyOil by decide +kernel)) ((X.2.2.1.2.2.2.1 2).use rfl) hce hcv hcl ?_
        refine lv_astore_n (lv' := [(3, .ref q), (0, .ref (gAd G 0)), (1, .int x1), (2, .ref (gAd G 151))]) hx hb dL_buyOil_15 rfl hl (by decide) rfl (fun ls hl => ?_)
        refine lv_iconst (v := (2 : Int32)) hx hb dL_buyOil_16 (by decide) ?_
        exact am_iret X hr hh (fun t ht => am_qw (mk := oI) hF ht) (Nat.le_of_ble_eq_true rfl) (Nat.le_of_ble_eq_true rfl) dL_buyOil_17
      · have hF := am_neg he6 hF
        cases hF
  · subst hz
    have hF := am_zr hF
    refine lv_i2l hx hb dL_buyOil_7 rfl ?_
    obtain ⟨hq7, hF⟩ := am_ifR hF
    refine am_last X hh 151 (by decide) rfl hq7 dL_buyOil_8 (fun H locs hh => ?_)
    obtain ⟨w8, hw8, hF⟩ := am_wl hF
    have hh := AH_eq hw8 hh
    refine lv_goto (tgt := 18) hx hb dL_buyOil_9 (by decide) ?_
    refine lv_iconst (v := (0 : Int32)) hx hb dL_buyOil_18 (by decide) ?_
    exact am_iret X hr hh (fun t ht => am_qw (mk := oI) hF ht) (Nat.le_of_ble_eq_true rfl) (Nat.le_of_ble_eq_true rfl) dL_buyOil_19
set_option maxHeartbeats 4000000 in
set_option maxRecDepth 100000 in
theorem c_L_addPlanet (l : Launch) (G : GG) (hst : l.stackTraces = false) {w : Wd} {x1 : Int32} {r0 : Int32} {w1 : Wd} (hF : f_L_addPlanet w x1 = some (r0, w1)) : vx_Met l yL_addPlanet wsL_addPlanet ({ frames := 9, cells := 1, slots := 6, locals := 152 } : Room) (va_Pc [.ref (gAd G 0), .int x1, .ref (gAd G 151)] (Rel G w)) (amQ G (oI r0) w1) (fun _ _ _ => False) 1 6 (gA G) := by
  refine am_metW (own := RL) (cc := cL_addPlanet) (maxL := 4) (ret := (some .int)) (by decide +kernel) rfl rfl (Nat.le_of_ble_eq_true rfl) ?_
  intro p e s m args below meth c ab H locs ls X hr htb hh hl
  have hx := X.1.1; have hb := X.1.2.1; have hml := X.1.2.2.1; have hown := X.1.2.2.2.1; have hts := X.1.2.2.2.2
  have hl : lv_has ls 4 [(0, .ref (gAd G 0)), (1, .int x1), (2, .ref (gAd G 151))] := hl
  unfold f_L_addPlanet at hF
  refine lv_aload_n hx hb dL_addPlanet_0 rfl (lv_at hl 2 rfl) ?_
  refine lv_iconst (v := (0 : Int32)) hx hb dL_addPlanet_1 (by decide) ?_
  refine lv_aload_n hx hb dL_addPlanet_2 rfl (lv_at hl 0 rfl) ?_
  refine lv_iload_n hx hb dL_addPlanet_3 rfl (lv_at hl 1 rfl) ?_
  obtain ⟨⟨z4, w3⟩, hk1, hF⟩ := am_bind hF
  have hF := am_u2 hF
  refine am_callX X hh (vx_runV (As := [.int x1]) (rest := [.int (0 : Int32), .ref (gAd G 151)]) X.1 (c_X10_addPlanet l G hst hk1) (cwV 1 hts gL_addPlanet_X10_addPlanet rfl rfl rfl (by decide +kernel) ⟨Nat.le_of_ble_eq_true rfl, Nat.le_of_ble_eq_true rfl⟩) (am_preV X hh 0 11 (by decide) rfl rfl) rfl rfl hl.1 rfl (lv_room (Nat.le_of_ble_eq_true rfl)) dL_addPlanet_4 ⟨Nat.le_of_ble_eq_true rfl, Nat.le_of_ble_eq_true rfl⟩) (fun k ab H locs ce q hz hh hce hcv hcl => ?_) (fun r2 ab H locs hz hh => ?_)
  · subst hz
    have hF := am_zl hF
    by_cases he5 : k = 0
    · subst he5
      have hF := am_pos rfl hF
      refine vx_catch (own := RL) (name := exN 0) (E := exN 0) hown [] ⟨0, 9, 12, 21⟩ [⟨0, 9, 15, 15⟩] (htb.trans rfl) (List.forall_mem_nil _) (by decide) (by decide) (hts _ (show Cond.classLink RL 21 "java/lang/IndexOutOfBoundsException" ∈ wsL_addPlanet by decide +kernel)) ((X.2.2.1.2.2.2.1 0).use rfl) hce hcv hcl ?_
      refine lv_astore_n (lv' := [(3, .ref q), (0, .ref (gAd G 0)), (1, .int x1), (2, .ref (gAd G 151))]) hx hb dL_addPlanet_12 rfl hl (by decide) rfl (fun ls hl => ?_)
      refine lv_iconst (v := (1 : Int32)) hx hb dL_addPlanet_13 (by decide) ?_
      exact am_iret X hr hh (fun t ht => am_qw (mk := oI) hF ht) (Nat.le_of_ble_eq_true rfl) (Nat.le_of_ble_eq_true rfl) dL_addPlanet_14
    · have hF := am_neg he5 hF
      by_cases he6 : k = 2
      · subst he6
        have hF := am_pos rfl hF
        refine vx_catch (own := RL) (name := exN 2) (E := exN 2) hown [⟨0, 9, 12, 21⟩] ⟨0, 9, 15, 15⟩ [] (htb.trans rfl) (List.forall_mem_cons.mpr ⟨Or.inr ⟨by decide, exN 0, hts _ (show Cond.classLink RL 21 "java/lang/IndexOutOfBoundsException" ∈ wsL_addPlanet by decide +kernel), X.2.2.1.2.2.2.2.1 2 0 (by decide) (by decide) (by decide)⟩, List.forall_mem_nil _⟩) (by decide) (by decide) (hts _ (show Cond.classLink RL 15 "java/lang/IllegalStateException" ∈ wsL_addPlanet by decide +kernel)) ((X.2.2.1.2.2.2.1 2).use rfl) hce hcv hcl ?_
        refine lv_astore_n (lv' := [(3, .ref q), (0, .ref (gAd G 0)), (1, .int x1), (2, .ref (gAd G 151))]) hx hb dL_addPlanet_15 rfl hl (by decide) rfl (fun ls hl => ?_)
        refine lv_iconst (v := (2 : Int32)) hx hb dL_addPlanet_16 (by decide) ?_
        exact am_iret X hr hh (fun t ht => am_qw (mk := oI) hF ht) (Nat.le_of_ble_eq_true rfl) (Nat.le_of_ble_eq_true rfl) dL_addPlanet_17
      · have hF := am_neg he6 hF
        cases hF
  · subst hz
    have hF := am_zr hF
    refine lv_i2l hx hb dL_addPlanet_7 rfl ?_
    obtain ⟨hq7, hF⟩ := am_ifR hF
    refine am_last X hh 151 (by decide) rfl hq7 dL_addPlanet_8 (fun H locs hh => ?_)
    obtain ⟨w8, hw8, hF⟩ := am_wl hF
    have hh := AH_eq hw8 hh
    refine lv_goto (tgt := 18) hx hb dL_addPlanet_9 (by decide) ?_
    refine lv_iconst (v := (0 : Int32)) hx hb dL_addPlanet_18 (by decide) ?_
    exact am_iret X hr hh (fun t ht => am_qw (mk := oI) hF ht) (Nat.le_of_ble_eq_true rfl) (Nat.le_of_ble_eq_true rfl) dL_addPlanet_19
set_option maxHeartbeats 4000000 in
set_option maxRecDepth 100000 in
theorem c_L_unitsPerTurn (l : Launch) (G : GG) (hst : l.stackTraces = false) {w : Wd} {x1 : Int32} {x2 : Int32} {r0 : Int32} {w1 : Wd} (hF : f_L_unitsPerTurn w x1 x2 = some (r0, w1)) : vx_Met l yL_unitsPerTurn wsL_unitsPerTurn ({ frames := 9, cells := 3, slots := 18, locals := 155 } : Room) (va_Pc [.ref (gAd G 0), .int x1, .int x2, .ref (gAd G 151)] (Rel G w)) (amQ G (oI r0) w1) (fun _ _ _ => False) 3 18 (gA G) := by
  refine am_metW (own := RL) (cc := cL_unitsPerTurn) (maxL := 5) (ret := (some .int)) (by decide +kernel) rfl rfl (Nat.le_of_ble_eq_true rfl) ?_
  intro p e s m args below meth c ab H locs ls X hr htb hh hl
  have hx := X.1.1; have hb := X.1.2.1; have hml := X.1.2.2.1; have hown := X.1.2.2.2.1; have hts := X.1.2.2.2.2
  have hl : lv_has ls 5 [(0, .ref (gAd G 0)), (1, .int x1), (2, .int x2), (3, .ref (gAd G 151))] := hl
  unfold f_L_unitsPerTurn at hF
  refine lv_aload_n hx hb dL_unitsPerTurn_0 rfl (lv_at hl 3 rfl) ?_
  refine lv_iconst (v := (0 : Int32)) hx hb dL_unitsPerTurn_1 (by decide) ?_
  refine lv_aload_n hx hb dL_unitsPerTurn_2 rfl (lv_at hl 0 rfl) ?_
  refine lv_iload_n hx hb dL_unitsPerTurn_3 rfl (lv_at hl 1 rfl) ?_
  refine lv_iload_n hx hb dL_unitsPerTurn_4 rfl (lv_at hl 2 rfl) ?_
  obtain ⟨⟨z4, w3⟩, hk1, hF⟩ := am_bind hF
  have hF := am_u2 hF
  refine am_callX X hh (vx_runV (As := [.int x1, .int x2]) (rest := [.int (0 : Int32), .ref (gAd G 151)]) X.1 (c_X10_unitsPerTurn l G hst hk1) (cwV 2 hts gL_unitsPerTurn_X10_unitsPerTurn rfl rfl rfl (by decide +kernel) ⟨Nat.le_of_ble_eq_true rfl, Nat.le_of_ble_eq_true rfl⟩) (am_preV X hh 0 11 (by decide) rfl rfl) rfl rfl hl.1 rfl (lv_room (Nat.le_of_ble_eq_true rfl)) dL_unitsPerTurn_5 ⟨Nat.le_of_ble_eq_true rfl, Nat.le_of_ble_eq_true rfl⟩) (fun k ab H locs ce q hz hh hce hcv hcl => ?_) (fun r2 ab H locs hz hh => ?_)
  · subst hz
    have hF := am_zl hF
    by_cases he5 : k = 0
    · subst he5
      have hF := am_pos rfl hF
      refine vx_catch (own := RL) (name := exN 0) (E := exN 0) hown [] ⟨0, 9, 12, 21⟩ [⟨0, 9, 16, 31⟩] (htb.trans rfl) (List.forall_mem_nil _) (by decide) (by decide) (hts _ (show Cond.classLink RL 21 "java/lang/IndexOutOfBoundsException" ∈ wsL_unitsPerTurn by decide +kernel)) ((X.2.2.1.2.2.2.1 0).use rfl) hce hcv hcl ?_
      refine lv_astore (lv' := [(4, .ref q), (0, .ref (gAd G 0)), (1, .int x1), (2, .int x2), (3, .ref (gAd G 151))]) hx hb dL_unitsPerTurn_12 hl (by decide) rfl (fun ls hl => ?_)
      refine lv_iconst (v := (1 : Int32)) hx hb dL_unitsPerTurn_14 (by decide) ?_
      exact am_iret X hr hh (fun t ht => am_qw (mk := oI) hF ht) (Nat.le_of_ble_eq_true rfl) (Nat.le_of_ble_eq_true rfl) dL_unitsPerTurn_15
    · have hF := am_neg he5 hF
      by_cases he6 : k = 4
      · subst he6
        have hF := am_pos rfl hF
        refine vx_catch (own := RL) (name := exN 4) (E := exN 4) hown [⟨0, 9, 12, 21⟩] ⟨0, 9, 16, 31⟩ [] (htb.trans rfl) (List.forall_mem_cons.mpr ⟨Or.inr ⟨by decide, exN 0, hts _ (show Cond.classLink RL 21 "java/lang/IndexOutOfBoundsException" ∈ wsL_unitsPerTurn by decide +kernel), X.2.2.1.2.2.2.2.1 4 0 (by decide) (by decide) (by decide)⟩, List.forall_mem_nil _⟩) (by decide) (by decide) (hts _ (show Cond.classLink RL 31 "java/util/NoSuchElementException" ∈ wsL_unitsPerTurn by decide +kernel)) ((X.2.2.1.2.2.2.1 4).use rfl) hce hcv hcl ?_
        refine lv_astore (lv' := [(4, .ref q), (0, .ref (gAd G 0)), (1, .int x1), (2, .int x2), (3, .ref (gAd G 151))]) hx hb dL_unitsPerTurn_16 hl (by decide) rfl (fun ls hl => ?_)
        refine lv_iconst (v := (2 : Int32)) hx hb dL_unitsPerTurn_18 (by decide) ?_
        exact am_iret X hr hh (fun t ht => am_qw (mk := oI) hF ht) (Nat.le_of_ble_eq_true rfl) (Nat.le_of_ble_eq_true rfl) dL_unitsPerTurn_19
      · have hF := am_neg he6 hF
        cases hF
  · subst hz
    have hF := am_zr hF
    obtain ⟨hq7, hF⟩ := am_ifR hF
    refine am_last X hh 151 (by decide) rfl hq7 dL_unitsPerTurn_8 (fun H locs hh => ?_)
    obtain ⟨w8, hw8, hF⟩ := am_wl hF
    have hh := AH_eq hw8 hh
    refine lv_goto (tgt := 20) hx hb dL_unitsPerTurn_9 (by decide) ?_
    refine lv_iconst (v := (0 : Int32)) hx hb dL_unitsPerTurn_20 (by decide) ?_
    exact am_iret X hr hh (fun t ht => am_qw (mk := oI) hF ht) (Nat.le_of_ble_eq_true rfl) (Nat.le_of_ble_eq_true rfl) dL_unitsPerTurn_21
set_option maxHeartbeats 4000000 in
set_option maxRecDepth 100000 in
theorem c_L_unitsPerTurnByLowest (l : Launch) (G : GG) (hst : l.stackTraces = false) {w : Wd} {x1 : Int32} {x2 : Int32} {r0 : Int32} {w1 : Wd} (hF : f_L_unitsPerTurnByLowest w x1 x2 = some (r0, w1)) : vx_Met l yL_unitsPerTurnByLowest wsL_unitsPerTurnByLowest ({ frames := 9, cells := 3, slots := 18, locals := 155 } : Room) (va_Pc [.ref (gAd G 0), .int x1, .int x2, .ref (gAd G 151)] (Rel G w)) (amQ G (oI r0) w1) (fun _ _ _ => False) 3 18 (gA G) := by
  refine am_metW (own := RL) (cc := cL_unitsPerTurnByLowest) (maxL := 5) (ret := (some .int)) (by decide +kernel) rfl rfl (Nat.le_of_ble_eq_true rfl) ?_
  intro p e s m args below meth c ab H locs ls X hr htb hh hl
  have hx := X.1.1; have hb := X.1.2.1; have hml := X.1.2.2.1; have hown := X.1.2.2.2.1; have hts := X.1.2.2.2.2
  have hl : lv_has ls 5 [(0, .ref (gAd G 0)), (1, .int x1), (2, .int x2), (3, .ref (gAd G 151))] := hl
  unfold f_L_unitsPerTurnByLowest at hF
  refine lv_aload_n hx hb dL_unitsPerTurnByLowest_0 rfl (lv_at hl 3 rfl) ?_
  refine lv_iconst (v := (0 : Int32)) hx hb dL_unitsPerTurnByLowest_1 (by decide) ?_
  refine lv_aload_n hx hb dL_unitsPerTurnByLowest_2 rfl (lv_at hl 0 rfl) ?_
  refine lv_iload_n hx hb dL_unitsPerTurnByLowest_3 rfl (lv_at hl 1 rfl) ?_
  refine lv_iload_n hx hb dL_unitsPerTurnByLowest_4 rfl (lv_at hl 2 rfl) ?_
  obtain ⟨⟨z4, w3⟩, hk1, hF⟩ := am_bind hF
  have hF := am_u2 hF
  refine am_callX X hh (vx_runV (As := [.int x1, .int x2]) (rest := [.int (0 : Int32), .ref (gAd G 151)]) X.1 (c_X10_unitsPerTurnByLowest l G hst hk1) (cwV 2 hts gL_unitsPerTurnByLowest_X10_unitsPerTurnByLowest rfl rfl rfl (by decide +kernel) ⟨Nat.le_of_ble_eq_true rfl, Nat.le_of_ble_eq_true rfl⟩) (am_preV X hh 0 11 (by decide) rfl rfl) rfl rfl hl.1 rfl (lv_room (Nat.le_of_ble_eq_true rfl)) dL_unitsPerTurnByLowest_5 ⟨Nat.le_of_ble_eq_true rfl, Nat.le_of_ble_eq_true rfl⟩) (fun k ab H locs ce q hz hh hce hcv hcl => ?_) (fun r2 ab H locs hz hh => ?_)
  · subst hz
    have hF := am_zl hF
    by_cases he5 : k = 0
    · subst he5
      have hF := am_pos rfl hF
      refine vx_catch (own := RL) (name := exN 0) (E := exN 0) hown [] ⟨0, 9, 12, 21⟩ [⟨0, 9, 16, 31⟩] (htb.trans rfl) (List.forall_mem_nil _) (by decide) (by decide) (hts _ (show Cond.classLink RL 21 "java/lang/IndexOutOfBoundsException" ∈ wsL_unitsPerTurnByLowest by decide +kernel)) ((X.2.2.1.2.2.2.1 0).use rfl) hce hcv hcl ?_
      refine lv_astore (lv' := [(4, .ref q), (0, .ref (gAd G 0)), (1, .int x1), (2, .int x2), (3, .ref (gAd G 151))]) hx hb dL_unitsPerTurnByLowest_12 hl (by decide) rfl (fun ls hl => ?_)
      refine lv_iconst (v := (1 : Int32)) hx hb dL_unitsPerTurnByLowest_14 (by decide) ?_
      exact am_iret X hr hh (fun t ht => am_qw (mk := oI) hF ht) (Nat.le_of_ble_eq_true rfl) (Nat.le_of_ble_eq_true rfl) dL_unitsPerTurnByLowest_15
    · have hF := am_neg he5 hF
      by_cases he6 : k = 4
      · subst he6
        have hF := am_pos rfl hF
        refine vx_catch (own := RL) (name := exN 4) (E := exN 4) hown [⟨0, 9, 12, 21⟩] ⟨0, 9, 16, 31⟩ [] (htb.trans rfl) (List.forall_mem_cons.mpr ⟨Or.inr ⟨by decide, exN 0, hts _ (show Cond.classLink RL 21 "java/lang/IndexOutOfBoundsException" ∈ wsL_unitsPerTurnByLowest by decide +kernel), X.2.2.1.2.2.2.2.1 4 0 (by decide) (by decide) (by decide)⟩, List.forall_mem_nil _⟩) (by decide) (by decide) (hts _ (show Cond.classLink RL 31 "java/util/NoSuchElementException" ∈ wsL_unitsPerTurnByLowest by decide +kernel)) ((X.2.2.1.2.2.2.1 4).use rfl) hce hcv hcl ?_
        refine lv_astore (lv' := [(4, .ref q), (0, .ref (gAd G 0)), (1, .int x1), (2, .int x2), (3, .ref (gAd G 151))]) hx hb dL_unitsPerTurnByLowest_16 hl (by decide) rfl (fun ls hl => ?_)
        refine lv_iconst (v := (2 : Int32)) hx hb dL_unitsPerTurnByLowest_18 (by decide) ?_
        exact am_iret X hr hh (fun t ht => am_qw (mk := oI) hF ht) (Nat.le_of_ble_eq_true rfl) (Nat.le_of_ble_eq_true rfl) dL_unitsPerTurnByLowest_19
      · have hF := am_neg he6 hF
        cases hF
  · subst hz
    have hF := am_zr hF
    obtain ⟨hq7, hF⟩ := am_ifR hF
    refine am_last X hh 151 (by decide) rfl hq7 dL_unitsPerTurnByLowest_8 (fun H locs hh => ?_)
    obtain ⟨w8, hw8, hF⟩ := am_wl hF
    have hh := AH_eq hw8 hh
    refine lv_goto (tgt := 20) hx hb dL_unitsPerTurnByLowest_9 (by decide) ?_
    refine lv_iconst (v := (0 : Int32)) hx hb dL_unitsPerTurnByLowest_20 (by decide) ?_
    exact am_iret X hr hh (fun t ht => am_qw (mk := oI) hF ht) (Nat.le_of_ble_eq_true rfl) (Nat.le_of_ble_eq_true rfl) dL_unitsPerTurnByLowest_21
set_option maxHeartbeats 4000000 in
set_option maxRecDepth 100000 in
theorem c_L_nextEclipse (l : Launch) (G : GG) (hst : l.stackTraces = false) {w : Wd} {x1 : Int32} {x2 : Int32} {x3 : Int32} {r0 : Int32} {w1 : Wd} (hF : f_L_nextEclipse w x1 x2 x3 = some (r0, w1)) : vx_Met l yL_nextEclipse wsL_nextEclipse ({ frames := 8, cells := 2, slots := 12, locals := 157 } : Room) (va_Pc [.ref (gAd G 0), .int x1, .int x2, .int x3, .ref (gAd G 151)] (Rel G w)) (amQ G (oI r0) w1) (fun _ _ _ => False) 2 12 (gA G) := by
  refine am_metW (own := RL) (cc := cL_nextEclipse) (maxL := 6) (ret := (some .int)) (by decide +kernel) rfl rfl (Nat.le_of_ble_eq_true rfl) ?_
  intro p e s m args below meth c ab H locs ls X hr htb hh hl
  have hx := X.1.1; have hb := X.1.2.1; have hml := X.1.2.2.1; have hown := X.1.2.2.2.1; have hts := X.1.2.2.2.2
  have hl : lv_has ls 6 [(0, .ref (gAd G 0)), (1, .int x1), (2, .int x2), (3, .int x3), (4, .ref (gAd G 151))] := hl
  unfold f_L_nextEclipse at hF
  refine lv_aload hx hb dL_nextEclipse_0 (lv_at hl 4 rfl) ?_
  refine lv_iconst (v := (0 : Int32)) hx hb dL_nextEclipse_2 (by decide) ?_
  refine lv_aload_n hx hb dL_nextEclipse_3 rfl (lv_at hl 0 rfl) ?_
  refine lv_iload_n hx hb dL_nextEclipse_4 rfl (lv_at hl 1 rfl) ?_
  refine lv_iload_n hx hb dL_nextEclipse_5 rfl (lv_at hl 2 rfl) ?_
  refine lv_iload_n hx hb dL_nextEclipse_6 rfl (lv_at hl 3 rfl) ?_
  obtain ⟨⟨z4, w3⟩, hk1, hF⟩ := am_bind hF
  have hF := am_u2 hF
  refine am_callX X hh (vx_runV (As := [.int x1, .int x2, .int x3]) (rest := [.int (0 : Int32), .ref (gAd G 151)]) X.1 (c_X10_nextEclipse l G hst hk1) (cwV 3 hts gL_nextEclipse_X10_nextEclipse rfl rfl rfl (by decide +kernel) ⟨Nat.le_of_ble_eq_true rfl, Nat.le_of_ble_eq_true rfl⟩) (am_preV X hh 0 11 (by decide) rfl rfl) rfl rfl hl.1 rfl (lv_room (Nat.le_of_ble_eq_true rfl)) dL_nextEclipse_7 ⟨Nat.le_of_ble_eq_true rfl, Nat.le_of_ble_eq_true rfl⟩) (fun k ab H locs ce q hz hh hce hcv hcl => ?_) (fun r2 ab H locs hz hh => ?_)
  · subst hz
    have hF := am_zl hF
    by_cases he5 : k = 0
    · subst he5
      have hF := am_pos rfl hF
      refine vx_catch (own := RL) (name := exN 0) (E := exN 0) hown [] ⟨0, 12, 15, 21⟩ [⟨0, 12, 19, 13⟩, ⟨0, 12, 23, 15⟩, ⟨0, 12, 27, 31⟩] (htb.trans rfl) (List.forall_mem_nil _) (by decide) (by decide) (hts _ (show Cond.classLink RL 21 "java/lang/IndexOutOfBoundsException" ∈ wsL_nextEclipse by decide +kernel)) ((X.2.2.1.2.2.2.1 0).use rfl) hce hcv hcl ?_
      refine lv_astore (lv' := [(5, .ref q), (0, .ref (gAd G 0)), (1, .int x1), (2, .int x2), (3, .int x3), (4, .ref (gAd G 151))]) hx hb dL_nextEclipse_15 hl (by decide) rfl (fun ls hl => ?_)
      refine lv_iconst (v := (1 : Int32)) hx hb dL_nextEclipse_17 (by decide) ?_
      exact am_iret X hr hh (fun t ht => am_qw (mk := oI) hF ht) (Nat.le_of_ble_eq_true rfl) (Nat.le_of_ble_eq_true rfl) dL_nextEclipse_18
    · have hF := am_neg he5 hF
      by_cases he6 : k = 1
      · subst he6
        have hF := am_pos rfl hF
        refine vx_catch (own := RL) (name := exN 1) (E := exN 1) hown [⟨0, 12, 15, 21⟩] ⟨0, 12, 19, 13⟩ [⟨0, 12, 23, 15⟩, ⟨0, 12, 27, 31⟩] (htb.trans rfl) (List.forall_mem_cons.mpr ⟨Or.inr ⟨by decide, exN 0, hts _ (show Cond.classLink RL 21 "java/lang/IndexOutOfBoundsException" ∈ wsL_nextEclipse by decide +kernel), X.2.2.1.2.2.2.2.1 1 0 (by decide) (by decide) (by decide)⟩, List.forall_mem_nil _⟩) (by decide) (by decide) (hts _ (show Cond.classLink RL 13 "java/lang/IllegalArgumentException" ∈ wsL_nextEclipse by decide +kernel)) ((X.2.2.1.2.2.2.1 1).use rfl) hce hcv hcl ?_
        refine lv_astore (lv' := [(5, .ref q), (0, .ref (gAd G 0)), (1, .int x1), (2, .int x2), (3, .int x3), (4, .ref (gAd G 151))]) hx hb dL_nextEclipse_19 hl (by decide) rfl (fun ls hl => ?_)
        refine lv_iconst (v := (2 : Int32)) hx hb dL_nextEclipse_21 (by decide) ?_
        exact am_iret X hr hh (fun t ht => am_qw (mk := oI) hF ht) (Nat.le_of_ble_eq_true rfl) (Nat.le_of_ble_eq_true rfl) dL_nextEclipse_22
      · have hF := am_neg he6 hF
        by_cases he7 : k = 2
        · subst he7
          have hF := am_pos rfl hF
          refine vx_catch (own := RL) (name := exN 2) (E := exN 2) hown [⟨0, 12, 15, 21⟩, ⟨0, 12, 19, 13⟩] ⟨0, 12, 23, 15⟩ [⟨0, 12, 27, 31⟩] (htb.trans rfl) (List.forall_mem_cons.mpr ⟨Or.inr ⟨by decide, exN 0, hts _ (show Cond.classLink RL 21 "java/lang/IndexOutOfBoundsException" ∈ wsL_nextEclipse by decide +kernel), X.2.2.1.2.2.2.2.1 2 0 (by decide) (by decide) (by decide)⟩, List.forall_mem_cons.mpr ⟨Or.inr ⟨by decide, exN 1, hts _ (show Cond.classLink RL 13 "java/lang/IllegalArgumentException" ∈ wsL_nextEclipse by decide +kernel), X.2.2.1.2.2.2.2.1 2 1 (by decide) (by decide) (by decide)⟩, List.forall_mem_nil _⟩⟩) (by decide) (by decide) (hts _ (show Cond.classLink RL 15 "java/lang/IllegalStateException" ∈ wsL_nextEclipse by decide +kernel)) ((X.2.2.1.2.2.2.1 2).use rfl) hce hcv hcl ?_
          refine lv_astore (lv' := [(5, .ref q), (0, .ref (gAd G 0)), (1, .int x1), (2, .int x2), (3, .int x3), (4, .ref (gAd G 151))]) hx hb dL_nextEclipse_23 hl (by decide) rfl (fun ls hl => ?_)
          refine lv_iconst (v := (3 : Int32)) hx hb dL_nextEclipse_25 (by decide) ?_
          exact am_iret X hr hh (fun t ht => am_qw (mk := oI) hF ht) (Nat.le_of_ble_eq_true rfl) (Nat.le_of_ble_eq_true rfl) dL_nextEclipse_26
        · have hF := am_neg he7 hF
          by_cases he8 : k = 4
          · subst he8
            have hF := am_pos rfl hF
            refine vx_catch (own := RL) (name := exN 4) (E := exN 4) hown [⟨0, 12, 15, 21⟩, ⟨0, 12, 19, 13⟩, ⟨0, 12, 23, 15⟩] ⟨0, 12, 27, 31⟩ [] (htb.trans rfl) (List.forall_mem_cons.mpr ⟨Or.inr ⟨by decide, exN 0, hts _ (show Cond.classLink RL 21 "java/lang/IndexOutOfBoundsException" ∈ wsL_nextEclipse by decide +kernel), X.2.2.1.2.2.2.2.1 4 0 (by decide) (by decide) (by decide)⟩, List.forall_mem_cons.mpr ⟨Or.inr ⟨by decide, exN 1, hts _ (show Cond.classLink RL 13 "java/lang/IllegalArgumentException" ∈ wsL_nextEclipse by decide +kernel), X.2.2.1.2.2.2.2.1 4 1 (by decide) (by decide) (by decide)⟩, List.forall_mem_cons.mpr ⟨Or.inr ⟨by decide, exN 2, hts _ (show Cond.classLink RL 15 "java/lang/IllegalStateException" ∈ wsL_nextEclipse by decide +kernel), X.2.2.1.2.2.2.2.1 4 2 (by decide) (by decide) (by decide)⟩, List.forall_mem_nil _⟩⟩⟩) (by decide) (by decide) (hts _ (show Cond.classLink RL 31 "java/util/NoSuchElementException" ∈ wsL_nextEclipse by decide +kernel)) ((X.2.2.1.2.2.2.1 4).use rfl) hce hcv hcl ?_
            refine lv_astore (lv' := [(5, .ref q), (0, .ref (gAd G 0)), (1, .int x1), (2, .int x2), (3, .int x3), (4, .ref (gAd G 151))]) hx hb dL_nextEclipse_27 hl (by decide) rfl (fun ls hl => ?_)
            refine lv_iconst (v := (4 : Int32)) hx hb dL_nextEclipse_29 (by decide) ?_
            exact am_iret X hr hh (fun t ht => am_qw (mk := oI) hF ht) (Nat.le_of_ble_eq_true rfl) (Nat.le_of_ble_eq_true rfl) dL_nextEclipse_30
          · have hF := am_neg he8 hF
            cases hF
  · subst hz
    have hF := am_zr hF
    refine lv_i2l hx hb dL_nextEclipse_10 rfl ?_
    obtain ⟨hq9, hF⟩ := am_ifR hF
    refine am_last X hh 151 (by decide) rfl hq9 dL_nextEclipse_11 (fun H locs hh => ?_)
    obtain ⟨w10, hw10, hF⟩ := am_wl hF
    have hh := AH_eq hw10 hh
    refine lv_goto (tgt := 31) hx hb dL_nextEclipse_12 (by decide) ?_
    refine lv_iconst (v := (0 : Int32)) hx hb dL_nextEclipse_31 (by decide) ?_
    exact am_iret X hr hh (fun t ht => am_qw (mk := oI) hF ht) (Nat.le_of_ble_eq_true rfl) (Nat.le_of_ble_eq_true rfl) dL_nextEclipse_32
