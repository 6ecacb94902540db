set_option maxHeartbeats 4000000 in
set_option maxRecDepth 100000 in
theorem c_L_nextEclipseByTurns (l : Launch) (G : GG) (hst : l.stackTraces = false) {w : Wd} {x1 : Int32} {x2 : Int32} {x3 : Int32} {r0 : Int32} {w1 : Wd} (hF : f_L_nextEclipseByTurns w x1 x2 x3 = some (r0, w1)) : vx_Met l yL_nextEclipseByTurns wsL_nextEclipseByTurns ({ frames := 8, cells := 2, slots := 12, locals := 152 } : Room) (va_Pc [.ref (gAd G 0), .int x1, .int x2, .int x3, .ref (gAd G 151)] (Rel G w)) (amQ G (oI r0) w1) (fun _ _ _ => False) 2 12 (gA G) := by
  refine am_metW (own := RL) (cc := cL_nextEclipseByTurns) (maxL := 6) (ret := (some .int)) (by decide +kernel) rfl rfl (Nat.le_of_ble_eq_true rfl) ?_
  intro p e s m args below meth c ab H locs ls X hr htb hh hl
  have hx := X.1.1; have hb := X.1.2.1; have hml := X.1.2.2.1; have hown := X.1.2.2.2.1; have hts := X.1.2.2.2.2
  have hl : lv_has ls 6 [(0, .ref (gAd G 0)), (1, .int x1), (2, .int x2), (3, .int x3), (4, .ref (gAd G 151))] := hl
  unfold f_L_nextEclipseByTurns at hF
  refine lv_aload hx hb dL_nextEclipseByTurns_0 (lv_at hl 4 rfl) ?_
  refine lv_iconst (v := (0 : Int32)) hx hb dL_nextEclipseByTurns_2 (by decide) ?_
  refine lv_aload_n hx hb dL_nextEclipseByTurns_3 rfl (lv_at hl 0 rfl) ?_
  refine lv_iload_n hx hb dL_nextEclipseByTurns_4 rfl (lv_at hl 1 rfl) ?_
  refine lv_iload_n hx hb dL_nextEclipseByTurns_5 rfl (lv_at hl 2 rfl) ?_
  refine lv_iload_n hx hb dL_nextEclipseByTurns_6 rfl (lv_at hl 3 rfl) ?_
  obtain ⟨⟨z4, w3⟩, hk1, hF⟩ := am_bind hF
  have hF := am_u2 hF
  refine am_callX X hh (vx_runV (As := [.int x1, .int x2, .int x3]) (rest := [.int (0 : Int32), .ref (gAd G 151)]) X.1 (c_X10_nextEclipseByTurns l G hst hk1) (cwV 3 hts gL_nextEclipseByTurns_X10_nextEclipseByTurns rfl rfl rfl (by decide +kernel) ⟨Nat.le_of_ble_eq_true rfl, Nat.le_of_ble_eq_true rfl⟩) (am_preV X hh 0 11 (by decide) rfl rfl) rfl rfl hl.1 rfl (lv_room (Nat.le_of_ble_eq_true rfl)) dL_nextEclipseByTurns_7 ⟨Nat.le_of_ble_eq_true rfl, Nat.le_of_ble_eq_true rfl⟩) (fun k ab H locs ce q hz hh hce hcv hcl => ?_) (fun r2 ab H locs hz hh => ?_)
  · subst hz
    have hF := am_zl hF
    by_cases he5 : k = 0
    · subst he5
      have hF := am_pos rfl hF
      refine vx_catch (own := RL) (name := exN 0) (E := exN 0) hown [] ⟨0, 12, 15, 21⟩ [⟨0, 12, 19, 13⟩, ⟨0, 12, 23, 15⟩, ⟨0, 12, 27, 31⟩] (htb.trans rfl) (List.forall_mem_nil _) (by decide) (by decide) (hts _ (show Cond.classLink RL 21 "java/lang/IndexOutOfBoundsException" ∈ wsL_nextEclipseByTurns by decide +kernel)) ((X.2.2.1.2.2.2.1 0).use rfl) hce hcv hcl ?_
      refine lv_astore (lv' := [(5, .ref q), (0, .ref (gAd G 0)), (1, .int x1), (2, .int x2), (3, .int x3), (4, .ref (gAd G 151))]) hx hb dL_nextEclipseByTurns_15 hl (by decide) rfl (fun ls hl => ?_)
      refine lv_iconst (v := (1 : Int32)) hx hb dL_nextEclipseByTurns_17 (by decide) ?_
      exact am_iret X hr hh (fun t ht => am_qw (mk := oI) hF ht) (Nat.le_of_ble_eq_true rfl) (Nat.le_of_ble_eq_true rfl) dL_nextEclipseByTurns_18
    · have hF := am_neg he5 hF
      by_cases he6 : k = 1
      · subst he6
        have hF := am_pos rfl hF
        refine vx_catch (own := RL) (name := exN 1) (E := exN 1) hown [⟨0, 12, 15, 21⟩] ⟨0, 12, 19, 13⟩ [⟨0, 12, 23, 15⟩, ⟨0, 12, 27, 31⟩] (htb.trans rfl) (List.forall_mem_cons.mpr ⟨Or.inr ⟨by decide, exN 0, hts _ (show Cond.classLink RL 21 "java/lang/IndexOutOfBoundsException" ∈ wsL_nextEclipseByTurns by decide +kernel), X.2.2.1.2.2.2.2.1 1 0 (by decide) (by decide) (by decide)⟩, List.forall_mem_nil _⟩) (by decide) (by decide) (hts _ (show Cond.classLink RL 13 "java/lang/IllegalArgumentException" ∈ wsL_nextEclipseByTurns by decide +kernel)) ((X.2.2.1.2.2.2.1 1).use rfl) hce hcv hcl ?_
        refine lv_astore (lv' := [(5, .ref q), (0, .ref (gAd G 0)), (1, .int x1), (2, .int x2), (3, .int x3), (4, .ref (gAd G 151))]) hx hb dL_nextEclipseByTurns_19 hl (by decide) rfl (fun ls hl => ?_)
        refine lv_iconst (v := (2 : Int32)) hx hb dL_nextEclipseByTurns_21 (by decide) ?_
        exact am_iret X hr hh (fun t ht => am_qw (mk := oI) hF ht) (Nat.le_of_ble_eq_true rfl) (Nat.le_of_ble_eq_true rfl) dL_nextEclipseByTurns_22
      · have hF := am_neg he6 hF
        by_cases he7 : k = 2
        · subst he7
          have hF := am_pos rfl hF
          refine vx_catch (own := RL) (name := exN 2) (E := exN 2) hown [⟨0, 12, 15, 21⟩, ⟨0, 12, 19, 13⟩] ⟨0, 12, 23, 15⟩ [⟨0, 12, 27, 31⟩] (htb.trans rfl) (List.forall_mem_cons.mpr ⟨Or.inr ⟨by decide, exN 0, hts _ (show Cond.classLink RL 21 "java/lang/IndexOutOfBoundsException" ∈ wsL_nextEclipseByTurns by decide +kernel), X.2.2.1.2.2.2.2.1 2 0 (by decide) (by decide) (by decide)⟩, List.forall_mem_cons.mpr ⟨Or.inr ⟨by decide, exN 1, hts _ (show Cond.classLink RL 13 "java/lang/IllegalArgumentException" ∈ wsL_nextEclipseByTurns by decide +kernel), X.2.2.1.2.2.2.2.1 2 1 (by decide) (by decide) (by decide)⟩, List.forall_mem_nil _⟩⟩) (by decide) (by decide) (hts _ (show Cond.classLink RL 15 "java/lang/IllegalStateException" ∈ wsL_nextEclipseByTurns by decide +kernel)) ((X.2.2.1.2.2.2.1 2).use rfl) hce hcv hcl ?_
          refine lv_astore (lv' := [(5, .ref q), (0, .ref (gAd G 0)), (1, .int x1), (2, .int x2), (3, .int x3), (4, .ref (gAd G 151))]) hx hb dL_nextEclipseByTurns_23 hl (by decide) rfl (fun ls hl => ?_)
          refine lv_iconst (v := (3 : Int32)) hx hb dL_nextEclipseByTurns_25 (by decide) ?_
          exact am_iret X hr hh (fun t ht => am_qw (mk := oI) hF ht) (Nat.le_of_ble_eq_true rfl) (Nat.le_of_ble_eq_true rfl) dL_nextEclipseByTurns_26
        · have hF := am_neg he7 hF
          by_cases he8 : k = 4
          · subst he8
            have hF := am_pos rfl hF
            refine vx_catch (own := RL) (name := exN 4) (E := exN 4) hown [⟨0, 12, 15, 21⟩, ⟨0, 12, 19, 13⟩, ⟨0, 12, 23, 15⟩] ⟨0, 12, 27, 31⟩ [] (htb.trans rfl) (List.forall_mem_cons.mpr ⟨Or.inr ⟨by decide, exN 0, hts _ (show Cond.classLink RL 21 "java/lang/IndexOutOfBoundsException" ∈ wsL_nextEclipseByTurns by decide +kernel), X.2.2.1.2.2.2.2.1 4 0 (by decide) (by decide) (by decide)⟩, List.forall_mem_cons.mpr ⟨Or.inr ⟨by decide, exN 1, hts _ (show Cond.classLink RL 13 "java/lang/IllegalArgumentException" ∈ wsL_nextEclipseByTurns by decide +kernel), X.2.2.1.2.2.2.2.1 4 1 (by decide) (by decide) (by decide)⟩, List.forall_mem_cons.mpr ⟨Or.inr ⟨by decide, exN 2, hts _ (show Cond.classLink RL 15 "java/lang/IllegalStateException" ∈ wsL_nextEclipseByTurns by decide +kernel), X.2.2.1.2.2.2.2.1 4 2 (by decide) (by decide) (by decide)⟩, List.forall_mem_nil _⟩⟩⟩) (by decide) (by decide) (hts _ (show Cond.classLink RL 31 "java/util/NoSuchElementException" ∈ wsL_nextEclipseByTurns by decide +kernel)) ((X.2.2.1.2.2.2.1 4).use rfl) hce hcv hcl ?_
            refine lv_astore (lv' := [(5, .ref q), (0, .ref (gAd G 0)), (1, .int x1), (2, .int x2), (3, .int x3), (4, .ref (gAd G 151))]) hx hb dL_nextEclipseByTurns_27 hl (by decide) rfl (fun ls hl => ?_)
            refine lv_iconst (v := (4 : Int32)) hx hb dL_nextEclipseByTurns_29 (by decide) ?_
            exact am_iret X hr hh (fun t ht => am_qw (mk := oI) hF ht) (Nat.le_of_ble_eq_true rfl) (Nat.le_of_ble_eq_true rfl) dL_nextEclipseByTurns_30
          · have hF := am_neg he8 hF
            cases hF
  · subst hz
    have hF := am_zr hF
    refine lv_i2l hx hb dL_nextEclipseByTurns_10 rfl ?_
    obtain ⟨hq9, hF⟩ := am_ifR hF
    refine am_last X hh 151 (by decide) rfl hq9 dL_nextEclipseByTurns_11 (fun H locs hh => ?_)
    obtain ⟨w10, hw10, hF⟩ := am_wl hF
    have hh := AH_eq hw10 hh
    refine lv_goto (tgt := 31) hx hb dL_nextEclipseByTurns_12 (by decide) ?_
    refine lv_iconst (v := (0 : Int32)) hx hb dL_nextEclipseByTurns_31 (by decide) ?_
    exact am_iret X hr hh (fun t ht => am_qw (mk := oI) hF ht) (Nat.le_of_ble_eq_true rfl) (Nat.le_of_ble_eq_true rfl) dL_nextEclipseByTurns_32
set_option maxHeartbeats 4000000 in
set_option maxRecDepth 100000 in
theorem c_L_release (l : Launch) (G : GG) (hst : l.stackTraces = false) {w : Wd} {x1 : Int32} {x2 : Int32} {r0 : Int32} {w1 : Wd} (hF : f_L_release w x1 x2 = some (r0, w1)) : vx_Met l yL_release wsL_release ({ frames := 9, cells := 1, slots := 6, locals := 153 } : Room) (va_Pc [.ref (gAd G 0), .int x1, .int x2, .ref (gAd G 151)] (Rel G w)) (amQ G (oI r0) w1) (fun _ _ _ => False) 1 6 (gA G) := by
  refine am_metW (own := RL) (cc := cL_release) (maxL := 5) (ret := (some .int)) (by decide +kernel) rfl rfl (Nat.le_of_ble_eq_true rfl) ?_
  intro p e s m args below meth c ab H locs ls X hr htb hh hl
  have hx := X.1.1; have hb := X.1.2.1; have hml := X.1.2.2.1; have hown := X.1.2.2.2.1; have hts := X.1.2.2.2.2
  have hl : lv_has ls 5 [(0, .ref (gAd G 0)), (1, .int x1), (2, .int x2), (3, .ref (gAd G 151))] := hl
  unfold f_L_release at hF
  refine lv_aload_n hx hb dL_release_0 rfl (lv_at hl 3 rfl) ?_
  refine lv_iconst (v := (0 : Int32)) hx hb dL_release_1 (by decide) ?_
  refine lv_aload_n hx hb dL_release_2 rfl (lv_at hl 0 rfl) ?_
  refine lv_iload_n hx hb dL_release_3 rfl (lv_at hl 1 rfl) ?_
  refine lv_iload_n hx hb dL_release_4 rfl (lv_at hl 2 rfl) ?_
  obtain ⟨⟨z4, w3⟩, hk1, hF⟩ := am_bind hF
  have hF := am_u2 hF
  refine am_callX X hh (vx_runV (As := [.int x1, .int x2]) (rest := [.int (0 : Int32), .ref (gAd G 151)]) X.1 (c_X10_release l G hst hk1) (cwV 2 hts gL_release_X10_release rfl rfl rfl (by decide +kernel) ⟨Nat.le_of_ble_eq_true rfl, Nat.le_of_ble_eq_true rfl⟩) (am_preV X hh 0 11 (by decide) rfl rfl) rfl rfl hl.1 rfl (lv_room (Nat.le_of_ble_eq_true rfl)) dL_release_5 ⟨Nat.le_of_ble_eq_true rfl, Nat.le_of_ble_eq_true rfl⟩) (fun k ab H locs ce q hz hh hce hcv hcl => ?_) (fun r2 ab H locs hz hh => ?_)
  · subst hz
    have hF := am_zl hF
    by_cases he5 : k = 0
    · subst he5
      have hF := am_pos rfl hF
      refine vx_catch (own := RL) (name := exN 0) (E := exN 0) hown [] ⟨0, 10, 13, 21⟩ [⟨0, 10, 17, 13⟩, ⟨0, 10, 21, 31⟩, ⟨0, 10, 25, 23⟩] (htb.trans rfl) (List.forall_mem_nil _) (by decide) (by decide) (hts _ (show Cond.classLink RL 21 "java/lang/IndexOutOfBoundsException" ∈ wsL_release by decide +kernel)) ((X.2.2.1.2.2.2.1 0).use rfl) hce hcv hcl ?_
      refine lv_astore (lv' := [(4, .ref q), (0, .ref (gAd G 0)), (1, .int x1), (2, .int x2), (3, .ref (gAd G 151))]) hx hb dL_release_13 hl (by decide) rfl (fun ls hl => ?_)
      refine lv_iconst (v := (1 : Int32)) hx hb dL_release_15 (by decide) ?_
      exact am_iret X hr hh (fun t ht => am_qw (mk := oI) hF ht) (Nat.le_of_ble_eq_true rfl) (Nat.le_of_ble_eq_true rfl) dL_release_16
    · have hF := am_neg he5 hF
      by_cases he6 : k = 1
      · subst he6
        have hF := am_pos rfl hF
        refine vx_catch (own := RL) (name := exN 1) (E := exN 1) hown [⟨0, 10, 13, 21⟩] ⟨0, 10, 17, 13⟩ [⟨0, 10, 21, 31⟩, ⟨0, 10, 25, 23⟩] (htb.trans rfl) (List.forall_mem_cons.mpr ⟨Or.inr ⟨by decide, exN 0, hts _ (show Cond.classLink RL 21 "java/lang/IndexOutOfBoundsException" ∈ wsL_release by decide +kernel), X.2.2.1.2.2.2.2.1 1 0 (by decide) (by decide) (by decide)⟩, List.forall_mem_nil _⟩) (by decide) (by decide) (hts _ (show Cond.classLink RL 13 "java/lang/IllegalArgumentException" ∈ wsL_release by decide +kernel)) ((X.2.2.1.2.2.2.1 1).use rfl) hce hcv hcl ?_
        refine lv_astore (lv' := [(4, .ref q), (0, .ref (gAd G 0)), (1, .int x1), (2, .int x2), (3, .ref (gAd G 151))]) hx hb dL_release_17 hl (by decide) rfl (fun ls hl => ?_)
        refine lv_iconst (v := (2 : Int32)) hx hb dL_release_19 (by decide) ?_
        exact am_iret X hr hh (fun t ht => am_qw (mk := oI) hF ht) (Nat.le_of_ble_eq_true rfl) (Nat.le_of_ble_eq_true rfl) dL_release_20
      · have hF := am_neg he6 hF
        by_cases he7 : k = 4
        · subst he7
          have hF := am_pos rfl hF
          refine vx_catch (own := RL) (name := exN 4) (E := exN 4) hown [⟨0, 10, 13, 21⟩, ⟨0, 10, 17, 13⟩] ⟨0, 10, 21, 31⟩ [⟨0, 10, 25, 23⟩] (htb.trans rfl) (List.forall_mem_cons.mpr ⟨Or.inr ⟨by decide, exN 0, hts _ (show Cond.classLink RL 21 "java/lang/IndexOutOfBoundsException" ∈ wsL_release by decide +kernel), X.2.2.1.2.2.2.2.1 4 0 (by decide) (by decide) (by decide)⟩, List.forall_mem_cons.mpr ⟨Or.inr ⟨by decide, exN 1, hts _ (show Cond.classLink RL 13 "java/lang/IllegalArgumentException" ∈ wsL_release by decide +kernel), X.2.2.1.2.2.2.2.1 4 1 (by decide) (by decide) (by decide)⟩, List.forall_mem_nil _⟩⟩) (by decide) (by decide) (hts _ (show Cond.classLink RL 31 "java/util/NoSuchElementException" ∈ wsL_release by decide +kernel)) ((X.2.2.1.2.2.2.1 4).use rfl) hce hcv hcl ?_
          refine lv_astore (lv' := [(4, .ref q), (0, .ref (gAd G 0)), (1, .int x1), (2, .int x2), (3, .ref (gAd G 151))]) hx hb dL_release_21 hl (by decide) rfl (fun ls hl => ?_)
          refine lv_iconst (v := (3 : Int32)) hx hb dL_release_23 (by decide) ?_
          exact am_iret X hr hh (fun t ht => am_qw (mk := oI) hF ht) (Nat.le_of_ble_eq_true rfl) (Nat.le_of_ble_eq_true rfl) dL_release_24
        · have hF := am_neg he7 hF
          by_cases he8 : k = 3
          · subst he8
            have hF := am_pos rfl hF
            refine vx_catch (own := RL) (name := exN 3) (E := exN 3) hown [⟨0, 10, 13, 21⟩, ⟨0, 10, 17, 13⟩, ⟨0, 10, 21, 31⟩] ⟨0, 10, 25, 23⟩ [] (htb.trans rfl) (List.forall_mem_cons.mpr ⟨Or.inr ⟨by decide, exN 0, hts _ (show Cond.classLink RL 21 "java/lang/IndexOutOfBoundsException" ∈ wsL_release by decide +kernel), X.2.2.1.2.2.2.2.1 3 0 (by decide) (by decide) (by decide)⟩, List.forall_mem_cons.mpr ⟨Or.inr ⟨by decide, exN 1, hts _ (show Cond.classLink RL 13 "java/lang/IllegalArgumentException" ∈ wsL_release by decide +kernel), X.2.2.1.2.2.2.2.1 3 1 (by decide) (by decide) (by decide)⟩, List.forall_mem_cons.mpr ⟨Or.inr ⟨by decide, exN 4, hts _ (show Cond.classLink RL 31 "java/util/NoSuchElementException" ∈ wsL_release by decide +kernel), X.2.2.1.2.2.2.2.1 3 4 (by decide) (by decide) (by decide)⟩, List.forall_mem_nil _⟩⟩⟩) (by decide) (by decide) (hts _ (show Cond.classLink RL 23 "java/lang/UnsupportedOperationException" ∈ wsL_release by decide +kernel)) ((X.2.2.1.2.2.2.1 3).use rfl) hce hcv hcl ?_
            refine lv_astore (lv' := [(4, .ref q), (0, .ref (gAd G 0)), (1, .int x1), (2, .int x2), (3, .ref (gAd G 151))]) hx hb dL_release_25 hl (by decide) rfl (fun ls hl => ?_)
            refine lv_iconst (v := (4 : Int32)) hx hb dL_release_27 (by decide) ?_
            exact am_iret X hr hh (fun t ht => am_qw (mk := oI) hF ht) (Nat.le_of_ble_eq_true rfl) (Nat.le_of_ble_eq_true rfl) dL_release_28
          · have hF := am_neg he8 hF
            cases hF
  · subst hz
    have hF := am_zr hF
    refine lv_i2l hx hb dL_release_8 rfl ?_
    obtain ⟨hq9, hF⟩ := am_ifR hF
    refine am_last X hh 151 (by decide) rfl hq9 dL_release_9 (fun H locs hh => ?_)
    obtain ⟨w10, hw10, hF⟩ := am_wl hF
    have hh := AH_eq hw10 hh
    refine lv_goto (tgt := 29) hx hb dL_release_10 (by decide) ?_
    refine lv_iconst (v := (0 : Int32)) hx hb dL_release_29 (by decide) ?_
    exact am_iret X hr hh (fun t ht => am_qw (mk := oI) hF ht) (Nat.le_of_ble_eq_true rfl) (Nat.le_of_ble_eq_true rfl) dL_release_30
set_option maxHeartbeats 4000000 in
set_option maxRecDepth 100000 in
theorem c_L_fewestPairsByTable (l : Launch) (G : GG) (hst : l.stackTraces = false) {w : Wd} {x1 : Int32} {x2 : Int32} {r0 : Int32} {w1 : Wd} (hF : f_L_fewestPairsByTable w x1 x2 = some (r0, w1)) : vx_Met l yL_fewestPairsByTable wsL_fewestPairsByTable ({ frames := 8, cells := 2, slots := 12, locals := 171 } : Room) (va_Pc [.ref (gAd G 0), .int x1, .int x2, .ref (gAd G 151)] (Rel G w)) (amQ G (oI r0) w1) (fun _ _ _ => False) 2 12 (gA G) := by
  refine am_metW (own := RL) (cc := cL_fewestPairsByTable) (maxL := 5) (ret := (some .int)) (by decide +kernel) rfl rfl (Nat.le_of_ble_eq_true rfl) ?_
  intro p e s m args below meth c ab H locs ls X hr htb hh hl
  have hx := X.1.1; have hb := X.1.2.1; have hml := X.1.2.2.1; have hown := X.1.2.2.2.1; have hts := X.1.2.2.2.2
  have hl : lv_has ls 5 [(0, .ref (gAd G 0)), (1, .int x1), (2, .int x2), (3, .ref (gAd G 151))] := hl
  unfold f_L_fewestPairsByTable at hF
  refine lv_aload_n hx hb dL_fewestPairsByTable_0 rfl (lv_at hl 3 rfl) ?_
  refine lv_iconst (v := (0 : Int32)) hx hb dL_fewestPairsByTable_1 (by decide) ?_
  refine lv_aload_n hx hb dL_fewestPairsByTable_2 rfl (lv_at hl 0 rfl) ?_
  refine lv_iload_n hx hb dL_fewestPairsByTable_3 rfl (lv_at hl 1 rfl) ?_
  refine lv_iload_n hx hb dL_fewestPairsByTable_4 rfl (lv_at hl 2 rfl) ?_
  obtain ⟨⟨z4, w3⟩, hk1, hF⟩ := am_bind hF
  have hF := am_u2 hF
  refine am_callX X hh (vx_runV (As := [.int x1, .int x2]) (rest := [.int (0 : Int32), .ref (gAd G 151)]) X.1 (c_X10_fewestPairsByTable l G hst hk1) (cwV 2 hts gL_fewestPairsByTable_X10_fewestPairsByTable rfl rfl rfl (by decide +kernel) ⟨Nat.le_of_ble_eq_true rfl, Nat.le_of_ble_eq_true rfl⟩) (am_preV X hh 0 11 (by decide) rfl rfl) rfl rfl hl.1 rfl (lv_room (Nat.le_of_ble_eq_true rfl)) dL_fewestPairsByTable_5 ⟨Nat.le_of_ble_eq_true rfl, Nat.le_of_ble_eq_true rfl⟩) (fun k ab H locs ce q hz hh hce hcv hcl => ?_) (fun r2 ab H locs hz hh => ?_)
  · subst hz
    have hF := am_zl hF
    by_cases he5 : k = 1
    · subst he5
      have hF := am_pos rfl hF
      refine vx_catch (own := RL) (name := exN 1) (E := exN 1) hown [] ⟨0, 10, 13, 13⟩ [⟨0, 10, 17, 31⟩] (htb.trans rfl) (List.forall_mem_nil _) (by decide) (by decide) (hts _ (show Cond.classLink RL 13 "java/lang/IllegalArgumentException" ∈ wsL_fewestPairsByTable by decide +kernel)) ((X.2.2.1.2.2.2.1 1).use rfl) hce hcv hcl ?_
      refine lv_astore (lv' := [(4, .ref q), (0, .ref (gAd G 0)), (1, .int x1), (2, .int x2), (3, .ref (gAd G 151))]) hx hb dL_fewestPairsByTable_13 hl (by decide) rfl (fun ls hl => ?_)
      refine lv_iconst (v := (1 : Int32)) hx hb dL_fewestPairsByTable_15 (by decide) ?_
      exact am_iret X hr hh (fun t ht => am_qw (mk := oI) hF ht) (Nat.le_of_ble_eq_true rfl) (Nat.le_of_ble_eq_true rfl) dL_fewestPairsByTable_16
    · have hF := am_neg he5 hF
      by_cases he6 : k = 4
      · subst he6
        have hF := am_pos rfl hF
        refine vx_catch (own := RL) (name := exN 4) (E := exN 4) hown [⟨0, 10, 13, 13⟩] ⟨0, 10, 17, 31⟩ [] (htb.trans rfl) (List.forall_mem_cons.mpr ⟨Or.inr ⟨by decide, exN 1, hts _ (show Cond.classLink RL 13 "java/lang/IllegalArgumentException" ∈ wsL_fewestPairsByTable by decide +kernel), X.2.2.1.2.2.2.2.1 4 1 (by decide) (by decide) (by decide)⟩, List.forall_mem_nil _⟩) (by decide) (by decide) (hts _ (show Cond.classLink RL 31 "java/util/NoSuchElementException" ∈ wsL_fewestPairsByTable by decide +kernel)) ((X.2.2.1.2.2.2.1 4).use rfl) hce hcv hcl ?_
        refine lv_astore (lv' := [(4, .ref q), (0, .ref (gAd G 0)), (1, .int x1), (2, .int x2), (3, .ref (gAd G 151))]) hx hb dL_fewestPairsByTable_17 hl (by decide) rfl (fun ls hl => ?_)
        refine lv_iconst (v := (2 : Int32)) hx hb dL_fewestPairsByTable_19 (by decide) ?_
        exact am_iret X hr hh (fun t ht => am_qw (mk := oI) hF ht) (Nat.le_of_ble_eq_true rfl) (Nat.le_of_ble_eq_true rfl) dL_fewestPairsByTable_20
      · have hF := am_neg he6 hF
        cases hF
  · subst hz
    have hF := am_zr hF
    refine lv_i2l hx hb dL_fewestPairsByTable_8 rfl ?_
    obtain ⟨hq7, hF⟩ := am_ifR hF
    refine am_last X hh 151 (by decide) rfl hq7 dL_fewestPairsByTable_9 (fun H locs hh => ?_)
    obtain ⟨w8, hw8, hF⟩ := am_wl hF
    have hh := AH_eq hw8 hh
    refine lv_goto (tgt := 21) hx hb dL_fewestPairsByTable_10 (by decide) ?_
    refine lv_iconst (v := (0 : Int32)) hx hb dL_fewestPairsByTable_21 (by decide) ?_
    exact am_iret X hr hh (fun t ht => am_qw (mk := oI) hF ht) (Nat.le_of_ble_eq_true rfl) (Nat.le_of_ble_eq_true rfl) dL_fewestPairsByTable_22
set_option maxHeartbeats 4000000 in
set_option maxRecDepth 100000 in
theorem c_L_runScript (l : Launch) (G : GG) (hst : l.stackTraces = false) {w : Wd} {r0 : Int32} {w1 : Wd} (hF : f_L_runScript w = some (r0, w1)) : vx_Met l yL_runScript wsL_runScript ({ frames := 9, cells := 1, slots := 6, locals := 200 } : Room) (va_Pc [.ref (gAd G 0), .ref (gAd G 151)] (Rel G w)) (amQ G (oI r0) w1) (fun _ _ _ => False) 1 6 (gA G) := by
  refine am_metW (own := RL) (cc := cL_runScript) (maxL := 3) (ret := (some .int)) (by decide +kernel) rfl rfl (Nat.le_of_ble_eq_true rfl) ?_
  intro p e s m args below meth c ab H locs ls X hr htb hh hl
  have hx := X.1.1; have hb := X.1.2.1; have hml := X.1.2.2.1; have hown := X.1.2.2.2.1; have hts := X.1.2.2.2.2
  have hl : lv_has ls 3 [(0, .ref (gAd G 0)), (1, .ref (gAd G 151))] := hl
  unfold f_L_runScript at hF
  refine lv_aload_n hx hb dL_runScript_0 rfl (lv_at hl 1 rfl) ?_
  refine lv_iconst (v := (0 : Int32)) hx hb dL_runScript_1 (by decide) ?_
  refine lv_aload_n hx hb dL_runScript_2 rfl (lv_at hl 0 rfl) ?_
  obtain ⟨⟨z4, w3⟩, hk1, hF⟩ := am_bind hF
  have hF := am_u2 hF
  refine am_callX X hh (vx_runV (As := []) (rest := [.int (0 : Int32), .ref (gAd G 151)]) X.1 (c_X10_runScript l G hst hk1) (cwV 0 hts gL_runScript_X10_runScript rfl rfl rfl (by decide +kernel) ⟨Nat.le_of_ble_eq_true rfl, Nat.le_of_ble_eq_true rfl⟩) (am_preV X hh 0 11 (by decide) rfl rfl) rfl rfl hl.1 rfl (lv_room (Nat.le_of_ble_eq_true rfl)) dL_runScript_3 ⟨Nat.le_of_ble_eq_true rfl, Nat.le_of_ble_eq_true rfl⟩) (fun k ab H locs ce q hz hh hce hcv hcl => ?_) (fun r2 ab H locs hz hh => ?_)
  · subst hz
    have hF := am_zl hF
    by_cases he5 : k = 1
    · subst he5
      have hF := am_pos rfl hF
      refine vx_catch (own := RL) (name := exN 1) (E := exN 1) hown [] ⟨0, 8, 11, 13⟩ [⟨0, 8, 14, 15⟩] (htb.trans rfl) (List.forall_mem_nil _) (by decide) (by decide) (hts _ (show Cond.classLink RL 13 "java/lang/IllegalArgumentException" ∈ wsL_runScript by decide +kernel)) ((X.2.2.1.2.2.2.1 1).use rfl) hce hcv hcl ?_
      refine lv_astore_n (lv' := [(2, .ref q), (0, .ref (gAd G 0)), (1, .ref (gAd G 151))]) hx hb dL_runScript_11 rfl hl (by decide) rfl (fun ls hl => ?_)
      refine lv_iconst (v := (1 : Int32)) hx hb dL_runScript_12 (by decide) ?_
      exact am_iret X hr hh (fun t ht => am_qw (mk := oI) hF ht) (Nat.le_of_ble_eq_true rfl) (Nat.le_of_ble_eq_true rfl) dL_runScript_13
    · have hF := am_neg he5 hF
      by_cases he6 : k = 2
      · subst he6
        have hF := am_pos rfl hF
        refine vx_catch (own := RL) (name := exN 2) (E := exN 2) hown [⟨0, 8, 11, 13⟩] ⟨0, 8, 14, 15⟩ [] (htb.trans rfl) (List.forall_mem_cons.mpr ⟨Or.inr ⟨by decide, exN 1, hts _ (show Cond.classLink RL 13 "java/lang/IllegalArgumentException" ∈ wsL_runScript by decide +kernel), X.2.2.1.2.2.2.2.1 2 1 (by decide) (by decide) (by decide)⟩, List.forall_mem_nil _⟩) (by decide) (by decide) (hts _ (show Cond.classLink RL 15 "java/lang/IllegalStateException" ∈ wsL_runScript by decide +kernel)) ((X.2.2.1.2.2.2.1 2).use rfl) hce hcv hcl ?_
        refine lv_astore_n (lv' := [(2, .ref q), (0, .ref (gAd G 0)), (1, .ref (gAd G 151))]) hx hb dL_runScript_14 rfl hl (by decide) rfl (fun ls hl => ?_)
        refine lv_iconst (v := (2 : Int32)) hx hb dL_runScript_15 (by decide) ?_
        exact am_iret X hr hh (fun t ht => am_qw (mk := oI) hF ht) (Nat.le_of_ble_eq_true rfl) (Nat.le_of_ble_eq_true rfl) dL_runScript_16
      · have hF := am_neg he6 hF
        cases hF
  · subst hz
    have hF := am_zr hF
    refine lv_i2l hx hb dL_runScript_6 rfl ?_
    obtain ⟨hq7, hF⟩ := am_ifR hF
    refine am_last X hh 151 (by decide) rfl hq7 dL_runScript_7 (fun H locs hh => ?_)
    obtain ⟨w8, hw8, hF⟩ := am_wl hF
    have hh := AH_eq hw8 hh
    refine lv_goto (tgt := 17) hx hb dL_runScript_8 (by decide) ?_
    refine lv_iconst (v := (0 : Int32)) hx hb dL_runScript_17 (by decide) ?_
    exact am_iret X hr hh (fun t ht => am_qw (mk := oI) hF ht) (Nat.le_of_ble_eq_true rfl) (Nat.le_of_ble_eq_true rfl) dL_runScript_18
