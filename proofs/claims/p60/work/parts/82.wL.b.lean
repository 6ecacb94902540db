def f_L_act (w : Wd) (x1 : Int32) (x2 : Int32) (x3 : Int32) : Option (Int32 × Wd) := (if x1 = (0 : Int32) then ((f_X10_addGear w x2).bind fun z => u2 z fun z w4 => zc z (fun k => (if k = 0 then (some ((-1 : Int32), w4)) else (if k = 1 then (some ((-2 : Int32), w4)) else (if k = 2 then (some ((-3 : Int32), w4)) else (if k = 3 then (some ((-4 : Int32), w4)) else (if k = 4 then (some ((-5 : Int32), w4)) else none)))))) (fun r3 => (some (r3, w4)))) else (if x1 = (1 : Int32) then ((f_X10_mesh w x2 x3).bind fun z => u2 z fun z w14 => zc z (fun k => (if k = 0 then (some ((-1 : Int32), w14)) else (if k = 1 then (some ((-2 : Int32), w14)) else (if k = 2 then (some ((-3 : Int32), w14)) else (if k = 3 then (some ((-4 : Int32), w14)) else (if k = 4 then (some ((-5 : Int32), w14)) else none)))))) (fun r13 => (some (r13, w14)))) else (if x1 = (2 : Int32) then ((f_X10_shareAxle w x2 x3).bind fun z => u2 z fun z w24 => zc z (fun k => (if k = 0 then (some ((-1 : Int32), w24)) else (if k = 1 then (some ((-2 : Int32), w24)) else (if k = 2 then (some ((-3 : Int32), w24)) else (if k = 3 then (some ((-4 : Int32), w24)) else (if k = 4 then (some ((-5 : Int32), w24)) else none)))))) (fun r23 => (some (r23, w24)))) else (if x1 = (3 : Int32) then ((f_X10_separate w x2 x3).bind fun z => u2 z fun z w34 => zc z (fun k => (if k = 0 then (some ((-1 : Int32), w34)) else (if k = 1 then (some ((-2 : Int32), w34)) else (if k = 2 then (some ((-3 : Int32), w34)) else (if k = 3 then (some ((-4 : Int32), w34)) else (if k = 4 then (some ((-5 : Int32), w34)) else none)))))) (fun r33 => (some (r33, w34)))) else (if x1 = (4 : Int32) then ((f_X10_setSpring w x2 x3).bind fun z => u2 z fun z w44 => zc z (fun k => (if k = 0 then (some ((-1 : Int32), w44)) else (if k = 1 then (some ((-2 : Int32), w44)) else (if k = 2 then (some ((-3 : Int32), w44)) else (if k = 3 then (some ((-4 : Int32), w44)) else (if k = 4 then (some ((-5 : Int32), w44)) else none)))))) (fun r43 => (some (r43, w44)))) else (if x1 = (5 : Int32) then ((f_X10_wind w x2 x3).bind fun z => u2 z fun z w54 => zc z (fun k => (if k = 0 then (some ((-1 : Int32), w54)) else (if k = 1 then (some ((-2 : Int32), w54)) else (if k = 2 then (some ((-3 : Int32), w54)) else (if k = 3 then (some ((-4 : Int32), w54)) else (if k = 4 then (some ((-5 : Int32), w54)) else none)))))) (fun r53 => (some (r53, w54)))) else (if x1 = (6 : Int32) then ((f_X10_reverse w x2).bind fun z => u2 z fun z w64 => zc z (fun k => (if k = 0 then (some ((-1 : Int32), w64)) else (if k = 1 then (some ((-2 : Int32), w64)) else (if k = 2 then (some ((-3 : Int32), w64)) else (if k = 3 then (some ((-4 : Int32), w64)) else (if k = 4 then (some ((-5 : Int32), w64)) else none)))))) (fun r63 => (if r63 = 0 then (some ((0 : Int32), w64)) else (some ((1 : Int32), w64))))) else (if x1 = (7 : Int32) then ((f_X10_release w x2 x3).bind fun z => u2 z fun z w75 => zc z (fun k => (if k = 0 then (some ((-1 : Int32), w75)) else (if k = 1 then (some ((-2 : Int32), w75)) else (if k = 2 then (some ((-3 : Int32), w75)) else (if k = 3 then (some ((-4 : Int32), w75)) else (if k = 4 then (some ((-5 : Int32), w75)) else none)))))) (fun r74 => (some (r74, w75)))) else (if x1 = (8 : Int32) then ((f_X10_oil w x2).bind fun z => u2 z fun z w85 => zc z (fun k => (if k = 0 then (some ((-1 : Int32), w85)) else (if k = 1 then (some ((-2 : Int32), w85)) else (if k = 2 then (some ((-3 : Int32), w85)) else (if k = 3 then (some ((-4 : Int32), w85)) else (if k = 4 then (some ((-5 : Int32), w85)) else none)))))) (fun r84 => (some (r84, w85)))) else (if x1 = (9 : Int32) then (if x3 = (1 : Int32) then ((f_X10_setRatchet w x2 (1 : Int32)).bind fun z => u2 z fun z w106 => zc z (fun k => (if k = 0 then (some ((-1 : Int32), w106)) else (if k = 1 then (some ((-2 : Int32), w106)) else (if k = 2 then (some ((-3 : Int32), w106)) else (if k = 3 then (some ((-4 : Int32), w106)) else (if k = 4 then (some ((-5 : Int32), w106)) else none)))))) (fun r105 => (if r105 = 0 then (some ((0 : Int32), w106)) else (some ((1 : Int32), w106))))) else ((f_X10_setRatchet w x2 (0 : Int32)).bind fun z => u2 z fun z w96 => zc z (fun k => (if k = 0 then (some ((-1 : Int32), w96)) else (if k = 1 then (some ((-2 : Int32), w96)) else (if k = 2 then (some ((-3 : Int32), w96)) else (if k = 3 then (some ((-4 : Int32), w96)) else (if k = 4 then (some ((-5 : Int32), w96)) else none)))))) (fun r95 => (if r95 = 0 then (some ((0 : Int32), w96)) else (some ((1 : Int32), w96)))))) else (if x1 = (10 : Int32) then ((f_X10_addPlanet w x2).bind fun z => u2 z fun z w117 => zc z (fun k => (if k = 0 then (some ((-1 : Int32), w117)) else (if k = 1 then (some ((-2 : Int32), w117)) else (if k = 2 then (some ((-3 : Int32), w117)) else (if k = 3 then (some ((-4 : Int32), w117)) else (if k = 4 then (some ((-5 : Int32), w117)) else none)))))) (fun r116 => (some (r116, w117)))) else (if x1 = (11 : Int32) then ((f_X10_buyOil w x2).bind fun z => u2 z fun z w127 => zc z (fun k => (if k = 0 then (some ((-1 : Int32), w127)) else (if k = 1 then (some ((-2 : Int32), w127)) else (if k = 2 then (some ((-3 : Int32), w127)) else (if k = 3 then (some ((-4 : Int32), w127)) else (if k = 4 then (some ((-5 : Int32), w127)) else none)))))) (fun r126 => (some (r126, w127)))) else (if x1 = (12 : Int32) then ((f_X10_tension w x2).bind fun z => zc z (fun k => (if k = 0 then (some ((-1 : Int32), w)) else (if k = 1 then (some ((-2 : Int32), w)) else (if k = 2 then (some ((-3 : Int32), w)) else (if k = 3 then (some ((-4 : Int32), w)) else (if k = 4 then (some ((-5 : Int32), w)) else none)))))) (fun r136 => (some (r136, w)))) else (if x1 = (13 : Int32) then ((f_X10_springSize w x2).bind fun z => zc z (fun k => (if k = 0 then (some ((-1 : Int32), w)) else (if k = 1 then (some ((-2 : Int32), w)) else (if k = 2 then (some ((-3 : Int32), w)) else (if k = 3 then (some ((-4 : Int32), w)) else (if k = 4 then (some ((-5 : Int32), w)) else none)))))) (fun r145 => (some (r145, w)))) else (if x1 = (14 : Int32) then ((f_X10_wear w x2).bind fun z => zc z (fun k => (if k = 0 then (some ((-1 : Int32), w)) else (if k = 1 then (some ((-2 : Int32), w)) else (if k = 2 then (some ((-3 : Int32), w)) else (if k = 3 then (some ((-4 : Int32), w)) else (if k = 4 then (some ((-5 : Int32), w)) else none)))))) (fun r154 => (some (r154, w)))) else (if x1 = (15 : Int32) then ((f_X10_joint w x2 x3).bind fun z => zc z (fun k => (if k = 0 then (some ((-1 : Int32), w)) else (if k = 1 then (some ((-2 : Int32), w)) else (if k = 2 then (some ((-3 : Int32), w)) else (if k = 3 then (some ((-4 : Int32), w)) else (if k = 4 then (some ((-5 : Int32), w)) else none)))))) (fun r163 => (some (r163, w)))) else (if x1 = (16 : Int32) then ((f_X10_springOf w x2).bind fun z => u2 z fun z w173 => zc z (fun k => (if k = 0 then (some ((-1 : Int32), w173)) else (if k = 1 then (some ((-2 : Int32), w173)) else (if k = 2 then (some ((-3 : Int32), w173)) else (if k = 3 then (some ((-4 : Int32), w173)) else (if k = 4 then (some ((-5 : Int32), w173)) else none)))))) (fun r172 => (some (r172, w173)))) else (if x1 = (17 : Int32) then ((f_X10_fewestPairs w x2 x3).bind fun z => zc z (fun k => (if k = 0 then (some ((-1 : Int32), w)) else (if k = 1 then (some ((-2 : Int32), w)) else (if k = 2 then (some ((-3 : Int32), w)) else (if k = 3 then (some ((-4 : Int32), w)) else (if k = 4 then (some ((-5 : Int32), w)) else none)))))) (fun r182 => (some (r182, w)))) else (if x1 = (18 : Int32) then ((f_X10_fewestPairsByTable w x2 x3).bind fun z => u2 z fun z w192 => zc z (fun k => (if k = 0 then (some ((-1 : Int32), w192)) else (if k = 1 then (some ((-2 : Int32), w192)) else (if k = 2 then (some ((-3 : Int32), w192)) else (if k = 3 then (some ((-4 : Int32), w192)) else (if k = 4 then (some ((-5 : Int32), w192)) else none)))))) (fun r191 => (some (r191, w192)))) else ((f_X10_turnsLeft w x2).bind fun z => u2 z fun z w201 => zc z (fun k => (if k = 0 then (some ((-1 : Int32), w201)) else (if k = 1 then (some ((-2 : Int32), w201)) else (if k = 2 then (some ((-3 : Int32), w201)) else (if k = 3 then (some ((-4 : Int32), w201)) else (if k = 4 then (some ((-5 : Int32), w201)) else none)))))) (fun r200 => (some (r200, w201)))))))))))))))))))))))
set_option maxHeartbeats 4000000 in
set_option maxRecDepth 100000 in
theorem c_L_act (l : Launch) (G : GG) (hst : l.stackTraces = false) {w : Wd} {x1 : Int32} {x2 : Int32} {x3 : Int32} {r0 : Int32} {w1 : Wd} (hF : f_L_act w x1 x2 x3 = some (r0, w1)) : vx_Met l yL_act wsL_act ({ frames := 9, cells := 3, slots := 18, locals := 171 } : Room) (va_Pc [.ref (gAd G 0), .int x1, .int x2, .int x3] (Rel G w)) (amQ G (oI r0) w1) (fun _ _ _ => False) 3 18 (gA G) := by
  refine am_metW (own := RL) (cc := cL_act) (maxL := 5) (ret := (some .int)) (by decide +kernel) rfl rfl (Nat.le_of_ble_eq_true rfl) ?_
  intro p e s m args below meth c ab H locs ls X hr htb hh hl
  have hx := X.1.1; have hb := X.1.2.1; have hml := X.1.2.2.1; have hown := X.1.2.2.2.1; have hts := X.1.2.2.2.2
  have hl : lv_has ls 5 [(0, .ref (gAd G 0)), (1, .int x1), (2, .int x2), (3, .int x3)] := hl
  unfold f_L_act at hF
  refine lv_iload_n hx hb dL_act_0 rfl (lv_at hl 1 rfl) ?_
  by_cases hs1 : x1 = (0 : Int32)
  · have hF := am_pos hs1 hF
    refine am_tableIn (k := 0) (tgt := 92) hx hb dL_act_1 hs1 (by decide) rfl (by decide) ?_
    refine lv_aload_n hx hb dL_act_92 rfl (lv_at hl 0 rfl) ?_
    refine lv_iload_n hx hb dL_act_93 rfl (lv_at hl 2 rfl) ?_
    obtain ⟨⟨z5, w4⟩, hk2, hF⟩ := am_bind hF
    have hF := am_u2 hF
    refine am_callX X hh (vx_runV (As := [.int x2]) (rest := []) X.1 (c_X10_addGear l G hst hk2) (cwV 1 hts gL_act_X10_addGear rfl rfl rfl (by decide +kernel) ⟨Nat.le_of_ble_eq_true rfl, Nat.le_of_ble_eq_true rfl⟩) (am_preV X hh 0 11 (by decide) rfl rfl) rfl rfl hl.1 rfl (lv_room (Nat.le_of_ble_eq_true rfl)) dL_act_94 ⟨Nat.le_of_ble_eq_true rfl, Nat.le_of_ble_eq_true rfl⟩) (fun k ab H locs ce q hz hh hce hcv hcl => ?_) (fun r3 ab H locs hz hh => ?_)
    · subst hz
      have hF := am_zl hF
      by_cases he6 : k = 0
      · subst he6
        have hF := am_pos rfl hF
        refine vx_catch (own := RL) (name := exN 0) (E := exN 0) hown (tbL_act.take 0) ⟨0, 97, 247, 107⟩ (tbL_act.drop 1) (htb.trans rfl) (pre_pass [] (by decide +kernel) (List.forall_mem_nil _)) (by decide) (by decide) (hts _ (show Cond.classLink RL 107 "java/lang/IndexOutOfBoundsException" ∈ wsL_act by decide +kernel)) ((X.2.2.1.2.2.2.1 0).use rfl) hce hcv hcl ?_
        refine lv_astore (lv' := [(4, .ref q), (0, .ref (gAd G 0)), (1, .int x1), (2, .int x2), (3, .int x3)]) hx hb dL_act_247 hl (by decide) rfl (fun ls hl => ?_)
        refine lv_iconst (v := (-1 : Int32)) hx hb dL_act_249 (by decide) ?_
        exact am_iret X hr hh (fun t ht => am_qw (mk := oI) hF ht) (Nat.le_of_ble_eq_true rfl) (Nat.le_of_ble_eq_true rfl) dL_act_250
      · have hF := am_neg he6 hF
        by_cases he7 : k = 1
        · subst he7
          have hF := am_pos rfl hF
          refine vx_catch (own := RL) (name := exN 1) (E := exN 1) hown (tbL_act.take 20) ⟨0, 97, 251, 109⟩ (tbL_act.drop 21) (htb.trans rfl) (pre_pass [107] (by decide +kernel) (List.forall_mem_cons.mpr ⟨⟨by decide, exN 0, hts _ (show Cond.classLink RL 107 "java/lang/IndexOutOfBoundsException" ∈ wsL_act by decide +kernel), X.2.2.1.2.2.2.2.1 1 0 (by decide) (by decide) (by decide)⟩, List.forall_mem_nil _⟩)) (by decide) (by decide) (hts _ (show Cond.classLink RL 109 "java/lang/IllegalArgumentException" ∈ wsL_act by decide +kernel)) ((X.2.2.1.2.2.2.1 1).use rfl) hce hcv hcl ?_
          refine lv_astore (lv' := [(4, .ref q), (0, .ref (gAd G 0)), (1, .int x1), (2, .int x2), (3, .int x3)]) hx hb dL_act_251 hl (by decide) rfl (fun ls hl => ?_)
          refine lv_bipush (v := (-2 : Int32)) hx hb dL_act_253 (by decide) ?_
          exact am_iret X hr hh (fun t ht => am_qw (mk := oI) hF ht) (Nat.le_of_ble_eq_true rfl) (Nat.le_of_ble_eq_true rfl) dL_act_255
        · have hF := am_neg he7 hF
          by_cases he8 : k = 2
          · subst he8
            have hF := am_pos rfl hF
            refine vx_catch (own := RL) (name := exN 2) (E := exN 2) hown (tbL_act.take 40) ⟨0, 97, 256, 111⟩ (tbL_act.drop 41) (htb.trans rfl) (pre_pass [107, 109] (by decide +kernel) (List.forall_mem_cons.mpr ⟨⟨by decide, exN 0, hts _ (show Cond.classLink RL 107 "java/lang/IndexOutOfBoundsException" ∈ wsL_act by decide +kernel), X.2.2.1.2.2.2.2.1 2 0 (by decide) (by decide) (by decide)⟩, List.forall_mem_cons.mpr ⟨⟨by decide, exN 1, hts _ (show Cond.classLink RL 109 "java/lang/IllegalArgumentException" ∈ wsL_act by decide +kernel), X.2.2.1.2.2.2.2.1 2 1 (by decide) (by decide) (by decide)⟩, List.forall_mem_nil _⟩⟩)) (by decide) (by decide) (hts _ (show Cond.classLink RL 111 "java/lang/IllegalStateException" ∈ wsL_act by decide +kernel)) ((X.2.2.1.2.2.2.1 2).use rfl) hce hcv hcl ?_
            refine lv_astore (lv' := [(4, .ref q), (0, .ref (gAd G 0)), (1, .int x1), (2, .int x2), (3, .int x3)]) hx hb dL_act_256 hl (by decide) rfl (fun ls hl => ?_)
            refine lv_bipush (v := (-3 : Int32)) hx hb dL_act_258 (by decide) ?_
            exact am_iret X hr hh (fun t ht => am_qw (mk := oI) hF ht) (Nat.le_of_ble_eq_true rfl) (Nat.le_of_ble_eq_true rfl) dL_act_260
          · have hF := am_neg he8 hF
            by_cases he9 : k = 3
            · subst he9
              have hF := am_pos rfl hF
              refine vx_catch (own := RL) (name := exN 3) (E := exN 3) hown (tbL_act.take 60) ⟨0, 97, 261, 113⟩ (tbL_act.drop 61) (htb.trans rfl) (pre_pass [107, 109, 111] (by decide +kernel) (List.forall_mem_cons.mpr ⟨⟨by decide, exN 0, hts _ (show Cond.classLink RL 107 "java/lang/IndexOutOfBoundsException" ∈ wsL_act by decide +kernel), X.2.2.1.2.2.2.2.1 3 0 (by decide) (by decide) (by decide)⟩, List.forall_mem_cons.mpr ⟨⟨by decide, exN 1, hts _ (show Cond.classLink RL 109 "java/lang/IllegalArgumentException" ∈ wsL_act by decide +kernel), X.2.2.1.2.2.2.2.1 3 1 (by decide) (by decide) (by decide)⟩, List.forall_mem_cons.mpr ⟨⟨by decide, exN 2, hts _ (show Cond.classLink RL 111 "java/lang/IllegalStateException" ∈ wsL_act by decide +kernel), X.2.2.1.2.2.2.2.1 3 2 (by decide) (by decide) (by decide)⟩, List.forall_mem_nil _⟩⟩⟩)) (by decide) (by decide) (hts _ (show Cond.classLink RL 113 "java/lang/UnsupportedOperationException" ∈ wsL_act by decide +kernel)) ((X.2.2.1.2.2.2.1 3).use rfl) hce hcv hcl ?_
              refine lv_astore (lv' := [(4, .ref q), (0, .ref (gAd G 0)), (1, .int x1), (2, .int x2), (3, .int x3)]) hx hb dL_act_261 hl (by decide) rfl (fun ls hl => ?_)
              refine lv_bipush (v := (-4 : Int32)) hx hb dL_act_263 (by decide) ?_
              exact am_iret X hr hh (fun t ht => am_qw (mk := oI) hF ht) (Nat.le_of_ble_eq_true rfl) (Nat.le_of_ble_eq_true rfl) dL_act_265
            · have hF := am_neg he9 hF
              by_cases he10 : k = 4
              · subst he10
                have hF := am_pos rfl hF
                refine vx_catch (own := RL) (name := exN 4) (E := exN 4) hown (tbL_act.take 80) ⟨0, 97, 266, 115⟩ (tbL_act.drop 81) (htb.trans rfl) (pre_pass [107, 109, 111, 113] (by decide +kernel) (List.forall_mem_cons.mpr ⟨⟨by decide, exN 0, hts _ (show Cond.classLink RL 107 "java/lang/IndexOutOfBoundsException" ∈ wsL_act by decide +kernel), X.2.2.1.2.2.2.2.1 4 0 (by decide) (by decide) (by decide)⟩, List.forall_mem_cons.mpr ⟨⟨by decide, exN 1, hts _ (show Cond.classLink RL 109 "java/lang/IllegalArgumentException" ∈ wsL_act by decide +kernel), X.2.2.1.2.2.2.2.1 4 1 (by decide) (by decide) (by decide)⟩, List.forall_mem_cons.mpr ⟨⟨by decide, exN 2, hts _ (show Cond.classLink RL 111 "java/lang/IllegalStateException" ∈ wsL_act by decide +kernel), X.2.2.1.2.2.2.2.1 4 2 (by decide) (by decide) (by decide)⟩, List.forall_mem_cons.mpr ⟨⟨by decide, exN 3, hts _ (show Cond.classLink RL 113 "java/lang/UnsupportedOperationException" ∈ wsL_act by decide +kernel), X.2.2.1.2.2.2.2.1 4 3 (by decide) (by decide) (by decide)⟩, List.forall_mem_nil _⟩⟩⟩⟩)) (by decide) (by decide) (hts _ (show Cond.classLink RL 115 "java/util/NoSuchElementException" ∈ wsL_act by decide +kernel)) ((X.2.2.1.2.2.2.1 4).use rfl) hce hcv hcl ?_
                refine lv_astore (lv' := [(4, .ref q), (0, .ref (gAd G 0)), (1, .int x1), (2, .int x2), (3, .int x3)]) hx hb dL_act_266 hl (by decide) rfl (fun ls hl => ?_)
                refine lv_bipush (v := (-5 : Int32)) hx hb dL_act_268 (by decide) ?_
                exact am_iret X hr hh (fun t ht => am_qw (mk := oI) hF ht) (Nat.le_of_ble_eq_true rfl) (Nat.le_of_ble_eq_true rfl) dL_act_270
              · have hF := am_neg he10 hF
                cases hF
    · subst hz
      have hF := am_zr hF
      exact am_iret X hr hh (fun t ht => am_qw (mk := oI) hF ht) (Nat.le_of_ble_eq_true rfl) (Nat.le_of_ble_eq_true rfl) dL_act_97
  · have hF := am_neg hs1 hF
    by_cases hs11 : x1 = (1 : Int32)
    · have hF := am_pos hs11 hF
      refine am_tableIn (k := 1) (tgt := 98) hx hb dL_act_1 hs11 (by decide) rfl (by decide) ?_
      refine lv_aload_n hx hb dL_act_98 rfl (lv_at hl 0 rfl) ?_
      refine lv_iload_n hx hb dL_act_99 rfl (lv_at hl 2 rfl) ?_
      refine lv_iload_n hx hb dL_act_100 rfl (lv_at hl 3 rfl) ?_
      obtain ⟨⟨z15, w14⟩, hk12, hF⟩ := am_bind hF
      have hF := am_u2 hF
      refine am_callX X hh (vx_runV (As := [.int x2, .int x3]) (rest := []) X.1 (c_X10_mesh l G hst hk12) (cwV 2 hts gL_act_X10_mesh rfl rfl rfl (by decide +kernel) ⟨Nat.le_of_ble_eq_true rfl, Nat.le_of_ble_eq_true rfl⟩) (am_preV X hh 0 11 (by decide) rfl rfl) rfl rfl hl.1 rfl (lv_room (Nat.le_of_ble_eq_true rfl)) dL_act_101 ⟨Nat.le_of_ble_eq_true rfl, Nat.le_of_ble_eq_true rfl⟩) (fun k ab H locs ce q hz hh hce hcv hcl => ?_) (fun r13 ab H locs hz hh => ?_)
      · subst hz
        have hF := am_zl hF
        by_cases he16 : k = 0
        · subst he16
          have hF := am_pos rfl hF
          refine vx_catch (own := RL) (name := exN 0) (E := exN 0) hown (tbL_act.take 1) ⟨98, 104, 247, 107⟩ (tbL_act.drop 2) (htb.trans rfl) (pre_pass [] (by decide +kernel) (List.forall_mem_nil _)) (by decide) (by decide) (hts _ (show Cond.classLink RL 107 "java/lang/IndexOutOfBoundsException" ∈ wsL_act by decide +kernel)) ((X.2.2.1.2.2.2.1 0).use rfl) hce hcv hcl ?_
          refine lv_astore (lv' := [(4, .ref q), (0, .ref (gAd G 0)), (1, .int x1), (2, .int x2), (3, .int x3)]) hx hb dL_act_247 hl (by decide) rfl (fun ls hl => ?_)
          refine lv_iconst (v := (-1 : Int32)) hx hb dL_act_249 (by decide) ?_
          exact am_iret X hr hh (fun t ht => am_qw (mk := oI) hF ht) (Nat.le_of_ble_eq_true rfl) (Nat.le_of_ble_eq_true rfl) dL_act_250
        · have hF := am_neg he16 hF
          by_cases he17 : k = 1
          · subst he17
            have hF := am_pos rfl hF
            refine vx_catch (own := RL) (name := exN 1) (E := exN 1) hown (tbL_act.take 21) ⟨98, 104, 251, 109⟩ (tbL_act.drop 22) (htb.trans rfl) (pre_pass [107] (by decide +kernel) (List.forall_mem_cons.mpr ⟨⟨by decide, exN 0, hts _ (show Cond.classLink RL 107 "java/lang/IndexOutOfBoundsException" ∈ wsL_act by decide +kernel), X.2.2.1.2.2.2.2.1 1 0 (by decide) (by decide) (by decide)⟩, List.forall_mem_nil _⟩)) (by decide) (by decide) (hts _ (show Cond.classLink RL 109 "java/lang/IllegalArgumentException" ∈ wsL_act by decide +kernel)) ((X.2.2.1.2.2.2.1 1).use rfl) hce hcv hcl ?_
            refine lv_astore (lv' := [(4, .ref q), (0, .ref (gAd G 0)), (1, .int x1), (2, .int x2), (3, .int x3)]) hx hb dL_act_251 hl (by decide) rfl (fun ls hl => ?_)
            refine lv_bipush (v := (-2 : Int32)) hx hb dL_act_253 (by decide) ?_
            exact am_iret X hr hh (fun t ht => am_qw (mk := oI) hF ht) (Nat.le_of_ble_eq_true rfl) (Nat.le_of_ble_eq_true rfl) dL_act_255
          · have hF := am_neg he17 hF
            by_cases he18 : k = 2
            · subst he18
              have hF := am_pos rfl hF
              refine vx_catch (own := RL) (name := exN 2) (E := exN 2) hown (tbL_act.take 41) ⟨98, 104, 256, 111⟩ (tbL_act.drop 42) (htb.trans rfl) (pre_pass [107, 109] (by decide +kernel) (List.forall_mem_cons.mpr ⟨⟨by decide, exN 0, hts _ (show Cond.classLink RL 107 "java/lang/IndexOutOfBoundsException" ∈ wsL_act by decide +kernel), X.2.2.1.2.2.2.2.1 2 0 (by decide) (by decide) (by decide)⟩, List.forall_mem_cons.mpr ⟨⟨by decide, exN 1, hts _ (show Cond.classLink RL 109 "java/lang/IllegalArgumentException" ∈ wsL_act by decide +kernel), X.2.2.1.2.2.2.2.1 2 1 (by decide) (by decide) (by decide)⟩, List.forall_mem_nil _⟩⟩)) (by decide) (by decide) (hts _ (show Cond.classLink RL 111 "java/lang/IllegalStateException" ∈ wsL_act by decide +kernel)) ((X.2.2.1.2.2.2.1 2).use rfl) hce hcv hcl ?_
              refine lv_astore (lv' := [(4, .ref q), (0, .ref (gAd G 0)), (1, .int x1), (2, .int x2), (3, .int x3)]) hx hb dL_act_256 hl (by decide) rfl (fun ls hl => ?_)
              refine lv_bipush (v := (-3 : Int32)) hx hb dL_act_258 (by decide) ?_
              exact am_iret X hr hh (fun t ht => am_qw (mk := oI) hF ht) (Nat.le_of_ble_eq_true rfl) (Nat.le_of_ble_eq_true rfl) dL_act_260
            · have hF := am_neg he18 hF
              by_cases he19 : k = 3
              · subst he19
                have hF := am_pos rfl hF
                refine vx_catch (own := RL) (name := exN 3) (E := exN 3) hown (tbL_act.take 61) ⟨98, 104, 261, 113⟩ (tbL_act.drop 62) (htb.trans rfl) (pre_pass [107, 109, 111] (by decide +kernel) (List.forall_mem_cons.mpr ⟨⟨by decide, exN 0, hts _ (show Cond.classLink RL 107 "java/lang/IndexOutOfBoundsException" ∈ wsL_act by decide +kernel), X.2.2.1.2.2.2.2.1 3 0 (by decide) (by decide) (by decide)⟩, List.forall_mem_cons.mpr ⟨⟨by decide, exN 1, hts _ (show Cond.classLink RL 109 "java/lang/IllegalArgumentException" ∈ wsL_act by decide +kernel), X.2.2.1.2.2.2.2.1 3 1 (by decide) (by decide) (by decide)⟩, List.forall_mem_cons.mpr ⟨⟨by decide, exN 2, hts _ (show Cond.classLink RL 111 "java/lang/IllegalStateException" ∈ wsL_act by decide +kernel), X.2.2.1.2.2.2.2.1 3 2 (by decide) (by decide) (by decide)⟩, List.forall_mem_nil _⟩⟩⟩)) (by decide) (by decide) (hts _ (show Cond.classLink RL 113 "java/lang/UnsupportedOperationException" ∈ wsL_act by decide +kernel)) ((X.2.2.1.2.2.2.1 3).use rfl) hce hcv hcl ?_
                refine lv_astore (lv' := [(4, .ref q), (0, .ref (gAd G 0)), (1, .int x1), (2, .int x2), (3, .int x3)]) hx hb dL_act_261 hl (by decide) rfl (fun ls hl => ?_)
                refine lv_bipush (v := (-4 : Int32)) hx hb dL_act_263 (by decide) ?_
                exact am_iret X hr hh (fun t ht => am_qw (mk := oI) hF ht) (Nat.le_of_ble_eq_true rfl) (Nat.le_of_ble_eq_true rfl) dL_act_265
              · have hF := am_neg he19 hF
                by_cases he20 : k = 4
                · subst he20
                  have hF := am_pos rfl hF
                  refine vx_catch (own := RL) (name := exN 4) (E := exN 4) hown (tbL_act.take 81) ⟨98, 104, 266, 115⟩ (tbL_act.drop 82) (htb.trans rfl) (pre_pass [107, 109, 111, 113] (by decide +kernel) (List.forall_mem_cons.mpr ⟨⟨by decide, exN 0, hts _ (show Cond.classLink RL 107 "java/lang/IndexOutOfBoundsException" ∈ wsL_act by decide +kernel), X.2.2.1.2.2.2.2.1 4 0 (by decide) (by decide) (by decide)⟩, List.forall_mem_cons.mpr ⟨⟨by decide, exN 1, hts _ (show Cond.classLink RL 109 "java/lang/IllegalArgumentException" ∈ wsL_act by decide +kernel), X.2.2.1.2.2.2.2.1 4 1 (by decide) (by decide) (by decide)⟩, List.forall_mem_cons.mpr ⟨⟨by decide, exN 2, hts _ (show Cond.classLink RL 111 "java/lang/IllegalStateException" ∈ wsL_act by decide +kernel), X.2.2.1.2.2.2.2.1 4 2 (by decide) (by decide) (by decide)⟩, List.forall_mem_cons.mpr ⟨⟨by decide, exN 3, hts _ (show Cond.classLink RL 113 "java/lang/UnsupportedOperationException" ∈ wsL_act by decide +kernel), X.2.2.1.2.2.2.2.1 4 3 (by decide) (by decide) (by decide)⟩, List.forall_mem_nil _⟩⟩⟩⟩)) (by decide) (by decide) (hts _ (show Cond.classLink RL 115 "java/util/NoSuchElementException" ∈ wsL_act by decide +kernel)) ((X.2.2.1.2.2.2.1 4).use rfl) hce hcv hcl ?_
                  refine lv_astore (lv' := [(4, .ref q), (0, .ref (gAd G 0)), (1, .int x1), (2, .int x2), (3, .int x3)]) hx hb dL_act_266 hl (by decide) rfl (fun ls hl => ?_)
                  refine lv_bipush (v := (-5 : Int32)) hx hb dL_act_268 (by decide) ?_
                  exact am_iret X hr hh (fun t ht => am_qw (mk := oI) hF ht) (Nat.le_of_ble_eq_true rfl) (Nat.le_of_ble_eq_true rfl) dL_act_270
                · have hF := am_neg he20 hF
                  cases hF
      · subst hz
        have hF := am_zr hF
        exact am_iret X hr hh (fun t ht => am_qw (mk := oI) hF ht) (Nat.le_of_ble_eq_true rfl) (Nat.le_of_ble_eq_true rfl) dL_act_104
    · have hF := am_neg hs11 hF
      by_cases hs21 : x1 = (2 : Int32)
      · have hF := am_pos hs21 hF
        refine am_tableIn (k := 2) (tgt := 105) hx hb dL_act_1 hs21 (by decide) rfl (by decide) ?_
        refine lv_aload_n hx hb dL_act_105 rfl (lv_at hl 0 rfl) ?_
        refine lv_iload_n hx hb dL_act_106 rfl (lv_at hl 2 rfl) ?_
        refine lv_iload_n hx hb dL_act_107 rfl (lv_at hl 3 rfl) ?_
        obtain ⟨⟨z25, w24⟩, hk22, hF⟩ := am_bind hF
        have hF := am_u2 hF
        refine am_callX X hh (vx_runV (As := [.int x2, .int x3]) (rest := []) X.1 (c_X10_shareAxle l G hst hk22) (cwV 2 hts gL_act_X10_shareAxle rfl rfl rfl (by decide +kernel) ⟨Nat.le_of_ble_eq_true rfl, Nat.le_of_ble_eq_true rfl⟩) (am_preV X hh 0 11 (by decide) rfl rfl) rfl rfl hl.1 rfl (lv_room (Nat.le_of_ble_eq_true rfl)) dL_act_108 ⟨Nat.le_of_ble_eq_true rfl, Nat.le_of_ble_eq_true rfl⟩) (fun k ab H locs ce q hz hh hce hcv hcl => ?_) (fun r23 ab H locs hz hh => ?_)
        · subst hz
          have hF := am_zl hF
          by_cases he26 : k = 0
          · subst he26
            have hF := am_pos rfl hF
            refine vx_catch (own := RL) (name := exN 0) (E := exN 0) hown (tbL_act.take 2) ⟨105, 111, 247, 107⟩ (tbL_act.drop 3) (htb.trans rfl) (pre_pass [] (by decide +kernel) (List.forall_mem_nil _)) (by decide) (by decide) (hts _ (show Cond.classLink RL 107 "java/lang/IndexOutOfBoundsException" ∈ wsL_act by decide +kernel)) ((X.2.2.1.2.2.2.1 0).use rfl) hce hcv hcl ?_
            refine lv_astore (lv' := [(4, .ref q), (0, .ref (gAd G 0)), (1, .int x1), (2, .int x2), (3, .int x3)]) hx hb dL_act_247 hl (by decide) rfl (fun ls hl => ?_)
            refine lv_iconst (v := (-1 : Int32)) hx hb dL_act_249 (by decide) ?_
            exact am_iret X hr hh (fun t ht => am_qw (mk := oI) hF ht) (Nat.le_of_ble_eq_true rfl) (Nat.le_of_ble_eq_true rfl) dL_act_250
          · have hF := am_neg he26 hF
            by_cases he27 : k = 1
            · subst he27
              have hF := am_pos rfl hF
              refine vx_catch (own := RL) (name := exN 1) (E := exN 1) hown (tbL_act.take 22) ⟨105, 111, 251, 109⟩ (tbL_act.drop 23) (htb.trans rfl) (pre_pass [107] (by decide +kernel) (List.forall_mem_cons.mpr ⟨⟨by decide, exN 0, hts _ (show Cond.classLink RL 107 "java/lang/IndexOutOfBoundsException" ∈ wsL_act by decide +kernel), X.2.2.1.2.2.2.2.1 1 0 (by decide) (by decide) (by decide)⟩, List.forall_mem_nil _⟩)) (by decide) (by decide) (hts _ (show Cond.classLink RL 109 "java/lang/IllegalArgumentException" ∈ wsL_act by decide +kernel)) ((X.2.2.1.2.2.2.1 1).use rfl) hce hcv hcl ?_
              refine lv_astore (lv' := [(4, .ref q), (0, .ref (gAd G 0)), (1, .int x1), (2, .int x2), (3, .int x3)]) hx hb dL_act_251 hl (by decide) rfl (fun ls hl => ?_)
              refine lv_bipush (v := (-2 : Int32)) hx hb dL_act_253 (by decide) ?_
              exact am_iret X hr hh (fun t ht => am_qw (mk := oI) hF ht) (Nat.le_of_ble_eq_true rfl) (Nat.le_of_ble_eq_true rfl) dL_act_255
            · have hF := am_neg he27 hF
              by_cases he28 : k = 2
              · subst he28
                have hF := am_pos rfl hF
                refine vx_catch (own := RL) (name := exN 2) (E := exN 2) hown (tbL_act.take 42) ⟨105, 111, 256, 111⟩ (tbL_act.drop 43) (htb.trans rfl) (pre_pass [107, 109] (by decide +kernel) (List.forall_mem_cons.mpr ⟨⟨by decide, exN 0, hts _ (show Cond.classLink RL 107 "java/lang/IndexOutOfBoundsException" ∈ wsL_act by decide +kernel), X.2.2.1.2.2.2.2.1 2 0 (by decide) (by decide) (by decide)⟩, List.forall_mem_cons.mpr ⟨⟨by decide, exN 1, hts _ (show Cond.classLink RL 109 "java/lang/IllegalArgumentException" ∈ wsL_act by decide +kernel), X.2.2.1.2.2.2.2.1 2 1 (by decide) (by decide) (by decide)⟩, List.forall_mem_nil _⟩⟩)) (by decide) (by decide) (hts _ (show Cond.classLink RL 111 "java/lang/IllegalStateException" ∈ wsL_act by decide +kernel)) ((X.2.2.1.2.2.2.1 2).use rfl) hce hcv hcl ?_
                refine lv_astore (lv' := [(4, .ref q), (0, .ref (gAd G 0)), (1, .int x1), (2, .int x2), (3, .int x3)]) hx hb dL_act_256 hl (by decide) rfl (fun ls hl => ?_)
                refine lv_bipush (v := (-3 : Int32)) hx hb dL_act_258 (by decide) ?_
                exact am_iret X hr hh (fun t ht => am_qw (mk := oI) hF ht) (Nat.le_of_ble_eq_true rfl) (Nat.le_of_ble_eq_true rfl) dL_act_260
              · have hF := am_neg he28 hF
                by_cases he29 : k = 3
                · subst he29
                  have hF := am_pos rfl hF
                  refine vx_catch (own := RL) (name := exN 3) (E := exN 3) hown (tbL_act.take 62) ⟨105, 111, 261, 113⟩ (tbL_act.drop 63) (htb.trans rfl) (pre_pass [107, 109, 111] (by decide +kernel) (List.forall_mem_cons.mpr ⟨⟨by decide, exN 0, hts _ (show Cond.classLink RL 107 "java/lang/IndexOutOfBoundsException" ∈ wsL_act by decide +kernel), X.2.2.1.2.2.2.2.1 3 0 (by decide) (by decide) (by decide)⟩, List.forall_mem_cons.mpr ⟨⟨by decide, exN 1, hts _ (show Cond.classLink RL 109 "java/lang/IllegalArgumentException" ∈ wsL_act by decide +kernel), X.2.2.1.2.2.2.2.1 3 1 (by decide) (by decide) (by decide)⟩, List.forall_mem_cons.mpr ⟨⟨by decide, exN 2, hts _ (show Cond.classLink RL 111 "java/lang/IllegalStateException" ∈ wsL_act by decide +kernel), X.2.2.1.2.2.2.2.1 3 2 (by decide) (by decide) (by decide)⟩, List.forall_mem_nil _⟩⟩⟩)) (by decide) (by decide) (hts _ (show Cond.classLink RL 113 "java/lang/UnsupportedOperationException" ∈ wsL_act by decide +kernel)) ((X.2.2.1.2.2.2.1 3).use rfl) hce hcv hcl ?_
                  refine lv_astore (lv' := [(4, .ref q), (0, .ref (gAd G 0)), (1, .int x1), (2, .int x2), (3, .int x3)]) hx hb dL_act_261 hl (by decide) rfl (fun ls hl => ?_)
                  refine lv_bipush (v := (-4 : Int32)) hx hb dL_act_263 (by decide) ?_
                  exact am_iret X hr hh (fun t ht => am_qw (mk := oI) hF ht) (Nat.le_of_ble_eq_true rfl) (Nat.le_of_ble_eq_true rfl) dL_act_265
                · have hF := am_neg he29 hF
                  by_cases he30 : k = 4
                  · subst he30
                    have hF := am_pos rfl hF
                    refine vx_catch (own := RL) (name := exN 4) (E := exN 4) hown (tbL_act.take 82) ⟨105, 111, 266, 115⟩ (tbL_act.drop 83) (htb.trans rfl) (pre_pass [107, 109, 111, 113] (by decide +kernel) (List.forall_mem_cons.mpr ⟨⟨by decide, exN 0, hts _ (show Cond.classLink RL 107 "java/lang/IndexOutOfBoundsException" ∈ wsL_act by decide +kernel), X.2.2.1.2.2.2.2.1 4 0 (by decide) (by decide) (by decide)⟩, List.forall_mem_cons.mpr ⟨⟨by decide, exN 1, hts _ (show Cond.classLink RL 109 "java/lang/IllegalArgumentException" ∈ wsL_act by decide +kernel), X.2.2.1.2.2.2.2.1 4 1 (by decide) (by decide) (by decide)⟩, List.forall_mem_cons.mpr ⟨⟨by decide, exN 2, hts _ (show Cond.classLink RL 111 "java/lang/IllegalStateException" ∈ wsL_act by decide +kernel), X.2.2.1.2.2.2.2.1 4 2 (by decide) (by decide) (by decide)⟩, List.forall_mem_cons.mpr ⟨⟨by decide, exN 3, hts _ (show Cond.classLink RL 113 "java/lang/UnsupportedOperationException" ∈ wsL_act by decide +kernel), X.2.2.1.2.2.2.2.1 4 3 (by decide) (by decide) (by decide)⟩, List.forall_mem_nil _⟩⟩⟩⟩)) (by decide) (by decide) (hts _ (show Cond.classLink RL 115 "java/util/NoSuchElementException" ∈ wsL_act by decide +kernel)) ((X.2.2.1.2.2.2.1 4).use rfl) hce hcv hcl ?_
                    refine lv_astore (lv' := [(4, .ref q), (0, .ref (gAd G 0)), (1, .int x1), (2, .int x2), (3, .int x3)]) hx hb dL_act_266 hl (by decide) rfl (fun ls hl => ?_)
                    refine lv_bipush (v := (-5 : Int32)) hx hb dL_act_268 (by decide) ?_
                    exact am_iret X hr hh (fun t ht => am_qw (mk := oI) hF ht) (Nat.le_of_ble_eq_true rfl) (Nat.le_of_ble_eq_true rfl) dL_act_270
                  · have hF := am_neg he30 hF
                    cases hF
        · subst hz
          have hF := am_zr hF
          exact am_iret X hr hh (fun t ht => am_qw (mk := oI) hF ht) (Nat.le_of_ble_eq_true rfl) (Nat.le_of_ble_eq_true rfl) dL_act_111
      · have hF := am_neg hs21 hF
        by_cases hs31 : x1 = (3 : Int32)
        · have hF := am_pos hs31 hF
          refine am_tableIn (k := 3) (tgt := 112) hx hb dL_act_1 hs31 (by decide) rfl (by decide) ?_
          refine lv_aload_n hx hb dL_act_112 rfl (lv_at hl 0 rfl) ?_
          refine lv_iload_n hx hb dL_act_113 rfl (lv_at hl 2 rfl) ?_
          refine lv_iload_n hx hb dL_act_114 rfl (lv_at hl 3 rfl) ?_
          obtain ⟨⟨z35, w34⟩, hk32, hF⟩ := am_bind hF
          have hF := am_u2 hF
          refine am_callX X hh (vx_runV (As := [.int x2, .int x3]) (rest := []) X.1 (c_X10_separate l G hst hk32) (cwV 2 hts gL_act_X10_separate rfl rfl rfl (by decide +kernel) ⟨Nat.le_of_ble_eq_true rfl, Nat.le_of_ble_eq_true rfl⟩) (am_preV X hh 0 11 (by decide) rfl rfl) rfl rfl hl.1 rfl (lv_room (Nat.le_of_ble_eq_true rfl)) dL_act_115 ⟨Nat.le_of_ble_eq_true rfl, Nat.le_of_ble_eq_true rfl⟩) (fun k ab H locs ce q hz hh hce hcv hcl => ?_) (fun r33 ab H locs hz hh => ?_)
          · subst hz
            have hF := am_zl hF
            by_cases he36 : k = 0
            · subst he36
              have hF := am_pos rfl hF
              refine vx_catch (own := RL) (name := exN 0) (E := exN 0) hown (tbL_act.take 3) ⟨112, 118, 247, 107⟩ (tbL_act.drop 4) (htb.trans rfl) (pre_pass [] (by decide +kernel) (List.forall_mem_nil _)) (by decide) (by decide) (hts _ (show Cond.classLink RL 107 "java/lang/IndexOutOfBoundsException" ∈ wsL_act by decide +kernel)) ((X.2.2.1.2.2.2.1 0).use rfl) hce hcv hcl ?_
              refine lv_astore (lv' := [(4, .ref q), (0, .ref (gAd G 0)), (1, .int x1), (2, .int x2), (3, .int x3)]) hx hb dL_act_247 hl (by decide) rfl (fun ls hl => ?_)
              refine lv_iconst (v := (-1 : Int32)) hx hb dL_act_249 (by decide) ?_
              exact am_iret X hr hh (fun t ht => am_qw (mk := oI) hF ht) (Nat.le_of_ble_eq_true rfl) (Nat.le_of_ble_eq_true rfl) dL_act_250
            · have hF := am_neg he36 hF
              by_cases he37 : k = 1
              · subst he37
                have hF := am_pos rfl hF
                refine vx_catch (own := RL) (name := exN 1) (E := exN 1) hown (tbL_act.take 23) ⟨112, 118, 251, 109⟩ (tbL_act.drop 24) (htb.trans rfl) (pre_pass [107] (by decide +kernel) (List.forall_mem_cons.mpr ⟨⟨by decide, exN 0, hts _ (show Cond.classLink RL 107 "java/lang/IndexOutOfBoundsException" ∈ wsL_act by decide +kernel), X.2.2.1.2.2.2.2.1 1 0 (by decide) (by decide) (by decide)⟩, List.forall_mem_nil _⟩)) (by decide) (by decide) (hts _ (show Cond.classLink RL 109 "java/lang/IllegalArgumentException" ∈ wsL_act by decide +kernel)) ((X.2.2.1.2.2.2.1 1).use rfl) hce hcv hcl ?_
                refine lv_astore (lv' := [(4, .ref q), (0, .ref (gAd G 0)), (1, .int x1), (2, .int x2), (3, .int x3)]) hx hb dL_act_251 hl (by decide) rfl (fun ls hl => ?_)
                refine lv_bipush (v := (-2 : Int32)) hx hb dL_act_253 (by decide) ?_
                exact am_iret X hr hh (fun t ht => am_qw (mk := oI) hF ht) (Nat.le_of_ble_eq_true rfl) (Nat.le_of_ble_eq_true rfl) dL_act_255
              · have hF := am_neg he37 hF
                by_cases he38 : k = 2
                · subst he38
                  have hF := am_pos rfl hF
                  refine vx_catch (own := RL) (name := exN 2) (E := exN 2) hown (tbL_act.take 43) ⟨112, 118, 256, 111⟩ (tbL_act.drop 44) (htb.trans rfl) (pre_pass [107, 109] (by decide +kernel) (List.forall_mem_cons.mpr ⟨⟨by decide, exN 0, hts _ (show Cond.classLink RL 107 "java/lang/IndexOutOfBoundsException" ∈ wsL_act by decide +kernel), X.2.2.1.2.2.2.2.1 2 0 (by decide) (by decide) (by decide)⟩, List.forall_mem_cons.mpr ⟨⟨by decide, exN 1, hts _ (show Cond.classLink RL 109 "java/lang/IllegalArgumentException" ∈ wsL_act by decide +kernel), X.2.2.1.2.2.2.2.1 2 1 (by decide) (by decide) (by decide)⟩, List.forall_mem_nil _⟩⟩)) (by decide) (by decide) (hts _ (show Cond.classLink RL 111 "java/lang/IllegalStateException" ∈ wsL_act by decide +kernel)) ((X.2.2.1.2.2.2.1 2).use rfl) hce hcv hcl ?_
                  refine lv_astore (lv' := [(4, .ref q), (0, .ref (gAd G 0)), (1, .int x1), (2, .int x2), (3, .int x3)]) hx hb dL_act_256 hl (by decide) rfl (fun ls hl => ?_)
                  refine lv_bipush (v := (-3 : Int32)) hx hb dL_act_258 (by decide) ?_
                  exact am_iret X hr hh (fun t ht => am_qw (mk := oI) hF ht) (Nat.le_of_ble_eq_true rfl) (Nat.le_of_ble_eq_true rfl) dL_act_260
                · have hF := am_neg he38 hF
                  by_cases he39 : k = 3
                  · subst he39
                    have hF := am_pos rfl hF
                    refine vx_catch (own := RL) (name := exN 3) (E := exN 3) hown (tbL_act.take 63) ⟨112, 118, 261, 113⟩ (tbL_act.drop 64) (htb.trans rfl) (pre_pass [107, 109, 111] (by decide +kernel) (List.forall_mem_cons.mpr ⟨⟨by decide, exN 0, hts _ (show Cond.classLink RL 107 "java/lang/IndexOutOfBoundsException" ∈ wsL_act by decide +kernel), X.2.2.1.2.2.2.2.1 3 0 (by decide) (by decide) (by decide)⟩, List.forall_mem_cons.mpr ⟨⟨by decide, exN 1, hts _ (show Cond.classLink RL 109 "java/lang/IllegalArgumentException" ∈ wsL_act by decide +kernel), X.2.2.1.2.2.2.2.1 3 1 (by decide) (by decide) (by decide)⟩, List.forall_mem_cons.mpr ⟨⟨by decide, exN 2, hts _ (show Cond.classLink RL 111 "java/lang/IllegalStateException" ∈ wsL_act by decide +kernel), X.2.2.1.2.2.2.2.1 3 2 (by decide) (by decide) (by decide)⟩, List.forall_mem_nil _⟩⟩⟩)) (by decide) (by decide) (hts _ (show Cond.classLink RL 113 "java/lang/UnsupportedOperationException" ∈ wsL_act by decide +kernel)) ((X.2.2.1.2.2.2.1 3).use rfl) hce hcv hcl ?_
                    refine lv_astore (lv' := [(4, .ref q), (0, .ref (gAd G 0)), (1, .int x1), (2, .int x2), (3, .int x3)]) hx hb dL_act_261 hl (by decide) rfl (fun ls hl => ?_)
                    refine lv_bipush (v := (-4 : Int32)) hx hb dL_act_263 (by decide) ?_
                    exact am_iret X hr hh (fun t ht => am_qw (mk := oI) hF ht) (Nat.le_of_ble_eq_true rfl) (Nat.le_of_ble_eq_true rfl) dL_act_265
                  · have hF := am_neg he39 hF
                    by_cases he40 : k = 4
                    · subst he40
                      have hF := am_pos rfl hF
                      refine vx_catch (own := RL) (name := exN 4) (E := exN 4) hown (tbL_act.take 83) ⟨112, 118, 266, 115⟩ (tbL_act.drop 84) (htb.trans rfl) (pre_pass [107, 109, 111, 113] (by decide +kernel) (List.forall_mem_cons.mpr ⟨⟨by decide, exN 0, hts _ (show Cond.classLink RL 107 "java/lang/IndexOutOfBoundsException" ∈ wsL_act by decide +kernel), X.2.2.1.2.2.2.2.1 4 0 (by decide) (by decide) (by decide)⟩, List.forall_mem_cons.mpr ⟨⟨by decide, exN 1, hts _ (show Cond.classLink RL 109 "java/lang/IllegalArgumentException" ∈ wsL_act by decide +kernel), X.2.2.1.2.2.2.2.1 4 1 (by decide) (by decide) (by decide)⟩, List.forall_mem_cons.mpr ⟨⟨by decide, exN 2, hts _ (show Cond.classLink RL 111 "java/lang/IllegalStateException" ∈ wsL_act by decide +kernel), X.2.2.1.2.2.2.2.1 4 2 (by decide) (by decide) (by decide)⟩, List.forall_mem_cons.mpr ⟨⟨by decide, exN 3, hts _ (show Cond.classLink RL 113 "java/lang/UnsupportedOperationException" ∈ wsL_act by decide +kernel), X.2.2.1.2.2.2.2.1 4 3 (by decide) (by decide) (by decide)⟩, List.forall_mem_nil _⟩⟩⟩⟩)) (by decide) (by decide) (hts _ (show Cond.classLink RL 115 "java/util/NoSuchElementException" ∈ wsL_act by decide +kernel)) ((X.2.2.1.2.2.2.1 4).use rfl) hce hcv hcl ?_
                      refine lv_astore (lv' := [(4, .ref q), (0, .ref (gAd G 0)), (1, .int x1), (2, .int x2), (3, .int x3)]) hx hb dL_act_266 hl (by decide) rfl (fun ls hl => ?_)
                      refine lv_bipush (v := (-5 : Int32)) hx hb dL_act_268 (by decide) ?_
                      exact am_iret X hr hh (fun t ht => am_qw (mk := oI) hF ht) (Nat.le_of_ble_eq_true rfl) (Nat.le_of_ble_eq_true rfl) dL_act_270
                    · have hF := am_neg he40 hF
                      cases hF
          · subst hz
            have hF := am_zr hF
            exact am_iret X hr hh (fun t ht => am_qw (mk := oI) hF ht) (Nat.le_of_ble_eq_true rfl) (Nat.le_of_ble_eq_true rfl) dL_act_118
        · have hF := am_neg hs31 hF
          by_cases hs41 : x1 = (4 : Int32)
          · have hF := am_pos hs41 hF
            refine am_tableIn (k := 4) (tgt := 119) hx hb dL_act_1 hs41 (by decide) rfl (by decide) ?_
            refine lv_aload_n hx hb dL_act_119 rfl (lv_at hl 0 rfl) ?_
            refine lv_iload_n hx hb dL_act_120 rfl (lv_at hl 2 rfl) ?_
            refine lv_iload_n hx hb dL_act_121 rfl (lv_at hl 3 rfl) ?_
            obtain ⟨⟨z45, w44⟩, hk42, hF⟩ := am_bind hF
            have hF := am_u2 hF
            refine am_callX X hh (vx_runV (As := [.int x2, .int x3]) (rest := []) X.1 (c_X10_setSpring l G hst hk42) (cwV 2 hts gL_act_X10_setSpring rfl rfl rfl (by decide +kernel) ⟨Nat.le_of_ble_eq_true rfl, Nat.le_of_ble_eq_true rfl⟩) (am_preV X hh 0 11 (by decide) rfl rfl) rfl rfl hl.1 rfl (lv_room (Nat.le_of_ble_eq_true rfl)) dL_act_122 ⟨Nat.le_of_ble_eq_true rfl, Nat.le_of_ble_eq_true rfl⟩) (fun k ab H locs ce q hz hh hce hcv hcl => ?_) (fun r43 ab H locs hz hh => ?_)
            · subst hz
              have hF := am_zl hF
              by_cases he46 : k = 0
              · subst he46
                have hF := am_pos rfl hF
                refine vx_catch (own := RL) (name := exN 0) (E := exN 0) hown (tbL_act.take 4) ⟨119, 125, 247, 107⟩ (tbL_act.drop 5) (htb.trans rfl) (pre_pass [] (by decide +kernel) (List.forall_mem_nil _)) (by decide) (by decide) (hts _ (show Cond.classLink RL 107 "java/lang/IndexOutOfBoundsException" ∈ wsL_act by decide +kernel)) ((X.2.2.1.2.2.2.1 0).use rfl) hce hcv hcl ?_
                refine lv_astore (lv' := [(4, .ref q), (0, .ref (gAd G 0)), (1, .int x1), (2, .int x2), (3, .int x3)]) hx hb dL_act_247 hl (by decide) rfl (fun ls hl => ?_)
                refine lv_iconst (v := (-1 : Int32)) hx hb dL_act_249 (by decide) ?_
                exact am_iret X hr hh (fun t ht => am_qw (mk := oI) hF ht) (Nat.le_of_ble_eq_true rfl) (Nat.le_of_ble_eq_true rfl) dL_act_250
              · have hF := am_neg he46 hF
                by_cases he47 : k = 1
                · subst he47
                  have hF := am_pos rfl hF
                  refine vx_catch (own := RL) (name := exN 1) (E := exN 1) hown (tbL_act.take 24) ⟨119, 125, 251, 109⟩ (tbL_act.drop 25) (htb.trans rfl) (pre_pass [107] (by decide +kernel) (List.forall_mem_cons.mpr ⟨⟨by decide, exN 0, hts _ (show Cond.classLink RL 107 "java/lang/IndexOutOfBoundsException" ∈ wsL_act by decide +kernel), X.2.2.1.2.2.2.2.1 1 0 (by decide) (by decide) (by decide)⟩, List.forall_mem_nil _⟩)) (by decide) (by decide) (hts _ (show Cond.classLink RL 109 "java/lang/IllegalArgumentException" ∈ wsL_act by decide +kernel)) ((X.2.2.1.2.2.2.1 1).use rfl) hce hcv hcl ?_
                  refine lv_astore (lv' := [(4, .ref q), (0, .ref (gAd G 0)), (1, .int x1), (2, .int x2), (3, .int x3)]) hx hb dL_act_251 hl (by decide) rfl (fun ls hl => ?_)
                  refine lv_bipush (v := (-2 : Int32)) hx hb dL_act_253 (by decide) ?_
                  exact am_iret X hr hh (fun t ht => am_qw (mk := oI) hF ht) (Nat.le_of_ble_eq_true rfl) (Nat.le_of_ble_eq_true rfl) dL_act_255
                · have hF := am_neg he47 hF
                  by_cases he48 : k = 2
                  · subst he48
                    have hF := am_pos rfl hF
                    refine vx_catch (own := RL) (name := exN 2) (E := exN 2) hown (tbL_act.take 44) ⟨119, 125, 256, 111⟩ (tbL_act.drop 45) (htb.trans rfl) (pre_pass [107, 109] (by decide +kernel) (List.forall_mem_cons.mpr ⟨⟨by decide, exN 0, hts _ (show Cond.classLink RL 107 "java/lang/IndexOutOfBoundsException" ∈ wsL_act by decide +kernel), X.2.2.1.2.2.2.2.1 2 0 (by decide) (by decide) (by decide)⟩, List.forall_mem_cons.mpr ⟨⟨by decide, exN 1, hts _ (show Cond.classLink RL 109 "java/lang/IllegalArgumentException" ∈ wsL_act by decide +kernel), X.2.2.1.2.2.2.2.1 2 1 (by decide) (by decide) (by decide)⟩, List.forall_mem_nil _⟩⟩)) (by decide) (by decide) (hts _ (show Cond.classLink RL 111 "java/lang/IllegalStateException" ∈ wsL_act by decide +kernel)) ((X.2.2.1.2.2.2.1 2).use rfl) hce hcv hcl ?_
                    refine lv_astore (lv' := [(4, .ref q), (0, .ref (gAd G 0)), (1, .int x1), (2, .int x2), (3, .int x3)]) hx hb dL_act_256 hl (by decide) rfl (fun ls hl => ?_)
                    refine lv_bipush (v := (-3 : Int32)) hx hb dL_act_258 (by decide) ?_
                    exact am_iret X hr hh (fun t ht => am_qw (mk := oI) hF ht) (Nat.le_of_ble_eq_true rfl) (Nat.le_of_ble_eq_true rfl) dL_act_260
                  · have hF := am_neg he48 hF
                    by_cases he49 : k = 3
                    · subst he49
                      have hF := am_pos rfl hF
                      refine vx_catch (own := RL) (name := exN 3) (E := exN 3) hown (tbL_act.take 64) ⟨119, 125, 261, 113⟩ (tbL_act.drop 65) (htb.trans rfl) (pre_pass [107, 109, 111] (by decide +kernel) (List.forall_mem_cons.mpr ⟨⟨by decide, exN 0, hts _ (show Cond.classLink RL 107 "java/lang/IndexOutOfBoundsException" ∈ wsL_act by decide +kernel), X.2.2.1.2.2.2.2.1 3 0 (by decide) (by decide) (by decide)⟩, List.forall_mem_cons.mpr ⟨⟨by decide, exN 1, hts _ (show Cond.classLink RL 109 "java/lang/IllegalArgumentException" ∈ wsL_act by decide +kernel), X.2.2.1.2.2.2.2.1 3 1 (by decide) (by decide) (by decide)⟩, List.forall_mem_cons.mpr ⟨⟨by decide, exN 2, hts _ (show Cond.classLink RL 111 "java/lang/IllegalStateException" ∈ wsL_act by decide +kernel), X.2.2.1.2.2.2.2.1 3 2 (by decide) (by decide) (by decide)⟩, List.forall_mem_nil _⟩⟩⟩)) (by decide) (by decide) (hts _ (show Cond.classLink RL 113 "java/lang/UnsupportedOperationException" ∈ wsL_act by decide +kernel)) ((X.2.2.1.2.2.2.1 3).use rfl) hce hcv hcl ?_
                      refine lv_astore (lv' := [(4, .ref q), (0, .ref (gAd G 0)), (1, .int x1), (2, .int x2), (3, .int x3)]) hx hb dL_act_261 hl (by decide) rfl (fun ls hl => ?_)
                      refine lv_bipush (v := (-4 : Int32)) hx hb dL_act_263 (by decide) ?_
                      exact am_iret X hr hh (fun t ht => am_qw (mk := oI) hF ht) (Nat.le_of_ble_eq_true rfl) (Nat.le_of_ble_eq_true rfl) dL_act_265
                    · have hF := am_neg he49 hF
                      by_cases he50 : k = 4
                      · subst he50
                        have hF := am_pos rfl hF
                        refine vx_catch (own := RL) (name := exN 4) (E := exN 4) hown (tbL_act.take 84) ⟨119, 125, 266, 115⟩ (tbL_act.drop 85) (htb.trans rfl) (pre_pass [107, 109, 111, 113] (by decide +kernel) (List.forall_mem_cons.mpr ⟨⟨by decide, exN 0, hts _ (show Cond.classLink RL 107 "java/lang/IndexOutOfBoundsException" ∈ wsL_act by decide +kernel), X.2.2.1.2.2.2.2.1 4 0 (by decide) (by decide) (by decide)⟩, List.forall_mem_cons.mpr ⟨⟨by decide, exN 1, hts _ (show Cond.classLink RL 109 "java/lang/IllegalArgumentException" ∈ wsL_act by decide +kernel), X.2.2.1.2.2.2.2.1 4 1 (by decide) (by decide) (by decide)⟩, List.forall_mem_cons.mpr ⟨⟨by decide, exN 2, hts _ (show Cond.classLink RL 111 "java/lang/IllegalStateException" ∈ wsL_act by decide +kernel), X.2.2.1.2.2.2.2.1 4 2 (by decide) (by decide) (by decide)⟩, List.forall_mem_cons.mpr ⟨⟨by decide, exN 3, hts _ (show Cond.classLink RL 113 "java/lang/UnsupportedOperationException" ∈ wsL_act by decide +kernel), X.2.2.1.2.2.2.2.1 4 3 (by decide) (by decide) (by decide)⟩, List.forall_mem_nil _⟩⟩⟩⟩)) (by decide) (by decide) (hts _ (show Cond.classLink RL 115 "java/util/NoSuchElementException" ∈ wsL_act by decide +kernel)) ((X.2.2.1.2.2.2.1 4).use rfl) hce hcv hcl ?_
                        refine lv_astore (lv' := [(4, .ref q), (0, .ref (gAd G 0)), (1, .int x1), (2, .int x2), (3, .int x3)]) hx hb dL_act_266 hl (by decide) rfl (fun ls hl => ?_)
                        refine lv_bipush (v := (-5 : Int32)) hx hb dL_act_268 (by decide) ?_
                        exact am_iret X hr hh (fun t ht => am_qw (mk := oI) hF ht) (Nat.le_of_ble_eq_true rfl) (Nat.le_of_ble_eq_true rfl) dL_act_270
                      · have hF := am_neg he50 hF
                        cases hF
            · subst hz
              have hF := am_zr hF
              exact am_iret X hr hh (fun t ht => am_qw (mk := oI) hF ht) (Nat.le_of_ble_eq_true rfl) (Nat.le_of_ble_eq_true rfl) dL_act_125
          · have hF := am_neg hs41 hF
            by_cases hs51 : x1 = (5 : Int32)
            · have hF := am_pos hs51 hF
              refine am_tableIn (k := 5) (tgt := 126) hx hb dL_act_1 hs51 (by decide) rfl (by decide) ?_
              refine lv_aload_n hx hb dL_act_126 rfl (lv_at hl 0 rfl) ?_
              refine lv_iload_n hx hb dL_act_127 rfl (lv_at hl 2 rfl) ?_
              refine lv_iload_n hx hb dL_act_128 rfl (lv_at hl 3 rfl) ?_
              obtain ⟨⟨z55, w54⟩, hk52, hF⟩ := am_bind hF
              have hF := am_u2 hF
              refine am_callX X hh (vx_runV (As := [.int x2, .int x3]) (rest := []) X.1 (c_X10_wind l G hst hk52) (cwV 2 hts gL_act_X10_wind rfl rfl rfl (by decide +kernel) ⟨Nat.le_of_ble_eq_true rfl, Nat.le_of_ble_eq_true rfl⟩) (am_preV X hh 0 11 (by decide) rfl rfl) rfl rfl hl.1 rfl (lv_room (Nat.le_of_ble_eq_true rfl)) dL_act_129 ⟨Nat.le_of_ble_eq_true rfl, Nat.le_of_ble_eq_true rfl⟩) (fun k ab H locs ce q hz hh hce hcv hcl => ?_) (fun r53 ab H locs hz hh => ?_)
              · subst hz
                have hF := am_zl hF
                by_cases he56 : k = 0
                · subst he56
                  have hF := am_pos rfl hF
                  refine vx_catch (own := RL) (name := exN 0) (E := exN 0) hown (tbL_act.take 5) ⟨126, 132, 247, 107⟩ (tbL_act.drop 6) (htb.trans rfl) (pre_pass [] (by decide +kernel) (List.forall_mem_nil _)) (by decide) (by decide) (hts _ (show Cond.classLink RL 107 "java/lang/IndexOutOfBoundsException" ∈ wsL_act by decide +kernel)) ((X.2.2.1.2.2.2.1 0).use rfl) hce hcv hcl ?_
                  refine lv_astore (lv' := [(4, .ref q), (0, .ref (gAd G 0)), (1, .int x1), (2, .int x2), (3, .int x3)]) hx hb dL_act_247 hl (by decide) rfl (fun ls hl => ?_)
                  refine lv_iconst (v := (-1 : Int32)) hx hb dL_act_249 (by decide) ?_
                  exact am_iret X hr hh (fun t ht => am_qw (mk := oI) hF ht) (Nat.le_of_ble_eq_true rfl) (Nat.le_of_ble_eq_true rfl) dL_act_250
                · have hF := am_neg he56 hF
                  by_cases he57 : k = 1
                  · subst he57
                    have hF := am_pos rfl hF
                    refine vx_catch (own := RL) (name := exN 1) (E := exN 1) hown (tbL_act.take 25) ⟨126, 132, 251, 109⟩ (tbL_act.drop 26) (htb.trans rfl) (pre_pass [107] (by decide +kernel) (List.forall_mem_cons.mpr ⟨⟨by decide, exN 0, hts _ (show Cond.classLink RL 107 "java/lang/IndexOutOfBoundsException" ∈ wsL_act by decide +kernel), X.2.2.1.2.2.2.2.1 1 0 (by decide) (by decide) (by decide)⟩, List.forall_mem_nil _⟩)) (by decide) (by decide) (hts _ (show Cond.classLink RL 109 "java/lang/IllegalArgumentException" ∈ wsL_act by decide +kernel)) ((X.2.2.1.2.2.2.1 1).use rfl) hce hcv hcl ?_
                    refine lv_astore (lv' := [(4, .ref q), (0, .ref (gAd G 0)), (1, .int x1), (2, .int x2), (3, .int x3)]) hx hb dL_act_251 hl (by decide) rfl (fun ls hl => ?_)
                    refine lv_bipush (v := (-2 : Int32)) hx hb dL_act_253 (by decide) ?_
                    exact am_iret X hr hh (fun t ht => am_qw (mk := oI) hF ht) (Nat.le_of_ble_eq_true rfl) (Nat.le_of_ble_eq_true rfl) dL_act_255
                  · have hF := am_neg he57 hF
                    by_cases he58 : k = 2
                    · subst he58
                      have hF := am_pos rfl hF
                      refine vx_catch (own := RL) (name := exN 2) (E := exN 2) hown (tbL_act.take 45) ⟨126, 132, 256, 111⟩ (tbL_act.drop 46) (htb.trans rfl) (pre_pass [107, 109] (by decide +kernel) (List.forall_mem_cons.mpr ⟨⟨by decide, exN 0, hts _ (show Cond.classLink RL 107 "java/lang/IndexOutOfBoundsException" ∈ wsL_act by decide +kernel), X.2.2.1.2.2.2.2.1 2 0 (by decide) (by decide) (by decide)⟩, List.forall_mem_cons.mpr ⟨⟨by decide, exN 1, hts _ (show Cond.classLink RL 109 "java/lang/IllegalArgumentException" ∈ wsL_act by decide +kernel), X.2.2.1.2.2.2.2.1 2 1 (by decide) (by decide) (by decide)⟩, List.forall_mem_nil _⟩⟩)) (by decide) (by decide) (hts _ (show Cond.classLink RL 111 "java/lang/IllegalStateException" ∈ wsL_act by decide +kernel)) ((X.2.2.1.2.2.2.1 2).use rfl) hce hcv hcl ?_
                      refine lv_astore (lv' := [(4, .ref q), (0, .ref (gAd G 0)), (1, .int x1), (2, .int x2), (3, .int x3)]) hx hb dL_act_256 hl (by decide) rfl (fun ls hl => ?_)
                      refine lv_bipush (v := (-3 : Int32)) hx hb dL_act_258 (by decide) ?_
                      exact am_iret X hr hh (fun t ht => am_qw (mk := oI) hF ht) (Nat.le_of_ble_eq_true rfl) (Nat.le_of_ble_eq_true rfl) dL_act_260
                    · have hF := am_neg he58 hF
                      by_cases he59 : k = 3
                      · subst he59
                        have hF := am_pos rfl hF
                        refine vx_catch (own := RL) (name := exN 3) (E := exN 3) hown (tbL_act.take 65) ⟨126, 132, 261, 113⟩ (tbL_act.drop 66) (htb.trans rfl) (pre_pass [107, 109, 111] (by decide +kernel) (List.forall_mem_cons.mpr ⟨⟨by decide, exN 0, hts _ (show Cond.classLink RL 107 "java/lang/IndexOutOfBoundsException" ∈ wsL_act by decide +kernel), X.2.2.1.2.2.2.2.1 3 0 (by decide) (by decide) (by decide)⟩, List.forall_mem_cons.mpr ⟨⟨by decide, exN 1, hts _ (show Cond.classLink RL 109 "java/lang/IllegalArgumentException" ∈ wsL_act by decide +kernel), X.2.2.1.2.2.2.2.1 3 1 (by decide) (by decide) (by decide)⟩, List.forall_mem_cons.mpr ⟨⟨by decide, exN 2, hts _ (show Cond.classLink RL 111 "java/lang/IllegalStateException" ∈ wsL_act by decide +kernel), X.2.2.1.2.2.2.2.1 3 2 (by decide) (by decide) (by decide)⟩, List.forall_mem_nil _⟩⟩⟩)) (by decide) (by decide) (hts _ (show Cond.classLink RL 113 "java/lang/UnsupportedOperationException" ∈ wsL_act by decide +kernel)) ((X.2.2.1.2.2.2.1 3).use rfl) hce hcv hcl ?_
                        refine lv_astore (lv' := [(4, .ref q), (0, .ref (gAd G 0)), (1, .int x1), (2, .int x2), (3, .int x3)]) hx hb dL_act_261 hl (by decide) rfl (fun ls hl => ?_)
                        refine lv_bipush (v := (-4 : Int32)) hx hb dL_act_263 (by decide) ?_
                        exact am_iret X hr hh (fun t ht => am_qw (mk := oI) hF ht) (Nat.le_of_ble_eq_true rfl) (Nat.le_of_ble_eq_true rfl) dL_act_265
                      · have hF := am_neg he59 hF
                        by_cases he60 : k = 4
                        · subst he60
                          have hF := am_pos rfl hF
                          refine vx_catch (own := RL) (name := exN 4) (E := exN 4) hown (tbL_act.take 85) ⟨126, 132, 266, 115⟩ (tbL_act.drop 86) (htb.trans rfl) (pre_pass [107, 109, 111, 113] (by decide +kernel) (List.forall_mem_cons.mpr ⟨⟨by decide, exN 0, hts _ (show Cond.classLink RL 107 "java/lang/IndexOutOfBoundsException" ∈ wsL_act by decide +kernel), X.2.2.1.2.2.2.2.1 4 0 (by decide) (by decide) (by decide)⟩, List.forall_mem_cons.mpr ⟨⟨by decide, exN 1, hts _ (show Cond.classLink RL 109 "java/lang/IllegalArgumentException" ∈ wsL_act by decide +kernel), X.2.2.1.2.2.2.2.1 4 1 (by decide) (by decide) (by decide)⟩, List.forall_mem_cons.mpr ⟨⟨by decide, exN 2, hts _ (show Cond.classLink RL 111 "java/lang/IllegalStateException" ∈ wsL_act by decide +kernel), X.2.2.1.2.2.2.2.1 4 2 (by decide) (by decide) (by decide)⟩, List.forall_mem_cons.mpr ⟨⟨by decide, exN 3, hts _ (show Cond.classLink RL 113 "java/lang/UnsupportedOperationException" ∈ wsL_act by decide +kernel), X.2.2.1.2.2.2.2.1 4 3 (by decide) (by decide) (by decide)⟩, List.forall_mem_nil _⟩⟩⟩⟩)) (by decide) (by decide) (hts _ (show Cond.classLink RL 115 "java/util/NoSuchElementException" ∈ wsL_act by decide +kernel)) ((X.2.2.1.2.2.2.1 4).use rfl) hce hcv hcl ?_
                          refine lv_astore (lv' := [(4, .ref q), (0, .ref (gAd G 0)), (1, .int x1), (2, .int x2), (3, .int x3)]) hx hb dL_act_266 hl (by decide) rfl (fun ls hl => ?_)
                          refine lv_bipush (v := (-5 : Int32)) hx hb dL_act_268 (by decide) ?_
                          exact am_iret X hr hh (fun t ht => am_qw (mk := oI) hF ht) (Nat.le_of_ble_eq_true rfl) (Nat.le_of_ble_eq_true rfl) dL_act_270
                        · have hF := am_neg he60 hF
                          cases hF
              · subst hz
                have hF := am_zr hF
                exact am_iret X hr hh (fun t ht => am_qw (mk := oI) hF ht) (Nat.le_of_ble_eq_true rfl) (Nat.le_of_ble_eq_true rfl) dL_act_132
            · have hF := am_neg hs51 hF
              by_cases hs61 : x1 = (6 : Int32)
              · have hF := am_pos hs61 hF
                refine am_tableIn (k := 6) (tgt := 133) hx hb dL_act_1 hs61 (by decide) rfl (by decide) ?_
                refine lv_aload_n hx hb dL_act_133 rfl (lv_at hl 0 rfl) ?_
                refine lv_iload_n hx hb dL_act_134 rfl (lv_at hl 2 rfl) ?_
                obtain ⟨⟨z65, w64⟩, hk62, hF⟩ := am_bind hF
                have hF := am_u2 hF
                refine am_callX X hh (vx_runV (As := [.int x2]) (rest := []) X.1 (c_X10_reverse l G hst hk62) (cwV 1 hts gL_act_X10_reverse rfl rfl rfl (by decide +kernel) ⟨Nat.le_of_ble_eq_true rfl, Nat.le_of_ble_eq_true rfl⟩) (am_preV X hh 0 11 (by decide) rfl rfl) rfl rfl hl.1 rfl (lv_room (Nat.le_of_ble_eq_true rfl)) dL_act_135 ⟨Nat.le_of_ble_eq_true rfl, Nat.le_of_ble_eq_true rfl⟩) (fun k ab H locs ce q hz hh hce hcv hcl => ?_) (fun r63 ab H locs hz hh => ?_)
                · subst hz
                  have hF := am_zl hF
                  by_cases he66 : k = 0
                  · subst he66
                    have hF := am_pos rfl hF
                    refine vx_catch (own := RL) (name := exN 0) (E := exN 0) hown (tbL_act.take 6) ⟨133, 146, 247, 107⟩ (tbL_act.drop 7) (htb.trans rfl) (pre_pass [] (by decide +kernel) (List.forall_mem_nil _)) (by decide) (by decide) (hts _ (show Cond.classLink RL 107 "java/lang/IndexOutOfBoundsException" ∈ wsL_act by decide +kernel)) ((X.2.2.1.2.2.2.1 0).use rfl) hce hcv hcl ?_
                    refine lv_astore (lv' := [(4, .ref q), (0, .ref (gAd G 0)), (1, .int x1), (2, .int x2), (3, .int x3)]) hx hb dL_act_247 hl (by decide) rfl (fun ls hl => ?_)
                    refine lv_iconst (v := (-1 : Int32)) hx hb dL_act_249 (by decide) ?_
                    exact am_iret X hr hh (fun t ht => am_qw (mk := oI) hF ht) (Nat.le_of_ble_eq_true rfl) (Nat.le_of_ble_eq_true rfl) dL_act_250
                  · have hF := am_neg he66 hF
                    by_cases he67 : k = 1
                    · subst he67
                      have hF := am_pos rfl hF
                      refine vx_catch (own := RL) (name := exN 1) (E := exN 1) hown (tbL_act.take 26) ⟨133, 146, 251, 109⟩ (tbL_act.drop 27) (htb.trans rfl) (pre_pass [107] (by decide +kernel) (List.forall_mem_cons.mpr ⟨⟨by decide, exN 0, hts _ (show Cond.classLink RL 107 "java/lang/IndexOutOfBoundsException" ∈ wsL_act by decide +kernel), X.2.2.1.2.2.2.2.1 1 0 (by decide) (by decide) (by decide)⟩, List.forall_mem_nil _⟩)) (by decide) (by decide) (hts _ (show Cond.classLink RL 109 "java/lang/IllegalArgumentException" ∈ wsL_act by decide +kernel)) ((X.2.2.1.2.2.2.1 1).use rfl) hce hcv hcl ?_
                      refine lv_astore (lv' := [(4, .ref q), (0, .ref (gAd G 0)), (1, .int x1), (2, .int x2), (3, .int x3)]) hx hb dL_act_251 hl (by decide) rfl (fun ls hl => ?_)
                      refine lv_bipush (v := (-2 : Int32)) hx hb dL_act_253 (by decide) ?_
                      exact am_iret X hr hh (fun t ht => am_qw (mk := oI) hF ht) (Nat.le_of_ble_eq_true rfl) (Nat.le_of_ble_eq_true rfl) dL_act_255
                    · have hF := am_neg he67 hF
                      by_cases he68 : k = 2
                      · subst he68
                        have hF := am_pos rfl hF
                        refine vx_catch (own := RL) (name := exN 2) (E := exN 2) hown (tbL_act.take 46) ⟨133, 146, 256, 111⟩ (tbL_act.drop 47) (htb.trans rfl) (pre_pass [107, 109] (by decide +kernel) (List.forall_mem_cons.mpr ⟨⟨by decide, exN 0, hts _ (show Cond.classLink RL 107 "java/lang/IndexOutOfBoundsException" ∈ wsL_act by decide +kernel), X.2.2.1.2.2.2.2.1 2 0 (by decide) (by decide) (by decide)⟩, List.forall_mem_cons.mpr ⟨⟨by decide, exN 1, hts _ (show Cond.classLink RL 109 "java/lang/IllegalArgumentException" ∈ wsL_act by decide +kernel), X.2.2.1.2.2.2.2.1 2 1 (by decide) (by decide) (by decide)⟩, List.forall_mem_nil _⟩⟩)) (by decide) (by decide) (hts _ (show Cond.classLink RL 111 "java/lang/IllegalStateException" ∈ wsL_act by decide +kernel)) ((X.2.2.1.2.2.2.1 2).use rfl) hce hcv hcl ?_
                        refine lv_astore (lv' := [(4, .ref q), (0, .ref (gAd G 0)), (1, .int x1), (2, .int x2), (3, .int x3)]) hx hb dL_act_256 hl (by decide) rfl (fun ls hl => ?_)
                        refine lv_bipush (v := (-3 : Int32)) hx hb dL_act_258 (by decide) ?_
                        exact am_iret X hr hh (fun t ht => am_qw (mk := oI) hF ht) (Nat.le_of_ble_eq_true rfl) (Nat.le_of_ble_eq_true rfl) dL_act_260
                      · have hF := am_neg he68 hF
                        by_cases he69 : k = 3
                        · subst he69
                          have hF := am_pos rfl hF
                          refine vx_catch (own := RL) (name := exN 3) (E := exN 3) hown (tbL_act.take 66) ⟨133, 146, 261, 113⟩ (tbL_act.drop 67) (htb.trans rfl) (pre_pass [107, 109, 111] (by decide +kernel) (List.forall_mem_cons.mpr ⟨⟨by decide, exN 0, hts _ (show Cond.classLink RL 107 "java/lang/IndexOutOfBoundsException" ∈ wsL_act by decide +kernel), X.2.2.1.2.2.2.2.1 3 0 (by decide) (by decide) (by decide)⟩, List.forall_mem_cons.mpr ⟨⟨by decide, exN 1, hts _ (show Cond.classLink RL 109 "java/lang/IllegalArgumentException" ∈ wsL_act by decide +kernel), X.2.2.1.2.2.2.2.1 3 1 (by decide) (by decide) (by decide)⟩, List.forall_mem_cons.mpr ⟨⟨by decide, exN 2, hts _ (show Cond.classLink RL 111 "java/lang/IllegalStateException" ∈ wsL_act by decide +kernel), X.2.2.1.2.2.2.2.1 3 2 (by decide) (by decide) (by decide)⟩, List.forall_mem_nil _⟩⟩⟩)) (by decide) (by decide) (hts _ (show Cond.classLink RL 113 "java/lang/UnsupportedOperationException" ∈ wsL_act by decide +kernel)) ((X.2.2.1.2.2.2.1 3).use rfl) hce hcv hcl ?_
                          refine lv_astore (lv' := [(4, .ref q), (0, .ref (gAd G 0)), (1, .int x1), (2, .int x2), (3, .int x3)]) hx hb dL_act_261 hl (by decide) rfl (fun ls hl => ?_)
                          refine lv_bipush (v := (-4 : Int32)) hx hb dL_act_263 (by decide) ?_
                          exact am_iret X hr hh (fun t ht => am_qw (mk := oI) hF ht) (Nat.le_of_ble_eq_true rfl) (Nat.le_of_ble_eq_true rfl) dL_act_265
                        · have hF := am_neg he69 hF
                          by_cases he70 : k = 4
                          · subst he70
                            have hF := am_pos rfl hF
                            refine vx_catch (own := RL) (name := exN 4) (E := exN 4) hown (tbL_act.take 86) ⟨133, 146, 266, 115⟩ (tbL_act.drop 87) (htb.trans rfl) (pre_pass [107, 109, 111, 113] (by decide +kernel) (List.forall_mem_cons.mpr ⟨⟨by decide, exN 0, hts _ (show Cond.classLink RL 107 "java/lang/IndexOutOfBoundsException" ∈ wsL_act by decide +kernel), X.2.2.1.2.2.2.2.1 4 0 (by decide) (by decide) (by decide)⟩, List.forall_mem_cons.mpr ⟨⟨by decide, exN 1, hts _ (show Cond.classLink RL 109 "java/lang/IllegalArgumentException" ∈ wsL_act by decide +kernel), X.2.2.1.2.2.2.2.1 4 1 (by decide) (by decide) (by decide)⟩, List.forall_mem_cons.mpr ⟨⟨by decide, exN 2, hts _ (show Cond.classLink RL 111 "java/lang/IllegalStateException" ∈ wsL_act by decide +kernel), X.2.2.1.2.2.2.2.1 4 2 (by decide) (by decide) (by decide)⟩, List.forall_mem_cons.mpr ⟨⟨by decide, exN 3, hts _ (show Cond.classLink RL 113 "java/lang/UnsupportedOperationException" ∈ wsL_act by decide +kernel), X.2.2.1.2.2.2.2.1 4 3 (by decide) (by decide) (by decide)⟩, List.forall_mem_nil _⟩⟩⟩⟩)) (by decide) (by decide) (hts _ (show Cond.classLink RL 115 "java/util/NoSuchElementException" ∈ wsL_act by decide +kernel)) ((X.2.2.1.2.2.2.1 4).use rfl) hce hcv hcl ?_
                            refine lv_astore (lv' := [(4, .ref q), (0, .ref (gAd G 0)), (1, .int x1), (2, .int x2), (3, .int x3)]) hx hb dL_act_266 hl (by decide) rfl (fun ls hl => ?_)
                            refine lv_bipush (v := (-5 : Int32)) hx hb dL_act_268 (by decide) ?_
                            exact am_iret X hr hh (fun t ht => am_qw (mk := oI) hF ht) (Nat.le_of_ble_eq_true rfl) (Nat.le_of_ble_eq_true rfl) dL_act_270
                          · have hF := am_neg he70 hF
                            cases hF
                · subst hz
                  have hF := am_zr hF
                  refine lv_if_eq (tgt := 145) hx hb dL_act_138 (by decide) (fun hc71 => ?_) (fun hc71 => ?_)
                  · have hF := am_pos hc71 hF
                    refine lv_iconst (v := (0 : Int32)) hx hb dL_act_145 (by decide) ?_
                    exact am_iret X hr hh (fun t ht => am_qw (mk := oI) hF ht) (Nat.le_of_ble_eq_true rfl) (Nat.le_of_ble_eq_true rfl) dL_act_146
                  · have hF := am_neg hc71 hF
                    refine lv_iconst (v := (1 : Int32)) hx hb dL_act_141 (by decide) ?_
                    refine lv_goto (tgt := 146) hx hb dL_act_142 (by decide) ?_
                    exact am_iret X hr hh (fun t ht => am_qw (mk := oI) hF ht) (Nat.le_of_ble_eq_true rfl) (Nat.le_of_ble_eq_true rfl) dL_act_146
              · have hF := am_neg hs61 hF
                by_cases hs72 : x1 = (7 : Int32)
                · have hF := am_pos hs72 hF
                  refine am_tableIn (k := 7) (tgt := 147) hx hb dL_act_1 hs72 (by decide) rfl (by decide) ?_
                  refine lv_aload_n hx hb dL_act_147 rfl (lv_at hl 0 rfl) ?_
                  refine lv_iload_n hx hb dL_act_148 rfl (lv_at hl 2 rfl) ?_
                  refine lv_iload_n hx hb dL_act_149 rfl (lv_at hl 3 rfl) ?_
                  obtain ⟨⟨z76, w75⟩, hk73, hF⟩ := am_bind hF
                  have hF := am_u2 hF
                  refine am_callX X hh (vx_runV (As := [.int x2, .int x3]) (rest := []) X.1 (c_X10_release l G hst hk73) (cwV 2 hts gL_act_X10_release rfl rfl rfl (by decide +kernel) ⟨Nat.le_of_ble_eq_true rfl, Nat.le_of_ble_eq_true rfl⟩) (am_preV X hh 0 11 (by decide) rfl rfl) rfl rfl hl.1 rfl (lv_room (Nat.le_of_ble_eq_true rfl)) dL_act_150 ⟨Nat.le_of_ble_eq_true rfl, Nat.le_of_ble_eq_true rfl⟩) (fun k ab H locs ce q hz hh hce hcv hcl => ?_) (fun r74 ab H locs hz hh => ?_)
                  · subst hz
                    have hF := am_zl hF
                    by_cases he77 : k = 0
                    · subst he77
                      have hF := am_pos rfl hF
                      refine vx_catch (own := RL) (name := exN 0) (E := exN 0) hown (tbL_act.take 7) ⟨147, 153, 247, 107⟩ (tbL_act.drop 8) (htb.trans rfl) (pre_pass [] (by decide +kernel) (List.forall_mem_nil _)) (by decide) (by decide) (hts _ (show Cond.classLink RL 107 "java/lang/IndexOutOfBoundsException" ∈ wsL_act by decide +kernel)) ((X.2.2.1.2.2.2.1 0).use rfl) hce hcv hcl ?_
                      refine lv_astore (lv' := [(4, .ref q), (0, .ref (gAd G 0)), (1, .int x1), (2, .int x2), (3, .int x3)]) hx hb dL_act_247 hl (by decide) rfl (fun ls hl => ?_)
                      refine lv_iconst (v := (-1 : Int32)) hx hb dL_act_249 (by decide) ?_
                      exact am_iret X hr hh (fun t ht => am_qw (mk := oI) hF ht) (Nat.le_of_ble_eq_true rfl) (Nat.le_of_ble_eq_true rfl) dL_act_250
                    · have hF := am_neg he77 hF
                      by_cases he78 : k = 1
                      · subst he78
                        have hF := am_pos rfl hF
                        refine vx_catch (own := RL) (name := exN 1) (E := exN 1) hown (tbL_act.take 27) ⟨147, 153, 251, 109⟩ (tbL_act.drop 28) (htb.trans rfl) (pre_pass [107] (by decide +kernel) (List.forall_mem_cons.mpr ⟨⟨by decide, exN 0, hts _ (show Cond.classLink RL 107 "java/lang/IndexOutOfBoundsException" ∈ wsL_act by decide +kernel), X.2.2.1.2.2.2.2.1 1 0 (by decide) (by decide) (by decide)⟩, List.forall_mem_nil _⟩)) (by decide) (by decide) (hts _ (show Cond.classLink RL 109 "java/lang/IllegalArgumentException" ∈ wsL_act by decide +kernel)) ((X.2.2.1.2.2.2.1 1).use rfl) hce hcv hcl ?_
                        refine lv_astore (lv' := [(4, .ref q), (0, .ref (gAd G 0)), (1, .int x1), (2, .int x2), (3, .int x3)]) hx hb dL_act_251 hl (by decide) rfl (fun ls hl => ?_)
                        refine lv_bipush (v := (-2 : Int32)) hx hb dL_act_253 (by decide) ?_
                        exact am_iret X hr hh (fun t ht => am_qw (mk := oI) hF ht) (Nat.le_of_ble_eq_true rfl) (Nat.le_of_ble_eq_true rfl) dL_act_255
                      · have hF := am_neg he78 hF
                        by_cases he79 : k = 2
                        · subst he79
                          have hF := am_pos rfl hF
                          refine vx_catch (own := RL) (name := exN 2) (E := exN 2) hown (tbL_act.take 47) ⟨147, 153, 256, 111⟩ (tbL_act.drop 48) (htb.trans rfl) (pre_pass [107, 109] (by decide +kernel) (List.forall_mem_cons.mpr ⟨⟨by decide, exN 0, hts _ (show Cond.classLink RL 107 "java/lang/IndexOutOfBoundsException" ∈ wsL_act by decide +kernel), X.2.2.1.2.2.2.2.1 2 0 (by decide) (by decide) (by decide)⟩, List.forall_mem_cons.mpr ⟨⟨by decide, exN 1, hts _ (show Cond.classLink RL 109 "java/lang/IllegalArgumentException" ∈ wsL_act by decide +kernel), X.2.2.1.2.2.2.2.1 2 1 (by decide) (by decide) (by decide)⟩, List.forall_mem_nil _⟩⟩)) (by decide) (by decide) (hts _ (show Cond.classLink RL 111 "java/lang/IllegalStateException" ∈ wsL_act by decide +kernel)) ((X.2.2.1.2.2.2.1 2).use rfl) hce hcv hcl ?_
                          refine lv_astore (lv' := [(4, .ref q), (0, .ref (gAd G 0)), (1, .int x1), (2, .int x2), (3, .int x3)]) hx hb dL_act_256 hl (by decide) rfl (fun ls hl => ?_)
                          refine lv_bipush (v := (-3 : Int32)) hx hb dL_act_258 (by decide) ?_
                          exact am_iret X hr hh (fun t ht => am_qw (mk := oI) hF ht) (Nat.le_of_ble_eq_true rfl) (Nat.le_of_ble_eq_true rfl) dL_act_260
                        · have hF := am_neg he79 hF
                          by_cases he80 : k = 3
                          · subst he80
                            have hF := am_pos rfl hF
                            refine vx_catch (own := RL) (name := exN 3) (E := exN 3) hown (tbL_act.take 67) ⟨147, 153, 261, 113⟩ (tbL_act.drop 68) (htb.trans rfl) (pre_pass [107, 109, 111] (by decide +kernel) (List.forall_mem_cons.mpr ⟨⟨by decide, exN 0, hts _ (show Cond.classLink RL 107 "java/lang/IndexOutOfBoundsException" ∈ wsL_act by decide +kernel), X.2.2.1.2.2.2.2.1 3 0 (by decide) (by decide) (by decide)⟩, List.forall_mem_cons.mpr ⟨⟨by decide, exN 1, hts _ (show Cond.classLink RL 109 "java/lang/IllegalArgumentException" ∈ wsL_act by decide +kernel), X.2.2.1.2.2.2.2.1 3 1 (by decide) (by decide) (by decide)⟩, List.forall_mem_cons.mpr ⟨⟨by decide, exN 2, hts _ (show Cond.classLink RL 111 "java/lang/IllegalStateException" ∈ wsL_act by decide +kernel), X.2.2.1.2.2.2.2.1 3 2 (by decide) (by decide) (by decide)⟩, List.forall_mem_nil _⟩⟩⟩)) (by decide) (by decide) (hts _ (show Cond.classLink RL 113 "java/lang/UnsupportedOperationException" ∈ wsL_act by decide +kernel)) ((X.2.2.1.2.2.2.1 3).use rfl) hce hcv hcl ?_
                            refine lv_astore (lv' := [(4, .ref q), (0, .ref (gAd G 0)), (1, .int x1), (2, .int x2), (3, .int x3)]) hx hb dL_act_261 hl (by decide) rfl (fun ls hl => ?_)
                            refine lv_bipush (v := (-4 : Int32)) hx hb dL_act_263 (by decide) ?_
                            exact am_iret X hr hh (fun t ht => am_qw (mk := oI) hF ht) (Nat.le_of_ble_eq_true rfl) (Nat.le_of_ble_eq_true rfl) dL_act_265
                          · have hF := am_neg he80 hF
                            by_cases he81 : k = 4
                            · subst he81
                              have hF := am_pos rfl hF
                              refine vx_catch (own := RL) (name := exN 4) (E := exN 4) hown (tbL_act.take 87) ⟨147, 153, 266, 115⟩ (tbL_act.drop 88) (htb.trans rfl) (pre_pass [107, 109, 111, 113] (by decide +kernel) (List.forall_mem_cons.mpr ⟨⟨by decide, exN 0, hts _ (show Cond.classLink RL 107 "java/lang/IndexOutOfBoundsException" ∈ wsL_act by decide +kernel), X.2.2.1.2.2.2.2.1 4 0 (by decide) (by decide) (by decide)⟩, List.forall_mem_cons.mpr ⟨⟨by decide, exN 1, hts _ (show Cond.classLink RL 109 "java/lang/IllegalArgumentException" ∈ wsL_act by decide +kernel), X.2.2.1.2.2.2.2.1 4 1 (by decide) (by decide) (by decide)⟩, List.forall_mem_cons.mpr ⟨⟨by decide, exN 2, hts _ (show Cond.classLink RL 111 "java/lang/IllegalStateException" ∈ wsL_act by decide +kernel), X.2.2.1.2.2.2.2.1 4 2 (by decide) (by decide) (by decide)⟩, List.forall_mem_cons.mpr ⟨⟨by decide, exN 3, hts _ (show Cond.classLink RL 113 "java/lang/UnsupportedOperationException" ∈ wsL_act by decide +kernel), X.2.2.1.2.2.2.2.1 4 3 (by decide) (by decide) (by decide)⟩, List.forall_mem_nil _⟩⟩⟩⟩)) (by decide) (by decide) (hts _ (show Cond.classLink RL 115 "java/util/NoSuchElementException" ∈ wsL_act by decide +kernel)) ((X.2.2.1.2.2.2.1 4).use rfl) hce hcv hcl ?_
                              refine lv_astore (lv' := [(4, .ref q), (0, .ref (gAd G 0)), (1, .int x1), (2, .int x2), (3, .int x3)]) hx hb dL_act_266 hl (by decide) rfl (fun ls hl => ?_)
                              refine lv_bipush (v := (-5 : Int32)) hx hb dL_act_268 (by decide) ?_
                              exact am_iret X hr hh (fun t ht => am_qw (mk := oI) hF ht) (Nat.le_of_ble_eq_true rfl) (Nat.le_of_ble_eq_true rfl) dL_act_270
                            · have hF := am_neg he81 hF
                              cases hF
                  · subst hz
                    have hF := am_zr hF
                    exact am_iret X hr hh (fun t ht => am_qw (mk := oI) hF ht) (Nat.le_of_ble_eq_true rfl) (Nat.le_of_ble_eq_true rfl) dL_act_153
                · have hF := am_neg hs72 hF
                  by_cases hs82 : x1 = (8 : Int32)
                  · have hF := am_pos hs82 hF
                    refine am_tableIn (k := 8) (tgt := 154) hx hb dL_act_1 hs82 (by decide) rfl (by decide) ?_
                    refine lv_aload_n hx hb dL_act_154 rfl (lv_at hl 0 rfl) ?_
                    refine lv_iload_n hx hb dL_act_155 rfl (lv_at hl 2 rfl) ?_
                    obtain ⟨⟨z86, w85⟩, hk83, hF⟩ := am_bind hF
                    have hF := am_u2 hF
                    refine am_callX X hh (vx_runV (As := [.int x2]) (rest := []) X.1 (c_X10_oil l G hst hk83) (cwV 1 hts gL_act_X10_oil rfl rfl rfl (by decide +kernel) ⟨Nat.le_of_ble_eq_true rfl, Nat.le_of_ble_eq_true rfl⟩) (am_preV X hh 0 11 (by decide) rfl rfl) rfl rfl hl.1 rfl (lv_room (Nat.le_of_ble_eq_true rfl)) dL_act_156 ⟨Nat.le_of_ble_eq_true rfl, Nat.le_of_ble_eq_true rfl⟩) (fun k ab H locs ce q hz hh hce hcv hcl => ?_) (fun r84 ab H locs hz hh => ?_)
                    · subst hz
                      have hF := am_zl hF
                      by_cases he87 : k = 0
                      · subst he87
                        have hF := am_pos rfl hF
                        refine vx_catch (own := RL) (name := exN 0) (E := exN 0) hown (tbL_act.take 8) ⟨154, 159, 247, 107⟩ (tbL_act.drop 9) (htb.trans rfl) (pre_pass [] (by decide +kernel) (List.forall_mem_nil _)) (by decide) (by decide) (hts _ (show Cond.classLink RL 107 "java/lang/IndexOutOfBoundsException" ∈ wsL_act by decide +kernel)) ((X.2.2.1.2.2.2.1 0).use rfl) hce hcv hcl ?_
                        refine lv_astore (lv' := [(4, .ref q), (0, .ref (gAd G 0)), (1, .int x1), (2, .int x2), (3, .int x3)]) hx hb dL_act_247 hl (by decide) rfl (fun ls hl => ?_)
                        refine lv_iconst (v := (-1 : Int32)) hx hb dL_act_249 (by decide) ?_
                        exact am_iret X hr hh (fun t ht => am_qw (mk := oI) hF ht) (Nat.le_of_ble_eq_true rfl) (Nat.le_of_ble_eq_true rfl) dL_act_250
                      · have hF := am_neg he87 hF
                        by_cases he88 : k = 1
                        · subst he88
                          have hF := am_pos rfl hF
                          refine vx_catch (own := RL) (name := exN 1) (E := exN 1) hown (tbL_act.take 28) ⟨154, 159, 251, 109⟩ (tbL_act.drop 29) (htb.trans rfl) (pre_pass [107] (by decide +kernel) (List.forall_mem_cons.mpr ⟨⟨by decide, exN 0, hts _ (show Cond.classLink RL 107 "java/lang/IndexOutOfBoundsException" ∈ wsL_act by decide +kernel), X.2.2.1.2.2.2.2.1 1 0 (by decide) (by decide) (by decide)⟩, List.forall_mem_nil _⟩)) (by decide) (by decide) (hts _ (show Cond.classLink RL 109 "java/lang/IllegalArgumentException" ∈ wsL_act by decide +kernel)) ((X.2.2.1.2.2.2.1 1).use rfl) hce hcv hcl ?_
                          refine lv_astore (lv' := [(4, .ref q), (0, .ref (gAd G 0)), (1, .int x1), (2, .int x2), (3, .int x3)]) hx hb dL_act_251 hl (by decide) rfl (fun ls hl => ?_)
                          refine lv_bipush (v := (-2 : Int32)) hx hb dL_act_253 (by decide) ?_
                          exact am_iret X hr hh (fun t ht => am_qw (mk := oI) hF ht) (Nat.le_of_ble_eq_true rfl) (Nat.le_of_ble_eq_true rfl) dL_act_255
                        · have hF := am_neg he88 hF
                          by_cases he89 : k = 2
                          · subst he89
                            have hF := am_pos rfl hF
                            refine vx_catch (own := RL) (name := exN 2) (E := exN 2) hown (tbL_act.take 48) ⟨154, 159, 256, 111⟩ (tbL_act.drop 49) (htb.trans rfl) (pre_pass [107, 109] (by decide +kernel) (List.forall_mem_cons.mpr ⟨⟨by decide, exN 0, hts _ (show Cond.classLink RL 107 "java/lang/IndexOutOfBoundsException" ∈ wsL_act by decide +kernel), X.2.2.1.2.2.2.2.1 2 0 (by decide) (by decide) (by decide)⟩, List.forall_mem_cons.mpr ⟨⟨by decide, exN 1, hts _ (show Cond.classLink RL 109 "java/lang/IllegalArgumentException" ∈ wsL_act by decide +kernel), X.2.2.1.2.2.2.2.1 2 1 (by decide) (by decide) (by decide)⟩, List.forall_mem_nil _⟩⟩)) (by decide) (by decide) (hts _ (show Cond.classLink RL 111 "java/lang/IllegalStateException" ∈ wsL_act by decide +kernel)) ((X.2.2.1.2.2.2.1 2).use rfl) hce hcv hcl ?_
                            refine lv_astore (lv' := [(4, .ref q), (0, .ref (gAd G 0)), (1, .int x1), (2, .int x2), (3, .int x3)]) hx hb dL_act_256 hl (by decide) rfl (fun ls hl => ?_)
                            refine lv_bipush (v := (-3 : Int32)) hx hb dL_act_258 (by decide) ?_
                            exact am_iret X hr hh (fun t ht => am_qw (mk := oI) hF ht) (Nat.le_of_ble_eq_true rfl) (Nat.le_of_ble_eq_true rfl) dL_act_260
                          · have hF := am_neg he89 hF
                            by_cases he90 : k = 3
                            · subst he90
                              have hF := am_pos rfl hF
                              refine vx_catch (own := RL) (name := exN 3) (E := exN 3) hown (tbL_act.take 68) ⟨154, 159, 261, 113⟩ (tbL_act.drop 69) (htb.trans rfl) (pre_pass [107, 109, 111] (by decide +kernel) (List.forall_mem_cons.mpr ⟨⟨by decide, exN 0, hts _ (show Cond.classLink RL 107 "java/lang/IndexOutOfBoundsException" ∈ wsL_act by decide +kernel), X.2.2.1.2.2.2.2.1 3 0 (by decide) (by decide) (by decide)⟩, List.forall_mem_cons.mpr ⟨⟨by decide, exN 1, hts _ (show Cond.classLink RL 109 "java/lang/IllegalArgumentException" ∈ wsL_act by decide +kernel), X.2.2.1.2.2.2.2.1 3 1 (by decide) (by decide) (by decide)⟩, List.forall_mem_cons.mpr ⟨⟨by decide, exN 2, hts _ (show Cond.classLink RL 111 "java/lang/IllegalStateException" ∈ wsL_act by decide +kernel), X.2.2.1.2.2.2.2.1 3 2 (by decide) (by decide) (by decide)⟩, List.forall_mem_nil _⟩⟩⟩)) (by decide) (by decide) (hts _ (show Cond.classLink RL 113 "java/lang/UnsupportedOperationException" ∈ wsL_act by decide +kernel)) ((X.2.2.1.2.2.2.1 3).use rfl) hce hcv hcl ?_
                              refine lv_astore (lv' := [(4, .ref q), (0, .ref (gAd G 0)), (1, .int x1), (2, .int x2), (3, .int x3)]) hx hb dL_act_261 hl (by decide) rfl (fun ls hl => ?_)
                              refine lv_bipush (v := (-4 : Int32)) hx hb dL_act_263 (by decide) ?_
                              exact am_iret X hr hh (fun t ht => am_qw (mk := oI) hF ht) (Nat.le_of_ble_eq_true rfl) (Nat.le_of_ble_eq_true rfl) dL_act_265
                            · have hF := am_neg he90 hF
                              by_cases he91 : k = 4
                              · subst he91
                                have hF := am_pos rfl hF
                                refine vx_catch (own := RL) (name := exN 4) (E := exN 4) hown (tbL_act.take 88) ⟨154, 159, 266, 115⟩ (tbL_act.drop 89) (htb.trans rfl) (pre_pass [107, 109, 111, 113] (by decide +kernel) (List.forall_mem_cons.mpr ⟨⟨by decide, exN 0, hts _ (show Cond.classLink RL 107 "java/lang/IndexOutOfBoundsException" ∈ wsL_act by decide +kernel), X.2.2.1.2.2.2.2.1 4 0 (by decide) (by decide) (by decide)⟩, List.forall_mem_cons.mpr ⟨⟨by decide, exN 1, hts _ (show Cond.classLink RL 109 "java/lang/IllegalArgumentException" ∈ wsL_act by decide +kernel), X.2.2.1.2.2.2.2.1 4 1 (by decide) (by decide) (by decide)⟩, List.forall_mem_cons.mpr ⟨⟨by decide, exN 2, hts _ (show Cond.classLink RL 111 "java/lang/IllegalStateException" ∈ wsL_act by decide +kernel), X.2.2.1.2.2.2.2.1 4 2 (by decide) (by decide) (by decide)⟩, List.forall_mem_cons.mpr ⟨⟨by decide, exN 3, hts _ (show Cond.classLink RL 113 "java/lang/UnsupportedOperationException" ∈ wsL_act by decide +kernel), X.2.2.1.2.2.2.2.1 4 3 (by decide) (by decide) (by decide)⟩, List.forall_mem_nil _⟩⟩⟩⟩)) (by decide) (by decide) (hts _ (show Cond.classLink RL 115 "java/util/NoSuchElementException" ∈ wsL_act by decide +kernel)) ((X.2.2.1.2.2.2.1 4).use rfl) hce hcv hcl ?_
                                refine lv_astore (lv' := [(4, .ref q), (0, .ref (gAd G 0)), (1, .int x1), (2, .int x2), (3, .int x3)]) hx hb dL_act_266 hl (by decide) rfl (fun ls hl => ?_)
                                refine lv_bipush (v := (-5 : Int32)) hx hb dL_act_268 (by decide) ?_
                                exact am_iret X hr hh (fun t ht => am_qw (mk := oI) hF ht) (Nat.le_of_ble_eq_true rfl) (Nat.le_of_ble_eq_true rfl) dL_act_270
                              · have hF := am_neg he91 hF
                                cases hF
                    · subst hz
                      have hF := am_zr hF
                      exact am_iret X hr hh (fun t ht => am_qw (mk := oI) hF ht) (Nat.le_of_ble_eq_true rfl) (Nat.le_of_ble_eq_true rfl) dL_act_159
                  · have hF := am_neg hs82 hF
                    by_cases hs92 : x1 = (9 : Int32)
                    · have hF := am_pos hs92 hF
                      refine am_tableIn (k := 9) (tgt := 160) hx hb dL_act_1 hs92 (by decide) rfl (by decide) ?_
                      refine lv_aload_n hx hb dL_act_160 rfl (lv_at hl 0 rfl) ?_
                      refine lv_iload_n hx hb dL_act_161 rfl (lv_at hl 2 rfl) ?_
                      refine lv_iload_n hx hb dL_act_162 rfl (lv_at hl 3 rfl) ?_
                      refine lv_iconst (v := (1 : Int32)) hx hb dL_act_163 (by decide) ?_
                      refine lv_icmp_ne (tgt := 171) hx hb dL_act_164 (by decide) (fun hc93 => ?_) (fun hc93 => ?_)
                      · have hF := am_neg hc93 hF
                        refine lv_iconst (v := (0 : Int32)) hx hb dL_act_171 (by decide) ?_
                        obtain ⟨⟨z97, w96⟩, hk94, hF⟩ := am_bind hF
                        have hF := am_u2 hF
                        refine am_callX X hh (vx_runV (As := [.int x2, .int (0 : Int32)]) (rest := []) X.1 (c_X10_setRatchet l G hst hk94) (cwV 2 hts gL_act_X10_setRatchet rfl rfl rfl (by decide +kernel) ⟨Nat.le_of_ble_eq_true rfl, Nat.le_of_ble_eq_true rfl⟩) (am_preV X hh 0 11 (by decide) rfl rfl) rfl rfl hl.1 rfl (lv_room (Nat.le_of_ble_eq_true rfl)) dL_act_172 ⟨Nat.le_of_ble_eq_true rfl, Nat.le_of_ble_eq_true rfl⟩) (fun k ab H locs ce q hz hh hce hcv hcl => ?_) (fun r95 ab H locs hz hh => ?_)
                        · subst hz
                          have hF := am_zl hF
                          by_cases he98 : k = 0
                          · subst he98
                            have hF := am_pos rfl hF
                            refine vx_catch (own := RL) (name := exN 0) (E := exN 0) hown (tbL_act.take 9) ⟨160, 183, 247, 107⟩ (tbL_act.drop 10) (htb.trans rfl) (pre_pass [] (by decide +kernel) (List.forall_mem_nil _)) (by decide) (by decide) (hts _ (show Cond.classLink RL 107 "java/lang/IndexOutOfBoundsException" ∈ wsL_act by decide +kernel)) ((X.2.2.1.2.2.2.1 0).use rfl) hce hcv hcl ?_
                            refine lv_astore (lv' := [(4, .ref q), (0, .ref (gAd G 0)), (1, .int x1), (2, .int x2), (3, .int x3)]) hx hb dL_act_247 hl (by decide) rfl (fun ls hl => ?_)
                            refine lv_iconst (v := (-1 : Int32)) hx hb dL_act_249 (by decide) ?_
                            exact am_iret X hr hh (fun t ht => am_qw (mk := oI) hF ht) (Nat.le_of_ble_eq_true rfl) (Nat.le_of_ble_eq_true rfl) dL_act_250
                          · have hF := am_neg he98 hF
                            by_cases he99 : k = 1
                            · subst he99
                              have hF := am_pos rfl hF
                              refine vx_catch (own := RL) (name := exN 1) (E := exN 1) hown (tbL_act.take 29) ⟨160, 183, 251, 109⟩ (tbL_act.drop 30) (htb.trans rfl) (pre_pass [107] (by decide +kernel) (List.forall_mem_cons.mpr ⟨⟨by decide, exN 0, hts _ (show Cond.classLink RL 107 "java/lang/IndexOutOfBoundsException" ∈ wsL_act by decide +kernel), X.2.2.1.2.2.2.2.1 1 0 (by decide) (by decide) (by decide)⟩, List.forall_mem_nil _⟩)) (by decide) (by decide) (hts _ (show Cond.classLink RL 109 "java/lang/IllegalArgumentException" ∈ wsL_act by decide +kernel)) ((X.2.2.1.2.2.2.1 1).use rfl) hce hcv hcl ?_
                              refine lv_astore (lv' := [(4, .ref q), (0, .ref (gAd G 0)), (1, .int x1), (2, .int x2), (3, .int x3)]) hx hb dL_act_251 hl (by decide) rfl (fun ls hl => ?_)
                              refine lv_bipush (v := (-2 : Int32)) hx hb dL_act_253 (by decide) ?_
                              exact am_iret X hr hh (fun t ht => am_qw (mk := oI) hF ht) (Nat.le_of_ble_eq_true rfl) (Nat.le_of_ble_eq_true rfl) dL_act_255
                            · have hF := am_neg he99 hF
                              by_cases he100 : k = 2
                              · subst he100
                                have hF := am_pos rfl hF
                                refine vx_catch (own := RL) (name := exN 2) (E := exN 2) hown (tbL_act.take 49) ⟨160, 183, 256, 111⟩ (tbL_act.drop 50) (htb.trans rfl) (pre_pass [107, 109] (by decide +kernel) (List.forall_mem_cons.mpr ⟨⟨by decide, exN 0, hts _ (show Cond.classLink RL 107 "java/lang/IndexOutOfBoundsException" ∈ wsL_act by decide +kernel), X.2.2.1.2.2.2.2.1 2 0 (by decide) (by decide) (by decide)⟩, List.forall_mem_cons.mpr ⟨⟨by decide, exN 1, hts _ (show Cond.classLink RL 109 "java/lang/IllegalArgumentException" ∈ wsL_act by decide +kernel), X.2.2.1.2.2.2.2.1 2 1 (by decide) (by decide) (by decide)⟩, List.forall_mem_nil _⟩⟩)) (by decide) (by decide) (hts _ (show Cond.classLink RL 111 "java/lang/IllegalStateException" ∈ wsL_act by decide +kernel)) ((X.2.2.1.2.2.2.1 2).use rfl) hce hcv hcl ?_
                                refine lv_astore (lv' := [(4, .ref q), (0, .ref (gAd G 0)), (1, .int x1), (2, .int x2), (3, .int x3)]) hx hb dL_act_256 hl (by decide) rfl (fun ls hl => ?_)
                                refine lv_bipush (v := (-3 : Int32)) hx hb dL_act_258 (by decide) ?_
                                exact am_iret X hr hh (fun t ht => am_qw (mk := oI) hF ht) (Nat.le_of_ble_eq_true rfl) (Nat.le_of_ble_eq_true rfl) dL_act_260
                              · have hF := am_neg he100 hF
                                by_cases he101 : k = 3
                                · subst he101
                                  have hF := am_pos rfl hF
                                  refine vx_catch (own := RL) (name := exN 3) (E := exN 3) hown (tbL_act.take 69) ⟨160, 183, 261, 113⟩ (tbL_act.drop 70) (htb.trans rfl) (pre_pass [107, 109, 111] (by decide +kernel) (List.forall_mem_cons.mpr ⟨⟨by decide, exN 0, hts _ (show Cond.classLink RL 107 "java/lang/IndexOutOfBoundsException" ∈ wsL_act by decide +kernel), X.2.2.1.2.2.2.2.1 3 0 (by decide) (by decide) (by decide)⟩, List.forall_mem_cons.mpr ⟨⟨by decide, exN 1, hts _ (show Cond.classLink RL 109 "java/lang/IllegalArgumentException" ∈ wsL_act by decide +kernel), X.2.2.1.2.2.2.2.1 3 1 (by decide) (by decide) (by decide)⟩, List.forall_mem_cons.mpr ⟨⟨by decide, exN 2, hts _ (show Cond.classLink RL 111 "java/lang/IllegalStateException" ∈ wsL_act by decide +kernel), X.2.2.1.2.2.2.2.1 3 2 (by decide) (by decide) (by decide)⟩, List.forall_mem_nil _⟩⟩⟩)) (by decide) (by decide) (hts _ (show Cond.classLink RL 113 "java/lang/UnsupportedOperationException" ∈ wsL_act by decide +kernel)) ((X.2.2.1.2.2.2.1 3).use rfl) hce hcv hcl ?_
                                  refine lv_astore (lv' := [(4, .ref q), (0, .ref (gAd G 0)), (1, .int x1), (2, .int x2), (3, .int x3)]) hx hb dL_act_261 hl (by decide) rfl (fun ls hl => ?_)
                                  refine lv_bipush (v := (-4 : Int32)) hx hb dL_act_263 (by decide) ?_
                                  exact am_iret X hr hh (fun t ht => am_qw (mk := oI) hF ht) (Nat.le_of_ble_eq_true rfl) (Nat.le_of_ble_eq_true rfl) dL_act_265
                                · have hF := am_neg he101 hF
                                  by_cases he102 : k = 4
                                  · subst he102
                                    have hF := am_pos rfl hF
                                    refine vx_catch (own := RL) (name := exN 4) (E := exN 4) hown (tbL_act.take 89) ⟨160, 183, 266, 115⟩ (tbL_act.drop 90) (htb.trans rfl) (pre_pass [107, 109, 111, 113] (by decide +kernel) (List.forall_mem_cons.mpr ⟨⟨by decide, exN 0, hts _ (show Cond.classLink RL 107 "java/lang/IndexOutOfBoundsException" ∈ wsL_act by decide +kernel), X.2.2.1.2.2.2.2.1 4 0 (by decide) (by decide) (by decide)⟩, List.forall_mem_cons.mpr ⟨⟨by decide, exN 1, hts _ (show Cond.classLink RL 109 "java/lang/IllegalArgumentException" ∈ wsL_act by decide +kernel), X.2.2.1.2.2.2.2.1 4 1 (by decide) (by decide) (by decide)⟩, List.forall_mem_cons.mpr ⟨⟨by decide, exN 2, hts _ (show Cond.classLink RL 111 "java/lang/IllegalStateException" ∈ wsL_act by decide +kernel), X.2.2.1.2.2.2.2.1 4 2 (by decide) (by decide) (by decide)⟩, List.forall_mem_cons.mpr ⟨⟨by decide, exN 3, hts _ (show Cond.classLink RL 113 "java/lang/UnsupportedOperationException" ∈ wsL_act by decide +kernel), X.2.2.1.2.2.2.2.1 4 3 (by decide) (by decide) (by decide)⟩, List.forall_mem_nil _⟩⟩⟩⟩)) (by decide) (by decide) (hts _ (show Cond.classLink RL 115 "java/util/NoSuchElementException" ∈ wsL_act by decide +kernel)) ((X.2.2.1.2.2.2.1 4).use rfl) hce hcv hcl ?_
                                    refine lv_astore (lv' := [(4, .ref q), (0, .ref (gAd G 0)), (1, .int x1), (2, .int x2), (3, .int x3)]) hx hb dL_act_266 hl (by decide) rfl (fun ls hl => ?_)
                                    refine lv_bipush (v := (-5 : Int32)) hx hb dL_act_268 (by decide) ?_
                                    exact am_iret X hr hh (fun t ht => am_qw (mk := oI) hF ht) (Nat.le_of_ble_eq_true rfl) (Nat.le_of_ble_eq_true rfl) dL_act_270
                                  · have hF := am_neg he102 hF
                                    cases hF
                        · subst hz
                          have hF := am_zr hF
                          refine lv_if_eq (tgt := 182) hx hb dL_act_175 (by decide) (fun hc103 => ?_) (fun hc103 => ?_)
                          · have hF := am_pos hc103 hF
                            refine lv_iconst (v := (0 : Int32)) hx hb dL_act_182 (by decide) ?_
                            exact am_iret X hr hh (fun t ht => am_qw (mk := oI) hF ht) (Nat.le_of_ble_eq_true rfl) (Nat.le_of_ble_eq_true rfl) dL_act_183
                          · have hF := am_neg hc103 hF
                            refine lv_iconst (v := (1 : Int32)) hx hb dL_act_178 (by decide) ?_
                            refine lv_goto (tgt := 183) hx hb dL_act_179 (by decide) ?_
                            exact am_iret X hr hh (fun t ht => am_qw (mk := oI) hF ht) (Nat.le_of_ble_eq_true rfl) (Nat.le_of_ble_eq_true rfl) dL_act_183
                      · have hF := am_pos hc93 hF
                        refine lv_iconst (v := (1 : Int32)) hx hb dL_act_167 (by decide) ?_
                        refine lv_goto (tgt := 172) hx hb dL_act_168 (by decide) ?_
                        obtain ⟨⟨z107, w106⟩, hk104, hF⟩ := am_bind hF
                        have hF := am_u2 hF
                        refine am_callX X hh (vx_runV (As := [.int x2, .int (1 : Int32)]) (rest := []) X.1 (c_X10_setRatchet l G hst hk104) (cwV 2 hts gL_act_X10_setRatchet rfl rfl rfl (by decide +kernel) ⟨Nat.le_of_ble_eq_true rfl, Nat.le_of_ble_eq_true rfl⟩) (am_preV X hh 0 11 (by decide) rfl rfl) rfl rfl hl.1 rfl (lv_room (Nat.le_of_ble_eq_true rfl)) dL_act_172 ⟨Nat.le_of_ble_eq_true rfl, Nat.le_of_ble_eq_true rfl⟩) (fun k ab H locs ce q hz hh hce hcv hcl => ?_) (fun r105 ab H locs hz hh => ?_)
                        · subst hz
                          have hF := am_zl hF
                          by_cases he108 : k = 0
                          · subst he108
                            have hF := am_pos rfl hF
                            refine vx_catch (own := RL) (name := exN 0) (E := exN 0) hown (tbL_act.take 9) ⟨160, 183, 247, 107⟩ (tbL_act.drop 10) (htb.trans rfl) (pre_pass [] (by decide +kernel) (List.forall_mem_nil _)) (by decide) (by decide) (hts _ (show Cond.classLink RL 107 "java/lang/IndexOutOfBoundsException" ∈ wsL_act by decide +kernel)) ((X.2.2.1.2.2.2.1 0).use rfl) hce hcv hcl ?_
                            refine lv_astore (lv' := [(4, .ref q), (0, .ref (gAd G 0)), (1, .int x1), (2, .int x2), (3, .int x3)]) hx hb dL_act_247 hl (by decide) rfl (fun ls hl => ?_)
                            refine lv_iconst (v := (-1 : Int32)) hx hb dL_act_249 (by decide) ?_
                            exact am_iret X hr hh (fun t ht => am_qw (mk := oI) hF ht) (Nat.le_of_ble_eq_true rfl) (Nat.le_of_ble_eq_true rfl) dL_act_250
                          · have hF := am_neg he108 hF
                            by_cases he109 : k = 1
                            · subst he109
                              have hF := am_pos rfl hF
                              refine vx_catch (own := RL) (name := exN 1) (E := exN 1) hown (tbL_act.take 29) ⟨160, 183, 251, 109⟩ (tbL_act.drop 30) (htb.trans rfl) (pre_pass [107] (by decide +kernel) (List.forall_mem_cons.mpr ⟨⟨by decide, exN 0, hts _ (show Cond.classLink RL 107 "java/lang/IndexOutOfBoundsException" ∈ wsL_act by decide +kernel), X.2.2.1.2.2.2.2.1 1 0 (by decide) (by decide) (by decide)⟩, List.forall_mem_nil _⟩)) (by decide) (by decide) (hts _ (show Cond.classLink RL 109 "java/lang/IllegalArgumentException" ∈ wsL_act by decide +kernel)) ((X.2.2.1.2.2.2.1 1).use rfl) hce hcv hcl ?_
                              refine lv_astore (lv' := [(4, .ref q), (0, .ref (gAd G 0)), (1, .int x1), (2, .int x2), (3, .int x3)]) hx hb dL_act_251 hl (by decide) rfl (fun ls hl => ?_)
                              refine lv_bipush (v := (-2 : Int32)) hx hb dL_act_253 (by decide) ?_
                              exact am_iret X hr hh (fun t ht => am_qw (mk := oI) hF ht) (Nat.le_of_ble_eq_true rfl) (Nat.le_of_ble_eq_true rfl) dL_act_255
                            · have hF := am_neg he109 hF
                              by_cases he110 : k = 2
                              · subst he110
                                have hF := am_pos rfl hF
                                refine vx_catch (own := RL) (name := exN 2) (E := exN 2) hown (tbL_act.take 49) ⟨160, 183, 256, 111⟩ (tbL_act.drop 50) (htb.trans rfl) (pre_pass [107, 109] (by decide +kernel) (List.forall_mem_cons.mpr ⟨⟨by decide, exN 0, hts _ (show Cond.classLink RL 107 "java/lang/IndexOutOfBoundsException" ∈ wsL_act by decide +kernel), X.2.2.1.2.2.2.2.1 2 0 (by decide) (by decide) (by decide)⟩, List.forall_mem_cons.mpr ⟨⟨by decide, exN 1, hts _ (show Cond.classLink RL 109 "java/lang/IllegalArgumentException" ∈ wsL_act by decide +kernel), X.2.2.1.2.2.2.2.1 2 1 (by decide) (by decide) (by decide)⟩, List.forall_mem_nil _⟩⟩)) (by decide) (by decide) (hts _ (show Cond.classLink RL 111 "java/lang/IllegalStateException" ∈ wsL_act by decide +kernel)) ((X.2.2.1.2.2.2.1 2).use rfl) hce hcv hcl ?_
                                refine lv_astore (lv' := [(4, .ref q), (0, .ref (gAd G 0)), (1, .int x1), (2, .int x2), (3, .int x3)]) hx hb dL_act_256 hl (by decide) rfl (fun ls hl => ?_)
                                refine lv_bipush (v := (-3 : Int32)) hx hb dL_act_258 (by decide) ?_
                                exact am_iret X hr hh (fun t ht => am_qw (mk := oI) hF ht) (Nat.le_of_ble_eq_true rfl) (Nat.le_of_ble_eq_true rfl) dL_act_260
                              · have hF := am_neg he110 hF
                                by_cases he111 : k = 3
                                · subst he111
                                  have hF := am_pos rfl hF
                                  refine vx_catch (own := RL) (name := exN 3) (E := exN 3) hown (tbL_act.take 69) ⟨160, 183, 261, 113⟩ (tbL_act.drop 70) (htb.trans rfl) (pre_pass [107, 109, 111] (by decide +kernel) (List.forall_mem_cons.mpr ⟨⟨by decide, exN 0, hts _ (show Cond.classLink RL 107 "java/lang/IndexOutOfBoundsException" ∈ wsL_act by decide +kernel), X.2.2.1.2.2.2.2.1 3 0 (by decide) (by decide) (by decide)⟩, List.forall_mem_cons.mpr ⟨⟨by decide, exN 1, hts _ (show Cond.classLink RL 109 "java/lang/IllegalArgumentException" ∈ wsL_act by decide +kernel), X.2.2.1.2.2.2.2.1 3 1 (by decide) (by decide) (by decide)⟩, List.forall_mem_cons.mpr ⟨⟨by decide, exN 2, hts _ (show Cond.classLink RL 111 "java/lang/IllegalStateException" ∈ wsL_act by decide +kernel), X.2.2.1.2.2.2.2.1 3 2 (by decide) (by decide) (by decide)⟩, List.forall_mem_nil _⟩⟩⟩)) (by decide) (by decide) (hts _ (show Cond.classLink RL 113 "java/lang/UnsupportedOperationException" ∈ wsL_act by decide +kernel)) ((X.2.2.1.2.2.2.1 3).use rfl) hce hcv hcl ?_
                                  refine lv_astore (lv' := [(4, .ref q), (0, .ref (gAd G 0)), (1, .int x1), (2, .int x2), (3, .int x3)]) hx hb dL_act_261 hl (by decide) rfl (fun ls hl => ?_)
                                  refine lv_bipush (v := (-4 : Int32)) hx hb dL_act_263 (by decide) ?_
                                  exact am_iret X hr hh (fun t ht => am_qw (mk := oI) hF ht) (Nat.le_of_ble_eq_true rfl) (Nat.le_of_ble_eq_true rfl) dL_act_265
                                · have hF := am_neg he111 hF
                                  by_cases he112 : k = 4
                                  · subst he112
                                    have hF := am_pos rfl hF
                                    refine vx_catch (own := RL) (name := exN 4) (E := exN 4) hown (tbL_act.take 89) ⟨160, 183, 266, 115⟩ (tbL_act.drop 90) (htb.trans rfl) (pre_pass [107, 109, 111, 113] (by decide +kernel) (List.forall_mem_cons.mpr ⟨⟨by decide, exN 0, hts _ (show Cond.classLink RL 107 "java/lang/IndexOutOfBoundsException" ∈ wsL_act by decide +kernel), X.2.2.1.2.2.2.2.1 4 0 (by decide) (by decide) (by decide)⟩, List.forall_mem_cons.mpr ⟨⟨by decide, exN 1, hts _ (show Cond.classLink RL 109 "java/lang/IllegalArgumentException" ∈ wsL_act by decide +kernel), X.2.2.1.2.2.2.2.1 4 1 (by decide) (by decide) (by decide)⟩, List.forall_mem_cons.mpr ⟨⟨by decide, exN 2, hts _ (show Cond.classLink RL 111 "java/lang/IllegalStateException" ∈ wsL_act by decide +kernel), X.2.2.1.2.2.2.2.1 4 2 (by decide) (by decide) (by decide)⟩, List.forall_mem_cons.mpr ⟨⟨by decide, exN 3, hts _ (show Cond.classLink RL 113 "java/lang/UnsupportedOperationException" ∈ wsL_act by decide +kernel), X.2.2.1.2.2.2.2.1 4 3 (by decide) (by decide) (by decide)⟩, List.forall_mem_nil _⟩⟩⟩⟩)) (by decide) (by decide) (hts _ (show Cond.classLink RL 115 "java/util/NoSuchElementException" ∈ wsL_act by decide +kernel)) ((X.2.2.1.2.2.2.1 4).use rfl) hce hcv hcl ?_
                                    refine lv_astore (lv' := [(4, .ref q), (0, .ref (gAd G 0)), (1, .int x1), (2, .int x2), (3, .int x3)]) hx hb dL_act_266 hl (by decide) rfl (fun ls hl => ?_)
                                    refine lv_bipush (v := (-5 : Int32)) hx hb dL_act_268 (by decide) ?_
                                    exact am_iret X hr hh (fun t ht => am_qw (mk := oI) hF ht) (Nat.le_of_ble_eq_true rfl) (Nat.le_of_ble_eq_true rfl) dL_act_270
                                  · have hF := am_neg he112 hF
                                    cases hF
                        · subst hz
                          have hF := am_zr hF
                          refine lv_if_eq (tgt := 182) hx hb dL_act_175 (by decide) (fun hc113 => ?_) (fun hc113 => ?_)
                          · have hF := am_pos hc113 hF
                            refine lv_iconst (v := (0 : Int32)) hx hb dL_act_182 (by decide) ?_
                            exact am_iret X hr hh (fun t ht => am_qw (mk := oI) hF ht) (Nat.le_of_ble_eq_true rfl) (Nat.le_of_ble_eq_true rfl) dL_act_183
                          · have hF := am_neg hc113 hF
                            refine lv_iconst (v := (1 : Int32)) hx hb dL_act_178 (by decide) ?_
                            refine lv_goto (tgt := 183) hx hb dL_act_179 (by decide) ?_
                            exact am_iret X hr hh (fun t ht => am_qw (mk := oI) hF ht) (Nat.le_of_ble_eq_true rfl) (Nat.le_of_ble_eq_true rfl) dL_act_183
                    · have hF := am_neg hs92 hF
                      by_cases hs114 : x1 = (10 : Int32)
                      · have hF := am_pos hs114 hF
                        refine am_tableIn (k := 10) (tgt := 184) hx hb dL_act_1 hs114 (by decide) rfl (by decide) ?_
                        refine lv_aload_n hx hb dL_act_184 rfl (lv_at hl 0 rfl) ?_
                        refine lv_iload_n hx hb dL_act_185 rfl (lv_at hl 2 rfl) ?_
                        obtain ⟨⟨z118, w117⟩, hk115, hF⟩ := am_bind hF
                        have hF := am_u2 hF
                        refine am_callX X hh (vx_runV (As := [.int x2]) (rest := []) X.1 (c_X10_addPlanet l G hst hk115) (cwV 1 hts gL_act_X10_addPlanet rfl rfl rfl (by decide +kernel) ⟨Nat.le_of_ble_eq_true rfl, Nat.le_of_ble_eq_true rfl⟩) (am_preV X hh 0 11 (by decide) rfl rfl) rfl rfl hl.1 rfl (lv_room (Nat.le_of_ble_eq_true rfl)) dL_act_186 ⟨Nat.le_of_ble_eq_true rfl, Nat.le_of_ble_eq_true rfl⟩) (fun k ab H locs ce q hz hh hce hcv hcl => ?_) (fun r116 ab H locs hz hh => ?_)
                        · subst hz
                          have hF := am_zl hF
                          by_cases he119 : k = 0
                          · subst he119
                            have hF := am_pos rfl hF
                            refine vx_catch (own := RL) (name := exN 0) (E := exN 0) hown (tbL_act.take 10) ⟨184, 189, 247, 107⟩ (tbL_act.drop 11) (htb.trans rfl) (pre_pass [] (by decide +kernel) (List.forall_mem_nil _)) (by decide) (by decide) (hts _ (show Cond.classLink RL 107 "java/lang/IndexOutOfBoundsException" ∈ wsL_act by decide +kernel)) ((X.2.2.1.2.2.2.1 0).use rfl) hce hcv hcl ?_
                            refine lv_astore (lv' := [(4, .ref q), (0, .ref (gAd G 0)), (1, .int x1), (2, .int x2), (3, .int x3)]) hx hb dL_act_247 hl (by decide) rfl (fun ls hl => ?_)
                            refine lv_iconst (v := (-1 : Int32)) hx hb dL_act_249 (by decide) ?_
                            exact am_iret X hr hh (fun t ht => am_qw (mk := oI) hF ht) (Nat.le_of_ble_eq_true rfl) (Nat.le_of_ble_eq_true rfl) dL_act_250
                          · have hF := am_neg he119 hF
                            by_cases he120 : k = 1
                            · subst he120
                              have hF := am_pos rfl hF
                              refine vx_catch (own := RL) (name := exN 1) (E := exN 1) hown (tbL_act.take 30) ⟨184, 189, 251, 109⟩ (tbL_act.drop 31) (htb.trans rfl) (pre_pass [107] (by decide +kernel) (List.forall_mem_cons.mpr ⟨⟨by decide, exN 0, hts _ (show Cond.classLink RL 107 "java/lang/IndexOutOfBoundsException" ∈ wsL_act by decide +kernel), X.2.2.1.2.2.2.2.1 1 0 (by decide) (by decide) (by decide)⟩, List.forall_mem_nil _⟩)) (by decide) (by decide) (hts _ (show Cond.classLink RL 109 "java/lang/IllegalArgumentException" ∈ wsL_act by decide +kernel)) ((X.2.2.1.2.2.2.1 1).use rfl) hce hcv hcl ?_
                              refine lv_astore (lv' := [(4, .ref q), (0, .ref (gAd G 0)), (1, .int x1), (2, .int x2), (3, .int x3)]) hx hb dL_act_251 hl (by decide) rfl (fun ls hl => ?_)
                              refine lv_bipush (v := (-2 : Int32)) hx hb dL_act_253 (by decide) ?_
                              exact am_iret X hr hh (fun t ht => am_qw (mk := oI) hF ht) (Nat.le_of_ble_eq_true rfl) (Nat.le_of_ble_eq_true rfl) dL_act_255
                            · have hF := am_neg he120 hF
                              by_cases he121 : k = 2
                              · subst he121
                                have hF := am_pos rfl hF
                                refine vx_catch (own := RL) (name := exN 2) (E := exN 2) hown (tbL_act.take 50) ⟨184, 189, 256, 111⟩ (tbL_act.drop 51) (htb.trans rfl) (pre_pass [107, 109] (by decide +kernel) (List.forall_mem_cons.mpr ⟨⟨by decide, exN 0, hts _ (show Cond.classLink RL 107 "java/lang/IndexOutOfBoundsException" ∈ wsL_act by decide +kernel), X.2.2.1.2.2.2.2.1 2 0 (by decide) (by decide) (by decide)⟩, List.forall_mem_cons.mpr ⟨⟨by decide, exN 1, hts _ (show Cond.classLink RL 109 "java/lang/IllegalArgumentException" ∈ wsL_act by decide +kernel), X.2.2.1.2.2.2.2.1 2 1 (by decide) (by decide) (by decide)⟩, List.forall_mem_nil _⟩⟩)) (by decide) (by decide) (hts _ (show Cond.classLink RL 111 "java/lang/IllegalStateException" ∈ wsL_act by decide +kernel)) ((X.2.2.1.2.2.2.1 2).use rfl) hce hcv hcl ?_
                                refine lv_astore (lv' := [(4, .ref q), (0, .ref (gAd G 0)), (1, .int x1), (2, .int x2), (3, .int x3)]) hx hb dL_act_256 hl (by decide) rfl (fun ls hl => ?_)
                                refine lv_bipush (v := (-3 : Int32)) hx hb dL_act_258 (by decide) ?_
                                exact am_iret X hr hh (fun t ht => am_qw (mk := oI) hF ht) (Nat.le_of_ble_eq_true rfl) (Nat.le_of_ble_eq_true rfl) dL_act_260
                              · have hF := am_neg he121 hF
                                by_cases he122 : k = 3
                                · subst he122
                                  have hF := am_pos rfl hF
                                  refine vx_catch (own := RL) (name := exN 3) (E := exN 3) hown (tbL_act.take 70) ⟨184, 189, 261, 113⟩ (tbL_act.drop 71) (htb.trans rfl) (pre_pass [107, 109, 111] (by decide +kernel) (List.forall_mem_cons.mpr ⟨⟨by decide, exN 0, hts _ (show Cond.classLink RL 107 "java/lang/IndexOutOfBoundsException" ∈ wsL_act by decide +kernel), X.2.2.1.2.2.2.2.1 3 0 (by decide) (by decide) (by decide)⟩, List.forall_mem_cons.mpr ⟨⟨by decide, exN 1, hts _ (show Cond.classLink RL 109 "java/lang/IllegalArgumentException" ∈ wsL_act by decide +kernel), X.2.2.1.2.2.2.2.1 3 1 (by decide) (by decide) (by decide)⟩, List.forall_mem_cons.mpr ⟨⟨by decide, exN 2, hts _ (show Cond.classLink RL 111 "java/lang/IllegalStateException" ∈ wsL_act by decide +kernel), X.2.2.1.2.2.2.2.1 3 2 (by decide) (by decide) (by decide)⟩, List.forall_mem_nil _⟩⟩⟩)) (by decide) (by decide) (hts _ (show Cond.classLink RL 113 "java/lang/UnsupportedOperationException" ∈ wsL_act by decide +kernel)) ((X.2.2.1.2.2.2.1 3).use rfl) hce hcv hcl ?_
                                  refine lv_astore (lv' := [(4, .ref q), (0, .ref (gAd G 0)), (1, .int x1), (2, .int x2), (3, .int x3)]) hx hb dL_act_261 hl (by decide) rfl (fun ls hl => ?_)
                                  refine lv_bipush (v := (-4 : Int32)) hx hb dL_act_263 (by decide) ?_
                                  exact am_iret X hr hh (fun t ht => am_qw (mk := oI) hF ht) (Nat.le_of_ble_eq_true rfl) (Nat.le_of_ble_eq_true rfl) dL_act_265
                                · have hF := am_neg he122 hF
                                  by_cases he123 : k = 4
                                  · subst he123
                                    have hF := am_pos rfl hF
                                    refine vx_catch (own := RL) (name := exN 4) (E := exN 4) hown (tbL_act.take 90) ⟨184, 189, 266, 115⟩ (tbL_act.drop 91) (htb.trans rfl) (pre_pass [107, 109, 111, 113] (by decide +kernel) (List.forall_mem_cons.mpr ⟨⟨by decide, exN 0, hts _ (show Cond.classLink RL 107 "java/lang/IndexOutOfBoundsException" ∈ wsL_act by decide +kernel), X.2.2.1.2.2.2.2.1 4 0 (by decide) (by decide) (by decide)⟩, List.forall_mem_cons.mpr ⟨⟨by decide, exN 1, hts _ (show Cond.classLink RL 109 "java/lang/IllegalArgumentException" ∈ wsL_act by decide +kernel), X.2.2.1.2.2.2.2.1 4 1 (by decide) (by decide) (by decide)⟩, List.forall_mem_cons.mpr ⟨⟨by decide, exN 2, hts _ (show Cond.classLink RL 111 "java/lang/IllegalStateException" ∈ wsL_act by decide +kernel), X.2.2.1.2.2.2.2.1 4 2 (by decide) (by decide) (by decide)⟩, List.forall_mem_cons.mpr ⟨⟨by decide, exN 3, hts _ (show Cond.classLink RL 113 "java/lang/UnsupportedOperationException" ∈ wsL_act by decide +kernel), X.2.2.1.2.2.2.2.1 4 3 (by decide) (by decide) (by decide)⟩, List.forall_mem_nil _⟩⟩⟩⟩)) (by decide) (by decide) (hts _ (show Cond.classLink RL 115 "java/util/NoSuchElementException" ∈ wsL_act by decide +kernel)) ((X.2.2.1.2.2.2.1 4).use rfl) hce hcv hcl ?_
                                    refine lv_astore (lv' := [(4, .ref q), (0, .ref (gAd G 0)), (1, .int x1), (2, .int x2), (3, .int x3)]) hx hb dL_act_266 hl (by decide) rfl (fun ls hl => ?_)
                                    refine lv_bipush (v := (-5 : Int32)) hx hb dL_act_268 (by decide) ?_
                                    exact am_iret X hr hh (fun t ht => am_qw (mk := oI) hF ht) (Nat.le_of_ble_eq_true rfl) (Nat.le_of_ble_eq_true rfl) dL_act_270
                                  · have hF := am_neg he123 hF
                                    cases hF
                        · subst hz
                          have hF := am_zr hF
                          exact am_iret X hr hh (fun t ht => am_qw (mk := oI) hF ht) (Nat.le_of_ble_eq_true rfl) (Nat.le_of_ble_eq_true rfl) dL_act_189
                      · have hF := am_neg hs114 hF
                        by_cases hs124 : x1 = (11 : Int32)
                        · have hF := am_pos hs124 hF
                          refine am_tableIn (k := 11) (tgt := 190) hx hb dL_act_1 hs124 (by decide) rfl (by decide) ?_
                          refine lv_aload_n hx hb dL_act_190 rfl (lv_at hl 0 rfl) ?_
                          refine lv_iload_n hx hb dL_act_191 rfl (lv_at hl 2 rfl) ?_
                          obtain ⟨⟨z128, w127⟩, hk125, hF⟩ := am_bind hF
                          have hF := am_u2 hF
                          refine am_callX X hh (vx_runV (As := [.int x2]) (rest := []) X.1 (c_X10_buyOil l G hst hk125) (cwV 1 hts gL_act_X10_buyOil rfl rfl rfl (by decide +kernel) ⟨Nat.le_of_ble_eq_true rfl, Nat.le_of_ble_eq_true rfl⟩) (am_preV X hh 0 11 (by decide) rfl rfl) rfl rfl hl.1 rfl (lv_room (Nat.le_of_ble_eq_true rfl)) dL_act_192 ⟨Nat.le_of_ble_eq_true rfl, Nat.le_of_ble_eq_true rfl⟩) (fun k ab H locs ce q hz hh hce hcv hcl => ?_) (fun r126 ab H locs hz hh => ?_)
                          · subst hz
                            have hF := am_zl hF
                            by_cases he129 : k = 0
                            · subst he129
                              have hF := am_pos rfl hF
                              refine vx_catch (own := RL) (name := exN 0) (E := exN 0) hown (tbL_act.take 11) ⟨190, 195, 247, 107⟩ (tbL_act.drop 12) (htb.trans rfl) (pre_pass [] (by decide +kernel) (List.forall_mem_nil _)) (by decide) (by decide) (hts _ (show Cond.classLink RL 107 "java/lang/IndexOutOfBoundsException" ∈ wsL_act by decide +kernel)) ((X.2.2.1.2.2.2.1 0).use rfl) hce hcv hcl ?_
                              refine lv_astore (lv' := [(4, .ref q), (0, .ref (gAd G 0)), (1, .int x1), (2, .int x2), (3, .int x3)]) hx hb dL_act_247 hl (by decide) rfl (fun ls hl => ?_)
                              refine lv_iconst (v := (-1 : Int32)) hx hb dL_act_249 (by decide) ?_
                              exact am_iret X hr hh (fun t ht => am_qw (mk := oI) hF ht) (Nat.le_of_ble_eq_true rfl) (Nat.le_of_ble_eq_true rfl) dL_act_250
                            · have hF := am_neg he129 hF
                              by_cases he130 : k = 1
                              · subst he130
                                have hF := am_pos rfl hF
                                refine vx_catch (own := RL) (name := exN 1) (E := exN 1) hown (tbL_act.take 31) ⟨190, 195, 251, 109⟩ (tbL_act.drop 32) (htb.trans rfl) (pre_pass [107] (by decide +kernel) (List.forall_mem_cons.mpr ⟨⟨by decide, exN 0, hts _ (show Cond.classLink RL 107 "java/lang/IndexOutOfBoundsException" ∈ wsL_act by decide +kernel), X.2.2.1.2.2.2.2.1 1 0 (by decide) (by decide) (by decide)⟩, List.forall_mem_nil _⟩)) (by decide) (by decide) (hts _ (show Cond.classLink RL 109 "java/lang/IllegalArgumentException" ∈ wsL_act by decide +kernel)) ((X.2.2.1.2.2.2.1 1).use rfl) hce hcv hcl ?_
                                refine lv_astore (lv' := [(4, .ref q), (0, .ref (gAd G 0)), (1, .int x1), (2, .int x2), (3, .int x3)]) hx hb dL_act_251 hl (by decide) rfl (fun ls hl => ?_)
                                refine lv_bipush (v := (-2 : Int32)) hx hb dL_act_253 (by decide) ?_
                                exact am_iret X hr hh (fun t ht => am_qw (mk := oI) hF ht) (Nat.le_of_ble_eq_true rfl) (Nat.le_of_ble_eq_true rfl) dL_act_255
                              · have hF := am_neg he130 hF
                                by_cases he131 : k = 2
                                · subst he131
                                  have hF := am_pos rfl hF
                                  refine vx_catch (own := RL) (name := exN 2) (E := exN 2) hown (tbL_act.take 51) ⟨190, 195, 256, 111⟩ (tbL_act.drop 52) (htb.trans rfl) (pre_pass [107, 109] (by decide +kernel) (List.forall_mem_cons.mpr ⟨⟨by decide, exN 0, hts _ (show Cond.classLink RL 107 "java/lang/IndexOutOfBoundsException" ∈ wsL_act by decide +kernel), X.2.2.1.2.2.2.2.1 2 0 (by decide) (by decide) (by decide)⟩, List.forall_mem_cons.mpr ⟨⟨by decide, exN 1, hts _ (show Cond.classLink RL 109 "java/lang/IllegalArgumentException" ∈ wsL_act by decide +kernel), X.2.2.1.2.2.2.2.1 2 1 (by decide) (by decide) (by decide)⟩, List.forall_mem_nil _⟩⟩)) (by decide) (by decide) (hts _ (show Cond.classLink RL 111 "java/lang/IllegalStateException" ∈ wsL_act by decide +kernel)) ((X.2.2.1.2.2.2.1 2).use rfl) hce hcv hcl ?_
                                  refine lv_astore (lv' := [(4, .ref q), (0, .ref (gAd G 0)), (1, .int x1), (2, .int x2), (3, .int x3)]) hx hb dL_act_256 hl (by decide) rfl (fun ls hl => ?_)
                                  refine lv_bipush (v := (-3 : Int32)) hx hb dL_act_258 (by decide) ?_
                                  exact am_iret X hr hh (fun t ht => am_qw (mk := oI) hF ht) (Nat.le_of_ble_eq_true rfl) (Nat.le_of_ble_eq_true rfl) dL_act_260
                                · have hF := am_neg he131 hF
                                  by_cases he132 : k = 3
                                  · subst he132
                                    have hF := am_pos rfl hF
                                    refine vx_catch (own := RL) (name := exN 3) (E := exN 3) hown (tbL_act.take 71) ⟨190, 195, 261, 113⟩ (tbL_act.drop 72) (htb.trans rfl) (pre_pass [107, 109, 111] (by decide +kernel) (List.forall_mem_cons.mpr ⟨⟨by decide, exN 0, hts _ (show Cond.classLink RL 107 "java/lang/IndexOutOfBoundsException" ∈ wsL_act by decide +kernel), X.2.2.1.2.2.2.2.1 3 0 (by decide) (by decide) (by decide)⟩, List.forall_mem_cons.mpr ⟨⟨by decide, exN 1, hts _ (show Cond.classLink RL 109 "java/lang/IllegalArgumentException" ∈ wsL_act by decide +kernel), X.2.2.1.2.2.2.2.1 3 1 (by decide) (by decide) (by decide)⟩, List.forall_mem_cons.mpr ⟨⟨by decide, exN 2, hts _ (show Cond.classLink RL 111 "java/lang/IllegalStateException" ∈ wsL_act by decide +kernel), X.2.2.1.2.2.2.2.1 3 2 (by decide) (by decide) (by decide)⟩, List.forall_mem_nil _⟩⟩⟩)) (by decide) (by decide) (hts _ (show Cond.classLink RL 113 "java/lang/UnsupportedOperationException" ∈ wsL_act by decide +kernel)) ((X.2.2.1.2.2.2.1 3).use rfl) hce hcv hcl ?_
                                    refine lv_astore (lv' := [(4, .ref q), (0, .ref (gAd G 0)), (1, .int x1), (2, .int x2), (3, .int x3)]) hx hb dL_act_261 hl (by decide) rfl (fun ls hl => ?_)
                                    refine lv_bipush (v := (-4 : Int32)) hx hb dL_act_263 (by decide) ?_
                                    exact am_iret X hr hh (fun t ht => am_qw (mk := oI) hF ht) (Nat.le_of_ble_eq_true rfl) (Nat.le_of_ble_eq_true rfl) dL_act_265
                                  · have hF := am_neg he132 hF
                                    by_cases he133 : k = 4
                                    · subst he133
                                      have hF := am_pos rfl hF
                                      refine vx_catch (own := RL) (name := exN 4) (E := exN 4) hown (tbL_act.take 91) ⟨190, 195, 266, 115⟩ (tbL_act.drop 92) (htb.trans rfl) (pre_pass [107, 109, 111, 113] (by decide +kernel) (List.forall_mem_cons.mpr ⟨⟨by decide, exN 0, hts _ (show Cond.classLink RL 107 "java/lang/IndexOutOfBoundsException" ∈ wsL_act by decide +kernel), X.2.2.1.2.2.2.2.1 4 0 (by decide) (by decide) (by decide)⟩, List.forall_mem_cons.mpr ⟨⟨by decide, exN 1, hts _ (show Cond.classLink RL 109 "java/lang/IllegalArgumentException" ∈ wsL_act by decide +kernel), X.2.2.1.2.2.2.2.1 4 1 (by decide) (by decide) (by decide)⟩, List.forall_mem_cons.mpr ⟨⟨by decide, exN 2, hts _ (show Cond.classLink RL 111 "java/lang/IllegalStateException" ∈ wsL_act by decide +kernel), X.2.2.1.2.2.2.2.1 4 2 (by decide) (by decide) (by decide)⟩, List.forall_mem_cons.mpr ⟨⟨by decide, exN 3, hts _ (show Cond.classLink RL 113 "java/lang/UnsupportedOperationException" ∈ wsL_act by decide +kernel), X.2.2.1.2.2.2.2.1 4 3 (by decide) (by decide) (by decide)⟩, List.forall_mem_nil _⟩⟩⟩⟩)) (by decide) (by decide) (hts _ (show Cond.classLink RL 115 "java/util/NoSuchElementException" ∈ wsL_act by decide +kernel)) ((X.2.2.1.2.2.2.1 4).use rfl) hce hcv hcl ?_
                                      refine lv_astore (lv' := [(4, .ref q), (0, .ref (gAd G 0)), (1, .int x1), (2, .int x2), (3, .int x3)]) hx hb dL_act_266 hl (by decide) rfl (fun ls hl => ?_)
                                      refine lv_bipush (v := (-5 : Int32)) hx hb dL_act_268 (by decide) ?_
                                      exact am_iret X hr hh (fun t ht => am_qw (mk := oI) hF ht) (Nat.le_of_ble_eq_true rfl) (Nat.le_of_ble_eq_true rfl) dL_act_270
                                    · have hF := am_neg he133 hF
                                      cases hF
                          · subst hz
                            have hF := am_zr hF
                            exact am_iret X hr hh (fun t ht => am_qw (mk := oI) hF ht) (Nat.le_of_ble_eq_true rfl) (Nat.le_of_ble_eq_true rfl) dL_act_195
                        · have hF := am_neg hs124 hF
                          by_cases hs134 : x1 = (12 : Int32)
                          · have hF := am_pos hs134 hF
                            refine am_tableIn (k := 12) (tgt := 196) hx hb dL_act_1 hs134 (by decide) rfl (by decide) ?_
                            refine lv_aload_n hx hb dL_act_196 rfl (lv_at hl 0 rfl) ?_
                            refine lv_iload_n hx hb dL_act_197 rfl (lv_at hl 2 rfl) ?_
                            obtain ⟨z137, hk135, hF⟩ := am_bind hF
                            refine am_callX X hh (vx_runV (As := [.int x2]) (rest := []) X.1 (c_X10_tension l G hst hk135) (cwV 1 hts gL_act_X10_tension rfl rfl rfl (by decide +kernel) ⟨Nat.le_of_ble_eq_true rfl, Nat.le_of_ble_eq_true rfl⟩) (am_preV X hh 0 11 (by decide) rfl rfl) rfl rfl hl.1 rfl (lv_room (Nat.le_of_ble_eq_true rfl)) dL_act_198 ⟨Nat.le_of_ble_eq_true rfl, Nat.le_of_ble_eq_true rfl⟩) (fun k ab H locs ce q hz hh hce hcv hcl => ?_) (fun r136 ab H locs hz hh => ?_)
                            · subst hz
                              have hF := am_zl hF
                              by_cases he138 : k = 0
                              · subst he138
                                have hF := am_pos rfl hF
                                refine vx_catch (own := RL) (name := exN 0) (E := exN 0) hown (tbL_act.take 12) ⟨196, 201, 247, 107⟩ (tbL_act.drop 13) (htb.trans rfl) (pre_pass [] (by decide +kernel) (List.forall_mem_nil _)) (by decide) (by decide) (hts _ (show Cond.classLink RL 107 "java/lang/IndexOutOfBoundsException" ∈ wsL_act by decide +kernel)) ((X.2.2.1.2.2.2.1 0).use rfl) hce hcv hcl ?_
                                refine lv_astore (lv' := [(4, .ref q), (0, .ref (gAd G 0)), (1, .int x1), (2, .int x2), (3, .int x3)]) hx hb dL_act_247 hl (by decide) rfl (fun ls hl => ?_)
                                refine lv_iconst (v := (-1 : Int32)) hx hb dL_act_249 (by decide) ?_
                                exact am_iret X hr hh (fun t ht => am_qw (mk := oI) hF ht) (Nat.le_of_ble_eq_true rfl) (Nat.le_of_ble_eq_true rfl) dL_act_250
                              · have hF := am_neg he138 hF
                                by_cases he139 : k = 1
                                · subst he139
                                  have hF := am_pos rfl hF
                                  refine vx_catch (own := RL) (name := exN 1) (E := exN 1) hown (tbL_act.take 32) ⟨196, 201, 251, 109⟩ (tbL_act.drop 33) (htb.trans rfl) (pre_pass [107] (by decide +kernel) (List.forall_mem_cons.mpr ⟨⟨by decide, exN 0, hts _ (show Cond.classLink RL 107 "java/lang/IndexOutOfBoundsException" ∈ wsL_act by decide +kernel), X.2.2.1.2.2.2.2.1 1 0 (by decide) (by decide) (by decide)⟩, List.forall_mem_nil _⟩)) (by decide) (by decide) (hts _ (show Cond.classLink RL 109 "java/lang/IllegalArgumentException" ∈ wsL_act by decide +kernel)) ((X.2.2.1.2.2.2.1 1).use rfl) hce hcv hcl ?_
                                  refine lv_astore (lv' := [(4, .ref q), (0, .ref (gAd G 0)), (1, .int x1), (2, .int x2), (3, .int x3)]) hx hb dL_act_251 hl (by decide) rfl (fun ls hl => ?_)
                                  refine lv_bipush (v := (-2 : Int32)) hx hb dL_act_253 (by decide) ?_
                                  exact am_iret X hr hh (fun t ht => am_qw (mk := oI) hF ht) (Nat.le_of_ble_eq_true rfl) (Nat.le_of_ble_eq_true rfl) dL_act_255
                                · have hF := am_neg he139 hF
                                  by_cases he140 : k = 2
                                  · subst he140
                                    have hF := am_pos rfl hF
                                    refine vx_catch (own := RL) (name := exN 2) (E := exN 2) hown (tbL_act.take 52) ⟨196, 201, 256, 111⟩ (tbL_act.drop 53) (htb.trans rfl) (pre_pass [107, 109] (by decide +kernel) (List.forall_mem_cons.mpr ⟨⟨by decide, exN 0, hts _ (show Cond.classLink RL 107 "java/lang/IndexOutOfBoundsException" ∈ wsL_act by decide +kernel), X.2.2.1.2.2.2.2.1 2 0 (by decide) (by decide) (by decide)⟩, List.forall_mem_cons.mpr ⟨⟨by decide, exN 1, hts _ (show Cond.classLink RL 109 "java/lang/IllegalArgumentException" ∈ wsL_act by decide +kernel), X.2.2.1.2.2.2.2.1 2 1 (by decide) (by decide) (by decide)⟩, List.forall_mem_nil _⟩⟩)) (by decide) (by decide) (hts _ (show Cond.classLink RL 111 "java/lang/IllegalStateException" ∈ wsL_act by decide +kernel)) ((X.2.2.1.2.2.2.1 2).use rfl) hce hcv hcl ?_
                                    refine lv_astore (lv' := [(4, .ref q), (0, .ref (gAd G 0)), (1, .int x1), (2, .int x2), (3, .int x3)]) hx hb dL_act_256 hl (by decide) rfl (fun ls hl => ?_)
                                    refine lv_bipush (v := (-3 : Int32)) hx hb dL_act_258 (by decide) ?_
                                    exact am_iret X hr hh (fun t ht => am_qw (mk := oI) hF ht) (Nat.le_of_ble_eq_true rfl) (Nat.le_of_ble_eq_true rfl) dL_act_260
                                  · have hF := am_neg he140 hF
                                    by_cases he141 : k = 3
                                    · subst he141
                                      have hF := am_pos rfl hF
                                      refine vx_catch (own := RL) (name := exN 3) (E := exN 3) hown (tbL_act.take 72) ⟨196, 201, 261, 113⟩ (tbL_act.drop 73) (htb.trans rfl) (pre_pass [107, 109, 111] (by decide +kernel) (List.forall_mem_cons.mpr ⟨⟨by decide, exN 0, hts _ (show Cond.classLink RL 107 "java/lang/IndexOutOfBoundsException" ∈ wsL_act by decide +kernel), X.2.2.1.2.2.2.2.1 3 0 (by decide) (by decide) (by decide)⟩, List.forall_mem_cons.mpr ⟨⟨by decide, exN 1, hts _ (show Cond.classLink RL 109 "java/lang/IllegalArgumentException" ∈ wsL_act by decide +kernel), X.2.2.1.2.2.2.2.1 3 1 (by decide) (by decide) (by decide)⟩, List.forall_mem_cons.mpr ⟨⟨by decide, exN 2, hts _ (show Cond.classLink RL 111 "java/lang/IllegalStateException" ∈ wsL_act by decide +kernel), X.2.2.1.2.2.2.2.1 3 2 (by decide) (by decide) (by decide)⟩, List.forall_mem_nil _⟩⟩⟩)) (by decide) (by decide) (hts _ (show Cond.classLink RL 113 "java/lang/UnsupportedOperationException" ∈ wsL_act by decide +kernel)) ((X.2.2.1.2.2.2.1 3).use rfl) hce hcv hcl ?_
                                      refine lv_astore (lv' := [(4, .ref q), (0, .ref (gAd G 0)), (1, .int x1), (2, .int x2), (3, .int x3)]) hx hb dL_act_261 hl (by decide) rfl (fun ls hl => ?_)
                                      refine lv_bipush (v := (-4 : Int32)) hx hb dL_act_263 (by decide) ?_
                                      exact am_iret X hr hh (fun t ht => am_qw (mk := oI) hF ht) (Nat.le_of_ble_eq_true rfl) (Nat.le_of_ble_eq_true rfl) dL_act_265
                                    · have hF := am_neg he141 hF
                                      by_cases he142 : k = 4
                                      · subst he142
                                        have hF := am_pos rfl hF
                                        refine vx_catch (own := RL) (name := exN 4) (E := exN 4) hown (tbL_act.take 92) ⟨196, 201, 266, 115⟩ (tbL_act.drop 93) (htb.trans rfl) (pre_pass [107, 109, 111, 113] (by decide +kernel) (List.forall_mem_cons.mpr ⟨⟨by decide, exN 0, hts _ (show Cond.classLink RL 107 "java/lang/IndexOutOfBoundsException" ∈ wsL_act by decide +kernel), X.2.2.1.2.2.2.2.1 4 0 (by decide) (by decide) (by decide)⟩, List.forall_mem_cons.mpr ⟨⟨by decide, exN 1, hts _ (show Cond.classLink RL 109 "java/lang/IllegalArgumentException" ∈ wsL_act by decide +kernel), X.2.2.1.2.2.2.2.1 4 1 (by decide) (by decide) (by decide)⟩, List.forall_mem_cons.mpr ⟨⟨by decide, exN 2, hts _ (show Cond.classLink RL 111 "java/lang/IllegalStateException" ∈ wsL_act by decide +kernel), X.2.2.1.2.2.2.2.1 4 2 (by decide) (by decide) (by decide)⟩, List.forall_mem_cons.mpr ⟨⟨by decide, exN 3, hts _ (show Cond.classLink RL 113 "java/lang/UnsupportedOperationException" ∈ wsL_act by decide +kernel), X.2.2.1.2.2.2.2.1 4 3 (by decide) (by decide) (by decide)⟩, List.forall_mem_nil _⟩⟩⟩⟩)) (by decide) (by decide) (hts _ (show Cond.classLink RL 115 "java/util/NoSuchElementException" ∈ wsL_act by decide +kernel)) ((X.2.2.1.2.2.2.1 4).use rfl) hce hcv hcl ?_
                                        refine lv_astore (lv' := [(4, .ref q), (0, .ref (gAd G 0)), (1, .int x1), (2, .int x2), (3, .int x3)]) hx hb dL_act_266 hl (by decide) rfl (fun ls hl => ?_)
                                        refine lv_bipush (v := (-5 : Int32)) hx hb dL_act_268 (by decide) ?_
                                        exact am_iret X hr hh (fun t ht => am_qw (mk := oI) hF ht) (Nat.le_of_ble_eq_true rfl) (Nat.le_of_ble_eq_true rfl) dL_act_270
                                      · have hF := am_neg he142 hF
                                        cases hF
                            · subst hz
                              have hF := am_zr hF
                              exact am_iret X hr hh (fun t ht => am_qw (mk := oI) hF ht) (Nat.le_of_ble_eq_true rfl) (Nat.le_of_ble_eq_true rfl) dL_act_201
                          · have hF := am_neg hs134 hF
                            by_cases hs143 : x1 = (13 : Int32)
                            · have hF := am_pos hs143 hF
                              refine am_tableIn (k := 13) (tgt := 202) hx hb dL_act_1 hs143 (by decide) rfl (by decide) ?_
                              refine lv_aload_n hx hb dL_act_202 rfl (lv_at hl 0 rfl) ?_
                              refine lv_iload_n hx hb dL_act_203 rfl (lv_at hl 2 rfl) ?_
                              obtain ⟨z146, hk144, hF⟩ := am_bind hF
                              refine am_callX X hh (vx_runV (As := [.int x2]) (rest := []) X.1 (c_X10_springSize l G hst hk144) (cwV 1 hts gL_act_X10_springSize rfl rfl rfl (by decide +kernel) ⟨Nat.le_of_ble_eq_true rfl, Nat.le_of_ble_eq_true rfl⟩) (am_preV X hh 0 11 (by decide) rfl rfl) rfl rfl hl.1 rfl (lv_room (Nat.le_of_ble_eq_true rfl)) dL_act_204 ⟨Nat.le_of_ble_eq_true rfl, Nat.le_of_ble_eq_true rfl⟩) (fun k ab H locs ce q hz hh hce hcv hcl => ?_) (fun r145 ab H locs hz hh => ?_)
                              · subst hz
                                have hF := am_zl hF
                                by_cases he147 : k = 0
                                · subst he147
                                  have hF := am_pos rfl hF
                                  refine vx_catch (own := RL) (name := exN 0) (E := exN 0) hown (tbL_act.take 13) ⟨202, 207, 247, 107⟩ (tbL_act.drop 14) (htb.trans rfl) (pre_pass [] (by decide +kernel) (List.forall_mem_nil _)) (by decide) (by decide) (hts _ (show Cond.classLink RL 107 "java/lang/IndexOutOfBoundsException" ∈ wsL_act by decide +kernel)) ((X.2.2.1.2.2.2.1 0).use rfl) hce hcv hcl ?_
                                  refine lv_astore (lv' := [(4, .ref q), (0, .ref (gAd G 0)), (1, .int x1), (2, .int x2), (3, .int x3)]) hx hb dL_act_247 hl (by decide) rfl (fun ls hl => ?_)
                                  refine lv_iconst (v := (-1 : Int32)) hx hb dL_act_249 (by decide) ?_
                                  exact am_iret X hr hh (fun t ht => am_qw (mk := oI) hF ht) (Nat.le_of_ble_eq_true rfl) (Nat.le_of_ble_eq_true rfl) dL_act_250
                                · have hF := am_neg he147 hF
                                  by_cases he148 : k = 1
                                  · subst he148
                                    have hF := am_pos rfl hF
                                    refine vx_catch (own := RL) (name := exN 1) (E := exN 1) hown (tbL_act.take 33) ⟨202, 207, 251, 109⟩ (tbL_act.drop 34) (htb.trans rfl) (pre_pass [107] (by decide +kernel) (List.forall_mem_cons.mpr ⟨⟨by decide, exN 0, hts _ (show Cond.classLink RL 107 "java/lang/IndexOutOfBoundsException" ∈ wsL_act by decide +kernel), X.2.2.1.2.2.2.2.1 1 0 (by decide) (by decide) (by decide)⟩, List.forall_mem_nil _⟩)) (by decide) (by decide) (hts _ (show Cond.classLink RL 109 "java/lang/IllegalArgumentException" ∈ wsL_act by decide +kernel)) ((X.2.2.1.2.2.2.1 1).use rfl) hce hcv hcl ?_
                                    refine lv_astore (lv' := [(4, .ref q), (0, .ref (gAd G 0)), (1, .int x1), (2, .int x2), (3, .int x3)]) hx hb dL_act_251 hl (by decide) rfl (fun ls hl => ?_)
                                    refine lv_bipush (v := (-2 : Int32)) hx hb dL_act_253 (by decide) ?_
                                    exact am_iret X hr hh (fun t ht => am_qw (mk := oI) hF ht) (Nat.le_of_ble_eq_true rfl) (Nat.le_of_ble_eq_true rfl) dL_act_255
                                  · have hF := am_neg he148 hF
                                    by_cases he149 : k = 2
                                    · subst he149
                                      have hF := am_pos rfl hF
                                      refine vx_catch (own := RL) (name := exN 2) (E := exN 2) hown (tbL_act.take 53) ⟨202, 207, 256, 111⟩ (tbL_act.drop 54) (htb.trans rfl) (pre_pass [107, 109] (by decide +kernel) (List.forall_mem_cons.mpr ⟨⟨by decide, exN 0, hts _ (show Cond.classLink RL 107 "java/lang/IndexOutOfBoundsException" ∈ wsL_act by decide +kernel), X.2.2.1.2.2.2.2.1 2 0 (by decide) (by decide) (by decide)⟩, List.forall_mem_cons.mpr ⟨⟨by decide, exN 1, hts _ (show Cond.classLink RL 109 "java/lang/IllegalArgumentException" ∈ wsL_act by decide +kernel), X.2.2.1.2.2.2.2.1 2 1 (by decide) (by decide) (by decide)⟩, List.forall_mem_nil _⟩⟩)) (by decide) (by decide) (hts _ (show Cond.classLink RL 111 "java/lang/IllegalStateException" ∈ wsL_act by decide +kernel)) ((X.2.2.1.2.2.2.1 2).use rfl) hce hcv hcl ?_
                                      refine lv_astore (lv' := [(4, .ref q), (0, .ref (gAd G 0)), (1, .int x1), (2, .int x2), (3, .int x3)]) hx hb dL_act_256 hl (by decide) rfl (fun ls hl => ?_)
                                      refine lv_bipush (v := (-3 : Int32)) hx hb dL_act_258 (by decide) ?_
                                      exact am_iret X hr hh (fun t ht => am_qw (mk := oI) hF ht) (Nat.le_of_ble_eq_true rfl) (Nat.le_of_ble_eq_true rfl) dL_act_260
                                    · have hF := am_neg he149 hF
                                      by_cases he150 : k = 3
                                      · subst he150
                                        have hF := am_pos rfl hF
                                        refine vx_catch (own := RL) (name := exN 3) (E := exN 3) hown (tbL_act.take 73) ⟨202, 207, 261, 113⟩ (tbL_act.drop 74) (htb.trans rfl) (pre_pass [107, 109, 111] (by decide +kernel) (List.forall_mem_cons.mpr ⟨⟨by decide, exN 0, hts _ (show Cond.classLink RL 107 "java/lang/IndexOutOfBoundsException" ∈ wsL_act by decide +kernel), X.2.2.1.2.2.2.2.1 3 0 (by decide) (by decide) (by decide)⟩, List.forall_mem_cons.mpr ⟨⟨by decide, exN 1, hts _ (show Cond.classLink RL 109 "java/lang/IllegalArgumentException" ∈ wsL_act by decide +kernel), X.2.2.1.2.2.2.2.1 3 1 (by decide) (by decide) (by decide)⟩, List.forall_mem_cons.mpr ⟨⟨by decide, exN 2, hts _ (show Cond.classLink RL 111 "java/lang/IllegalStateException" ∈ wsL_act by decide +kernel), X.2.2.1.2.2.2.2.1 3 2 (by decide) (by decide) (by decide)⟩, List.forall_mem_nil _⟩⟩⟩)) (by decide) (by decide) (hts _ (show Cond.classLink RL 113 "java/lang/UnsupportedOperationException" ∈ wsL_act by decide +kernel)) ((X.2.2.1.2.2.2.1 3).use rfl) hce hcv hcl ?_
                                        refine lv_astore (lv' := [(4, .ref q), (0, .ref (gAd G 0)), (1, .int x1), (2, .int x2), (3, .int x3)]) hx hb dL_act_261 hl (by decide) rfl (fun ls hl => ?_)
                                        refine lv_bipush (v := (-4 : Int32)) hx hb dL_act_263 (by decide) ?_
                                        exact am_iret X hr hh (fun t ht => am_qw (mk := oI) hF ht) (Nat.le_of_ble_eq_true rfl) (Nat.le_of_ble_eq_true rfl) dL_act_265
                                      · have hF := am_neg he150 hF
                                        by_cases he151 : k = 4
                                        · subst he151
                                          have hF := am_pos rfl hF
                                          refine vx_catch (own := RL) (name := exN 4) (E := exN 4) hown (tbL_act.take 93) ⟨202, 207, 266, 115⟩ (tbL_act.drop 94) (htb.trans rfl) (pre_pass [107, 109, 111, 113] (by decide +kernel) (List.forall_mem_cons.mpr ⟨⟨by decide, exN 0, hts _ (show Cond.classLink RL 107 "java/lang/IndexOutOfBoundsException" ∈ wsL_act by decide +kernel), X.2.2.1.2.2.2.2.1 4 0 (by decide) (by decide) (by decide)⟩, List.forall_mem_cons.mpr ⟨⟨by decide, exN 1, hts _ (show Cond.classLink RL 109 "java/lang/IllegalArgumentException" ∈ wsL_act by decide +kernel), X.2.2.1.2.2.2.2.1 4 1 (by decide) (by decide) (by decide)⟩, List.forall_mem_cons.mpr ⟨⟨by decide, exN 2, hts _ (show Cond.classLink RL 111 "java/lang/IllegalStateException" ∈ wsL_act by decide +kernel), X.2.2.1.2.2.2.2.1 4 2 (by decide) (by decide) (by decide)⟩, List.forall_mem_cons.mpr ⟨⟨by decide, exN 3, hts _ (show Cond.classLink RL 113 "java/lang/UnsupportedOperationException" ∈ wsL_act by decide +kernel), X.2.2.1.2.2.2.2.1 4 3 (by decide) (by decide) (by decide)⟩, List.forall_mem_nil _⟩⟩⟩⟩)) (by decide) (by decide) (hts _ (show Cond.classLink RL 115 "java/util/NoSuchElementException" ∈ wsL_act by decide +kernel)) ((X.2.2.1.2.2.2.1 4).use rfl) hce hcv hcl ?_
                                          refine lv_astore (lv' := [(4, .ref q), (0, .ref (gAd G 0)), (1, .int x1), (2, .int x2), (3, .int x3)]) hx hb dL_act_266 hl (by decide) rfl (fun ls hl => ?_)
                                          refine lv_bipush (v := (-5 : Int32)) hx hb dL_act_268 (by decide) ?_
                                          exact am_iret X hr hh (fun t ht => am_qw (mk := oI) hF ht) (Nat.le_of_ble_eq_true rfl) (Nat.le_of_ble_eq_true rfl) dL_act_270
                                        · have hF := am_neg he151 hF
                                          cases hF
                              · subst hz
                                have hF := am_zr hF
                                exact am_iret X hr hh (fun t ht => am_qw (mk := oI) hF ht) (Nat.le_of_ble_eq_true rfl) (Nat.le_of_ble_eq_true rfl) dL_act_207
                            · have hF := am_neg hs143 hF
                              by_cases hs152 : x1 = (14 : Int32)
                              · have hF := am_pos hs152 hF
                                refine am_tableIn (k := 14) (tgt := 208) hx hb dL_act_1 hs152 (by decide) rfl (by decide) ?_
                                refine lv_aload_n hx hb dL_act_208 rfl (lv_at hl 0 rfl) ?_
                                refine lv_iload_n hx hb dL_act_209 rfl (lv_at hl 2 rfl) ?_
                                obtain ⟨z155, hk153, hF⟩ := am_bind hF
                                refine am_callX X hh (vx_runV (As := [.int x2]) (rest := []) X.1 (c_X10_wear l G hst hk153) (cwV 1 hts gL_act_X10_wear rfl rfl rfl (by decide +kernel) ⟨Nat.le_of_ble_eq_true rfl, Nat.le_of_ble_eq_true rfl⟩) (am_preV X hh 0 11 (by decide) rfl rfl) rfl rfl hl.1 rfl (lv_room (Nat.le_of_ble_eq_true rfl)) dL_act_210 ⟨Nat.le_of_ble_eq_true rfl, Nat.le_of_ble_eq_true rfl⟩) (fun k ab H locs ce q hz hh hce hcv hcl => ?_) (fun r154 ab H locs hz hh => ?_)
                                · subst hz
                                  have hF := am_zl hF
                                  by_cases he156 : k = 0
                                  · subst he156
                                    have hF := am_pos rfl hF
                                    refine vx_catch (own := RL) (name := exN 0) (E := exN 0) hown (tbL_act.take 14) ⟨208, 213, 247, 107⟩ (tbL_act.drop 15) (htb.trans rfl) (pre_pass [] (by decide +kernel) (List.forall_mem_nil _)) (by decide) (by decide) (hts _ (show Cond.classLink RL 107 "java/lang/IndexOutOfBoundsException" ∈ wsL_act by decide +kernel)) ((X.2.2.1.2.2.2.1 0).use rfl) hce hcv hcl ?_
                                    refine lv_astore (lv' := [(4, .ref q), (0, .ref (gAd G 0)), (1, .int x1), (2, .int x2), (3, .int x3)]) hx hb dL_act_247 hl (by decide) rfl (fun ls hl => ?_)
                                    refine lv_iconst (v := (-1 : Int32)) hx hb dL_act_249 (by decide) ?_
                                    exact am_iret X hr hh (fun t ht => am_qw (mk := oI) hF ht) (Nat.le_of_ble_eq_true rfl) (Nat.le_of_ble_eq_true rfl) dL_act_250
                                  · have hF := am_neg he156 hF
                                    by_cases he157 : k = 1
                                    · subst he157
                                      have hF := am_pos rfl hF
                                      refine vx_catch (own := RL) (name := exN 1) (E := exN 1) hown (tbL_act.take 34) ⟨208, 213, 251, 109⟩ (tbL_act.drop 35) (htb.trans rfl) (pre_pass [107] (by decide +kernel) (List.forall_mem_cons.mpr ⟨⟨by decide, exN 0, hts _ (show Cond.classLink RL 107 "java/lang/IndexOutOfBoundsException" ∈ wsL_act by decide +kernel), X.2.2.1.2.2.2.2.1 1 0 (by decide) (by decide) (by decide)⟩, List.forall_mem_nil _⟩)) (by decide) (by decide) (hts _ (show Cond.classLink RL 109 "java/lang/IllegalArgumentException" ∈ wsL_act by decide +kernel)) ((X.2.2.1.2.2.2.1 1).use rfl) hce hcv hcl ?_
                                      refine lv_astore (lv' := [(4, .ref q), (0, .ref (gAd G 0)), (1, .int x1), (2, .int x2), (3, .int x3)]) hx hb dL_act_251 hl (by decide) rfl (fun ls hl => ?_)
                                      refine lv_bipush (v := (-2 : Int32)) hx hb dL_act_253 (by decide) ?_
                                      exact am_iret X hr hh (fun t ht => am_qw (mk := oI) hF ht) (Nat.le_of_ble_eq_true rfl) (Nat.le_of_ble_eq_true rfl) dL_act_255
                                    · have hF := am_neg he157 hF
                                      by_cases he158 : k = 2
                                      · subst he158
                                        have hF := am_pos rfl hF
                                        refine vx_catch (own := RL) (name := exN 2) (E := exN 2) hown (tbL_act.take 54) ⟨208, 213, 256, 111⟩ (tbL_act.drop 55) (htb.trans rfl) (pre_pass [107, 109] (by decide +kernel) (List.forall_mem_cons.mpr ⟨⟨by decide, exN 0, hts _ (show Cond.classLink RL 107 "java/lang/IndexOutOfBoundsException" ∈ wsL_act by decide +kernel), X.2.2.1.2.2.2.2.1 2 0 (by decide) (by decide) (by decide)⟩, List.forall_mem_cons.mpr ⟨⟨by decide, exN 1, hts _ (show Cond.classLink RL 109 "java/lang/IllegalArgumentException" ∈ wsL_act by decide +kernel), X.2.2.1.2.2.2.2.1 2 1 (by decide) (by decide) (by decide)⟩, List.forall_mem_nil _⟩⟩)) (by decide) (by decide) (hts _ (show Cond.classLink RL 111 "java/lang/IllegalStateException" ∈ wsL_act by decide +kernel)) ((X.2.2.1.2.2.2.1 2).use rfl) hce hcv hcl ?_
                                        refine lv_astore (lv' := [(4, .ref q), (0, .ref (gAd G 0)), (1, .int x1), (2, .int x2), (3, .int x3)]) hx hb dL_act_256 hl (by decide) rfl (fun ls hl => ?_)
                                        refine lv_bipush (v := (-3 : Int32)) hx hb dL_act_258 (by decide) ?_
                                        exact am_iret X hr hh (fun t ht => am_qw (mk := oI) hF ht) (Nat.le_of_ble_eq_true rfl) (Nat.le_of_ble_eq_true rfl) dL_act_260
                                      · have hF := am_neg he158 hF
                                        by_cases he159 : k = 3
                                        · subst he159
                                          have hF := am_pos rfl hF
                                          refine vx_catch (own := RL) (name := exN 3) (E := exN 3) hown (tbL_act.take 74) ⟨208, 213, 261, 113⟩ (tbL_act.drop 75) (htb.trans rfl) (pre_pass [107, 109, 111] (by decide +kernel) (List.forall_mem_cons.mpr ⟨⟨by decide, exN 0, hts _ (show Cond.classLink RL 107 "java/lang/IndexOutOfBoundsException" ∈ wsL_act by decide +kernel), X.2.2.1.2.2.2.2.1 3 0 (by decide) (by decide) (by decide)⟩, List.forall_mem_cons.mpr ⟨⟨by decide, exN 1, hts _ (show Cond.classLink RL 109 "java/lang/IllegalArgumentException" ∈ wsL_act by decide +kernel), X.2.2.1.2.2.2.2.1 3 1 (by decide) (by decide) (by decide)⟩, List.forall_mem_cons.mpr ⟨⟨by decide, exN 2, hts _ (show Cond.classLink RL 111 "java/lang/IllegalStateException" ∈ wsL_act by decide +kernel), X.2.2.1.2.2.2.2.1 3 2 (by decide) (by decide) (by decide)⟩, List.forall_mem_nil _⟩⟩⟩)) (by decide) (by decide) (hts _ (show Cond.classLink RL 113 "java/lang/UnsupportedOperationException" ∈ wsL_act by decide +kernel)) ((X.2.2.1.2.2.2.1 3).use rfl) hce hcv hcl ?_
                                          refine lv_astore (lv' := [(4, .ref q), (0, .ref (gAd G 0)), (1, .int x1), (2, .int x2), (3, .int x3)]) hx hb dL_act_261 hl (by decide) rfl (fun ls hl => ?_)
                                          refine lv_bipush (v := (-4 : Int32)) hx hb dL_act_263 (by decide) ?_
                                          exact am_iret X hr hh (fun t ht => am_qw (mk := oI) hF ht) (Nat.le_of_ble_eq_true rfl) (Nat.le_of_ble_eq_true rfl) dL_act_265
                                        · have hF := am_neg he159 hF
                                          by_cases he160 : k = 4
                                          · subst he160
                                            have hF := am_pos rfl hF
                                            refine vx_catch (own := RL) (name := exN 4) (E := exN 4) hown (tbL_act.take 94) ⟨208, 213, 266, 115⟩ (tbL_act.drop 95) (htb.trans rfl) (pre_pass [107, 109, 111, 113] (by decide +kernel) (List.forall_mem_cons.mpr ⟨⟨by decide, exN 0, hts _ (show Cond.classLink RL 107 "java/lang/IndexOutOfBoundsException" ∈ wsL_act by decide +kernel), X.2.2.1.2.2.2.2.1 4 0 (by decide) (by decide) (by decide)⟩, List.forall_mem_cons.mpr ⟨⟨by decide, exN 1, hts _ (show Cond.classLink RL 109 "java/lang/IllegalArgumentException" ∈ wsL_act by decide +kernel), X.2.2.1.2.2.2.2.1 4 1 (by decide) (by decide) (by decide)⟩, List.forall_mem_cons.mpr ⟨⟨by decide, exN 2, hts _ (show Cond.classLink RL 111 "java/lang/IllegalStateException" ∈ wsL_act by decide +kernel), X.2.2.1.2.2.2.2.1 4 2 (by decide) (by decide) (by decide)⟩, List.forall_mem_cons.mpr ⟨⟨by decide, exN 3, hts _ (show Cond.classLink RL 113 "java/lang/UnsupportedOperationException" ∈ wsL_act by decide +kernel), X.2.2.1.2.2.2.2.1 4 3 (by decide) (by decide) (by decide)⟩, List.forall_mem_nil _⟩⟩⟩⟩)) (by decide) (by decide) (hts _ (show Cond.classLink RL 115 "java/util/NoSuchElementException" ∈ wsL_act by decide +kernel)) ((X.2.2.1.2.2.2.1 4).use rfl) hce hcv hcl ?_
                                            refine lv_astore (lv' := [(4, .ref q), (0, .ref (gAd G 0)), (1, .int x1), (2, .int x2), (3, .int x3)]) hx hb dL_act_266 hl (by decide) rfl (fun ls hl => ?_)
                                            refine lv_bipush (v := (-5 : Int32)) hx hb dL_act_268 (by decide) ?_
                                            exact am_iret X hr hh (fun t ht => am_qw (mk := oI) hF ht) (Nat.le_of_ble_eq_true rfl) (Nat.le_of_ble_eq_true rfl) dL_act_270
                                          · have hF := am_neg he160 hF
                                            cases hF
                                · subst hz
                                  have hF := am_zr hF
                                  exact am_iret X hr hh (fun t ht => am_qw (mk := oI) hF ht) (Nat.le_of_ble_eq_true rfl) (Nat.le_of_ble_eq_true rfl) dL_act_213
                              · have hF := am_neg hs152 hF
                                by_cases hs161 : x1 = (15 : Int32)
                                · have hF := am_pos hs161 hF
                                  refine am_tableIn (k := 15) (tgt := 214) hx hb dL_act_1 hs161 (by decide) rfl (by decide) ?_
                                  refine lv_aload_n hx hb dL_act_214 rfl (lv_at hl 0 rfl) ?_
                                  refine lv_iload_n hx hb dL_act_215 rfl (lv_at hl 2 rfl) ?_
                                  refine lv_iload_n hx hb dL_act_216 rfl (lv_at hl 3 rfl) ?_
                                  obtain ⟨z164, hk162, hF⟩ := am_bind hF
                                  refine am_callX X hh (vx_runV (As := [.int x2, .int x3]) (rest := []) X.1 (c_X10_joint l G hst hk162) (cwV 2 hts gL_act_X10_joint rfl rfl rfl (by decide +kernel) ⟨Nat.le_of_ble_eq_true rfl, Nat.le_of_ble_eq_true rfl⟩) (am_preV X hh 0 11 (by decide) rfl rfl) rfl rfl hl.1 rfl (lv_room (Nat.le_of_ble_eq_true rfl)) dL_act_217 ⟨Nat.le_of_ble_eq_true rfl, Nat.le_of_ble_eq_true rfl⟩) (fun k ab H locs ce q hz hh hce hcv hcl => ?_) (fun r163 ab H locs hz hh => ?_)
                                  · subst hz
                                    have hF := am_zl hF
                                    by_cases he165 : k = 0
                                    · subst he165
                                      have hF := am_pos rfl hF
                                      refine vx_catch (own := RL) (name := exN 0) (E := exN 0) hown (tbL_act.take 15) ⟨214, 220, 247, 107⟩ (tbL_act.drop 16) (htb.trans rfl) (pre_pass [] (by decide +kernel) (List.forall_mem_nil _)) (by decide) (by decide) (hts _ (show Cond.classLink RL 107 "java/lang/IndexOutOfBoundsException" ∈ wsL_act by decide +kernel)) ((X.2.2.1.2.2.2.1 0).use rfl) hce hcv hcl ?_
                                      refine lv_astore (lv' := [(4, .ref q), (0, .ref (gAd G 0)), (1, .int x1), (2, .int x2), (3, .int x3)]) hx hb dL_act_247 hl (by decide) rfl (fun ls hl => ?_)
                                      refine lv_iconst (v := (-1 : Int32)) hx hb dL_act_249 (by decide) ?_
                                      exact am_iret X hr hh (fun t ht => am_qw (mk := oI) hF ht) (Nat.le_of_ble_eq_true rfl) (Nat.le_of_ble_eq_true rfl) dL_act_250
                                    · have hF := am_neg he165 hF
                                      by_cases he166 : k = 1
                                      · subst he166
                                        have hF := am_pos rfl hF
                                        refine vx_catch (own := RL) (name := exN 1) (E := exN 1) hown (tbL_act.take 35) ⟨214, 220, 251, 109⟩ (tbL_act.drop 36) (htb.trans rfl) (pre_pass [107] (by decide +kernel) (List.forall_mem_cons.mpr ⟨⟨by decide, exN 0, hts _ (show Cond.classLink RL 107 "java/lang/IndexOutOfBoundsException" ∈ wsL_act by decide +kernel), X.2.2.1.2.2.2.2.1 1 0 (by decide) (by decide) (by decide)⟩, List.forall_mem_nil _⟩)) (by decide) (by decide) (hts _ (show Cond.classLink RL 109 "java/lang/IllegalArgumentException" ∈ wsL_act by decide +kernel)) ((X.2.2.1.2.2.2.1 1).use rfl) hce hcv hcl ?_
                                        refine lv_astore (lv' := [(4, .ref q), (0, .ref (gAd G 0)), (1, .int x1), (2, .int x2), (3, .int x3)]) hx hb dL_act_251 hl (by decide) rfl (fun ls hl => ?_)
                                        refine lv_bipush (v := (-2 : Int32)) hx hb dL_act_253 (by decide) ?_
                                        exact am_iret X hr hh (fun t ht => am_qw (mk := oI) hF ht) (Nat.le_of_ble_eq_true rfl) (Nat.le_of_ble_eq_true rfl) dL_act_255
                                      · have hF := am_neg he166 hF
                                        by_cases he167 : k = 2
                                        · subst he167
                                          have hF := am_pos rfl hF
                                          refine vx_catch (own := RL) (name := exN 2) (E := exN 2) hown (tbL_act.take 55) ⟨214, 220, 256, 111⟩ (tbL_act.drop 56) (htb.trans rfl) (pre_pass [107, 109] (by decide +kernel) (List.forall_mem_cons.mpr ⟨⟨by decide, exN 0, hts _ (show Cond.classLink RL 107 "java/lang/IndexOutOfBoundsException" ∈ wsL_act by decide +kernel), X.2.2.1.2.2.2.2.1 2 0 (by decide) (by decide) (by decide)⟩, List.forall_mem_cons.mpr ⟨⟨by decide, exN 1, hts _ (show Cond.classLink RL 109 "java/lang/IllegalArgumentException" ∈ wsL_act by decide +kernel), X.2.2.1.2.2.2.2.1 2 1 (by decide) (by decide) (by decide)⟩, List.forall_mem_nil _⟩⟩)) (by decide) (by decide) (hts _ (show Cond.classLink RL 111 "java/lang/IllegalStateException" ∈ wsL_act by decide +kernel)) ((X.2.2.1.2.2.2.1 2).use rfl) hce hcv hcl ?_
                                          refine lv_astore (lv' := [(4, .ref q), (0, .ref (gAd G 0)), (1, .int x1), (2, .int x2), (3, .int x3)]) hx hb dL_act_256 hl (by decide) rfl (fun ls hl => ?_)
                                          refine lv_bipush (v := (-3 : Int32)) hx hb dL_act_258 (by decide) ?_
                                          exact am_iret X hr hh (fun t ht => am_qw (mk := oI) hF ht) (Nat.le_of_ble_eq_true rfl) (Nat.le_of_ble_eq_true rfl) dL_act_260
                                        · have hF := am_neg he167 hF
                                          by_cases he168 : k = 3
                                          · subst he168
                                            have hF := am_pos rfl hF
                                            refine vx_catch (own := RL) (name := exN 3) (E := exN 3) hown (tbL_act.take 75) ⟨214, 220, 261, 113⟩ (tbL_act.drop 76) (htb.trans rfl) (pre_pass [107, 109, 111] (by decide +kernel) (List.forall_mem_cons.mpr ⟨⟨by decide, exN 0, hts _ (show Cond.classLink RL 107 "java/lang/IndexOutOfBoundsException" ∈ wsL_act by decide +kernel), X.2.2.1.2.2.2.2.1 3 0 (by decide) (by decide) (by decide)⟩, List.forall_mem_cons.mpr ⟨⟨by decide, exN 1, hts _ (show Cond.classLink RL 109 "java/lang/IllegalArgumentException" ∈ wsL_act by decide +kernel), X.2.2.1.2.2.2.2.1 3 1 (by decide) (by decide) (by decide)⟩, List.forall_mem_cons.mpr ⟨⟨by decide, exN 2, hts _ (show Cond.classLink RL 111 "java/lang/IllegalStateException" ∈ wsL_act by decide +kernel), X.2.2.1.2.2.2.2.1 3 2 (by decide) (by decide) (by decide)⟩, List.forall_mem_nil _⟩⟩⟩)) (by decide) (by decide) (hts _ (show Cond.classLink RL 113 "java/lang/UnsupportedOperationException" ∈ wsL_act by decide +kernel)) ((X.2.2.1.2.2.2.1 3).use rfl) hce hcv hcl ?_
                                            refine lv_astore (lv' := [(4, .ref q), (0, .ref (gAd G 0)), (1, .int x1), (2, .int x2), (3, .int x3)]) hx hb dL_act_261 hl (by decide) rfl (fun ls hl => ?_)
                                            refine lv_bipush (v := (-4 : Int32)) hx hb dL_act_263 (by decide) ?_
                                            exact am_iret X hr hh (fun t ht => am_qw (mk := oI) hF ht) (Nat.le_of_ble_eq_true rfl) (Nat.le_of_ble_eq_true rfl) dL_act_265
                                          · have hF := am_neg he168 hF
                                            by_cases he169 : k = 4
                                            · subst he169
                                              have hF := am_pos rfl hF
                                              refine vx_catch (own := RL) (name := exN 4) (E := exN 4) hown (tbL_act.take 95) ⟨214, 220, 266, 115⟩ (tbL_act.drop 96) (htb.trans rfl) (pre_pass [107, 109, 111, 113] (by decide +kernel) (List.forall_mem_cons.mpr ⟨⟨by decide, exN 0, hts _ (show Cond.classLink RL 107 "java/lang/IndexOutOfBoundsException" ∈ wsL_act by decide +kernel), X.2.2.1.2.2.2.2.1 4 0 (by decide) (by decide) (by decide)⟩, List.forall_mem_cons.mpr ⟨⟨by decide, exN 1, hts _ (show Cond.classLink RL 109 "java/lang/IllegalArgumentException" ∈ wsL_act by decide +kernel), X.2.2.1.2.2.2.2.1 4 1 (by decide) (by decide) (by decide)⟩, List.forall_mem_cons.mpr ⟨⟨by decide, exN 2, hts _ (show Cond.classLink RL 111 "java/lang/IllegalStateException" ∈ wsL_act by decide +kernel), X.2.2.1.2.2.2.2.1 4 2 (by decide) (by decide) (by decide)⟩, List.forall_mem_cons.mpr ⟨⟨by decide, exN 3, hts _ (show Cond.classLink RL 113 "java/lang/UnsupportedOperationException" ∈ wsL_act by decide +kernel), X.2.2.1.2.2.2.2.1 4 3 (by decide) (by decide) (by decide)⟩, List.forall_mem_nil _⟩⟩⟩⟩)) (by decide) (by decide) (hts _ (show Cond.classLink RL 115 "java/util/NoSuchElementException" ∈ wsL_act by decide +kernel)) ((X.2.2.1.2.2.2.1 4).use rfl) hce hcv hcl ?_
                                              refine lv_astore (lv' := [(4, .ref q), (0, .ref (gAd G 0)), (1, .int x1), (2, .int x2), (3, .int x3)]) hx hb dL_act_266 hl (by decide) rfl (fun ls hl => ?_)
                                              refine lv_bipush (v := (-5 : Int32)) hx hb dL_act_268 (by decide) ?_
                                              exact am_iret X hr hh (fun t ht => am_qw (mk := oI) hF ht) (Nat.le_of_ble_eq_true rfl) (Nat.le_of_ble_eq_true rfl) dL_act_270
                                            · have hF := am_neg he169 hF
                                              cases hF
                                  · subst hz
                                    have hF := am_zr hF
                                    exact am_iret X hr hh (fun t ht => am_qw (mk := oI) hF ht) (Nat.le_of_ble_eq_true rfl) (Nat.le_of_ble_eq_true rfl) dL_act_220
                                · have hF := am_neg hs161 hF
                                  by_cases hs170 : x1 = (16 : Int32)
                                  · have hF := am_pos hs170 hF
                                    refine am_tableIn (k := 16) (tgt := 221) hx hb dL_act_1 hs170 (by decide) rfl (by decide) ?_
                                    refine lv_aload_n hx hb dL_act_221 rfl (lv_at hl 0 rfl) ?_
                                    refine lv_iload_n hx hb dL_act_222 rfl (lv_at hl 2 rfl) ?_
                                    obtain ⟨⟨z174, w173⟩, hk171, hF⟩ := am_bind hF
                                    have hF := am_u2 hF
                                    refine am_callX X hh (vx_runV (As := [.int x2]) (rest := []) X.1 (c_X10_springOf l G hst hk171) (cwV 1 hts gL_act_X10_springOf rfl rfl rfl (by decide +kernel) ⟨Nat.le_of_ble_eq_true rfl, Nat.le_of_ble_eq_true rfl⟩) (am_preV X hh 0 11 (by decide) rfl rfl) rfl rfl hl.1 rfl (lv_room (Nat.le_of_ble_eq_true rfl)) dL_act_223 ⟨Nat.le_of_ble_eq_true rfl, Nat.le_of_ble_eq_true rfl⟩) (fun k ab H locs ce q hz hh hce hcv hcl => ?_) (fun r172 ab H locs hz hh => ?_)
                                    · subst hz
                                      have hF := am_zl hF
                                      by_cases he175 : k = 0
                                      · subst he175
                                        have hF := am_pos rfl hF
                                        refine vx_catch (own := RL) (name := exN 0) (E := exN 0) hown (tbL_act.take 16) ⟨221, 226, 247, 107⟩ (tbL_act.drop 17) (htb.trans rfl) (pre_pass [] (by decide +kernel) (List.forall_mem_nil _)) (by decide) (by decide) (hts _ (show Cond.classLink RL 107 "java/lang/IndexOutOfBoundsException" ∈ wsL_act by decide +kernel)) ((X.2.2.1.2.2.2.1 0).use rfl) hce hcv hcl ?_
                                        refine lv_astore (lv' := [(4, .ref q), (0, .ref (gAd G 0)), (1, .int x1), (2, .int x2), (3, .int x3)]) hx hb dL_act_247 hl (by decide) rfl (fun ls hl => ?_)
                                        refine lv_iconst (v := (-1 : Int32)) hx hb dL_act_249 (by decide) ?_
                                        exact am_iret X hr hh (fun t ht => am_qw (mk := oI) hF ht) (Nat.le_of_ble_eq_true rfl) (Nat.le_of_ble_eq_true rfl) dL_act_250
                                      · have hF := am_neg he175 hF
                                        by_cases he176 : k = 1
                                        · subst he176
                                          have hF := am_pos rfl hF
                                          refine vx_catch (own := RL) (name := exN 1) (E := exN 1) hown (tbL_act.take 36) ⟨221, 226, 251, 109⟩ (tbL_act.drop 37) (htb.trans rfl) (pre_pass [107] (by decide +kernel) (List.forall_mem_cons.mpr ⟨⟨by decide, exN 0, hts _ (show Cond.classLink RL 107 "java/lang/IndexOutOfBoundsException" ∈ wsL_act by decide +kernel), X.2.2.1.2.2.2.2.1 1 0 (by decide) (by decide) (by decide)⟩, List.forall_mem_nil _⟩)) (by decide) (by decide) (hts _ (show Cond.classLink RL 109 "java/lang/IllegalArgumentException" ∈ wsL_act by decide +kernel)) ((X.2.2.1.2.2.2.1 1).use rfl) hce hcv hcl ?_
                                          refine lv_astore (lv' := [(4, .ref q), (0, .ref (gAd G 0)), (1, .int x1), (2, .int x2), (3, .int x3)]) hx hb dL_act_251 hl (by decide) rfl (fun ls hl => ?_)
                                          refine lv_bipush (v := (-2 : Int32)) hx hb dL_act_253 (by decide) ?_
                                          exact am_iret X hr hh (fun t ht => am_qw (mk := oI) hF ht) (Nat.le_of_ble_eq_true rfl) (Nat.le_of_ble_eq_true rfl) dL_act_255
                                        · have hF := am_neg he176 hF
                                          by_cases he177 : k = 2
                                          · subst he177
                                            have hF := am_pos rfl hF
                                            refine vx_catch (own := RL) (name := exN 2) (E := exN 2) hown (tbL_act.take 56) ⟨221, 226, 256, 111⟩ (tbL_act.drop 57) (htb.trans rfl) (pre_pass [107, 109] (by decide +kernel) (List.forall_mem_cons.mpr ⟨⟨by decide, exN 0, hts _ (show Cond.classLink RL 107 "java/lang/IndexOutOfBoundsException" ∈ wsL_act by decide +kernel), X.2.2.1.2.2.2.2.1 2 0 (by decide) (by decide) (by decide)⟩, List.forall_mem_cons.mpr ⟨⟨by decide, exN 1, hts _ (show Cond.classLink RL 109 "java/lang/IllegalArgumentException" ∈ wsL_act by decide +kernel), X.2.2.1.2.2.2.2.1 2 1 (by decide) (by decide) (by decide)⟩, List.forall_mem_nil _⟩⟩)) (by decide) (by decide) (hts _ (show Cond.classLink RL 111 "java/lang/IllegalStateException" ∈ wsL_act by decide +kernel)) ((X.2.2.1.2.2.2.1 2).use rfl) hce hcv hcl ?_
                                            refine lv_astore (lv' := [(4, .ref q), (0, .ref (gAd G 0)), (1, .int x1), (2, .int x2), (3, .int x3)]) hx hb dL_act_256 hl (by decide) rfl (fun ls hl => ?_)
                                            refine lv_bipush (v := (-3 : Int32)) hx hb dL_act_258 (by decide) ?_
                                            exact am_iret X hr hh (fun t ht => am_qw (mk := oI) hF ht) (Nat.le_of_ble_eq_true rfl) (Nat.le_of_ble_eq_true rfl) dL_act_260
                                          · have hF := am_neg he177 hF
                                            by_cases he178 : k = 3
                                            · subst he178
                                              have hF := am_pos rfl hF
                                              refine vx_catch (own := RL) (name := exN 3) (E := exN 3) hown (tbL_act.take 76) ⟨221, 226, 261, 113⟩ (tbL_act.drop 77) (htb.trans rfl) (pre_pass [107, 109, 111] (by decide +kernel) (List.forall_mem_cons.mpr ⟨⟨by decide, exN 0, hts _ (show Cond.classLink RL 107 "java/lang/IndexOutOfBoundsException" ∈ wsL_act by decide +kernel), X.2.2.1.2.2.2.2.1 3 0 (by decide) (by decide) (by decide)⟩, List.forall_mem_cons.mpr ⟨⟨by decide, exN 1, hts _ (show Cond.classLink RL 109 "java/lang/IllegalArgumentException" ∈ wsL_act by decide +kernel), X.2.2.1.2.2.2.2.1 3 1 (by decide) (by decide) (by decide)⟩, List.forall_mem_cons.mpr ⟨⟨by decide, exN 2, hts _ (show Cond.classLink RL 111 "java/lang/IllegalStateException" ∈ wsL_act by decide +kernel), X.2.2.1.2.2.2.2.1 3 2 (by decide) (by decide) (by decide)⟩, List.forall_mem_nil _⟩⟩⟩)) (by decide) (by decide) (hts _ (show Cond.classLink RL 113 "java/lang/UnsupportedOperationException" ∈ wsL_act by decide +kernel)) ((X.2.2.1.2.2.2.1 3).use rfl) hce hcv hcl ?_
                                              refine lv_astore (lv' := [(4, .ref q), (0, .ref (gAd G 0)), (1, .int x1), (2, .int x2), (3, .int x3)]) hx hb dL_act_261 hl (by decide) rfl (fun ls hl => ?_)
                                              refine lv_bipush (v := (-4 : Int32)) hx hb dL_act_263 (by decide) ?_
                                              exact am_iret X hr hh (fun t ht => am_qw (mk := oI) hF ht) (Nat.le_of_ble_eq_true rfl) (Nat.le_of_ble_eq_true rfl) dL_act_265
                                            · have hF := am_neg he178 hF
                                              by_cases he179 : k = 4
                                              · subst he179
                                                have hF := am_pos rfl hF
                                                refine vx_catch (own := RL) (name := exN 4) (E := exN 4) hown (tbL_act.take 96) ⟨221, 226, 266, 115⟩ (tbL_act.drop 97) (htb.trans rfl) (pre_pass [107, 109, 111, 113] (by decide +kernel) (List.forall_mem_cons.mpr ⟨⟨by decide, exN 0, hts _ (show Cond.classLink RL 107 "java/lang/IndexOutOfBoundsException" ∈ wsL_act by decide +kernel), X.2.2.1.2.2.2.2.1 4 0 (by decide) (by decide) (by decide)⟩, List.forall_mem_cons.mpr ⟨⟨by decide, exN 1, hts _ (show Cond.classLink RL 109 "java/lang/IllegalArgumentException" ∈ wsL_act by decide +kernel), X.2.2.1.2.2.2.2.1 4 1 (by decide) (by decide) (by decide)⟩, List.forall_mem_cons.mpr ⟨⟨by decide, exN 2, hts _ (show Cond.classLink RL 111 "java/lang/IllegalStateException" ∈ wsL_act by decide +kernel), X.2.2.1.2.2.2.2.1 4 2 (by decide) (by decide) (by decide)⟩, List.forall_mem_cons.mpr ⟨⟨by decide, exN 3, hts _ (show Cond.classLink RL 113 "java/lang/UnsupportedOperationException" ∈ wsL_act by decide +kernel), X.2.2.1.2.2.2.2.1 4 3 (by decide) (by decide) (by decide)⟩, List.forall_mem_nil _⟩⟩⟩⟩)) (by decide) (by decide) (hts _ (show Cond.classLink RL 115 "java/util/NoSuchElementException" ∈ wsL_act by decide +kernel)) ((X.2.2.1.2.2.2.1 4).use rfl) hce hcv hcl ?_
                                                refine lv_astore (lv' := [(4, .ref q), (0, .ref (gAd G 0)), (1, .int x1), (2, .int x2), (3, .int x3)]) hx hb dL_act_266 hl (by decide) rfl (fun ls hl => ?_)
                                                refine lv_bipush (v := (-5 : Int32)) hx hb dL_act_268 (by decide) ?_
                                                exact am_iret X hr hh (fun t ht => am_qw (mk := oI) hF ht) (Nat.le_of_ble_eq_true rfl) (Nat.le_of_ble_eq_true rfl) dL_act_270
                                              · have hF := am_neg he179 hF
                                                cases hF
                                    · subst hz
                                      have hF := am_zr hF
                                      exact am_iret X hr hh (fun t ht => am_qw (mk := oI) hF ht) (Nat.le_of_ble_eq_true rfl) (Nat.le_of_ble_eq_true rfl) dL_act_226
                                  · have hF := am_neg hs170 hF
                                    by_cases hs180 : x1 = (17 : Int32)
                                    · have hF := am_pos hs180 hF
                                      refine am_tableIn (k := 17) (tgt := 227) hx hb dL_act_1 hs180 (by decide) rfl (by decide) ?_
                                      refine lv_aload_n hx hb dL_act_227 rfl (lv_at hl 0 rfl) ?_
                                      refine lv_iload_n hx hb dL_act_228 rfl (lv_at hl 2 rfl) ?_
                                      refine lv_iload_n hx hb dL_act_229 rfl (lv_at hl 3 rfl) ?_
                                      obtain ⟨z183, hk181, hF⟩ := am_bind hF
                                      refine am_callX X hh (vx_runV (As := [.int x2, .int x3]) (rest := []) X.1 (c_X10_fewestPairs l G hst hk181) (cwV 2 hts gL_act_X10_fewestPairs rfl rfl rfl (by decide +kernel) ⟨Nat.le_of_ble_eq_true rfl, Nat.le_of_ble_eq_true rfl⟩) (am_preV X hh 0 11 (by decide) rfl rfl) rfl rfl hl.1 rfl (lv_room (Nat.le_of_ble_eq_true rfl)) dL_act_230 ⟨Nat.le_of_ble_eq_true rfl, Nat.le_of_ble_eq_true rfl⟩) (fun k ab H locs ce q hz hh hce hcv hcl => ?_) (fun r182 ab H locs hz hh => ?_)
                                      · subst hz
                                        have hF := am_zl hF
                                        by_cases he184 : k = 0
                                        · subst he184
                                          have hF := am_pos rfl hF
                                          refine vx_catch (own := RL) (name := exN 0) (E := exN 0) hown (tbL_act.take 17) ⟨227, 233, 247, 107⟩ (tbL_act.drop 18) (htb.trans rfl) (pre_pass [] (by decide +kernel) (List.forall_mem_nil _)) (by decide) (by decide) (hts _ (show Cond.classLink RL 107 "java/lang/IndexOutOfBoundsException" ∈ wsL_act by decide +kernel)) ((X.2.2.1.2.2.2.1 0).use rfl) hce hcv hcl ?_
                                          refine lv_astore (lv' := [(4, .ref q), (0, .ref (gAd G 0)), (1, .int x1), (2, .int x2), (3, .int x3)]) hx hb dL_act_247 hl (by decide) rfl (fun ls hl => ?_)
                                          refine lv_iconst (v := (-1 : Int32)) hx hb dL_act_249 (by decide) ?_
                                          exact am_iret X hr hh (fun t ht => am_qw (mk := oI) hF ht) (Nat.le_of_ble_eq_true rfl) (Nat.le_of_ble_eq_true rfl) dL_act_250
                                        · have hF := am_neg he184 hF
                                          by_cases he185 : k = 1
                                          · subst he185
                                            have hF := am_pos rfl hF
                                            refine vx_catch (own := RL) (name := exN 1) (E := exN 1) hown (tbL_act.take 37) ⟨227, 233, 251, 109⟩ (tbL_act.drop 38) (htb.trans rfl) (pre_pass [107] (by decide +kernel) (List.forall_mem_cons.mpr ⟨⟨by decide, exN 0, hts _ (show Cond.classLink RL 107 "java/lang/IndexOutOfBoundsException" ∈ wsL_act by decide +kernel), X.2.2.1.2.2.2.2.1 1 0 (by decide) (by decide) (by decide)⟩, List.forall_mem_nil _⟩)) (by decide) (by decide) (hts _ (show Cond.classLink RL 109 "java/lang/IllegalArgumentException" ∈ wsL_act by decide +kernel)) ((X.2.2.1.2.2.2.1 1).use rfl) hce hcv hcl ?_
                                            refine lv_astore (lv' := [(4, .ref q), (0, .ref (gAd G 0)), (1, .int x1), (2, .int x2), (3, .int x3)]) hx hb dL_act_251 hl (by decide) rfl (fun ls hl => ?_)
                                            refine lv_bipush (v := (-2 : Int32)) hx hb dL_act_253 (by decide) ?_
                                            exact am_iret X hr hh (fun t ht => am_qw (mk := oI) hF ht) (Nat.le_of_ble_eq_true rfl) (Nat.le_of_ble_eq_true rfl) dL_act_255
                                          · have hF := am_neg he185 hF
                                            by_cases he186 : k = 2
                                            · subst he186
                                              have hF := am_pos rfl hF
                                              refine vx_catch (own := RL) (name := exN 2) (E := exN 2) hown (tbL_act.take 57) ⟨227, 233, 256, 111⟩ (tbL_act.drop 58) (htb.trans rfl) (pre_pass [107, 109] (by decide +kernel) (List.forall_mem_cons.mpr ⟨⟨by decide, exN 0, hts _ (show Cond.classLink RL 107 "java/lang/IndexOutOfBoundsException" ∈ wsL_act by decide +kernel), X.2.2.1.2.2.2.2.1 2 0 (by decide) (by decide) (by decide)⟩, List.forall_mem_cons.mpr ⟨⟨by decide, exN 1, hts _ (show Cond.classLink RL 109 "java/lang/IllegalArgumentException" ∈ wsL_act by decide +kernel), X.2.2.1.2.2.2.2.1 2 1 (by decide) (by decide) (by decide)⟩, List.forall_mem_nil _⟩⟩)) (by decide) (by decide) (hts _ (show Cond.classLink RL 111 "java/lang/IllegalStateException" ∈ wsL_act by decide +kernel)) ((X.2.2.1.2.2.2.1 2).use rfl) hce hcv hcl ?_
                                              refine lv_astore (lv' := [(4, .ref q), (0, .ref (gAd G 0)), (1, .int x1), (2, .int x2), (3, .int x3)]) hx hb dL_act_256 hl (by decide) rfl (fun ls hl => ?_)
                                              refine lv_bipush (v := (-3 : Int32)) hx hb dL_act_258 (by decide) ?_
                                              exact am_iret X hr hh (fun t ht => am_qw (mk := oI) hF ht) (Nat.le_of_ble_eq_true rfl) (Nat.le_of_ble_eq_true rfl) dL_act_260
                                            · have hF := am_neg he186 hF
                                              by_cases he187 : k = 3
                                              · subst he187
                                                have hF := am_pos rfl hF
                                                refine vx_catch (own := RL) (name := exN 3) (E := exN 3) hown (tbL_act.take 77) ⟨227, 233, 261, 113⟩ (tbL_act.drop 78) (htb.trans rfl) (pre_pass [107, 109, 111] (by decide +kernel) (List.forall_mem_cons.mpr ⟨⟨by decide, exN 0, hts _ (show Cond.classLink RL 107 "java/lang/IndexOutOfBoundsException" ∈ wsL_act by decide +kernel), X.2.2.1.2.2.2.2.1 3 0 (by decide) (by decide) (by decide)⟩, List.forall_mem_cons.mpr ⟨⟨by decide, exN 1, hts _ (show Cond.classLink RL 109 "java/lang/IllegalArgumentException" ∈ wsL_act by decide +kernel), X.2.2.1.2.2.2.2.1 3 1 (by decide) (by decide) (by decide)⟩, List.forall_mem_cons.mpr ⟨⟨by decide, exN 2, hts _ (show Cond.classLink RL 111 "java/lang/IllegalStateException" ∈ wsL_act by decide +kernel), X.2.2.1.2.2.2.2.1 3 2 (by decide) (by decide) (by decide)⟩, List.forall_mem_nil _⟩⟩⟩)) (by decide) (by decide) (hts _ (show Cond.classLink RL 113 "java/lang/UnsupportedOperationException" ∈ wsL_act by decide +kernel)) ((X.2.2.1.2.2.2.1 3).use rfl) hce hcv hcl ?_
                                                refine lv_astore (lv' := [(4, .ref q), (0, .ref (gAd G 0)), (1, .int x1), (2, .int x2), (3, .int x3)]) hx hb dL_act_261 hl (by decide) rfl (fun ls hl => ?_)
                                                refine lv_bipush (v := (-4 : Int32)) hx hb dL_act_263 (by decide) ?_
                                                exact am_iret X hr hh (fun t ht => am_qw (mk := oI) hF ht) (Nat.le_of_ble_eq_true rfl) (Nat.le_of_ble_eq_true rfl) dL_act_265
                                              · have hF := am_neg he187 hF
                                                by_cases he188 : k = 4
                                                · subst he188
                                                  have hF := am_pos rfl hF
                                                  refine vx_catch (own := RL) (name := exN 4) (E := exN 4) hown (tbL_act.take 97) ⟨227, 233, 266, 115⟩ (tbL_act.drop 98) (htb.trans rfl) (pre_pass [107, 109, 111, 113] (by decide +kernel) (List.forall_mem_cons.mpr ⟨⟨by decide, exN 0, hts _ (show Cond.classLink RL 107 "java/lang/IndexOutOfBoundsException" ∈ wsL_act by decide +kernel), X.2.2.1.2.2.2.2.1 4 0 (by decide) (by decide) (by decide)⟩, List.forall_mem_cons.mpr ⟨⟨by decide, exN 1, hts _ (show Cond.classLink RL 109 "java/lang/IllegalArgumentException" ∈ wsL_act by decide +kernel), X.2.2.1.2.2.2.2.1 4 1 (by decide) (by decide) (by decide)⟩, List.forall_mem_cons.mpr ⟨⟨by decide, exN 2, hts _ (show Cond.classLink RL 111 "java/lang/IllegalStateException" ∈ wsL_act by decide +kernel), X.2.2.1.2.2.2.2.1 4 2 (by decide) (by decide) (by decide)⟩, List.forall_mem_cons.mpr ⟨⟨by decide, exN 3, hts _ (show Cond.classLink RL 113 "java/lang/UnsupportedOperationException" ∈ wsL_act by decide +kernel), X.2.2.1.2.2.2.2.1 4 3 (by decide) (by decide) (by decide)⟩, List.forall_mem_nil _⟩⟩⟩⟩)) (by decide) (by decide) (hts _ (show Cond.classLink RL 115 "java/util/NoSuchElementException" ∈ wsL_act by decide +kernel)) ((X.2.2.1.2.2.2.1 4).use rfl) hce hcv hcl ?_
                                                  refine lv_astore (lv' := [(4, .ref q), (0, .ref (gAd G 0)), (1, .int x1), (2, .int x2), (3, .int x3)]) hx hb dL_act_266 hl (by decide) rfl (fun ls hl => ?_)
                                                  refine lv_bipush (v := (-5 : Int32)) hx hb dL_act_268 (by decide) ?_
                                                  exact am_iret X hr hh (fun t ht => am_qw (mk := oI) hF ht) (Nat.le_of_ble_eq_true rfl) (Nat.le_of_ble_eq_true rfl) dL_act_270
                                                · have hF := am_neg he188 hF
                                                  cases hF
                                      · subst hz
                                        have hF := am_zr hF
                                        exact am_iret X hr hh (fun t ht => am_qw (mk := oI) hF ht) (Nat.le_of_ble_eq_true rfl) (Nat.le_of_ble_eq_true rfl) dL_act_233
                                    · have hF := am_neg hs180 hF
                                      by_cases hs189 : x1 = (18 : Int32)
                                      · have hF := am_pos hs189 hF
                                        refine am_tableIn (k := 18) (tgt := 234) hx hb dL_act_1 hs189 (by decide) rfl (by decide) ?_
                                        refine lv_aload_n hx hb dL_act_234 rfl (lv_at hl 0 rfl) ?_
                                        refine lv_iload_n hx hb dL_act_235 rfl (lv_at hl 2 rfl) ?_
                                        refine lv_iload_n hx hb dL_act_236 rfl (lv_at hl 3 rfl) ?_
                                        obtain ⟨⟨z193, w192⟩, hk190, hF⟩ := am_bind hF
                                        have hF := am_u2 hF
                                        refine am_callX X hh (vx_runV (As := [.int x2, .int x3]) (rest := []) X.1 (c_X10_fewestPairsByTable l G hst hk190) (cwV 2 hts gL_act_X10_fewestPairsByTable rfl rfl rfl (by decide +kernel) ⟨Nat.le_of_ble_eq_true rfl, Nat.le_of_ble_eq_true rfl⟩) (am_preV X hh 0 11 (by decide) rfl rfl) rfl rfl hl.1 rfl (lv_room (Nat.le_of_ble_eq_true rfl)) dL_act_237 ⟨Nat.le_of_ble_eq_true rfl, Nat.le_of_ble_eq_true rfl⟩) (fun k ab H locs ce q hz hh hce hcv hcl => ?_) (fun r191 ab H locs hz hh => ?_)
                                        · subst hz
                                          have hF := am_zl hF
                                          by_cases he194 : k = 0
                                          · subst he194
                                            have hF := am_pos rfl hF
                                            refine vx_catch (own := RL) (name := exN 0) (E := exN 0) hown (tbL_act.take 18) ⟨234, 240, 247, 107⟩ (tbL_act.drop 19) (htb.trans rfl) (pre_pass [] (by decide +kernel) (List.forall_mem_nil _)) (by decide) (by decide) (hts _ (show Cond.classLink RL 107 "java/lang/IndexOutOfBoundsException" ∈ wsL_act by decide +kernel)) ((X.2.2.1.2.2.2.1 0).use rfl) hce hcv hcl ?_
                                            refine lv_astore (lv' := [(4, .ref q), (0, .ref (gAd G 0)), (1, .int x1), (2, .int x2), (3, .int x3)]) hx hb dL_act_247 hl (by decide) rfl (fun ls hl => ?_)
                                            refine lv_iconst (v := (-1 : Int32)) hx hb dL_act_249 (by decide) ?_
                                            exact am_iret X hr hh (fun t ht => am_qw (mk := oI) hF ht) (Nat.le_of_ble_eq_true rfl) (Nat.le_of_ble_eq_true rfl) dL_act_250
                                          · have hF := am_neg he194 hF
                                            by_cases he195 : k = 1
                                            · subst he195
                                              have hF := am_pos rfl hF
                                              refine vx_catch (own := RL) (name := exN 1) (E := exN 1) hown (tbL_act.take 38) ⟨234, 240, 251, 109⟩ (tbL_act.drop 39) (htb.trans rfl) (pre_pass [107] (by decide +kernel) (List.forall_mem_cons.mpr ⟨⟨by decide, exN 0, hts _ (show Cond.classLink RL 107 "java/lang/IndexOutOfBoundsException" ∈ wsL_act by decide +kernel), X.2.2.1.2.2.2.2.1 1 0 (by decide) (by decide) (by decide)⟩, List.forall_mem_nil _⟩)) (by decide) (by decide) (hts _ (show Cond.classLink RL 109 "java/lang/IllegalArgumentException" ∈ wsL_act by decide +kernel)) ((X.2.2.1.2.2.2.1 1).use rfl) hce hcv hcl ?_
                                              refine lv_astore (lv' := [(4, .ref q), (0, .ref (gAd G 0)), (1, .int x1), (2, .int x2), (3, .int x3)]) hx hb dL_act_251 hl (by decide) rfl (fun ls hl => ?_)
                                              refine lv_bipush (v := (-2 : Int32)) hx hb dL_act_253 (by decide) ?_
                                              exact am_iret X hr hh (fun t ht => am_qw (mk := oI) hF ht) (Nat.le_of_ble_eq_true rfl) (Nat.le_of_ble_eq_true rfl) dL_act_255
                                            · have hF := am_neg he195 hF
                                              by_cases he196 : k = 2
                                              · subst he196
                                                have hF := am_pos rfl hF
                                                refine vx_catch (own := RL) (name := exN 2) (E := exN 2) hown (tbL_act.take 58) ⟨234, 240, 256, 111⟩ (tbL_act.drop 59) (htb.trans rfl) (pre_pass [107, 109] (by decide +kernel) (List.forall_mem_cons.mpr ⟨⟨by decide, exN 0, hts _ (show Cond.classLink RL 107 "java/lang/IndexOutOfBoundsException" ∈ wsL_act by decide +kernel), X.2.2.1.2.2.2.2.1 2 0 (by decide) (by decide) (by decide)⟩, List.forall_mem_cons.mpr ⟨⟨by decide, exN 1, hts _ (show Cond.classLink RL 109 "java/lang/IllegalArgumentException" ∈ wsL_act by decide +kernel), X.2.2.1.2.2.2.2.1 2 1 (by decide) (by decide) (by decide)⟩, List.forall_mem_nil _⟩⟩)) (by decide) (by decide) (hts _ (show Cond.classLink RL 111 "java/lang/IllegalStateException" ∈ wsL_act by decide +kernel)) ((X.2.2.1.2.2.2.1 2).use rfl) hce hcv hcl ?_
                                                refine lv_astore (lv' := [(4, .ref q), (0, .ref (gAd G 0)), (1, .int x1), (2, .int x2), (3, .int x3)]) hx hb dL_act_256 hl (by decide) rfl (fun ls hl => ?_)
                                                refine lv_bipush (v := (-3 : Int32)) hx hb dL_act_258 (by decide) ?_
                                                exact am_iret X hr hh (fun t ht => am_qw (mk := oI) hF ht) (Nat.le_of_ble_eq_true rfl) (Nat.le_of_ble_eq_true rfl) dL_act_260
                                              · have hF := am_neg he196 hF
                                                by_cases he197 : k = 3
                                                · subst he197
                                                  have hF := am_pos rfl hF
                                                  refine vx_catch (own := RL) (name := exN 3) (E := exN 3) hown (tbL_act.take 78) ⟨234, 240, 261, 113⟩ (tbL_act.drop 79) (htb.trans rfl) (pre_pass [107, 109, 111] (by decide +kernel) (List.forall_mem_cons.mpr ⟨⟨by decide, exN 0, hts _ (show Cond.classLink RL 107 "java/lang/IndexOutOfBoundsException" ∈ wsL_act by decide +kernel), X.2.2.1.2.2.2.2.1 3 0 (by decide) (by decide) (by decide)⟩, List.forall_mem_cons.mpr ⟨⟨by decide, exN 1, hts _ (show Cond.classLink RL 109 "java/lang/IllegalArgumentException" ∈ wsL_act by decide +kernel), X.2.2.1.2.2.2.2.1 3 1 (by decide) (by decide) (by decide)⟩, List.forall_mem_cons.mpr ⟨⟨by decide, exN 2, hts _ (show Cond.classLink RL 111 "java/lang/IllegalStateException" ∈ wsL_act by decide +kernel), X.2.2.1.2.2.2.2.1 3 2 (by decide) (by decide) (by decide)⟩, List.forall_mem_nil _⟩⟩⟩)) (by decide) (by decide) (hts _ (show Cond.classLink RL 113 "java/lang/UnsupportedOperationException" ∈ wsL_act by decide +kernel)) ((X.2.2.1.2.2.2.1 3).use rfl) hce hcv hcl ?_
                                                  refine lv_astore (lv' := [(4, .ref q), (0, .ref (gAd G 0)), (1, .int x1), (2, .int x2), (3, .int x3)]) hx hb dL_act_261 hl (by decide) rfl (fun ls hl => ?_)
                                                  refine lv_bipush (v := (-4 : Int32)) hx hb dL_act_263 (by decide) ?_
                                                  exact am_iret X hr hh (fun t ht => am_qw (mk := oI) hF ht) (Nat.le_of_ble_eq_true rfl) (Nat.le_of_ble_eq_true rfl) dL_act_265
                                                · have hF := am_neg he197 hF
                                                  by_cases he198 : k = 4
                                                  · subst he198
                                                    have hF := am_pos rfl hF
                                                    refine vx_catch (own := RL) (name := exN 4) (E := exN 4) hown (tbL_act.take 98) ⟨234, 240, 266, 115⟩ (tbL_act.drop 99) (htb.trans rfl) (pre_pass [107, 109, 111, 113] (by decide +kernel) (List.forall_mem_cons.mpr ⟨⟨by decide, exN 0, hts _ (show Cond.classLink RL 107 "java/lang/IndexOutOfBoundsException" ∈ wsL_act by decide +kernel), X.2.2.1.2.2.2.2.1 4 0 (by decide) (by decide) (by decide)⟩, List.forall_mem_cons.mpr ⟨⟨by decide, exN 1, hts _ (show Cond.classLink RL 109 "java/lang/IllegalArgumentException" ∈ wsL_act by decide +kernel), X.2.2.1.2.2.2.2.1 4 1 (by decide) (by decide) (by decide)⟩, List.forall_mem_cons.mpr ⟨⟨by decide, exN 2, hts _ (show Cond.classLink RL 111 "java/lang/IllegalStateException" ∈ wsL_act by decide +kernel), X.2.2.1.2.2.2.2.1 4 2 (by decide) (by decide) (by decide)⟩, List.forall_mem_cons.mpr ⟨⟨by decide, exN 3, hts _ (show Cond.classLink RL 113 "java/lang/UnsupportedOperationException" ∈ wsL_act by decide +kernel), X.2.2.1.2.2.2.2.1 4 3 (by decide) (by decide) (by decide)⟩, List.forall_mem_nil _⟩⟩⟩⟩)) (by decide) (by decide) (hts _ (show Cond.classLink RL 115 "java/util/NoSuchElementException" ∈ wsL_act by decide +kernel)) ((X.2.2.1.2.2.2.1 4).use rfl) hce hcv hcl ?_
                                                    refine lv_astore (lv' := [(4, .ref q), (0, .ref (gAd G 0)), (1, .int x1), (2, .int x2), (3, .int x3)]) hx hb dL_act_266 hl (by decide) rfl (fun ls hl => ?_)
                                                    refine lv_bipush (v := (-5 : Int32)) hx hb dL_act_268 (by decide) ?_
                                                    exact am_iret X hr hh (fun t ht => am_qw (mk := oI) hF ht) (Nat.le_of_ble_eq_true rfl) (Nat.le_of_ble_eq_true rfl) dL_act_270
                                                  · have hF := am_neg he198 hF
                                                    cases hF
                                        · subst hz
                                          have hF := am_zr hF
                                          exact am_iret X hr hh (fun t ht => am_qw (mk := oI) hF ht) (Nat.le_of_ble_eq_true rfl) (Nat.le_of_ble_eq_true rfl) dL_act_240
                                      · have hF := am_neg hs189 hF
                                        refine am_tableD (keys := [(0 : Int32), (1 : Int32), (2 : Int32), (3 : Int32), (4 : Int32), (5 : Int32), (6 : Int32), (7 : Int32), (8 : Int32), (9 : Int32), (10 : Int32), (11 : Int32), (12 : Int32), (13 : Int32), (14 : Int32), (15 : Int32), (16 : Int32), (17 : Int32), (18 : Int32)]) (tgt := 241) hx hb dL_act_1 (List.forall_mem_cons.mpr ⟨hs1, List.forall_mem_cons.mpr ⟨hs11, List.forall_mem_cons.mpr ⟨hs21, List.forall_mem_cons.mpr ⟨hs31, List.forall_mem_cons.mpr ⟨hs41, List.forall_mem_cons.mpr ⟨hs51, List.forall_mem_cons.mpr ⟨hs61, List.forall_mem_cons.mpr ⟨hs72, List.forall_mem_cons.mpr ⟨hs82, List.forall_mem_cons.mpr ⟨hs92, List.forall_mem_cons.mpr ⟨hs114, List.forall_mem_cons.mpr ⟨hs124, List.forall_mem_cons.mpr ⟨hs134, List.forall_mem_cons.mpr ⟨hs143, List.forall_mem_cons.mpr ⟨hs152, List.forall_mem_cons.mpr ⟨hs161, List.forall_mem_cons.mpr ⟨hs170, List.forall_mem_cons.mpr ⟨hs180, List.forall_mem_cons.mpr ⟨hs189, List.forall_mem_nil _⟩⟩⟩⟩⟩⟩⟩⟩⟩⟩⟩⟩⟩⟩⟩⟩⟩⟩⟩) (by decide +kernel) (by decide) (by decide) ?_
                                        refine lv_aload_n hx hb dL_act_241 rfl (lv_at hl 0 rfl) ?_
                                        refine lv_iload_n hx hb dL_act_242 rfl (lv_at hl 2 rfl) ?_
                                        obtain ⟨⟨z202, w201⟩, hk199, hF⟩ := am_bind hF
                                        have hF := am_u2 hF
                                        refine am_callX X hh (vx_runV (As := [.int x2]) (rest := []) X.1 (c_X10_turnsLeft l G hst hk199) (cwV 1 hts gL_act_X10_turnsLeft rfl rfl rfl (by decide +kernel) ⟨Nat.le_of_ble_eq_true rfl, Nat.le_of_ble_eq_true rfl⟩) (am_preV X hh 0 11 (by decide) rfl rfl) rfl rfl hl.1 rfl (lv_room (Nat.le_of_ble_eq_true rfl)) dL_act_243 ⟨Nat.le_of_ble_eq_true rfl, Nat.le_of_ble_eq_true rfl⟩) (fun k ab H locs ce q hz hh hce hcv hcl => ?_) (fun r200 ab H locs hz hh => ?_)
                                        · subst hz
                                          have hF := am_zl hF
                                          by_cases he203 : k = 0
                                          · subst he203
                                            have hF := am_pos rfl hF
                                            refine vx_catch (own := RL) (name := exN 0) (E := exN 0) hown (tbL_act.take 19) ⟨241, 246, 247, 107⟩ (tbL_act.drop 20) (htb.trans rfl) (pre_pass [] (by decide +kernel) (List.forall_mem_nil _)) (by decide) (by decide) (hts _ (show Cond.classLink RL 107 "java/lang/IndexOutOfBoundsException" ∈ wsL_act by decide +kernel)) ((X.2.2.1.2.2.2.1 0).use rfl) hce hcv hcl ?_
                                            refine lv_astore (lv' := [(4, .ref q), (0, .ref (gAd G 0)), (1, .int x1), (2, .int x2), (3, .int x3)]) hx hb dL_act_247 hl (by decide) rfl (fun ls hl => ?_)
                                            refine lv_iconst (v := (-1 : Int32)) hx hb dL_act_249 (by decide) ?_
                                            exact am_iret X hr hh (fun t ht => am_qw (mk := oI) hF ht) (Nat.le_of_ble_eq_true rfl) (Nat.le_of_ble_eq_true rfl) dL_act_250
                                          · have hF := am_neg he203 hF
                                            by_cases he204 : k = 1
                                            · subst he204
                                              have hF := am_pos rfl hF
                                              refine vx_catch (own := RL) (name := exN 1) (E := exN 1) hown (tbL_act.take 39) ⟨241, 246, 251, 109⟩ (tbL_act.drop 40) (htb.trans rfl) (pre_pass [107] (by decide +kernel) (List.forall_mem_cons.mpr ⟨⟨by decide, exN 0, hts _ (show Cond.classLink RL 107 "java/lang/IndexOutOfBoundsException" ∈ wsL_act by decide +kernel), X.2.2.1.2.2.2.2.1 1 0 (by decide) (by decide) (by decide)⟩, List.forall_mem_nil _⟩)) (by decide) (by decide) (hts _ (show Cond.classLink RL 109 "java/lang/IllegalArgumentException" ∈ wsL_act by decide +kernel)) ((X.2.2.1.2.2.2.1 1).use rfl) hce hcv hcl ?_
                                              refine lv_astore (lv' := [(4, .ref q), (0, .ref (gAd G 0)), (1, .int x1), (2, .int x2), (3, .int x3)]) hx hb dL_act_251 hl (by decide) rfl (fun ls hl => ?_)
                                              refine lv_bipush (v := (-2 : Int32)) hx hb dL_act_253 (by decide) ?_
                                              exact am_iret X hr hh (fun t ht => am_qw (mk := oI) hF ht) (Nat.le_of_ble_eq_true rfl) (Nat.le_of_ble_eq_true rfl) dL_act_255
                                            · have hF := am_neg he204 hF
                                              by_cases he205 : k = 2
                                              · subst he205
                                                have hF := am_pos rfl hF
                                                refine vx_catch (own := RL) (name := exN 2) (E := exN 2) hown (tbL_act.take 59) ⟨241, 246, 256, 111⟩ (tbL_act.drop 60) (htb.trans rfl) (pre_pass [107, 109] (by decide +kernel) (List.forall_mem_cons.mpr ⟨⟨by decide, exN 0, hts _ (show Cond.classLink RL 107 "java/lang/IndexOutOfBoundsException" ∈ wsL_act by decide +kernel), X.2.2.1.2.2.2.2.1 2 0 (by decide) (by decide) (by decide)⟩, List.forall_mem_cons.mpr ⟨⟨by decide, exN 1, hts _ (show Cond.classLink RL 109 "java/lang/IllegalArgumentException" ∈ wsL_act by decide +kernel), X.2.2.1.2.2.2.2.1 2 1 (by decide) (by decide) (by decide)⟩, List.forall_mem_nil _⟩⟩)) (by decide) (by decide) (hts _ (show Cond.classLink RL 111 "java/lang/IllegalStateException" ∈ wsL_act by decide +kernel)) ((X.2.2.1.2.2.2.1 2).use rfl) hce hcv hcl ?_
                                                refine lv_astore (lv' := [(4, .ref q), (0, .ref (gAd G 0)), (1, .int x1), (2, .int x2), (3, .int x3)]) hx hb dL_act_256 hl (by decide) rfl (fun ls hl => ?_)
                                                refine lv_bipush (v := (-3 : Int32)) hx hb dL_act_258 (by decide) ?_
                                                exact am_iret X hr hh (fun t ht => am_qw (mk := oI) hF ht) (Nat.le_of_ble_eq_true rfl) (Nat.le_of_ble_eq_true rfl) dL_act_260
                                              · have hF := am_neg he205 hF
                                                by_cases he206 : k = 3
                                                · subst he206
                                                  have hF := am_pos rfl hF
                                                  refine vx_catch (own := RL) (name := exN 3) (E := exN 3) hown (tbL_act.take 79) ⟨241, 246, 261, 113⟩ (tbL_act.drop 80) (htb.trans rfl) (pre_pass [107, 109, 111] (by decide +kernel) (List.forall_mem_cons.mpr ⟨⟨by decide, exN 0, hts _ (show Cond.classLink RL 107 "java/lang/IndexOutOfBoundsException" ∈ wsL_act by decide +kernel), X.2.2.1.2.2.2.2.1 3 0 (by decide) (by decide) (by decide)⟩, List.forall_mem_cons.mpr ⟨⟨by decide, exN 1, hts _ (show Cond.classLink RL 109 "java/lang/IllegalArgumentException" ∈ wsL_act by decide +kernel), X.2.2.1.2.2.2.2.1 3 1 (by decide) (by decide) (by decide)⟩, List.forall_mem_cons.mpr ⟨⟨by decide, exN 2, hts _ (show Cond.classLink RL 111 "java/lang/IllegalStateException" ∈ wsL_act by decide +kernel), X.2.2.1.2.2.2.2.1 3 2 (by decide) (by decide) (by decide)⟩, List.forall_mem_nil _⟩⟩⟩)) (by decide) (by decide) (hts _ (show Cond.classLink RL 113 "java/lang/UnsupportedOperationException" ∈ wsL_act by decide +kernel)) ((X.2.2.1.2.2.2.1 3).use rfl) hce hcv hcl ?_
                                                  refine lv_astore (lv' := [(4, .ref q), (0, .ref (gAd G 0)), (1, .int x1), (2, .int x2), (3, .int x3)]) hx hb dL_act_261 hl (by decide) rfl (fun ls hl => ?_)
                                                  refine lv_bipush (v := (-4 : Int32)) hx hb dL_act_263 (by decide) ?_
                                                  exact am_iret X hr hh (fun t ht => am_qw (mk := oI) hF ht) (Nat.le_of_ble_eq_true rfl) (Nat.le_of_ble_eq_true rfl) dL_act_265
                                                · have hF := am_neg he206 hF
                                                  by_cases he207 : k = 4
                                                  · subst he207
                                                    have hF := am_pos rfl hF
                                                    refine vx_catch (own := RL) (name := exN 4) (E := exN 4) hown (tbL_act.take 99) ⟨241, 246, 266, 115⟩ (tbL_act.drop 100) (htb.trans rfl) (pre_pass [107, 109, 111, 113] (by decide +kernel) (List.forall_mem_cons.mpr ⟨⟨by decide, exN 0, hts _ (show Cond.classLink RL 107 "java/lang/IndexOutOfBoundsException" ∈ wsL_act by decide +kernel), X.2.2.1.2.2.2.2.1 4 0 (by decide) (by decide) (by decide)⟩, List.forall_mem_cons.mpr ⟨⟨by decide, exN 1, hts _ (show Cond.classLink RL 109 "java/lang/IllegalArgumentException" ∈ wsL_act by decide +kernel), X.2.2.1.2.2.2.2.1 4 1 (by decide) (by decide) (by decide)⟩, List.forall_mem_cons.mpr ⟨⟨by decide, exN 2, hts _ (show Cond.classLink RL 111 "java/lang/IllegalStateException" ∈ wsL_act by decide +kernel), X.2.2.1.2.2.2.2.1 4 2 (by decide) (by decide) (by decide)⟩, List.forall_mem_cons.mpr ⟨⟨by decide, exN 3, hts _ (show Cond.classLink RL 113 "java/lang/UnsupportedOperationException" ∈ wsL_act by decide +kernel), X.2.2.1.2.2.2.2.1 4 3 (by decide) (by decide) (by decide)⟩, List.forall_mem_nil _⟩⟩⟩⟩)) (by decide) (by decide) (hts _ (show Cond.classLink RL 115 "java/util/NoSuchElementException" ∈ wsL_act by decide +kernel)) ((X.2.2.1.2.2.2.1 4).use rfl) hce hcv hcl ?_
                                                    refine lv_astore (lv' := [(4, .ref q), (0, .ref (gAd G 0)), (1, .int x1), (2, .int x2), (3, .int x3)]) hx hb dL_act_266 hl (by decide) rfl (fun ls hl => ?_)
                                                    refine lv_bipush (v := (-5 : Int32)) hx hb dL_act_268 (by decide) ?_
                                                    exact am_iret X hr hh (fun t ht => am_qw (mk := oI) hF ht) (Nat.le_of_ble_eq_true rfl) (Nat.le_of_ble_eq_true rfl) dL_act_270
                                                  · have hF := am_neg he207 hF
                                                    cases hF
                                        · subst hz
                                          have hF := am_zr hF
                                          exact am_iret X hr hh (fun t ht => am_qw (mk := oI) hF ht) (Nat.le_of_ble_eq_true rfl) (Nat.le_of_ble_eq_true rfl) dL_act_246
