def f_law_423 (wX : Wd) (wY : Wd) (wZ : Wd) (l3 : Int32) (l4 : Int32) (l6 : Int32) : Option (Wd × Wd × Wd) := ((f_L_put wZ 26).bind fun w3 => ((f_X10_runScript w3).bind fun z => u2 z fun z w7 => zc z (fun _ => none) (fun r6 => (if r6 = (7 : Int32) then ((f_X10_unitsPerTurn w7 (0 : Int32) (1 : Int32)).bind fun z => u2 z fun z w13 => zc z (fun _ => none) (fun r12 => (if r12 = (-74649600000 : Int64) then ((f_X10_unitsPerTurnByLowest w13 (0 : Int32) (1 : Int32)).bind fun z => u2 z fun z w19 => zc z (fun _ => none) (fun r18 => (if r18 = (-74649600000 : Int64) then ((f_X10_unitsPerTurn w19 (0 : Int32) (3 : Int32)).bind fun z => u2 z fun z w25 => zc z (fun _ => none) (fun r24 => (if r24 = (24883200000 : Int64) then ((f_X10_unitsPerTurnByLowest w25 (1 : Int32) (0 : Int32)).bind fun z => u2 z fun z w31 => zc z (fun _ => none) (fun r30 => (if r30 = (-8294400000 : Int64) then ((f_X10_unitsPerTurn w31 (2 : Int32) (3 : Int32)).bind fun z => u2 z fun z w37 => zc z (fun _ => none) (fun r36 => (if r36 = (-8294400000 : Int64) then ((f_X10_trainSize w37 (3 : Int32)).bind fun z => u2 z fun z w43 => zc z (fun _ => none) (fun r42 => (if r42 = (4 : Int32) then ((f_X10_friction w43 (2 : Int32)).bind fun z => u2 z fun z w49 => zc z (fun _ => none) (fun r48 => (if r48 = (8 : Int32) then ((f_L_act w49 (1 : Int32) (0 : Int32) (3 : Int32)).bind fun z => u2 z fun r54 w55 => (if r54 = (-4 : Int32) then ((f_X10_shareAxle w55 (0 : Int32) (3 : Int32)).bind fun z => u2 z fun z w60 => zc z (fun _ => none) (fun r59 => (if r59 = (4 : Int32) then ((f_L_act w60 (2 : Int32) (3 : Int32) (0 : Int32)).bind fun z => u2 z fun r65 w66 => (if r65 = (-3 : Int32) then ((f_X10_separate w66 (3 : Int32) (0 : Int32)).bind fun z => u2 z fun z w71 => zc z (fun _ => none) (fun r70 => (if r70 = (3 : Int32) then ((f_L_act w71 (3 : Int32) (0 : Int32) (3 : Int32)).bind fun z => u2 z fun r76 w77 => (if r76 = (-5 : Int32) then (some (wX, wY, w77)) else none)) else none))) else none)) else none))) else none)) else none))) else none))) else none))) else none))) else none))) else none))) else none))) else none))))
set_option maxHeartbeats 16000000 in
set_option maxRecDepth 100000 in
theorem c_law_423 (l : Launch) (hst : l.stackTraces = false) {B : BP} {p : Program} {e : Env} {s : State} {m : MethodId} {args : Array Value} {below : List Frame} {meth : Method} {c : Code} {b cells slots abX abY abZ : Nat} {adX adY adZ : Nat → Nat} {H : Heap} {locs : List Loc} {ls : Array Slot} {wX wX1 wY wY1 wZ wZ1 : Wd} {l3 l4 l6 : Int32} {Q : State → Prop} (X : BX B p s m args meth c cL_law 8 RL wsL_lawQ) (hav : ∀ i, i < 31 → B.2.2 (300 + i) = 1) (hR : ∀ i, i < 31 → 13 ≤ i → vk_R "PlanetWorkshopLaw" (sW.getD i 0) (sX.getD i "") (B.2.2 (100 + i)) s) (hh : BH B s.heap [obW B (adX, abX, wX), obW B (adY, abY, wY), obW B (adZ, abZ, wZ)] H locs) (hc : cells + 93 ≤ 614784) (hs : slots + 558 ≤ 7245417) (hl : lv_has ls 8 [(0, .ref b), (1, .ref (adX 0)), (2, .ref (adY 0)), (7, .ref (adZ 0)), (3, .int l3), (4, .int l4), (6, .int l6)]) (hF : f_law_423 wX wY wZ l3 l4 l6 = some (wX1, wY1, wZ1)) (kk : ∀ (abX abY abZ : Nat) (H : Heap) (locs : List Loc) (ls : Array Slot), BH B s.heap [obW B (adX, abX, wX1), obW B (adY, abY, wY1), obW B (adZ, abZ, wZ1)] H locs → lv_has ls 8 [(0, .ref b), (1, .ref (adX 0)), (2, .ref (adY 0)), (7, .ref (adZ 0)), (3, .int l3), (4, .int l4), (6, .int l6)] → W p l e room_1 s m args below meth c H locs (cells + 93) (slots + 558) Q (F0 m 594 ls [])) : W p l e room_1 s m args below meth c H locs cells slots Q (F0 m 423 ls []) := by
  have hx := X.1.1; have hb := X.1.2.1; have hml := X.1.2.2.1; have hown := X.1.2.2.2.1; have hts := X.1.2.2.2.2
  unfold f_law_423 at hF
  refine lv_aload hx hb dL_law_423 (lv_at hl 3 rfl) ?_
  refine va_ldcS hx hb hown (hR 26 (by decide) (by decide)) dL_law_425 ?_
  obtain ⟨w3, hk1, hF⟩ := am_bind hF
  refine bm_call (ob := (adZ, abZ, wZ)) hh [obW B (adX, abX, wX), obW B (adY, abY, wY)] [] rfl (va_runS (As := [.ref (adZ 0), .ref (B.2.2 (100 + 26))]) (rest := []) X.1 (c_L_put l (obG B (adZ, abZ, wZ) (va_A (obW B (adZ, abZ, wZ)) H.size)) hst (hav 26 (by decide)) hk1) (va_cwS 2 hts gL_law_L_put rfl rfl rfl (by decide +kernel) ⟨Nat.le_of_ble_eq_true rfl, Nat.le_of_ble_eq_true rfl⟩) (bm_preS (ob := (adZ, abZ, wZ)) X hh [obW B (adX, abX, wX), obW B (adY, abY, wY)] [] rfl) rfl rfl hl.1 rfl (lv_room (Nat.le_of_ble_eq_true rfl)) dL_law_427 ⟨by show cells + 64 ≤ 614784; omega, by show slots + 384 ≤ 7245417; omega⟩) (fun abZ H locs hh => ?_)
  have hh : BH B s.heap [obW B (adX, abX, wX), obW B (adY, abY, wY), obW B (adZ, abZ, w3)] H locs := hh
  refine lv_aload hx hb dL_law_430 (lv_at hl 3 rfl) ?_
  obtain ⟨⟨z8, w7⟩, hk5, hF⟩ := am_bind hF
  have hF := am_u2 hF
  obtain ⟨r6, hz9, hF⟩ := am_zn hF
  subst hz9
  refine bm_callX (ob := (adZ, abZ, w3)) hh [obW B (adX, abX, wX), obW B (adY, abY, wY)] [] rfl (vx_runV (As := []) (rest := []) X.1 (c_X10_runScript l (obG B (adZ, abZ, w3) (va_A (obW B (adZ, abZ, w3)) H.size)) hst hk5) (cwV 0 hts gL_law_X10_runScript rfl rfl rfl (by decide +kernel) ⟨Nat.le_of_ble_eq_true rfl, Nat.le_of_ble_eq_true rfl⟩) (bm_preV (ob := (adZ, abZ, w3)) X hh [obW B (adX, abX, wX), obW B (adY, abY, wY)] [] rfl) rfl rfl hl.1 rfl (lv_room (Nat.le_of_ble_eq_true rfl)) dL_law_432 ⟨by show (cells + 64) + 1 ≤ 614784; omega, by show (slots + 384) + 6 ≤ 7245417; omega⟩) (fun abZ H locs hh => ?_)
  have hh : BH B s.heap [obW B (adX, abX, wX), obW B (adY, abY, wY), obW B (adZ, abZ, w7)] H locs := hh
  refine lv_bipush (v := (7 : Int32)) hx hb dL_law_435 (by decide) ?_
  refine lv_icmp_ne (tgt := 592) hx hb dL_law_437 (by decide) (fun hc10 => ?_) (fun hc10 => ?_)
  · have hF := am_neg hc10 hF
    refine lv_iconst (v := (0 : Int32)) hx hb dL_law_592 (by decide) ?_
    cases hF
  · have hF := am_pos hc10 hF
    refine lv_aload hx hb dL_law_440 (lv_at hl 3 rfl) ?_
    refine lv_iconst (v := (0 : Int32)) hx hb dL_law_442 (by decide) ?_
    refine lv_iconst (v := (1 : Int32)) hx hb dL_law_443 (by decide) ?_
    obtain ⟨⟨z14, w13⟩, hk11, hF⟩ := am_bind hF
    have hF := am_u2 hF
    obtain ⟨r12, hz15, hF⟩ := am_zn hF
    subst hz15
    refine bm_callX (ob := (adZ, abZ, w7)) hh [obW B (adX, abX, wX), obW B (adY, abY, wY)] [] rfl (vx_runV (As := [.int (0 : Int32), .int (1 : Int32)]) (rest := []) X.1 (c_X10_unitsPerTurn l (obG B (adZ, abZ, w7) (va_A (obW B (adZ, abZ, w7)) H.size)) hst hk11) (cwV 2 hts gL_law_X10_unitsPerTurn rfl rfl rfl (by decide +kernel) ⟨Nat.le_of_ble_eq_true rfl, Nat.le_of_ble_eq_true rfl⟩) (bm_preV (ob := (adZ, abZ, w7)) X hh [obW B (adX, abX, wX), obW B (adY, abY, wY)] [] rfl) rfl rfl hl.1 rfl (lv_room (Nat.le_of_ble_eq_true rfl)) dL_law_444 ⟨by show ((cells + 64) + 1) + 3 ≤ 614784; omega, by show ((slots + 384) + 6) + 18 ≤ 7245417; omega⟩) (fun abZ H locs hh => ?_)
    have hh : BH B s.heap [obW B (adX, abX, wX), obW B (adY, abY, wY), obW B (adZ, abZ, w13)] H locs := hh
    refine lv_ldc2 (v := (-74649600000 : Int64)) hx hb hown (hts _ (wlw_0)) dL_law_447 ?_
    refine am_lcmp_ne (tgt := 592) hx hb dL_law_450 dL_law_451 (by decide) (fun hc16 => ?_) (fun hc16 => ?_)
    · have hF := am_neg hc16 hF
      refine lv_iconst (v := (0 : Int32)) hx hb dL_law_592 (by decide) ?_
      cases hF
    · have hF := am_pos hc16 hF
      refine lv_aload hx hb dL_law_454 (lv_at hl 3 rfl) ?_
      refine lv_iconst (v := (0 : Int32)) hx hb dL_law_456 (by decide) ?_
      refine lv_iconst (v := (1 : Int32)) hx hb dL_law_457 (by decide) ?_
      obtain ⟨⟨z20, w19⟩, hk17, hF⟩ := am_bind hF
      have hF := am_u2 hF
      obtain ⟨r18, hz21, hF⟩ := am_zn hF
      subst hz21
      refine bm_callX (ob := (adZ, abZ, w13)) hh [obW B (adX, abX, wX), obW B (adY, abY, wY)] [] rfl (vx_runV (As := [.int (0 : Int32), .int (1 : Int32)]) (rest := []) X.1 (c_X10_unitsPerTurnByLowest l (obG B (adZ, abZ, w13) (va_A (obW B (adZ, abZ, w13)) H.size)) hst hk17) (cwV 2 hts gL_law_X10_unitsPerTurnByLowest rfl rfl rfl (by decide +kernel) ⟨Nat.le_of_ble_eq_true rfl, Nat.le_of_ble_eq_true rfl⟩) (bm_preV (ob := (adZ, abZ, w13)) X hh [obW B (adX, abX, wX), obW B (adY, abY, wY)] [] rfl) rfl rfl hl.1 rfl (lv_room (Nat.le_of_ble_eq_true rfl)) dL_law_458 ⟨by show (((cells + 64) + 1) + 3) + 3 ≤ 614784; omega, by show (((slots + 384) + 6) + 18) + 18 ≤ 7245417; omega⟩) (fun abZ H locs hh => ?_)
      have hh : BH B s.heap [obW B (adX, abX, wX), obW B (adY, abY, wY), obW B (adZ, abZ, w19)] H locs := hh
      refine lv_ldc2 (v := (-74649600000 : Int64)) hx hb hown (hts _ (wlw_0)) dL_law_461 ?_
      refine am_lcmp_ne (tgt := 592) hx hb dL_law_464 dL_law_465 (by decide) (fun hc22 => ?_) (fun hc22 => ?_)
      · have hF := am_neg hc22 hF
        refine lv_iconst (v := (0 : Int32)) hx hb dL_law_592 (by decide) ?_
        cases hF
      · have hF := am_pos hc22 hF
        refine lv_aload hx hb dL_law_468 (lv_at hl 3 rfl) ?_
        refine lv_iconst (v := (0 : Int32)) hx hb dL_law_470 (by decide) ?_
        refine lv_iconst (v := (3 : Int32)) hx hb dL_law_471 (by decide) ?_
        obtain ⟨⟨z26, w25⟩, hk23, hF⟩ := am_bind hF
        have hF := am_u2 hF
        obtain ⟨r24, hz27, hF⟩ := am_zn hF
        subst hz27
        refine bm_callX (ob := (adZ, abZ, w19)) hh [obW B (adX, abX, wX), obW B (adY, abY, wY)] [] rfl (vx_runV (As := [.int (0 : Int32), .int (3 : Int32)]) (rest := []) X.1 (c_X10_unitsPerTurn l (obG B (adZ, abZ, w19) (va_A (obW B (adZ, abZ, w19)) H.size)) hst hk23) (cwV 2 hts gL_law_X10_unitsPerTurn rfl rfl rfl (by decide +kernel) ⟨Nat.le_of_ble_eq_true rfl, Nat.le_of_ble_eq_true rfl⟩) (bm_preV (ob := (adZ, abZ, w19)) X hh [obW B (adX, abX, wX), obW B (adY, abY, wY)] [] rfl) rfl rfl hl.1 rfl (lv_room (Nat.le_of_ble_eq_true rfl)) dL_law_472 ⟨by show ((((cells + 64) + 1) + 3) + 3) + 3 ≤ 614784; omega, by show ((((slots + 384) + 6) + 18) + 18) + 18 ≤ 7245417; omega⟩) (fun abZ H locs hh => ?_)
        have hh : BH B s.heap [obW B (adX, abX, wX), obW B (adY, abY, wY), obW B (adZ, abZ, w25)] H locs := hh
        refine lv_ldc2 (v := (24883200000 : Int64)) hx hb hown (hts _ (wlw_1)) dL_law_475 ?_
        refine am_lcmp_ne (tgt := 592) hx hb dL_law_478 dL_law_479 (by decide) (fun hc28 => ?_) (fun hc28 => ?_)
        · have hF := am_neg hc28 hF
          refine lv_iconst (v := (0 : Int32)) hx hb dL_law_592 (by decide) ?_
          cases hF
        · have hF := am_pos hc28 hF
          refine lv_aload hx hb dL_law_482 (lv_at hl 3 rfl) ?_
          refine lv_iconst (v := (1 : Int32)) hx hb dL_law_484 (by decide) ?_
          refine lv_iconst (v := (0 : Int32)) hx hb dL_law_485 (by decide) ?_
          obtain ⟨⟨z32, w31⟩, hk29, hF⟩ := am_bind hF
          have hF := am_u2 hF
          obtain ⟨r30, hz33, hF⟩ := am_zn hF
          subst hz33
          refine bm_callX (ob := (adZ, abZ, w25)) hh [obW B (adX, abX, wX), obW B (adY, abY, wY)] [] rfl (vx_runV (As := [.int (1 : Int32), .int (0 : Int32)]) (rest := []) X.1 (c_X10_unitsPerTurnByLowest l (obG B (adZ, abZ, w25) (va_A (obW B (adZ, abZ, w25)) H.size)) hst hk29) (cwV 2 hts gL_law_X10_unitsPerTurnByLowest rfl rfl rfl (by decide +kernel) ⟨Nat.le_of_ble_eq_true rfl, Nat.le_of_ble_eq_true rfl⟩) (bm_preV (ob := (adZ, abZ, w25)) X hh [obW B (adX, abX, wX), obW B (adY, abY, wY)] [] rfl) rfl rfl hl.1 rfl (lv_room (Nat.le_of_ble_eq_true rfl)) dL_law_486 ⟨by show (((((cells + 64) + 1) + 3) + 3) + 3) + 3 ≤ 614784; omega, by show (((((slots + 384) + 6) + 18) + 18) + 18) + 18 ≤ 7245417; omega⟩) (fun abZ H locs hh => ?_)
          have hh : BH B s.heap [obW B (adX, abX, wX), obW B (adY, abY, wY), obW B (adZ, abZ, w31)] H locs := hh
          refine lv_ldc2 (v := (-8294400000 : Int64)) hx hb hown (hts _ (wlw_2)) dL_law_489 ?_
          refine am_lcmp_ne (tgt := 592) hx hb dL_law_492 dL_law_493 (by decide) (fun hc34 => ?_) (fun hc34 => ?_)
          · have hF := am_neg hc34 hF
            refine lv_iconst (v := (0 : Int32)) hx hb dL_law_592 (by decide) ?_
            cases hF
          · have hF := am_pos hc34 hF
            refine lv_aload hx hb dL_law_496 (lv_at hl 3 rfl) ?_
            refine lv_iconst (v := (2 : Int32)) hx hb dL_law_498 (by decide) ?_
            refine lv_iconst (v := (3 : Int32)) hx hb dL_law_499 (by decide) ?_
            obtain ⟨⟨z38, w37⟩, hk35, hF⟩ := am_bind hF
            have hF := am_u2 hF
            obtain ⟨r36, hz39, hF⟩ := am_zn hF
            subst hz39
            refine bm_callX (ob := (adZ, abZ, w31)) hh [obW B (adX, abX, wX), obW B (adY, abY, wY)] [] rfl (vx_runV (As := [.int (2 : Int32), .int (3 : Int32)]) (rest := []) X.1 (c_X10_unitsPerTurn l (obG B (adZ, abZ, w31) (va_A (obW B (adZ, abZ, w31)) H.size)) hst hk35) (cwV 2 hts gL_law_X10_unitsPerTurn rfl rfl rfl (by decide +kernel) ⟨Nat.le_of_ble_eq_true rfl, Nat.le_of_ble_eq_true rfl⟩) (bm_preV (ob := (adZ, abZ, w31)) X hh [obW B (adX, abX, wX), obW B (adY, abY, wY)] [] rfl) rfl rfl hl.1 rfl (lv_room (Nat.le_of_ble_eq_true rfl)) dL_law_500 ⟨by show ((((((cells + 64) + 1) + 3) + 3) + 3) + 3) + 3 ≤ 614784; omega, by show ((((((slots + 384) + 6) + 18) + 18) + 18) + 18) + 18 ≤ 7245417; omega⟩) (fun abZ H locs hh => ?_)
            have hh : BH B s.heap [obW B (adX, abX, wX), obW B (adY, abY, wY), obW B (adZ, abZ, w37)] H locs := hh
            refine lv_ldc2 (v := (-8294400000 : Int64)) hx hb hown (hts _ (wlw_2)) dL_law_503 ?_
            refine am_lcmp_ne (tgt := 592) hx hb dL_law_506 dL_law_507 (by decide) (fun hc40 => ?_) (fun hc40 => ?_)
            · have hF := am_neg hc40 hF
              refine lv_iconst (v := (0 : Int32)) hx hb dL_law_592 (by decide) ?_
              cases hF
            · have hF := am_pos hc40 hF
              refine lv_aload hx hb dL_law_510 (lv_at hl 3 rfl) ?_
              refine lv_iconst (v := (3 : Int32)) hx hb dL_law_512 (by decide) ?_
              obtain ⟨⟨z44, w43⟩, hk41, hF⟩ := am_bind hF
              have hF := am_u2 hF
              obtain ⟨r42, hz45, hF⟩ := am_zn hF
              subst hz45
              refine bm_callX (ob := (adZ, abZ, w37)) hh [obW B (adX, abX, wX), obW B (adY, abY, wY)] [] rfl (vx_runV (As := [.int (3 : Int32)]) (rest := []) X.1 (c_X10_trainSize l (obG B (adZ, abZ, w37) (va_A (obW B (adZ, abZ, w37)) H.size)) hst hk41) (cwV 1 hts gL_law_X10_trainSize rfl rfl rfl (by decide +kernel) ⟨Nat.le_of_ble_eq_true rfl, Nat.le_of_ble_eq_true rfl⟩) (bm_preV (ob := (adZ, abZ, w37)) X hh [obW B (adX, abX, wX), obW B (adY, abY, wY)] [] rfl) rfl rfl hl.1 rfl (lv_room (Nat.le_of_ble_eq_true rfl)) dL_law_513 ⟨by show (((((((cells + 64) + 1) + 3) + 3) + 3) + 3) + 3) + 1 ≤ 614784; omega, by show (((((((slots + 384) + 6) + 18) + 18) + 18) + 18) + 18) + 6 ≤ 7245417; omega⟩) (fun abZ H locs hh => ?_)
              have hh : BH B s.heap [obW B (adX, abX, wX), obW B (adY, abY, wY), obW B (adZ, abZ, w43)] H locs := hh
              refine lv_iconst (v := (4 : Int32)) hx hb dL_law_516 (by decide) ?_
              refine lv_icmp_ne (tgt := 592) hx hb dL_law_517 (by decide) (fun hc46 => ?_) (fun hc46 => ?_)
              · have hF := am_neg hc46 hF
                refine lv_iconst (v := (0 : Int32)) hx hb dL_law_592 (by decide) ?_
                cases hF
              · have hF := am_pos hc46 hF
                refine lv_aload hx hb dL_law_520 (lv_at hl 3 rfl) ?_
                refine lv_iconst (v := (2 : Int32)) hx hb dL_law_522 (by decide) ?_
                obtain ⟨⟨z50, w49⟩, hk47, hF⟩ := am_bind hF
                have hF := am_u2 hF
                obtain ⟨r48, hz51, hF⟩ := am_zn hF
                subst hz51
                refine bm_callX (ob := (adZ, abZ, w43)) hh [obW B (adX, abX, wX), obW B (adY, abY, wY)] [] rfl (vx_runV (As := [.int (2 : Int32)]) (rest := []) X.1 (c_X10_friction l (obG B (adZ, abZ, w43) (va_A (obW B (adZ, abZ, w43)) H.size)) hst hk47) (cwV 1 hts gL_law_X10_friction rfl rfl rfl (by decide +kernel) ⟨Nat.le_of_ble_eq_true rfl, Nat.le_of_ble_eq_true rfl⟩) (bm_preV (ob := (adZ, abZ, w43)) X hh [obW B (adX, abX, wX), obW B (adY, abY, wY)] [] rfl) rfl rfl hl.1 rfl (lv_room (Nat.le_of_ble_eq_true rfl)) dL_law_523 ⟨by show ((((((((cells + 64) + 1) + 3) + 3) + 3) + 3) + 3) + 1) + 1 ≤ 614784; omega, by show ((((((((slots + 384) + 6) + 18) + 18) + 18) + 18) + 18) + 6) + 6 ≤ 7245417; omega⟩) (fun abZ H locs hh => ?_)
                have hh : BH B s.heap [obW B (adX, abX, wX), obW B (adY, abY, wY), obW B (adZ, abZ, w49)] H locs := hh
                refine lv_bipush (v := (8 : Int32)) hx hb dL_law_526 (by decide) ?_
                refine lv_icmp_ne (tgt := 592) hx hb dL_law_528 (by decide) (fun hc52 => ?_) (fun hc52 => ?_)
                · have hF := am_neg hc52 hF
                  refine lv_iconst (v := (0 : Int32)) hx hb dL_law_592 (by decide) ?_
                  cases hF
                · have hF := am_pos hc52 hF
                  refine lv_aload hx hb dL_law_531 (lv_at hl 3 rfl) ?_
                  refine lv_iconst (v := (1 : Int32)) hx hb dL_law_533 (by decide) ?_
                  refine lv_iconst (v := (0 : Int32)) hx hb dL_law_534 (by decide) ?_
                  refine lv_iconst (v := (3 : Int32)) hx hb dL_law_535 (by decide) ?_
                  obtain ⟨⟨r54, w55⟩, hk53, hF⟩ := am_bind hF
                  have hF := am_u2 hF
                  refine bm_callW (ob := (adZ, abZ, w49)) hh [obW B (adX, abX, wX), obW B (adY, abY, wY)] [] rfl (vx_runSX (As := [.ref (adZ 0), .int (1 : Int32), .int (0 : Int32), .int (3 : Int32)]) (rest := []) X.1 (c_L_act l (obG B (adZ, abZ, w49) (va_A (obW B (adZ, abZ, w49)) H.size)) hst hk53) (vx_cwSW 4 hts gL_law_L_act rfl rfl rfl (by decide +kernel) ⟨Nat.le_of_ble_eq_true rfl, Nat.le_of_ble_eq_true rfl⟩) (bm_preS (ob := (adZ, abZ, w49)) X hh [obW B (adX, abX, wX), obW B (adY, abY, wY)] [] rfl) rfl rfl hl.1 rfl (lv_room (Nat.le_of_ble_eq_true rfl)) dL_law_536 ⟨by show (((((((((cells + 64) + 1) + 3) + 3) + 3) + 3) + 3) + 1) + 1) + 3 ≤ 614784; omega, by show (((((((((slots + 384) + 6) + 18) + 18) + 18) + 18) + 18) + 6) + 6) + 18 ≤ 7245417; omega⟩) (fun abZ H locs hh => ?_)
                  have hh : BH B s.heap [obW B (adX, abX, wX), obW B (adY, abY, wY), obW B (adZ, abZ, w55)] H locs := hh
                  refine lv_bipush (v := (-4 : Int32)) hx hb dL_law_539 (by decide) ?_
                  refine lv_icmp_ne (tgt := 592) hx hb dL_law_541 (by decide) (fun hc57 => ?_) (fun hc57 => ?_)
                  · have hF := am_neg hc57 hF
                    refine lv_iconst (v := (0 : Int32)) hx hb dL_law_592 (by decide) ?_
                    cases hF
                  · have hF := am_pos hc57 hF
                    refine lv_aload hx hb dL_law_544 (lv_at hl 3 rfl) ?_
                    refine lv_iconst (v := (0 : Int32)) hx hb dL_law_546 (by decide) ?_
                    refine lv_iconst (v := (3 : Int32)) hx hb dL_law_547 (by decide) ?_
                    obtain ⟨⟨z61, w60⟩, hk58, hF⟩ := am_bind hF
                    have hF := am_u2 hF
                    obtain ⟨r59, hz62, hF⟩ := am_zn hF
                    subst hz62
                    refine bm_callX (ob := (adZ, abZ, w55)) hh [obW B (adX, abX, wX), obW B (adY, abY, wY)] [] rfl (vx_runV (As := [.int (0 : Int32), .int (3 : Int32)]) (rest := []) X.1 (c_X10_shareAxle l (obG B (adZ, abZ, w55) (va_A (obW B (adZ, abZ, w55)) H.size)) hst hk58) (cwV 2 hts gL_law_X10_shareAxle rfl rfl rfl (by decide +kernel) ⟨Nat.le_of_ble_eq_true rfl, Nat.le_of_ble_eq_true rfl⟩) (bm_preV (ob := (adZ, abZ, w55)) X hh [obW B (adX, abX, wX), obW B (adY, abY, wY)] [] rfl) rfl rfl hl.1 rfl (lv_room (Nat.le_of_ble_eq_true rfl)) dL_law_548 ⟨by show ((((((((((cells + 64) + 1) + 3) + 3) + 3) + 3) + 3) + 1) + 1) + 3) + 1 ≤ 614784; omega, by show ((((((((((slots + 384) + 6) + 18) + 18) + 18) + 18) + 18) + 6) + 6) + 18) + 6 ≤ 7245417; omega⟩) (fun abZ H locs hh => ?_)
                    have hh : BH B s.heap [obW B (adX, abX, wX), obW B (adY, abY, wY), obW B (adZ, abZ, w60)] H locs := hh
                    refine lv_iconst (v := (4 : Int32)) hx hb dL_law_551 (by decide) ?_
                    refine lv_icmp_ne (tgt := 592) hx hb dL_law_552 (by decide) (fun hc63 => ?_) (fun hc63 => ?_)
                    · have hF := am_neg hc63 hF
                      refine lv_iconst (v := (0 : Int32)) hx hb dL_law_592 (by decide) ?_
                      cases hF
                    · have hF := am_pos hc63 hF
                      refine lv_aload hx hb dL_law_555 (lv_at hl 3 rfl) ?_
                      refine lv_iconst (v := (2 : Int32)) hx hb dL_law_557 (by decide) ?_
                      refine lv_iconst (v := (3 : Int32)) hx hb dL_law_558 (by decide) ?_
                      refine lv_iconst (v := (0 : Int32)) hx hb dL_law_559 (by decide) ?_
                      obtain ⟨⟨r65, w66⟩, hk64, hF⟩ := am_bind hF
                      have hF := am_u2 hF
                      refine bm_callW (ob := (adZ, abZ, w60)) hh [obW B (adX, abX, wX), obW B (adY, abY, wY)] [] rfl (vx_runSX (As := [.ref (adZ 0), .int (2 : Int32), .int (3 : Int32), .int (0 : Int32)]) (rest := []) X.1 (c_L_act l (obG B (adZ, abZ, w60) (va_A (obW B (adZ, abZ, w60)) H.size)) hst hk64) (vx_cwSW 4 hts gL_law_L_act rfl rfl rfl (by decide +kernel) ⟨Nat.le_of_ble_eq_true rfl, Nat.le_of_ble_eq_true rfl⟩) (bm_preS (ob := (adZ, abZ, w60)) X hh [obW B (adX, abX, wX), obW B (adY, abY, wY)] [] rfl) rfl rfl hl.1 rfl (lv_room (Nat.le_of_ble_eq_true rfl)) dL_law_560 ⟨by show (((((((((((cells + 64) + 1) + 3) + 3) + 3) + 3) + 3) + 1) + 1) + 3) + 1) + 3 ≤ 614784; omega, by show (((((((((((slots + 384) + 6) + 18) + 18) + 18) + 18) + 18) + 6) + 6) + 18) + 6) + 18 ≤ 7245417; omega⟩) (fun abZ H locs hh => ?_)
                      have hh : BH B s.heap [obW B (adX, abX, wX), obW B (adY, abY, wY), obW B (adZ, abZ, w66)] H locs := hh
                      refine lv_bipush (v := (-3 : Int32)) hx hb dL_law_563 (by decide) ?_
                      refine lv_icmp_ne (tgt := 592) hx hb dL_law_565 (by decide) (fun hc68 => ?_) (fun hc68 => ?_)
                      · have hF := am_neg hc68 hF
                        refine lv_iconst (v := (0 : Int32)) hx hb dL_law_592 (by decide) ?_
                        cases hF
                      · have hF := am_pos hc68 hF
                        refine lv_aload hx hb dL_law_568 (lv_at hl 3 rfl) ?_
                        refine lv_iconst (v := (3 : Int32)) hx hb dL_law_570 (by decide) ?_
                        refine lv_iconst (v := (0 : Int32)) hx hb dL_law_571 (by decide) ?_
                        obtain ⟨⟨z72, w71⟩, hk69, hF⟩ := am_bind hF
                        have hF := am_u2 hF
                        obtain ⟨r70, hz73, hF⟩ := am_zn hF
                        subst hz73
                        refine bm_callX (ob := (adZ, abZ, w66)) hh [obW B (adX, abX, wX), obW B (adY, abY, wY)] [] rfl (vx_runV (As := [.int (3 : Int32), .int (0 : Int32)]) (rest := []) X.1 (c_X10_separate l (obG B (adZ, abZ, w66) (va_A (obW B (adZ, abZ, w66)) H.size)) hst hk69) (cwV 2 hts gL_law_X10_separate rfl rfl rfl (by decide +kernel) ⟨Nat.le_of_ble_eq_true rfl, Nat.le_of_ble_eq_true rfl⟩) (bm_preV (ob := (adZ, abZ, w66)) X hh [obW B (adX, abX, wX), obW B (adY, abY, wY)] [] rfl) rfl rfl hl.1 rfl (lv_room (Nat.le_of_ble_eq_true rfl)) dL_law_572 ⟨by show ((((((((((((cells + 64) + 1) + 3) + 3) + 3) + 3) + 3) + 1) + 1) + 3) + 1) + 3) + 1 ≤ 614784; omega, by show ((((((((((((slots + 384) + 6) + 18) + 18) + 18) + 18) + 18) + 6) + 6) + 18) + 6) + 18) + 6 ≤ 7245417; omega⟩) (fun abZ H locs hh => ?_)
                        have hh : BH B s.heap [obW B (adX, abX, wX), obW B (adY, abY, wY), obW B (adZ, abZ, w71)] H locs := hh
                        refine lv_iconst (v := (3 : Int32)) hx hb dL_law_575 (by decide) ?_
                        refine lv_icmp_ne (tgt := 592) hx hb dL_law_576 (by decide) (fun hc74 => ?_) (fun hc74 => ?_)
                        · have hF := am_neg hc74 hF
                          refine lv_iconst (v := (0 : Int32)) hx hb dL_law_592 (by decide) ?_
                          cases hF
                        · have hF := am_pos hc74 hF
                          refine lv_aload hx hb dL_law_579 (lv_at hl 3 rfl) ?_
                          refine lv_iconst (v := (3 : Int32)) hx hb dL_law_581 (by decide) ?_
                          refine lv_iconst (v := (0 : Int32)) hx hb dL_law_582 (by decide) ?_
                          refine lv_iconst (v := (3 : Int32)) hx hb dL_law_583 (by decide) ?_
                          obtain ⟨⟨r76, w77⟩, hk75, hF⟩ := am_bind hF
                          have hF := am_u2 hF
                          refine bm_callW (ob := (adZ, abZ, w71)) hh [obW B (adX, abX, wX), obW B (adY, abY, wY)] [] rfl (vx_runSX (As := [.ref (adZ 0), .int (3 : Int32), .int (0 : Int32), .int (3 : Int32)]) (rest := []) X.1 (c_L_act l (obG B (adZ, abZ, w71) (va_A (obW B (adZ, abZ, w71)) H.size)) hst hk75) (vx_cwSW 4 hts gL_law_L_act rfl rfl rfl (by decide +kernel) ⟨Nat.le_of_ble_eq_true rfl, Nat.le_of_ble_eq_true rfl⟩) (bm_preS (ob := (adZ, abZ, w71)) X hh [obW B (adX, abX, wX), obW B (adY, abY, wY)] [] rfl) rfl rfl hl.1 rfl (lv_room (Nat.le_of_ble_eq_true rfl)) dL_law_584 ⟨by show (((((((((((((cells + 64) + 1) + 3) + 3) + 3) + 3) + 3) + 1) + 1) + 3) + 1) + 3) + 1) + 3 ≤ 614784; omega, by show (((((((((((((slots + 384) + 6) + 18) + 18) + 18) + 18) + 18) + 6) + 6) + 18) + 6) + 18) + 6) + 18 ≤ 7245417; omega⟩) (fun abZ H locs hh => ?_)
                          have hh : BH B s.heap [obW B (adX, abX, wX), obW B (adY, abY, wY), obW B (adZ, abZ, w77)] H locs := hh
                          refine lv_bipush (v := (-5 : Int32)) hx hb dL_law_587 (by decide) ?_
                          refine lv_icmp_eq (tgt := 594) hx hb dL_law_589 (by decide) (fun hc79 => ?_) (fun hc79 => ?_)
                          · have hF := am_pos hc79 hF
                            cases hF
                            exact W.widen (by omega) (by omega) (kk abX abY abZ H locs ls hh (lv_sub hl [0, 1, 2, 3, 4, 5, 6] rfl))
                          · have hF := am_neg hc79 hF
                            refine lv_iconst (v := (0 : Int32)) hx hb dL_law_592 (by decide) ?_
                            cases hF
def f_law_594 (wX : Wd) (wY : Wd) (wZ : Wd) (l3 : Int32) (l4 : Int32) (l6 : Int32) : Option (Wd × Wd × Wd) := ((f_X10_setSpring wZ (0 : Int32) (100 : Int32)).bind fun z => u2 z fun z w3 => zc z (fun _ => none) (fun r2 => (if r2 = (1 : Int32) then ((f_L_act w3 (4 : Int32) (3 : Int32) (50 : Int32)).bind fun z => u2 z fun r8 w9 => (if r8 = (-3 : Int32) then ((f_X10_wind w9 (0 : Int32) (90 : Int32)).bind fun z => u2 z fun z w14 => zc z (fun _ => none) (fun r13 => (if r13 = (90 : Int32) then ((f_L_act w14 (5 : Int32) (0 : Int32) (11 : Int32)).bind fun z => u2 z fun r19 w20 => (if r19 = (-3 : Int32) then ((f_X10_turnsLeft w20 (0 : Int32)).bind fun z => u2 z fun z w25 => zc z (fun _ => none) (fun r24 => (if r24 = (11 : Int32) then ((f_X10_oil w25 (1 : Int32)).bind fun z => u2 z fun z w31 => zc z (fun _ => none) (fun r30 => (if r30 = (11 : Int32) then ((f_L_act w31 (8 : Int32) (1 : Int32) (0 : Int32)).bind fun z => u2 z fun r36 w37 => (if r36 = (-3 : Int32) then ((f_X10_friction w37 (0 : Int32)).bind fun z => u2 z fun z w42 => zc z (fun _ => none) (fun r41 => (if r41 = (7 : Int32) then ((f_X10_turnsLeft w42 (0 : Int32)).bind fun z => u2 z fun z w48 => zc z (fun _ => none) (fun r47 => (if r47 = (12 : Int32) then ((f_X10_setRatchet w48 (1 : Int32) (1 : Int32)).bind fun z => u2 z fun z w54 => zc z (fun _ => none) (fun r53 => (if r53 = 0 then ((f_X10_canRelease w54 (0 : Int32)).bind fun z => u2 z fun z w60 => zc z (fun _ => none) (fun r59 => (if r59 = 0 then ((f_L_act w60 (7 : Int32) (0 : Int32) (1 : Int32)).bind fun z => u2 z fun r65 w66 => (if r65 = (-4 : Int32) then ((f_X10_reverse w66 (0 : Int32)).bind fun z => u2 z fun z w71 => zc z (fun _ => none) (fun r70 => (if r70 = 0 then none else ((f_X10_canRelease w71 (0 : Int32)).bind fun z => u2 z fun z w77 => zc z (fun _ => none) (fun r76 => (if r76 = 0 then none else ((f_X10_springOf w77 (3 : Int32)).bind fun z => u2 z fun z w83 => zc z (fun _ => none) (fun r82 => (if r82 = 0 then (some (wX, wY, w83)) else none))))))))) else none)) else none))) else none))) else none))) else none))) else none)) else none))) else none))) else none)) else none))) else none)) else none)))
set_option maxHeartbeats 16000000 in
set_option maxRecDepth 100000 in
theorem c_law_594 (l : Launch) (hst : l.stackTraces = false) {B : BP} {p : Program} {e : Env} {s : State} {m : MethodId} {args : Array Value} {below : List Frame} {meth : Method} {c : Code} {b cells slots abX abY abZ : Nat} {adX adY adZ : Nat → Nat} {H : Heap} {locs : List Loc} {ls : Array Slot} {wX wX1 wY wY1 wZ wZ1 : Wd} {l3 l4 l6 : Int32} {Q : State → Prop} (X : BX B p s m args meth c cL_law 8 RL wsL_lawQ) (hav : ∀ i, i < 31 → B.2.2 (300 + i) = 1) (hR : ∀ i, i < 31 → 13 ≤ i → vk_R "PlanetWorkshopLaw" (sW.getD i 0) (sX.getD i "") (B.2.2 (100 + i)) s) (hh : BH B s.heap [obW B (adX, abX, wX), obW B (adY, abY, wY), obW B (adZ, abZ, wZ)] H locs) (hc : cells + 26 ≤ 614784) (hs : slots + 156 ≤ 7245417) (hl : lv_has ls 8 [(0, .ref b), (1, .ref (adX 0)), (2, .ref (adY 0)), (7, .ref (adZ 0)), (3, .int l3), (4, .int l4), (6, .int l6)]) (hF : f_law_594 wX wY wZ l3 l4 l6 = some (wX1, wY1, wZ1)) (kk : ∀ (abX abY abZ : Nat) (H : Heap) (locs : List Loc) (ls : Array Slot), BH B s.heap [obW B (adX, abX, wX1), obW B (adY, abY, wY1), obW B (adZ, abZ, wZ1)] H locs → lv_has ls 8 [(0, .ref b), (1, .ref (adX 0)), (2, .ref (adY 0)), (7, .ref (adZ 0)), (3, .int l3), (4, .int l4), (6, .int l6)] → W p l e room_1 s m args below meth c H locs (cells + 26) (slots + 156) Q (F0 m 767 ls [])) : W p l e room_1 s m args below meth c H locs cells slots Q (F0 m 594 ls []) := by
  have hx := X.1.1; have hb := X.1.2.1; have hml := X.1.2.2.1; have hown := X.1.2.2.2.1; have hts := X.1.2.2.2.2
  unfold f_law_594 at hF
  refine lv_aload hx hb dL_law_594 (lv_at hl 3 rfl) ?_
  refine lv_iconst (v := (0 : Int32)) hx hb dL_law_596 (by decide) ?_
  refine lv_bipush (v := (100 : Int32)) hx hb dL_law_597 (by decide) ?_
  obtain ⟨⟨z4, w3⟩, hk1, hF⟩ := am_bind hF
  have hF := am_u2 hF
  obtain ⟨r2, hz5, hF⟩ := am_zn hF
  subst hz5
  refine bm_callX (ob := (adZ, abZ, wZ)) hh [obW B (adX, abX, wX), obW B (adY, abY, wY)] [] rfl (vx_runV (As := [.int (0 : Int32), .int (100 : Int32)]) (rest := []) X.1 (c_X10_setSpring l (obG B (adZ, abZ, wZ) (va_A (obW B (adZ, abZ, wZ)) H.size)) hst hk1) (cwV 2 hts gL_law_X10_setSpring rfl rfl rfl (by decide +kernel) ⟨Nat.le_of_ble_eq_true rfl, Nat.le_of_ble_eq_true rfl⟩) (bm_preV (ob := (adZ, abZ, wZ)) X hh [obW B (adX, abX, wX), obW B (adY, abY, wY)] [] rfl) rfl rfl hl.1 rfl (lv_room (Nat.le_of_ble_eq_true rfl)) dL_law_599 ⟨by show cells + 1 ≤ 614784; omega, by show slots + 6 ≤ 7245417; omega⟩) (fun abZ H locs hh => ?_)
  have hh : BH B s.heap [obW B (adX, abX, wX), obW B (adY, abY, wY), obW B (adZ, abZ, w3)] H locs := hh
  refine lv_iconst (v := (1 : Int32)) hx hb dL_law_602 (by decide) ?_
  refine lv_icmp_ne (tgt := 765) hx hb dL_law_603 (by decide) (fun hc6 => ?_) (fun hc6 => ?_)
  · have hF := am_neg hc6 hF
    refine lv_iconst (v := (0 : Int32)) hx hb dL_law_765 (by decide) ?_
    cases hF
  · have hF := am_pos hc6 hF
    refine lv_aload hx hb dL_law_606 (lv_at hl 3 rfl) ?_
    refine lv_iconst (v := (4 : Int32)) hx hb dL_law_608 (by decide) ?_
    refine lv_iconst (v := (3 : Int32)) hx hb dL_law_609 (by decide) ?_
    refine lv_bipush (v := (50 : Int32)) hx hb dL_law_610 (by decide) ?_
    obtain ⟨⟨r8, w9⟩, hk7, hF⟩ := am_bind hF
    have hF := am_u2 hF
    refine bm_callW (ob := (adZ, abZ, w3)) hh [obW B (adX, abX, wX), obW B (adY, abY, wY)] [] rfl (vx_runSX (As := [.ref (adZ 0), .int (4 : Int32), .int (3 : Int32), .int (50 : Int32)]) (rest := []) X.1 (c_L_act l (obG B (adZ, abZ, w3) (va_A (obW B (adZ, abZ, w3)) H.size)) hst hk7) (vx_cwSW 4 hts gL_law_L_act rfl rfl rfl (by decide +kernel) ⟨Nat.le_of_ble_eq_true rfl, Nat.le_of_ble_eq_true rfl⟩) (bm_preS (ob := (adZ, abZ, w3)) X hh [obW B (adX, abX, wX), obW B (adY, abY, wY)] [] rfl) rfl rfl hl.1 rfl (lv_room (Nat.le_of_ble_eq_true rfl)) dL_law_612 ⟨by show (cells + 1) + 3 ≤ 614784; omega, by show (slots + 6) + 18 ≤ 7245417; omega⟩) (fun abZ H locs hh => ?_)
    have hh : BH B s.heap [obW B (adX, abX, wX), obW B (adY, abY, wY), obW B (adZ, abZ, w9)] H locs := hh
    refine lv_bipush (v := (-3 : Int32)) hx hb dL_law_615 (by decide) ?_
    refine lv_icmp_ne (tgt := 765) hx hb dL_law_617 (by decide) (fun hc11 => ?_) (fun hc11 => ?_)
    · have hF := am_neg hc11 hF
      refine lv_iconst (v := (0 : Int32)) hx hb dL_law_765 (by decide) ?_
      cases hF
    · have hF := am_pos hc11 hF
      refine lv_aload hx hb dL_law_620 (lv_at hl 3 rfl) ?_
      refine lv_iconst (v := (0 : Int32)) hx hb dL_law_622 (by decide) ?_
      refine lv_bipush (v := (90 : Int32)) hx hb dL_law_623 (by decide) ?_
      obtain ⟨⟨z15, w14⟩, hk12, hF⟩ := am_bind hF
      have hF := am_u2 hF
      obtain ⟨r13, hz16, hF⟩ := am_zn hF
      subst hz16
      refine bm_callX (ob := (adZ, abZ, w9)) hh [obW B (adX, abX, wX), obW B (adY, abY, wY)] [] rfl (vx_runV (As := [.int (0 : Int32), .int (90 : Int32)]) (rest := []) X.1 (c_X10_wind l (obG B (adZ, abZ, w9) (va_A (obW B (adZ, abZ, w9)) H.size)) hst hk12) (cwV 2 hts gL_law_X10_wind rfl rfl rfl (by decide +kernel) ⟨Nat.le_of_ble_eq_true rfl, Nat.le_of_ble_eq_true rfl⟩) (bm_preV (ob := (adZ, abZ, w9)) X hh [obW B (adX, abX, wX), obW B (adY, abY, wY)] [] rfl) rfl rfl hl.1 rfl (lv_room (Nat.le_of_ble_eq_true rfl)) dL_law_625 ⟨by show ((cells + 1) + 3) + 1 ≤ 614784; omega, by show ((slots + 6) + 18) + 6 ≤ 7245417; omega⟩) (fun abZ H locs hh => ?_)
      have hh : BH B s.heap [obW B (adX, abX, wX), obW B (adY, abY, wY), obW B (adZ, abZ, w14)] H locs := hh
      refine lv_bipush (v := (90 : Int32)) hx hb dL_law_628 (by decide) ?_
      refine lv_icmp_ne (tgt := 765) hx hb dL_law_630 (by decide) (fun hc17 => ?_) (fun hc17 => ?_)
      · have hF := am_neg hc17 hF
        refine lv_iconst (v := (0 : Int32)) hx hb dL_law_765 (by decide) ?_
        cases hF
      · have hF := am_pos hc17 hF
        refine lv_aload hx hb dL_law_633 (lv_at hl 3 rfl) ?_
        refine lv_iconst (v := (5 : Int32)) hx hb dL_law_635 (by decide) ?_
        refine lv_iconst (v := (0 : Int32)) hx hb dL_law_636 (by decide) ?_
        refine lv_bipush (v := (11 : Int32)) hx hb dL_law_637 (by decide) ?_
        obtain ⟨⟨r19, w20⟩, hk18, hF⟩ := am_bind hF
        have hF := am_u2 hF
        refine bm_callW (ob := (adZ, abZ, w14)) hh [obW B (adX, abX, wX), obW B (adY, abY, wY)] [] rfl (vx_runSX (As := [.ref (adZ 0), .int (5 : Int32), .int (0 : Int32), .int (11 : Int32)]) (rest := []) X.1 (c_L_act l (obG B (adZ, abZ, w14) (va_A (obW B (adZ, abZ, w14)) H.size)) hst hk18) (vx_cwSW 4 hts gL_law_L_act rfl rfl rfl (by decide +kernel) ⟨Nat.le_of_ble_eq_true rfl, Nat.le_of_ble_eq_true rfl⟩) (bm_preS (ob := (adZ, abZ, w14)) X hh [obW B (adX, abX, wX), obW B (adY, abY, wY)] [] rfl) rfl rfl hl.1 rfl (lv_room (Nat.le_of_ble_eq_true rfl)) dL_law_639 ⟨by show (((cells + 1) + 3) + 1) + 3 ≤ 614784; omega, by show (((slots + 6) + 18) + 6) + 18 ≤ 7245417; omega⟩) (fun abZ H locs hh => ?_)
        have hh : BH B s.heap [obW B (adX, abX, wX), obW B (adY, abY, wY), obW B (adZ, abZ, w20)] H locs := hh
        refine lv_bipush (v := (-3 : Int32)) hx hb dL_law_642 (by decide) ?_
        refine lv_icmp_ne (tgt := 765) hx hb dL_law_644 (by decide) (fun hc22 => ?_) (fun hc22 => ?_)
        · have hF := am_neg hc22 hF
          refine lv_iconst (v := (0 : Int32)) hx hb dL_law_765 (by decide) ?_
          cases hF
        · have hF := am_pos hc22 hF
          refine lv_aload hx hb dL_law_647 (lv_at hl 3 rfl) ?_
          refine lv_iconst (v := (0 : Int32)) hx hb dL_law_649 (by decide) ?_
          obtain ⟨⟨z26, w25⟩, hk23, hF⟩ := am_bind hF
          have hF := am_u2 hF
          obtain ⟨r24, hz27, hF⟩ := am_zn hF
          subst hz27
          refine bm_callX (ob := (adZ, abZ, w20)) hh [obW B (adX, abX, wX), obW B (adY, abY, wY)] [] rfl (vx_runV (As := [.int (0 : Int32)]) (rest := []) X.1 (c_X10_turnsLeft l (obG B (adZ, abZ, w20) (va_A (obW B (adZ, abZ, w20)) H.size)) hst hk23) (cwV 1 hts gL_law_X10_turnsLeft rfl rfl rfl (by decide +kernel) ⟨Nat.le_of_ble_eq_true rfl, Nat.le_of_ble_eq_true rfl⟩) (bm_preV (ob := (adZ, abZ, w20)) X hh [obW B (adX, abX, wX), obW B (adY, abY, wY)] [] rfl) rfl rfl hl.1 rfl (lv_room (Nat.le_of_ble_eq_true rfl)) dL_law_650 ⟨by show ((((cells + 1) + 3) + 1) + 3) + 2 ≤ 614784; omega, by show ((((slots + 6) + 18) + 6) + 18) + 12 ≤ 7245417; omega⟩) (fun abZ H locs hh => ?_)
          have hh : BH B s.heap [obW B (adX, abX, wX), obW B (adY, abY, wY), obW B (adZ, abZ, w25)] H locs := hh
          refine lv_bipush (v := (11 : Int32)) hx hb dL_law_653 (by decide) ?_
          refine lv_icmp_ne (tgt := 765) hx hb dL_law_655 (by decide) (fun hc28 => ?_) (fun hc28 => ?_)
          · have hF := am_neg hc28 hF
            refine lv_iconst (v := (0 : Int32)) hx hb dL_law_765 (by decide) ?_
            cases hF
          · have hF := am_pos hc28 hF
            refine lv_aload hx hb dL_law_658 (lv_at hl 3 rfl) ?_
            refine lv_iconst (v := (1 : Int32)) hx hb dL_law_660 (by decide) ?_
            obtain ⟨⟨z32, w31⟩, hk29, hF⟩ := am_bind hF
            have hF := am_u2 hF
            obtain ⟨r30, hz33, hF⟩ := am_zn hF
            subst hz33
            refine bm_callX (ob := (adZ, abZ, w25)) hh [obW B (adX, abX, wX), obW B (adY, abY, wY)] [] rfl (vx_runV (As := [.int (1 : Int32)]) (rest := []) X.1 (c_X10_oil l (obG B (adZ, abZ, w25) (va_A (obW B (adZ, abZ, w25)) H.size)) hst hk29) (cwV 1 hts gL_law_X10_oil rfl rfl rfl (by decide +kernel) ⟨Nat.le_of_ble_eq_true rfl, Nat.le_of_ble_eq_true rfl⟩) (bm_preV (ob := (adZ, abZ, w25)) X hh [obW B (adX, abX, wX), obW B (adY, abY, wY)] [] rfl) rfl rfl hl.1 rfl (lv_room (Nat.le_of_ble_eq_true rfl)) dL_law_661 ⟨by show (((((cells + 1) + 3) + 1) + 3) + 2) + 1 ≤ 614784; omega, by show (((((slots + 6) + 18) + 6) + 18) + 12) + 6 ≤ 7245417; omega⟩) (fun abZ H locs hh => ?_)
            have hh : BH B s.heap [obW B (adX, abX, wX), obW B (adY, abY, wY), obW B (adZ, abZ, w31)] H locs := hh
            refine lv_bipush (v := (11 : Int32)) hx hb dL_law_664 (by decide) ?_
            refine lv_icmp_ne (tgt := 765) hx hb dL_law_666 (by decide) (fun hc34 => ?_) (fun hc34 => ?_)
            · have hF := am_neg hc34 hF
              refine lv_iconst (v := (0 : Int32)) hx hb dL_law_765 (by decide) ?_
              cases hF
            · have hF := am_pos hc34 hF
              refine lv_aload hx hb dL_law_669 (lv_at hl 3 rfl) ?_
              refine lv_bipush (v := (8 : Int32)) hx hb dL_law_671 (by decide) ?_
              refine lv_iconst (v := (1 : Int32)) hx hb dL_law_673 (by decide) ?_
              refine lv_iconst (v := (0 : Int32)) hx hb dL_law_674 (by decide) ?_
              obtain ⟨⟨r36, w37⟩, hk35, hF⟩ := am_bind hF
              have hF := am_u2 hF
              refine bm_callW (ob := (adZ, abZ, w31)) hh [obW B (adX, abX, wX), obW B (adY, abY, wY)] [] rfl (vx_runSX (As := [.ref (adZ 0), .int (8 : Int32), .int (1 : Int32), .int (0 : Int32)]) (rest := []) X.1 (c_L_act l (obG B (adZ, abZ, w31) (va_A (obW B (adZ, abZ, w31)) H.size)) hst hk35) (vx_cwSW 4 hts gL_law_L_act rfl rfl rfl (by decide +kernel) ⟨Nat.le_of_ble_eq_true rfl, Nat.le_of_ble_eq_true rfl⟩) (bm_preS (ob := (adZ, abZ, w31)) X hh [obW B (adX, abX, wX), obW B (adY, abY, wY)] [] rfl) rfl rfl hl.1 rfl (lv_room (Nat.le_of_ble_eq_true rfl)) dL_law_675 ⟨by show ((((((cells + 1) + 3) + 1) + 3) + 2) + 1) + 3 ≤ 614784; omega, by show ((((((slots + 6) + 18) + 6) + 18) + 12) + 6) + 18 ≤ 7245417; omega⟩) (fun abZ H locs hh => ?_)
              have hh : BH B s.heap [obW B (adX, abX, wX), obW B (adY, abY, wY), obW B (adZ, abZ, w37)] H locs := hh
              refine lv_bipush (v := (-3 : Int32)) hx hb dL_law_678 (by decide) ?_
              refine lv_icmp_ne (tgt := 765) hx hb dL_law_680 (by decide) (fun hc39 => ?_) (fun hc39 => ?_)
              · have hF := am_neg hc39 hF
                refine lv_iconst (v := (0 : Int32)) hx hb dL_law_765 (by decide) ?_
                cases hF
              · have hF := am_pos hc39 hF
                refine lv_aload hx hb dL_law_683 (lv_at hl 3 rfl) ?_
                refine lv_iconst (v := (0 : Int32)) hx hb dL_law_685 (by decide) ?_
                obtain ⟨⟨z43, w42⟩, hk40, hF⟩ := am_bind hF
                have hF := am_u2 hF
                obtain ⟨r41, hz44, hF⟩ := am_zn hF
                subst hz44
                refine bm_callX (ob := (adZ, abZ, w37)) hh [obW B (adX, abX, wX), obW B (adY, abY, wY)] [] rfl (vx_runV (As := [.int (0 : Int32)]) (rest := []) X.1 (c_X10_friction l (obG B (adZ, abZ, w37) (va_A (obW B (adZ, abZ, w37)) H.size)) hst hk40) (cwV 1 hts gL_law_X10_friction rfl rfl rfl (by decide +kernel) ⟨Nat.le_of_ble_eq_true rfl, Nat.le_of_ble_eq_true rfl⟩) (bm_preV (ob := (adZ, abZ, w37)) X hh [obW B (adX, abX, wX), obW B (adY, abY, wY)] [] rfl) rfl rfl hl.1 rfl (lv_room (Nat.le_of_ble_eq_true rfl)) dL_law_686 ⟨by show (((((((cells + 1) + 3) + 1) + 3) + 2) + 1) + 3) + 1 ≤ 614784; omega, by show (((((((slots + 6) + 18) + 6) + 18) + 12) + 6) + 18) + 6 ≤ 7245417; omega⟩) (fun abZ H locs hh => ?_)
                have hh : BH B s.heap [obW B (adX, abX, wX), obW B (adY, abY, wY), obW B (adZ, abZ, w42)] H locs := hh
                refine lv_bipush (v := (7 : Int32)) hx hb dL_law_689 (by decide) ?_
                refine lv_icmp_ne (tgt := 765) hx hb dL_law_691 (by decide) (fun hc45 => ?_) (fun hc45 => ?_)
                · have hF := am_neg hc45 hF
                  refine lv_iconst (v := (0 : Int32)) hx hb dL_law_765 (by decide) ?_
                  cases hF
                · have hF := am_pos hc45 hF
                  refine lv_aload hx hb dL_law_694 (lv_at hl 3 rfl) ?_
                  refine lv_iconst (v := (0 : Int32)) hx hb dL_law_696 (by decide) ?_
                  obtain ⟨⟨z49, w48⟩, hk46, hF⟩ := am_bind hF
                  have hF := am_u2 hF
                  obtain ⟨r47, hz50, hF⟩ := am_zn hF
                  subst hz50
                  refine bm_callX (ob := (adZ, abZ, w42)) hh [obW B (adX, abX, wX), obW B (adY, abY, wY)] [] rfl (vx_runV (As := [.int (0 : Int32)]) (rest := []) X.1 (c_X10_turnsLeft l (obG B (adZ, abZ, w42) (va_A (obW B (adZ, abZ, w42)) H.size)) hst hk46) (cwV 1 hts gL_law_X10_turnsLeft rfl rfl rfl (by decide +kernel) ⟨Nat.le_of_ble_eq_true rfl, Nat.le_of_ble_eq_true rfl⟩) (bm_preV (ob := (adZ, abZ, w42)) X hh [obW B (adX, abX, wX), obW B (adY, abY, wY)] [] rfl) rfl rfl hl.1 rfl (lv_room (Nat.le_of_ble_eq_true rfl)) dL_law_697 ⟨by show ((((((((cells + 1) + 3) + 1) + 3) + 2) + 1) + 3) + 1) + 2 ≤ 614784; omega, by show ((((((((slots + 6) + 18) + 6) + 18) + 12) + 6) + 18) + 6) + 12 ≤ 7245417; omega⟩) (fun abZ H locs hh => ?_)
                  have hh : BH B s.heap [obW B (adX, abX, wX), obW B (adY, abY, wY), obW B (adZ, abZ, w48)] H locs := hh
                  refine lv_bipush (v := (12 : Int32)) hx hb dL_law_700 (by decide) ?_
                  refine lv_icmp_ne (tgt := 765) hx hb dL_law_702 (by decide) (fun hc51 => ?_) (fun hc51 => ?_)
                  · have hF := am_neg hc51 hF
                    refine lv_iconst (v := (0 : Int32)) hx hb dL_law_765 (by decide) ?_
                    cases hF
                  · have hF := am_pos hc51 hF
                    refine lv_aload hx hb dL_law_705 (lv_at hl 3 rfl) ?_
                    refine lv_iconst (v := (1 : Int32)) hx hb dL_law_707 (by decide) ?_
                    refine lv_iconst (v := (1 : Int32)) hx hb dL_law_708 (by decide) ?_
                    obtain ⟨⟨z55, w54⟩, hk52, hF⟩ := am_bind hF
                    have hF := am_u2 hF
                    obtain ⟨r53, hz56, hF⟩ := am_zn hF
                    subst hz56
                    refine bm_callX (ob := (adZ, abZ, w48)) hh [obW B (adX, abX, wX), obW B (adY, abY, wY)] [] rfl (vx_runV (As := [.int (1 : Int32), .int (1 : Int32)]) (rest := []) X.1 (c_X10_setRatchet l (obG B (adZ, abZ, w48) (va_A (obW B (adZ, abZ, w48)) H.size)) hst hk52) (cwV 2 hts gL_law_X10_setRatchet rfl rfl rfl (by decide +kernel) ⟨Nat.le_of_ble_eq_true rfl, Nat.le_of_ble_eq_true rfl⟩) (bm_preV (ob := (adZ, abZ, w48)) X hh [obW B (adX, abX, wX), obW B (adY, abY, wY)] [] rfl) rfl rfl hl.1 rfl (lv_room (Nat.le_of_ble_eq_true rfl)) dL_law_709 ⟨by show (((((((((cells + 1) + 3) + 1) + 3) + 2) + 1) + 3) + 1) + 2) + 1 ≤ 614784; omega, by show (((((((((slots + 6) + 18) + 6) + 18) + 12) + 6) + 18) + 6) + 12) + 6 ≤ 7245417; omega⟩) (fun abZ H locs hh => ?_)
                    have hh : BH B s.heap [obW B (adX, abX, wX), obW B (adY, abY, wY), obW B (adZ, abZ, w54)] H locs := hh
                    refine lv_if_ne (tgt := 765) hx hb dL_law_712 (by decide) (fun hc57 => ?_) (fun hc57 => ?_)
                    · have hF := am_neg hc57 hF
                      refine lv_iconst (v := (0 : Int32)) hx hb dL_law_765 (by decide) ?_
                      cases hF
                    · have hF := am_pos hc57 hF
                      refine lv_aload hx hb dL_law_715 (lv_at hl 3 rfl) ?_
                      refine lv_iconst (v := (0 : Int32)) hx hb dL_law_717 (by decide) ?_
                      obtain ⟨⟨z61, w60⟩, hk58, hF⟩ := am_bind hF
                      have hF := am_u2 hF
                      obtain ⟨r59, hz62, hF⟩ := am_zn hF
                      subst hz62
                      refine bm_callX (ob := (adZ, abZ, w54)) hh [obW B (adX, abX, wX), obW B (adY, abY, wY)] [] rfl (vx_runV (As := [.int (0 : Int32)]) (rest := []) X.1 (c_X10_canRelease l (obG B (adZ, abZ, w54) (va_A (obW B (adZ, abZ, w54)) H.size)) hst hk58) (cwV 1 hts gL_law_X10_canRelease rfl rfl rfl (by decide +kernel) ⟨Nat.le_of_ble_eq_true rfl, Nat.le_of_ble_eq_true rfl⟩) (bm_preV (ob := (adZ, abZ, w54)) X hh [obW B (adX, abX, wX), obW B (adY, abY, wY)] [] rfl) rfl rfl hl.1 rfl (lv_room (Nat.le_of_ble_eq_true rfl)) dL_law_718 ⟨by show ((((((((((cells + 1) + 3) + 1) + 3) + 2) + 1) + 3) + 1) + 2) + 1) + 1 ≤ 614784; omega, by show ((((((((((slots + 6) + 18) + 6) + 18) + 12) + 6) + 18) + 6) + 12) + 6) + 6 ≤ 7245417; omega⟩) (fun abZ H locs hh => ?_)
                      have hh : BH B s.heap [obW B (adX, abX, wX), obW B (adY, abY, wY), obW B (adZ, abZ, w60)] H locs := hh
                      refine lv_if_ne (tgt := 765) hx hb dL_law_721 (by decide) (fun hc63 => ?_) (fun hc63 => ?_)
                      · have hF := am_neg hc63 hF
                        refine lv_iconst (v := (0 : Int32)) hx hb dL_law_765 (by decide) ?_
                        cases hF
                      · have hF := am_pos hc63 hF
                        refine lv_aload hx hb dL_law_724 (lv_at hl 3 rfl) ?_
                        refine lv_bipush (v := (7 : Int32)) hx hb dL_law_726 (by decide) ?_
                        refine lv_iconst (v := (0 : Int32)) hx hb dL_law_728 (by decide) ?_
                        refine lv_iconst (v := (1 : Int32)) hx hb dL_law_729 (by decide) ?_
                        obtain ⟨⟨r65, w66⟩, hk64, hF⟩ := am_bind hF
                        have hF := am_u2 hF
                        refine bm_callW (ob := (adZ, abZ, w60)) hh [obW B (adX, abX, wX), obW B (adY, abY, wY)] [] rfl (vx_runSX (As := [.ref (adZ 0), .int (7 : Int32), .int (0 : Int32), .int (1 : Int32)]) (rest := []) X.1 (c_L_act l (obG B (adZ, abZ, w60) (va_A (obW B (adZ, abZ, w60)) H.size)) hst hk64) (vx_cwSW 4 hts gL_law_L_act rfl rfl rfl (by decide +kernel) ⟨Nat.le_of_ble_eq_true rfl, Nat.le_of_ble_eq_true rfl⟩) (bm_preS (ob := (adZ, abZ, w60)) X hh [obW B (adX, abX, wX), obW B (adY, abY, wY)] [] rfl) rfl rfl hl.1 rfl (lv_room (Nat.le_of_ble_eq_true rfl)) dL_law_730 ⟨by show (((((((((((cells + 1) + 3) + 1) + 3) + 2) + 1) + 3) + 1) + 2) + 1) + 1) + 3 ≤ 614784; omega, by show (((((((((((slots + 6) + 18) + 6) + 18) + 12) + 6) + 18) + 6) + 12) + 6) + 6) + 18 ≤ 7245417; omega⟩) (fun abZ H locs hh => ?_)
                        have hh : BH B s.heap [obW B (adX, abX, wX), obW B (adY, abY, wY), obW B (adZ, abZ, w66)] H locs := hh
                        refine lv_bipush (v := (-4 : Int32)) hx hb dL_law_733 (by decide) ?_
                        refine lv_icmp_ne (tgt := 765) hx hb dL_law_735 (by decide) (fun hc68 => ?_) (fun hc68 => ?_)
                        · have hF := am_neg hc68 hF
                          refine lv_iconst (v := (0 : Int32)) hx hb dL_law_765 (by decide) ?_
                          cases hF
                        · have hF := am_pos hc68 hF
                          refine lv_aload hx hb dL_law_738 (lv_at hl 3 rfl) ?_
                          refine lv_iconst (v := (0 : Int32)) hx hb dL_law_740 (by decide) ?_
                          obtain ⟨⟨z72, w71⟩, hk69, hF⟩ := am_bind hF
                          have hF := am_u2 hF
                          obtain ⟨r70, hz73, hF⟩ := am_zn hF
                          subst hz73
                          refine bm_callX (ob := (adZ, abZ, w66)) hh [obW B (adX, abX, wX), obW B (adY, abY, wY)] [] rfl (vx_runV (As := [.int (0 : Int32)]) (rest := []) X.1 (c_X10_reverse l (obG B (adZ, abZ, w66) (va_A (obW B (adZ, abZ, w66)) H.size)) hst hk69) (cwV 1 hts gL_law_X10_reverse rfl rfl rfl (by decide +kernel) ⟨Nat.le_of_ble_eq_true rfl, Nat.le_of_ble_eq_true rfl⟩) (bm_preV (ob := (adZ, abZ, w66)) X hh [obW B (adX, abX, wX), obW B (adY, abY, wY)] [] rfl) rfl rfl hl.1 rfl (lv_room (Nat.le_of_ble_eq_true rfl)) dL_law_741 ⟨by show ((((((((((((cells + 1) + 3) + 1) + 3) + 2) + 1) + 3) + 1) + 2) + 1) + 1) + 3) + 1 ≤ 614784; omega, by show ((((((((((((slots + 6) + 18) + 6) + 18) + 12) + 6) + 18) + 6) + 12) + 6) + 6) + 18) + 6 ≤ 7245417; omega⟩) (fun abZ H locs hh => ?_)
                          have hh : BH B s.heap [obW B (adX, abX, wX), obW B (adY, abY, wY), obW B (adZ, abZ, w71)] H locs := hh
                          refine lv_if_eq (tgt := 765) hx hb dL_law_744 (by decide) (fun hc74 => ?_) (fun hc74 => ?_)
                          · have hF := am_pos hc74 hF
                            refine lv_iconst (v := (0 : Int32)) hx hb dL_law_765 (by decide) ?_
                            cases hF
                          · have hF := am_neg hc74 hF
                            refine lv_aload hx hb dL_law_747 (lv_at hl 3 rfl) ?_
                            refine lv_iconst (v := (0 : Int32)) hx hb dL_law_749 (by decide) ?_
                            obtain ⟨⟨z78, w77⟩, hk75, hF⟩ := am_bind hF
                            have hF := am_u2 hF
                            obtain ⟨r76, hz79, hF⟩ := am_zn hF
                            subst hz79
                            refine bm_callX (ob := (adZ, abZ, w71)) hh [obW B (adX, abX, wX), obW B (adY, abY, wY)] [] rfl (vx_runV (As := [.int (0 : Int32)]) (rest := []) X.1 (c_X10_canRelease l (obG B (adZ, abZ, w71) (va_A (obW B (adZ, abZ, w71)) H.size)) hst hk75) (cwV 1 hts gL_law_X10_canRelease rfl rfl rfl (by decide +kernel) ⟨Nat.le_of_ble_eq_true rfl, Nat.le_of_ble_eq_true rfl⟩) (bm_preV (ob := (adZ, abZ, w71)) X hh [obW B (adX, abX, wX), obW B (adY, abY, wY)] [] rfl) rfl rfl hl.1 rfl (lv_room (Nat.le_of_ble_eq_true rfl)) dL_law_750 ⟨by show (((((((((((((cells + 1) + 3) + 1) + 3) + 2) + 1) + 3) + 1) + 2) + 1) + 1) + 3) + 1) + 1 ≤ 614784; omega, by show (((((((((((((slots + 6) + 18) + 6) + 18) + 12) + 6) + 18) + 6) + 12) + 6) + 6) + 18) + 6) + 6 ≤ 7245417; omega⟩) (fun abZ H locs hh => ?_)
                            have hh : BH B s.heap [obW B (adX, abX, wX), obW B (adY, abY, wY), obW B (adZ, abZ, w77)] H locs := hh
                            refine lv_if_eq (tgt := 765) hx hb dL_law_753 (by decide) (fun hc80 => ?_) (fun hc80 => ?_)
                            · have hF := am_pos hc80 hF
                              refine lv_iconst (v := (0 : Int32)) hx hb dL_law_765 (by decide) ?_
                              cases hF
                            · have hF := am_neg hc80 hF
                              refine lv_aload hx hb dL_law_756 (lv_at hl 3 rfl) ?_
                              refine lv_iconst (v := (3 : Int32)) hx hb dL_law_758 (by decide) ?_
                              obtain ⟨⟨z84, w83⟩, hk81, hF⟩ := am_bind hF
                              have hF := am_u2 hF
                              obtain ⟨r82, hz85, hF⟩ := am_zn hF
                              subst hz85
                              refine bm_callX (ob := (adZ, abZ, w77)) hh [obW B (adX, abX, wX), obW B (adY, abY, wY)] [] rfl (vx_runV (As := [.int (3 : Int32)]) (rest := []) X.1 (c_X10_springOf l (obG B (adZ, abZ, w77) (va_A (obW B (adZ, abZ, w77)) H.size)) hst hk81) (cwV 1 hts gL_law_X10_springOf rfl rfl rfl (by decide +kernel) ⟨Nat.le_of_ble_eq_true rfl, Nat.le_of_ble_eq_true rfl⟩) (bm_preV (ob := (adZ, abZ, w77)) X hh [obW B (adX, abX, wX), obW B (adY, abY, wY)] [] rfl) rfl rfl hl.1 rfl (lv_room (Nat.le_of_ble_eq_true rfl)) dL_law_759 ⟨by show ((((((((((((((cells + 1) + 3) + 1) + 3) + 2) + 1) + 3) + 1) + 2) + 1) + 1) + 3) + 1) + 1) + 2 ≤ 614784; omega, by show ((((((((((((((slots + 6) + 18) + 6) + 18) + 12) + 6) + 18) + 6) + 12) + 6) + 6) + 18) + 6) + 6) + 12 ≤ 7245417; omega⟩) (fun abZ H locs hh => ?_)
                              have hh : BH B s.heap [obW B (adX, abX, wX), obW B (adY, abY, wY), obW B (adZ, abZ, w83)] H locs := hh
                              refine lv_if_eq (tgt := 767) hx hb dL_law_762 (by decide) (fun hc86 => ?_) (fun hc86 => ?_)
                              · have hF := am_pos hc86 hF
                                cases hF
                                exact W.widen (by omega) (by omega) (kk abX abY abZ H locs ls hh (lv_sub hl [0, 1, 2, 3, 4, 5, 6] rfl))
                              · have hF := am_neg hc86 hF
                                refine lv_iconst (v := (0 : Int32)) hx hb dL_law_765 (by decide) ?_
                                cases hF
def f_law_767 (wX : Wd) (wY : Wd) (wZ : Wd) (l3 : Int32) (l4 : Int32) (l6 : Int32) : Option (Wd × Wd × Wd) := ((f_X10_release wZ (0 : Int32) l6).bind fun z => u2 z fun z w3 => zc z (fun _ => none) (fun r2 => (if r2 = l6 then ((f_X10_tension w3 (0 : Int32)).bind fun z => zc z (fun _ => none) (fun r8 => (if r8 = ((90 : Int32) - ((7 : Int32) * l6)) then ((f_X10_wear w3 (1 : Int32)).bind fun z => zc z (fun _ => none) (fun r13 => (if r13 = ((3 : Int32) * l6) then ((f_X10_angle w3 (0 : Int32)).bind fun z => zc z (fun _ => none) (fun r18 => (if r18 = (0 : Int64) then ((f_X10_addPlanet w3 (0 : Int32)).bind fun z => u2 z fun z w24 => zc z (fun _ => none) (fun r23 => (if r23 = 0 then ((f_X10_addPlanet w24 (1 : Int32)).bind fun z => u2 z fun z w30 => zc z (fun _ => none) (fun r29 => (if r29 = (1 : Int32) then ((f_L_act w30 (10 : Int32) (1 : Int32) (0 : Int32)).bind fun z => u2 z fun r35 w36 => (if r35 = (-3 : Int32) then ((f_X10_areInLine w36 (0 : Int32) (1 : Int32)).bind fun z => zc z (fun _ => none) (fun r40 => (if r40 = 0 then none else ((f_X10_nextEclipse w36 (0 : Int32) (1 : Int32) (1 : Int32)).bind fun z => u2 z fun z w46 => zc z (fun _ => none) (fun r45 => (if r45 = (3 : Int32) then ((f_X10_nextEclipseByTurns w46 (1 : Int32) (0 : Int32) (2 : Int32)).bind fun z => u2 z fun z w52 => zc z (fun _ => none) (fun r51 => (if r51 = (3 : Int32) then ((f_X10_nextEclipse w52 (0 : Int32) (1 : Int32) (0 : Int32)).bind fun z => u2 z fun z w58 => zc z (fun _ => none) (fun r57 => (if r57 = (1 : Int32) then ((f_L_eclipse w58 (1 : Int32) (0 : Int32) (0 : Int32) (0 : Int32)).bind fun z => u2 z fun r63 w64 => (if r63 = (-2 : Int32) then (some (wX, wY, w64)) else none)) else none))) else none))) else none)))))) else none)) else none))) else none))) else none))) else none))) else none))) else none)))
set_option maxHeartbeats 16000000 in
set_option maxRecDepth 100000 in
theorem c_law_767 (l : Launch) (hst : l.stackTraces = false) {B : BP} {p : Program} {e : Env} {s : State} {m : MethodId} {args : Array Value} {below : List Frame} {meth : Method} {c : Code} {b cells slots abX abY abZ : Nat} {adX adY adZ : Nat → Nat} {H : Heap} {locs : List Loc} {ls : Array Slot} {wX wX1 wY wY1 wZ wZ1 : Wd} {l3 l4 l6 : Int32} {Q : State → Prop} (X : BX B p s m args meth c cL_law 8 RL wsL_lawQ) (hav : ∀ i, i < 31 → B.2.2 (300 + i) = 1) (hR : ∀ i, i < 31 → 13 ≤ i → vk_R "PlanetWorkshopLaw" (sW.getD i 0) (sX.getD i "") (B.2.2 (100 + i)) s) (hh : BH B s.heap [obW B (adX, abX, wX), obW B (adY, abY, wY), obW B (adZ, abZ, wZ)] H locs) (hc : cells + 22 ≤ 614784) (hs : slots + 132 ≤ 7245417) (hl : lv_has ls 8 [(0, .ref b), (1, .ref (adX 0)), (2, .ref (adY 0)), (7, .ref (adZ 0)), (3, .int l3), (4, .int l4), (6, .int l6)]) (hF : f_law_767 wX wY wZ l3 l4 l6 = some (wX1, wY1, wZ1)) (kk : ∀ (abX abY abZ : Nat) (H : Heap) (locs : List Loc) (ls : Array Slot), BH B s.heap [obW B (adX, abX, wX1), obW B (adY, abY, wY1), obW B (adZ, abZ, wZ1)] H locs → lv_has ls 8 [(0, .ref b), (1, .ref (adX 0)), (2, .ref (adY 0)), (7, .ref (adZ 0)), (3, .int l3), (4, .int l4), (6, .int l6)] → W p l e room_1 s m args below meth c H locs (cells + 22) (slots + 132) Q (F0 m 916 ls [])) : W p l e room_1 s m args below meth c H locs cells slots Q (F0 m 767 ls []) := by
  have hx := X.1.1; have hb := X.1.2.1; have hml := X.1.2.2.1; have hown := X.1.2.2.2.1; have hts := X.1.2.2.2.2
  unfold f_law_767 at hF
  refine lv_aload hx hb dL_law_767 (lv_at hl 3 rfl) ?_
  refine lv_iconst (v := (0 : Int32)) hx hb dL_law_769 (by decide) ?_
  refine lv_iload hx hb dL_law_770 (lv_at hl 6 rfl) ?_
  obtain ⟨⟨z4, w3⟩, hk1, hF⟩ := am_bind hF
  have hF := am_u2 hF
  obtain ⟨r2, hz5, hF⟩ := am_zn hF
  subst hz5
  refine bm_callX (ob := (adZ, abZ, wZ)) hh [obW B (adX, abX, wX), obW B (adY, abY, wY)] [] rfl (vx_runV (As := [.int (0 : Int32), .int l6]) (rest := []) X.1 (c_X10_release l (obG B (adZ, abZ, wZ) (va_A (obW B (adZ, abZ, wZ)) H.size)) hst hk1) (cwV 2 hts gL_law_X10_release rfl rfl rfl (by decide +kernel) ⟨Nat.le_of_ble_eq_true rfl, Nat.le_of_ble_eq_true rfl⟩) (bm_preV (ob := (adZ, abZ, wZ)) X hh [obW B (adX, abX, wX), obW B (adY, abY, wY)] [] rfl) rfl rfl hl.1 rfl (lv_room (Nat.le_of_ble_eq_true rfl)) dL_law_772 ⟨by show cells + 1 ≤ 614784; omega, by show slots + 6 ≤ 7245417; omega⟩) (fun abZ H locs hh => ?_)
  have hh : BH B s.heap [obW B (adX, abX, wX), obW B (adY, abY, wY), obW B (adZ, abZ, w3)] H locs := hh
  refine lv_iload hx hb dL_law_775 (lv_at hl 6 rfl) ?_
  refine lv_icmp_ne (tgt := 914) hx hb dL_law_777 (by decide) (fun hc6 => ?_) (fun hc6 => ?_)
  · have hF := am_neg hc6 hF
    refine lv_iconst (v := (0 : Int32)) hx hb dL_law_914 (by decide) ?_
    cases hF
  · have hF := am_pos hc6 hF
    refine lv_aload hx hb dL_law_780 (lv_at hl 3 rfl) ?_
    refine lv_iconst (v := (0 : Int32)) hx hb dL_law_782 (by decide) ?_
    obtain ⟨z9, hk7, hF⟩ := am_bind hF
    obtain ⟨r8, hz10, hF⟩ := am_zn hF
    subst hz10
    refine bm_callX (ob := (adZ, abZ, w3)) hh [obW B (adX, abX, wX), obW B (adY, abY, wY)] [] rfl (vx_runV (As := [.int (0 : Int32)]) (rest := []) X.1 (c_X10_tension l (obG B (adZ, abZ, w3) (va_A (obW B (adZ, abZ, w3)) H.size)) hst hk7) (cwV 1 hts gL_law_X10_tension rfl rfl rfl (by decide +kernel) ⟨Nat.le_of_ble_eq_true rfl, Nat.le_of_ble_eq_true rfl⟩) (bm_preV (ob := (adZ, abZ, w3)) X hh [obW B (adX, abX, wX), obW B (adY, abY, wY)] [] rfl) rfl rfl hl.1 rfl (lv_room (Nat.le_of_ble_eq_true rfl)) dL_law_783 ⟨by show (cells + 1) + 2 ≤ 614784; omega, by show (slots + 6) + 12 ≤ 7245417; omega⟩) (fun abZ H locs hh => ?_)
    have hh : BH B s.heap [obW B (adX, abX, wX), obW B (adY, abY, wY), obW B (adZ, abZ, w3)] H locs := hh
    refine lv_bipush (v := (90 : Int32)) hx hb dL_law_786 (by decide) ?_
    refine lv_bipush (v := (7 : Int32)) hx hb dL_law_788 (by decide) ?_
    refine lv_iload hx hb dL_law_790 (lv_at hl 6 rfl) ?_
    refine lv_imul hx hb dL_law_792 ?_
    refine lv_isub hx hb dL_law_793 ?_
    refine lv_icmp_ne (tgt := 914) hx hb dL_law_794 (by decide) (fun hc11 => ?_) (fun hc11 => ?_)
    · have hF := am_neg hc11 hF
      refine lv_iconst (v := (0 : Int32)) hx hb dL_law_914 (by decide) ?_
      cases hF
    · have hF := am_pos hc11 hF
      refine lv_aload hx hb dL_law_797 (lv_at hl 3 rfl) ?_
      refine lv_iconst (v := (1 : Int32)) hx hb dL_law_799 (by decide) ?_
      obtain ⟨z14, hk12, hF⟩ := am_bind hF
      obtain ⟨r13, hz15, hF⟩ := am_zn hF
      subst hz15
      refine bm_callX (ob := (adZ, abZ, w3)) hh [obW B (adX, abX, wX), obW B (adY, abY, wY)] [] rfl (vx_runV (As := [.int (1 : Int32)]) (rest := []) X.1 (c_X10_wear l (obG B (adZ, abZ, w3) (va_A (obW B (adZ, abZ, w3)) H.size)) hst hk12) (cwV 1 hts gL_law_X10_wear rfl rfl rfl (by decide +kernel) ⟨Nat.le_of_ble_eq_true rfl, Nat.le_of_ble_eq_true rfl⟩) (bm_preV (ob := (adZ, abZ, w3)) X hh [obW B (adX, abX, wX), obW B (adY, abY, wY)] [] rfl) rfl rfl hl.1 rfl (lv_room (Nat.le_of_ble_eq_true rfl)) dL_law_800 ⟨by show ((cells + 1) + 2) + 2 ≤ 614784; omega, by show ((slots + 6) + 12) + 12 ≤ 7245417; omega⟩) (fun abZ H locs hh => ?_)
      have hh : BH B s.heap [obW B (adX, abX, wX), obW B (adY, abY, wY), obW B (adZ, abZ, w3)] H locs := hh
      refine lv_iconst (v := (3 : Int32)) hx hb dL_law_803 (by decide) ?_
      refine lv_iload hx hb dL_law_804 (lv_at hl 6 rfl) ?_
      refine lv_imul hx hb dL_law_806 ?_
      refine lv_icmp_ne (tgt := 914) hx hb dL_law_807 (by decide) (fun hc16 => ?_) (fun hc16 => ?_)
      · have hF := am_neg hc16 hF
        refine lv_iconst (v := (0 : Int32)) hx hb dL_law_914 (by decide) ?_
        cases hF
      · have hF := am_pos hc16 hF
        refine lv_aload hx hb dL_law_810 (lv_at hl 3 rfl) ?_
        refine lv_iconst (v := (0 : Int32)) hx hb dL_law_812 (by decide) ?_
        obtain ⟨z19, hk17, hF⟩ := am_bind hF
        obtain ⟨r18, hz20, hF⟩ := am_zn hF
        subst hz20
        refine bm_callX (ob := (adZ, abZ, w3)) hh [obW B (adX, abX, wX), obW B (adY, abY, wY)] [] rfl (vx_runV (As := [.int (0 : Int32)]) (rest := []) X.1 (c_X10_angle l (obG B (adZ, abZ, w3) (va_A (obW B (adZ, abZ, w3)) H.size)) hst hk17) (cwV 1 hts gL_law_X10_angle rfl rfl rfl (by decide +kernel) ⟨Nat.le_of_ble_eq_true rfl, Nat.le_of_ble_eq_true rfl⟩) (bm_preV (ob := (adZ, abZ, w3)) X hh [obW B (adX, abX, wX), obW B (adY, abY, wY)] [] rfl) rfl rfl hl.1 rfl (lv_room (Nat.le_of_ble_eq_true rfl)) dL_law_813 ⟨by show (((cells + 1) + 2) + 2) + 1 ≤ 614784; omega, by show (((slots + 6) + 12) + 12) + 6 ≤ 7245417; omega⟩) (fun abZ H locs hh => ?_)
        have hh : BH B s.heap [obW B (adX, abX, wX), obW B (adY, abY, wY), obW B (adZ, abZ, w3)] H locs := hh
        refine lv_lconst (v := (0 : Int64)) hx hb dL_law_816 (by decide) ?_
        refine am_lcmp_ne (tgt := 914) hx hb dL_law_817 dL_law_818 (by decide) (fun hc21 => ?_) (fun hc21 => ?_)
        · have hF := am_neg hc21 hF
          refine lv_iconst (v := (0 : Int32)) hx hb dL_law_914 (by decide) ?_
          cases hF
        · have hF := am_pos hc21 hF
          refine lv_aload hx hb dL_law_821 (lv_at hl 3 rfl) ?_
          refine lv_iconst (v := (0 : Int32)) hx hb dL_law_823 (by decide) ?_
          obtain ⟨⟨z25, w24⟩, hk22, hF⟩ := am_bind hF
          have hF := am_u2 hF
          obtain ⟨r23, hz26, hF⟩ := am_zn hF
          subst hz26
          refine bm_callX (ob := (adZ, abZ, w3)) hh [obW B (adX, abX, wX), obW B (adY, abY, wY)] [] rfl (vx_runV (As := [.int (0 : Int32)]) (rest := []) X.1 (c_X10_addPlanet l (obG B (adZ, abZ, w3) (va_A (obW B (adZ, abZ, w3)) H.size)) hst hk22) (cwV 1 hts gL_law_X10_addPlanet rfl rfl rfl (by decide +kernel) ⟨Nat.le_of_ble_eq_true rfl, Nat.le_of_ble_eq_true rfl⟩) (bm_preV (ob := (adZ, abZ, w3)) X hh [obW B (adX, abX, wX), obW B (adY, abY, wY)] [] rfl) rfl rfl hl.1 rfl (lv_room (Nat.le_of_ble_eq_true rfl)) dL_law_824 ⟨by show ((((cells + 1) + 2) + 2) + 1) + 1 ≤ 614784; omega, by show ((((slots + 6) + 12) + 12) + 6) + 6 ≤ 7245417; omega⟩) (fun abZ H locs hh => ?_)
          have hh : BH B s.heap [obW B (adX, abX, wX), obW B (adY, abY, wY), obW B (adZ, abZ, w24)] H locs := hh
          refine lv_if_ne (tgt := 914) hx hb dL_law_827 (by decide) (fun hc27 => ?_) (fun hc27 => ?_)
          · have hF := am_neg hc27 hF
            refine lv_iconst (v := (0 : Int32)) hx hb dL_law_914 (by decide) ?_
            cases hF
          · have hF := am_pos hc27 hF
            refine lv_aload hx hb dL_law_830 (lv_at hl 3 rfl) ?_
            refine lv_iconst (v := (1 : Int32)) hx hb dL_law_832 (by decide) ?_
            obtain ⟨⟨z31, w30⟩, hk28, hF⟩ := am_bind hF
            have hF := am_u2 hF
            obtain ⟨r29, hz32, hF⟩ := am_zn hF
            subst hz32
            refine bm_callX (ob := (adZ, abZ, w24)) hh [obW B (adX, abX, wX), obW B (adY, abY, wY)] [] rfl (vx_runV (As := [.int (1 : Int32)]) (rest := []) X.1 (c_X10_addPlanet l (obG B (adZ, abZ, w24) (va_A (obW B (adZ, abZ, w24)) H.size)) hst hk28) (cwV 1 hts gL_law_X10_addPlanet rfl rfl rfl (by decide +kernel) ⟨Nat.le_of_ble_eq_true rfl, Nat.le_of_ble_eq_true rfl⟩) (bm_preV (ob := (adZ, abZ, w24)) X hh [obW B (adX, abX, wX), obW B (adY, abY, wY)] [] rfl) rfl rfl hl.1 rfl (lv_room (Nat.le_of_ble_eq_true rfl)) dL_law_833 ⟨by show (((((cells + 1) + 2) + 2) + 1) + 1) + 1 ≤ 614784; omega, by show (((((slots + 6) + 12) + 12) + 6) + 6) + 6 ≤ 7245417; omega⟩) (fun abZ H locs hh => ?_)
            have hh : BH B s.heap [obW B (adX, abX, wX), obW B (adY, abY, wY), obW B (adZ, abZ, w30)] H locs := hh
            refine lv_iconst (v := (1 : Int32)) hx hb dL_law_836 (by decide) ?_
            refine lv_icmp_ne (tgt := 914) hx hb dL_law_837 (by decide) (fun hc33 => ?_) (fun hc33 => ?_)
            · have hF := am_neg hc33 hF
              refine lv_iconst (v := (0 : Int32)) hx hb dL_law_914 (by decide) ?_
              cases hF
            · have hF := am_pos hc33 hF
              refine lv_aload hx hb dL_law_840 (lv_at hl 3 rfl) ?_
              refine lv_bipush (v := (10 : Int32)) hx hb dL_law_842 (by decide) ?_
              refine lv_iconst (v := (1 : Int32)) hx hb dL_law_844 (by decide) ?_
              refine lv_iconst (v := (0 : Int32)) hx hb dL_law_845 (by decide) ?_
              obtain ⟨⟨r35, w36⟩, hk34, hF⟩ := am_bind hF
              have hF := am_u2 hF
              refine bm_callW (ob := (adZ, abZ, w30)) hh [obW B (adX, abX, wX), obW B (adY, abY, wY)] [] rfl (vx_runSX (As := [.ref (adZ 0), .int (10 : Int32), .int (1 : Int32), .int (0 : Int32)]) (rest := []) X.1 (c_L_act l (obG B (adZ, abZ, w30) (va_A (obW B (adZ, abZ, w30)) H.size)) hst hk34) (vx_cwSW 4 hts gL_law_L_act rfl rfl rfl (by decide +kernel) ⟨Nat.le_of_ble_eq_true rfl, Nat.le_of_ble_eq_true rfl⟩) (bm_preS (ob := (adZ, abZ, w30)) X hh [obW B (adX, abX, wX), obW B (adY, abY, wY)] [] rfl) rfl rfl hl.1 rfl (lv_room (Nat.le_of_ble_eq_true rfl)) dL_law_846 ⟨by show ((((((cells + 1) + 2) + 2) + 1) + 1) + 1) + 3 ≤ 614784; omega, by show ((((((slots + 6) + 12) + 12) + 6) + 6) + 6) + 18 ≤ 7245417; omega⟩) (fun abZ H locs hh => ?_)
              have hh : BH B s.heap [obW B (adX, abX, wX), obW B (adY, abY, wY), obW B (adZ, abZ, w36)] H locs := hh
              refine lv_bipush (v := (-3 : Int32)) hx hb dL_law_849 (by decide) ?_
              refine lv_icmp_ne (tgt := 914) hx hb dL_law_851 (by decide) (fun hc38 => ?_) (fun hc38 => ?_)
              · have hF := am_neg hc38 hF
                refine lv_iconst (v := (0 : Int32)) hx hb dL_law_914 (by decide) ?_
                cases hF
              · have hF := am_pos hc38 hF
                refine lv_aload hx hb dL_law_854 (lv_at hl 3 rfl) ?_
                refine lv_iconst (v := (0 : Int32)) hx hb dL_law_856 (by decide) ?_
                refine lv_iconst (v := (1 : Int32)) hx hb dL_law_857 (by decide) ?_
                obtain ⟨z41, hk39, hF⟩ := am_bind hF
                obtain ⟨r40, hz42, hF⟩ := am_zn hF
                subst hz42
                refine bm_callX (ob := (adZ, abZ, w36)) hh [obW B (adX, abX, wX), obW B (adY, abY, wY)] [] rfl (vx_runV (As := [.int (0 : Int32), .int (1 : Int32)]) (rest := []) X.1 (c_X10_areInLine l (obG B (adZ, abZ, w36) (va_A (obW B (adZ, abZ, w36)) H.size)) hst hk39) (cwV 2 hts gL_law_X10_areInLine rfl rfl rfl (by decide +kernel) ⟨Nat.le_of_ble_eq_true rfl, Nat.le_of_ble_eq_true rfl⟩) (bm_preV (ob := (adZ, abZ, w36)) X hh [obW B (adX, abX, wX), obW B (adY, abY, wY)] [] rfl) rfl rfl hl.1 rfl (lv_room (Nat.le_of_ble_eq_true rfl)) dL_law_858 ⟨by show (((((((cells + 1) + 2) + 2) + 1) + 1) + 1) + 3) + 3 ≤ 614784; omega, by show (((((((slots + 6) + 12) + 12) + 6) + 6) + 6) + 18) + 18 ≤ 7245417; omega⟩) (fun abZ H locs hh => ?_)
                have hh : BH B s.heap [obW B (adX, abX, wX), obW B (adY, abY, wY), obW B (adZ, abZ, w36)] H locs := hh
                refine lv_if_eq (tgt := 914) hx hb dL_law_861 (by decide) (fun hc43 => ?_) (fun hc43 => ?_)
                · have hF := am_pos hc43 hF
                  refine lv_iconst (v := (0 : Int32)) hx hb dL_law_914 (by decide) ?_
                  cases hF
                · have hF := am_neg hc43 hF
                  refine lv_aload hx hb dL_law_864 (lv_at hl 3 rfl) ?_
                  refine lv_iconst (v := (0 : Int32)) hx hb dL_law_866 (by decide) ?_
                  refine lv_iconst (v := (1 : Int32)) hx hb dL_law_867 (by decide) ?_
                  refine lv_iconst (v := (1 : Int32)) hx hb dL_law_868 (by decide) ?_
                  obtain ⟨⟨z47, w46⟩, hk44, hF⟩ := am_bind hF
                  have hF := am_u2 hF
                  obtain ⟨r45, hz48, hF⟩ := am_zn hF
                  subst hz48
                  refine bm_callX (ob := (adZ, abZ, w36)) hh [obW B (adX, abX, wX), obW B (adY, abY, wY)] [] rfl (vx_runV (As := [.int (0 : Int32), .int (1 : Int32), .int (1 : Int32)]) (rest := []) X.1 (c_X10_nextEclipse l (obG B (adZ, abZ, w36) (va_A (obW B (adZ, abZ, w36)) H.size)) hst hk44) (cwV 3 hts gL_law_X10_nextEclipse rfl rfl rfl (by decide +kernel) ⟨Nat.le_of_ble_eq_true rfl, Nat.le_of_ble_eq_true rfl⟩) (bm_preV (ob := (adZ, abZ, w36)) X hh [obW B (adX, abX, wX), obW B (adY, abY, wY)] [] rfl) rfl rfl hl.1 rfl (lv_room (Nat.le_of_ble_eq_true rfl)) dL_law_869 ⟨by show ((((((((cells + 1) + 2) + 2) + 1) + 1) + 1) + 3) + 3) + 2 ≤ 614784; omega, by show ((((((((slots + 6) + 12) + 12) + 6) + 6) + 6) + 18) + 18) + 12 ≤ 7245417; omega⟩) (fun abZ H locs hh => ?_)
                  have hh : BH B s.heap [obW B (adX, abX, wX), obW B (adY, abY, wY), obW B (adZ, abZ, w46)] H locs := hh
                  refine lv_iconst (v := (3 : Int32)) hx hb dL_law_872 (by decide) ?_
                  refine lv_icmp_ne (tgt := 914) hx hb dL_law_873 (by decide) (fun hc49 => ?_) (fun hc49 => ?_)
                  · have hF := am_neg hc49 hF
                    refine lv_iconst (v := (0 : Int32)) hx hb dL_law_914 (by decide) ?_
                    cases hF
                  · have hF := am_pos hc49 hF
                    refine lv_aload hx hb dL_law_876 (lv_at hl 3 rfl) ?_
                    refine lv_iconst (v := (1 : Int32)) hx hb dL_law_878 (by decide) ?_
                    refine lv_iconst (v := (0 : Int32)) hx hb dL_law_879 (by decide) ?_
                    refine lv_iconst (v := (2 : Int32)) hx hb dL_law_880 (by decide) ?_
                    obtain ⟨⟨z53, w52⟩, hk50, hF⟩ := am_bind hF
                    have hF := am_u2 hF
                    obtain ⟨r51, hz54, hF⟩ := am_zn hF
                    subst hz54
                    refine bm_callX (ob := (adZ, abZ, w46)) hh [obW B (adX, abX, wX), obW B (adY, abY, wY)] [] rfl (vx_runV (As := [.int (1 : Int32), .int (0 : Int32), .int (2 : Int32)]) (rest := []) X.1 (c_X10_nextEclipseByTurns l (obG B (adZ, abZ, w46) (va_A (obW B (adZ, abZ, w46)) H.size)) hst hk50) (cwV 3 hts gL_law_X10_nextEclipseByTurns rfl rfl rfl (by decide +kernel) ⟨Nat.le_of_ble_eq_true rfl, Nat.le_of_ble_eq_true rfl⟩) (bm_preV (ob := (adZ, abZ, w46)) X hh [obW B (adX, abX, wX), obW B (adY, abY, wY)] [] rfl) rfl rfl hl.1 rfl (lv_room (Nat.le_of_ble_eq_true rfl)) dL_law_881 ⟨by show (((((((((cells + 1) + 2) + 2) + 1) + 1) + 1) + 3) + 3) + 2) + 2 ≤ 614784; omega, by show (((((((((slots + 6) + 12) + 12) + 6) + 6) + 6) + 18) + 18) + 12) + 12 ≤ 7245417; omega⟩) (fun abZ H locs hh => ?_)
                    have hh : BH B s.heap [obW B (adX, abX, wX), obW B (adY, abY, wY), obW B (adZ, abZ, w52)] H locs := hh
                    refine lv_iconst (v := (3 : Int32)) hx hb dL_law_884 (by decide) ?_
                    refine lv_icmp_ne (tgt := 914) hx hb dL_law_885 (by decide) (fun hc55 => ?_) (fun hc55 => ?_)
                    · have hF := am_neg hc55 hF
                      refine lv_iconst (v := (0 : Int32)) hx hb dL_law_914 (by decide) ?_
                      cases hF
                    · have hF := am_pos hc55 hF
                      refine lv_aload hx hb dL_law_888 (lv_at hl 3 rfl) ?_
                      refine lv_iconst (v := (0 : Int32)) hx hb dL_law_890 (by decide) ?_
                      refine lv_iconst (v := (1 : Int32)) hx hb dL_law_891 (by decide) ?_
                      refine lv_iconst (v := (0 : Int32)) hx hb dL_law_892 (by decide) ?_
                      obtain ⟨⟨z59, w58⟩, hk56, hF⟩ := am_bind hF
                      have hF := am_u2 hF
                      obtain ⟨r57, hz60, hF⟩ := am_zn hF
                      subst hz60
                      refine bm_callX (ob := (adZ, abZ, w52)) hh [obW B (adX, abX, wX), obW B (adY, abY, wY)] [] rfl (vx_runV (As := [.int (0 : Int32), .int (1 : Int32), .int (0 : Int32)]) (rest := []) X.1 (c_X10_nextEclipse l (obG B (adZ, abZ, w52) (va_A (obW B (adZ, abZ, w52)) H.size)) hst hk56) (cwV 3 hts gL_law_X10_nextEclipse rfl rfl rfl (by decide +kernel) ⟨Nat.le_of_ble_eq_true rfl, Nat.le_of_ble_eq_true rfl⟩) (bm_preV (ob := (adZ, abZ, w52)) X hh [obW B (adX, abX, wX), obW B (adY, abY, wY)] [] rfl) rfl rfl hl.1 rfl (lv_room (Nat.le_of_ble_eq_true rfl)) dL_law_893 ⟨by show ((((((((((cells + 1) + 2) + 2) + 1) + 1) + 1) + 3) + 3) + 2) + 2) + 2 ≤ 614784; omega, by show ((((((((((slots + 6) + 12) + 12) + 6) + 6) + 6) + 18) + 18) + 12) + 12) + 12 ≤ 7245417; omega⟩) (fun abZ H locs hh => ?_)
                      have hh : BH B s.heap [obW B (adX, abX, wX), obW B (adY, abY, wY), obW B (adZ, abZ, w58)] H locs := hh
                      refine lv_iconst (v := (1 : Int32)) hx hb dL_law_896 (by decide) ?_
                      refine lv_icmp_ne (tgt := 914) hx hb dL_law_897 (by decide) (fun hc61 => ?_) (fun hc61 => ?_)
                      · have hF := am_neg hc61 hF
                        refine lv_iconst (v := (0 : Int32)) hx hb dL_law_914 (by decide) ?_
                        cases hF
                      · have hF := am_pos hc61 hF
                        refine lv_aload hx hb dL_law_900 (lv_at hl 3 rfl) ?_
                        refine lv_iconst (v := (1 : Int32)) hx hb dL_law_902 (by decide) ?_
                        refine lv_iconst (v := (0 : Int32)) hx hb dL_law_903 (by decide) ?_
                        refine lv_iconst (v := (0 : Int32)) hx hb dL_law_904 (by decide) ?_
                        refine lv_iconst (v := (0 : Int32)) hx hb dL_law_905 (by decide) ?_
                        obtain ⟨⟨r63, w64⟩, hk62, hF⟩ := am_bind hF
                        have hF := am_u2 hF
                        refine bm_callW (ob := (adZ, abZ, w58)) hh [obW B (adX, abX, wX), obW B (adY, abY, wY)] [] rfl (vx_runSX (As := [.ref (adZ 0), .int (1 : Int32), .int (0 : Int32), .int (0 : Int32), .int (0 : Int32)]) (rest := []) X.1 (c_L_eclipse l (obG B (adZ, abZ, w58) (va_A (obW B (adZ, abZ, w58)) H.size)) hst hk62) (vx_cwSW 5 hts gL_law_L_eclipse rfl rfl rfl (by decide +kernel) ⟨Nat.le_of_ble_eq_true rfl, Nat.le_of_ble_eq_true rfl⟩) (bm_preS (ob := (adZ, abZ, w58)) X hh [obW B (adX, abX, wX), obW B (adY, abY, wY)] [] rfl) rfl rfl hl.1 rfl (lv_room (Nat.le_of_ble_eq_true rfl)) dL_law_906 ⟨by show (((((((((((cells + 1) + 2) + 2) + 1) + 1) + 1) + 3) + 3) + 2) + 2) + 2) + 2 ≤ 614784; omega, by show (((((((((((slots + 6) + 12) + 12) + 6) + 6) + 6) + 18) + 18) + 12) + 12) + 12) + 12 ≤ 7245417; omega⟩) (fun abZ H locs hh => ?_)
                        have hh : BH B s.heap [obW B (adX, abX, wX), obW B (adY, abY, wY), obW B (adZ, abZ, w64)] H locs := hh
                        refine lv_bipush (v := (-2 : Int32)) hx hb dL_law_909 (by decide) ?_
                        refine lv_icmp_eq (tgt := 916) hx hb dL_law_911 (by decide) (fun hc66 => ?_) (fun hc66 => ?_)
                        · have hF := am_pos hc66 hF
                          cases hF
                          exact W.widen (by omega) (by omega) (kk abX abY abZ H locs ls hh (lv_sub hl [0, 1, 2, 3, 4, 5, 6] rfl))
                        · have hF := am_neg hc66 hF
                          refine lv_iconst (v := (0 : Int32)) hx hb dL_law_914 (by decide) ?_
                          cases hF
