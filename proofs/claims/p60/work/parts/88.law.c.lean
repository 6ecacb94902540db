def f_law_916 (wX : Wd) (wY : Wd) (wZ : Wd) (l3 : Int32) (l4 : Int32) (l6 : Int32) : Option (Wd × Wd × Wd) := ((f_X10_fewestPairs wZ (3 : Int32) (1 : Int32)).bind fun z => zc z (fun _ => none) (fun r2 => (if r2 = (1 : Int32) then ((f_X10_fewestPairs wZ (9 : Int32) (1 : Int32)).bind fun z => zc z (fun _ => none) (fun r7 => (if r7 = (2 : Int32) then ((f_X10_fewestPairsByTable wZ (9 : Int32) (1 : Int32)).bind fun z => u2 z fun z w13 => zc z (fun _ => none) (fun r12 => (if r12 = (2 : Int32) then ((f_X10_fewestPairs w13 (1 : Int32) (1 : Int32)).bind fun z => zc z (fun _ => none) (fun r18 => (if r18 = (2 : Int32) then ((f_X10_fewestPairsByTable w13 (1 : Int32) (6 : Int32)).bind fun z => u2 z fun z w24 => zc z (fun _ => none) (fun r23 => (if r23 = (1 : Int32) then ((f_L_act w24 (18 : Int32) (7 : Int32) (1 : Int32)).bind fun z => u2 z fun r29 w30 => (if r29 = (-5 : Int32) then ((f_X10_woundTotal w30).bind fun r34 => (if r34 = (90 : Int32) then ((f_X10_tensionByAccounts w30).bind fun r38 => (if r38 = ((90 : Int32) - ((7 : Int32) * l6)) then ((f_X10_releaseTotal w30).bind fun r42 => (if r42 = (1 : Int32) then ((f_X10_meanTeeth w30).bind fun z => zc z (fun _ => none) (fun r46 => (if (Op.cmpValue (FP.dcmp r46 (4629137466983448576 : UInt64)) .l) = 0 then ((f_X10_dryShare w30).bind fun z => zc z (fun _ => none) (fun r51 => (if (Op.cmpValue (FP.fcmp r51 (1061158912 : UInt32)) .l) = 0 then (some (wX, wY, w30)) else none))) else none))) else none)) else none)) else none)) else none)) else none))) else none))) else none))) else none))) else none)))
set_option maxHeartbeats 16000000 in
set_option maxRecDepth 100000 in
theorem c_law_916 (l : Launch) (hst : l.stackTraces = false) {B : BP} {p : Program} {e : Env} {s : State} {m : MethodId} {args : Array Value} {below : List Frame} {meth : Method} {c : Code} {b cells slots abX abY abZ : Nat} {adX adY adZ : Nat → Nat} {H : Heap} {locs : List Loc} {ls : Array Slot} {wX wX1 wY wY1 wZ wZ1 : Wd} {l3 l4 l6 : Int32} {Q : State → Prop} (X : BX B p s m args meth c cL_law 8 RL wsL_lawQ) (hav : ∀ i, i < 31 → B.2.2 (300 + i) = 1) (hR : ∀ i, i < 31 → 13 ≤ i → vk_R "PlanetWorkshopLaw" (sW.getD i 0) (sX.getD i "") (B.2.2 (100 + i)) s) (hh : BH B s.heap [obW B (adX, abX, wX), obW B (adY, abY, wY), obW B (adZ, abZ, wZ)] H locs) (hc : cells + 15 ≤ 614784) (hs : slots + 90 ≤ 7245417) (hl : lv_has ls 8 [(0, .ref b), (1, .ref (adX 0)), (2, .ref (adY 0)), (7, .ref (adZ 0)), (3, .int l3), (4, .int l4), (6, .int l6)]) (hF : f_law_916 wX wY wZ l3 l4 l6 = some (wX1, wY1, wZ1)) (kk : ∀ (abX abY abZ : Nat) (H : Heap) (locs : List Loc) (ls : Array Slot), BH B s.heap [obW B (adX, abX, wX1), obW B (adY, abY, wY1), obW B (adZ, abZ, wZ1)] H locs → lv_has ls 8 [(0, .ref b), (1, .ref (adX 0)), (2, .ref (adY 0)), (7, .ref (adZ 0)), (3, .int l3), (4, .int l4), (6, .int l6)] → W p l e room_1 s m args below meth c H locs (cells + 15) (slots + 90) Q (F0 m 1048 ls [])) : W p l e room_1 s m args below meth c H locs cells slots Q (F0 m 916 ls []) := by
  have hx := X.1.1; have hb := X.1.2.1; have hml := X.1.2.2.1; have hown := X.1.2.2.2.1; have hts := X.1.2.2.2.2
  unfold f_law_916 at hF
  refine lv_aload hx hb dL_law_916 (lv_at hl 3 rfl) ?_
  refine lv_iconst (v := (3 : Int32)) hx hb dL_law_918 (by decide) ?_
  refine lv_iconst (v := (1 : Int32)) hx hb dL_law_919 (by decide) ?_
  obtain ⟨z3, hk1, hF⟩ := am_bind hF
  obtain ⟨r2, hz4, hF⟩ := am_zn hF
  subst hz4
  refine bm_callX (ob := (adZ, abZ, wZ)) hh [obW B (adX, abX, wX), obW B (adY, abY, wY)] [] rfl (vx_runV (As := [.int (3 : Int32), .int (1 : Int32)]) (rest := []) X.1 (c_X10_fewestPairs l (obG B (adZ, abZ, wZ) (va_A (obW B (adZ, abZ, wZ)) H.size)) hst hk1) (cwV 2 hts gL_law_X10_fewestPairs rfl rfl rfl (by decide +kernel) ⟨Nat.le_of_ble_eq_true rfl, Nat.le_of_ble_eq_true rfl⟩) (bm_preV (ob := (adZ, abZ, wZ)) X hh [obW B (adX, abX, wX), obW B (adY, abY, wY)] [] rfl) rfl rfl hl.1 rfl (lv_room (Nat.le_of_ble_eq_true rfl)) dL_law_920 ⟨by show cells + 2 ≤ 614784; omega, by show slots + 12 ≤ 7245417; omega⟩) (fun abZ H locs hh => ?_)
  have hh : BH B s.heap [obW B (adX, abX, wX), obW B (adY, abY, wY), obW B (adZ, abZ, wZ)] H locs := hh
  refine lv_iconst (v := (1 : Int32)) hx hb dL_law_923 (by decide) ?_
  refine lv_icmp_ne (tgt := 1129) hx hb dL_law_924 (by decide) (fun hc5 => ?_) (fun hc5 => ?_)
  · have hF := am_neg hc5 hF
    refine lv_iconst (v := (0 : Int32)) hx hb dL_law_1129 (by decide) ?_
    cases hF
  · have hF := am_pos hc5 hF
    refine lv_aload hx hb dL_law_927 (lv_at hl 3 rfl) ?_
    refine lv_bipush (v := (9 : Int32)) hx hb dL_law_929 (by decide) ?_
    refine lv_iconst (v := (1 : Int32)) hx hb dL_law_931 (by decide) ?_
    obtain ⟨z8, hk6, hF⟩ := am_bind hF
    obtain ⟨r7, hz9, hF⟩ := am_zn hF
    subst hz9
    refine bm_callX (ob := (adZ, abZ, wZ)) hh [obW B (adX, abX, wX), obW B (adY, abY, wY)] [] rfl (vx_runV (As := [.int (9 : Int32), .int (1 : Int32)]) (rest := []) X.1 (c_X10_fewestPairs l (obG B (adZ, abZ, wZ) (va_A (obW B (adZ, abZ, wZ)) H.size)) hst hk6) (cwV 2 hts gL_law_X10_fewestPairs rfl rfl rfl (by decide +kernel) ⟨Nat.le_of_ble_eq_true rfl, Nat.le_of_ble_eq_true rfl⟩) (bm_preV (ob := (adZ, abZ, wZ)) X hh [obW B (adX, abX, wX), obW B (adY, abY, wY)] [] rfl) rfl rfl hl.1 rfl (lv_room (Nat.le_of_ble_eq_true rfl)) dL_law_932 ⟨by show (cells + 2) + 2 ≤ 614784; omega, by show (slots + 12) + 12 ≤ 7245417; omega⟩) (fun abZ H locs hh => ?_)
    have hh : BH B s.heap [obW B (adX, abX, wX), obW B (adY, abY, wY), obW B (adZ, abZ, wZ)] H locs := hh
    refine lv_iconst (v := (2 : Int32)) hx hb dL_law_935 (by decide) ?_
    refine lv_icmp_ne (tgt := 1129) hx hb dL_law_936 (by decide) (fun hc10 => ?_) (fun hc10 => ?_)
    · have hF := am_neg hc10 hF
      refine lv_iconst (v := (0 : Int32)) hx hb dL_law_1129 (by decide) ?_
      cases hF
    · have hF := am_pos hc10 hF
      refine lv_aload hx hb dL_law_939 (lv_at hl 3 rfl) ?_
      refine lv_bipush (v := (9 : Int32)) hx hb dL_law_941 (by decide) ?_
      refine lv_iconst (v := (1 : Int32)) hx hb dL_law_943 (by decide) ?_
      obtain ⟨⟨z14, w13⟩, hk11, hF⟩ := am_bind hF
      have hF := am_u2 hF
      obtain ⟨r12, hz15, hF⟩ := am_zn hF
      subst hz15
      refine bm_callX (ob := (adZ, abZ, wZ)) hh [obW B (adX, abX, wX), obW B (adY, abY, wY)] [] rfl (vx_runV (As := [.int (9 : Int32), .int (1 : Int32)]) (rest := []) X.1 (c_X10_fewestPairsByTable l (obG B (adZ, abZ, wZ) (va_A (obW B (adZ, abZ, wZ)) H.size)) hst hk11) (cwV 2 hts gL_law_X10_fewestPairsByTable rfl rfl rfl (by decide +kernel) ⟨Nat.le_of_ble_eq_true rfl, Nat.le_of_ble_eq_true rfl⟩) (bm_preV (ob := (adZ, abZ, wZ)) X hh [obW B (adX, abX, wX), obW B (adY, abY, wY)] [] rfl) rfl rfl hl.1 rfl (lv_room (Nat.le_of_ble_eq_true rfl)) dL_law_944 ⟨by show ((cells + 2) + 2) + 2 ≤ 614784; omega, by show ((slots + 12) + 12) + 12 ≤ 7245417; omega⟩) (fun abZ H locs hh => ?_)
      have hh : BH B s.heap [obW B (adX, abX, wX), obW B (adY, abY, wY), obW B (adZ, abZ, w13)] H locs := hh
      refine lv_iconst (v := (2 : Int32)) hx hb dL_law_947 (by decide) ?_
      refine lv_icmp_ne (tgt := 1129) hx hb dL_law_948 (by decide) (fun hc16 => ?_) (fun hc16 => ?_)
      · have hF := am_neg hc16 hF
        refine lv_iconst (v := (0 : Int32)) hx hb dL_law_1129 (by decide) ?_
        cases hF
      · have hF := am_pos hc16 hF
        refine lv_aload hx hb dL_law_951 (lv_at hl 3 rfl) ?_
        refine lv_iconst (v := (1 : Int32)) hx hb dL_law_953 (by decide) ?_
        refine lv_iconst (v := (1 : Int32)) hx hb dL_law_954 (by decide) ?_
        obtain ⟨z19, hk17, hF⟩ := am_bind hF
        obtain ⟨r18, hz20, hF⟩ := am_zn hF
        subst hz20
        refine bm_callX (ob := (adZ, abZ, w13)) hh [obW B (adX, abX, wX), obW B (adY, abY, wY)] [] rfl (vx_runV (As := [.int (1 : Int32), .int (1 : Int32)]) (rest := []) X.1 (c_X10_fewestPairs l (obG B (adZ, abZ, w13) (va_A (obW B (adZ, abZ, w13)) H.size)) hst hk17) (cwV 2 hts gL_law_X10_fewestPairs rfl rfl rfl (by decide +kernel) ⟨Nat.le_of_ble_eq_true rfl, Nat.le_of_ble_eq_true rfl⟩) (bm_preV (ob := (adZ, abZ, w13)) X hh [obW B (adX, abX, wX), obW B (adY, abY, wY)] [] rfl) rfl rfl hl.1 rfl (lv_room (Nat.le_of_ble_eq_true rfl)) dL_law_955 ⟨by show (((cells + 2) + 2) + 2) + 2 ≤ 614784; omega, by show (((slots + 12) + 12) + 12) + 12 ≤ 7245417; omega⟩) (fun abZ H locs hh => ?_)
        have hh : BH B s.heap [obW B (adX, abX, wX), obW B (adY, abY, wY), obW B (adZ, abZ, w13)] H locs := hh
        refine lv_iconst (v := (2 : Int32)) hx hb dL_law_958 (by decide) ?_
        refine lv_icmp_ne (tgt := 1129) hx hb dL_law_959 (by decide) (fun hc21 => ?_) (fun hc21 => ?_)
        · have hF := am_neg hc21 hF
          refine lv_iconst (v := (0 : Int32)) hx hb dL_law_1129 (by decide) ?_
          cases hF
        · have hF := am_pos hc21 hF
          refine lv_aload hx hb dL_law_962 (lv_at hl 3 rfl) ?_
          refine lv_iconst (v := (1 : Int32)) hx hb dL_law_964 (by decide) ?_
          refine lv_bipush (v := (6 : Int32)) hx hb dL_law_965 (by decide) ?_
          obtain ⟨⟨z25, w24⟩, hk22, hF⟩ := am_bind hF
          have hF := am_u2 hF
          obtain ⟨r23, hz26, hF⟩ := am_zn hF
          subst hz26
          refine bm_callX (ob := (adZ, abZ, w13)) hh [obW B (adX, abX, wX), obW B (adY, abY, wY)] [] rfl (vx_runV (As := [.int (1 : Int32), .int (6 : Int32)]) (rest := []) X.1 (c_X10_fewestPairsByTable l (obG B (adZ, abZ, w13) (va_A (obW B (adZ, abZ, w13)) H.size)) hst hk22) (cwV 2 hts gL_law_X10_fewestPairsByTable rfl rfl rfl (by decide +kernel) ⟨Nat.le_of_ble_eq_true rfl, Nat.le_of_ble_eq_true rfl⟩) (bm_preV (ob := (adZ, abZ, w13)) X hh [obW B (adX, abX, wX), obW B (adY, abY, wY)] [] rfl) rfl rfl hl.1 rfl (lv_room (Nat.le_of_ble_eq_true rfl)) dL_law_967 ⟨by show ((((cells + 2) + 2) + 2) + 2) + 2 ≤ 614784; omega, by show ((((slots + 12) + 12) + 12) + 12) + 12 ≤ 7245417; omega⟩) (fun abZ H locs hh => ?_)
          have hh : BH B s.heap [obW B (adX, abX, wX), obW B (adY, abY, wY), obW B (adZ, abZ, w24)] H locs := hh
          refine lv_iconst (v := (1 : Int32)) hx hb dL_law_970 (by decide) ?_
          refine lv_icmp_ne (tgt := 1129) hx hb dL_law_971 (by decide) (fun hc27 => ?_) (fun hc27 => ?_)
          · have hF := am_neg hc27 hF
            refine lv_iconst (v := (0 : Int32)) hx hb dL_law_1129 (by decide) ?_
            cases hF
          · have hF := am_pos hc27 hF
            refine lv_aload hx hb dL_law_974 (lv_at hl 3 rfl) ?_
            refine lv_bipush (v := (18 : Int32)) hx hb dL_law_976 (by decide) ?_
            refine lv_bipush (v := (7 : Int32)) hx hb dL_law_978 (by decide) ?_
            refine lv_iconst (v := (1 : Int32)) hx hb dL_law_980 (by decide) ?_
            obtain ⟨⟨r29, w30⟩, hk28, hF⟩ := am_bind hF
            have hF := am_u2 hF
            refine bm_callW (ob := (adZ, abZ, w24)) hh [obW B (adX, abX, wX), obW B (adY, abY, wY)] [] rfl (vx_runSX (As := [.ref (adZ 0), .int (18 : Int32), .int (7 : Int32), .int (1 : Int32)]) (rest := []) X.1 (c_L_act l (obG B (adZ, abZ, w24) (va_A (obW B (adZ, abZ, w24)) H.size)) hst hk28) (vx_cwSW 4 hts gL_law_L_act rfl rfl rfl (by decide +kernel) ⟨Nat.le_of_ble_eq_true rfl, Nat.le_of_ble_eq_true rfl⟩) (bm_preS (ob := (adZ, abZ, w24)) X hh [obW B (adX, abX, wX), obW B (adY, abY, wY)] [] rfl) rfl rfl hl.1 rfl (lv_room (Nat.le_of_ble_eq_true rfl)) dL_law_981 ⟨by show (((((cells + 2) + 2) + 2) + 2) + 2) + 3 ≤ 614784; omega, by show (((((slots + 12) + 12) + 12) + 12) + 12) + 18 ≤ 7245417; omega⟩) (fun abZ H locs hh => ?_)
            have hh : BH B s.heap [obW B (adX, abX, wX), obW B (adY, abY, wY), obW B (adZ, abZ, w30)] H locs := hh
            refine lv_bipush (v := (-5 : Int32)) hx hb dL_law_984 (by decide) ?_
            refine lv_icmp_ne (tgt := 1129) hx hb dL_law_986 (by decide) (fun hc32 => ?_) (fun hc32 => ?_)
            · have hF := am_neg hc32 hF
              refine lv_iconst (v := (0 : Int32)) hx hb dL_law_1129 (by decide) ?_
              cases hF
            · have hF := am_pos hc32 hF
              refine lv_aload hx hb dL_law_989 (lv_at hl 3 rfl) ?_
              obtain ⟨r34, hk33, hF⟩ := am_bind hF
              refine bm_call (ob := (adZ, abZ, w30)) hh [obW B (adX, abX, wX), obW B (adY, abY, wY)] [] rfl (va_runV (As := []) (rest := []) X.1 (c_X10_woundTotal l (obG B (adZ, abZ, w30) (va_A (obW B (adZ, abZ, w30)) H.size)) hk33) (cwV 0 hts gL_law_X10_woundTotal rfl rfl rfl (by decide +kernel) ⟨Nat.le_of_ble_eq_true rfl, Nat.le_of_ble_eq_true rfl⟩) (bm_preV (ob := (adZ, abZ, w30)) X hh [obW B (adX, abX, wX), obW B (adY, abY, wY)] [] rfl) rfl rfl hl.1 rfl (lv_room (Nat.le_of_ble_eq_true rfl)) dL_law_991 ⟨by show ((((((cells + 2) + 2) + 2) + 2) + 2) + 3) + 0 ≤ 614784; omega, by show ((((((slots + 12) + 12) + 12) + 12) + 12) + 18) + 0 ≤ 7245417; omega⟩) (fun abZ H locs hh => ?_)
              have hh : BH B s.heap [obW B (adX, abX, wX), obW B (adY, abY, wY), obW B (adZ, abZ, w30)] H locs := hh
              refine lv_bipush (v := (90 : Int32)) hx hb dL_law_994 (by decide) ?_
              refine lv_icmp_ne (tgt := 1129) hx hb dL_law_996 (by decide) (fun hc36 => ?_) (fun hc36 => ?_)
              · have hF := am_neg hc36 hF
                refine lv_iconst (v := (0 : Int32)) hx hb dL_law_1129 (by decide) ?_
                cases hF
              · have hF := am_pos hc36 hF
                refine lv_aload hx hb dL_law_999 (lv_at hl 3 rfl) ?_
                obtain ⟨r38, hk37, hF⟩ := am_bind hF
                refine bm_call (ob := (adZ, abZ, w30)) hh [obW B (adX, abX, wX), obW B (adY, abY, wY)] [] rfl (va_runV (As := []) (rest := []) X.1 (c_X10_tensionByAccounts l (obG B (adZ, abZ, w30) (va_A (obW B (adZ, abZ, w30)) H.size)) hk37) (cwV 0 hts gL_law_X10_tensionByAccounts rfl rfl rfl (by decide +kernel) ⟨Nat.le_of_ble_eq_true rfl, Nat.le_of_ble_eq_true rfl⟩) (bm_preV (ob := (adZ, abZ, w30)) X hh [obW B (adX, abX, wX), obW B (adY, abY, wY)] [] rfl) rfl rfl hl.1 rfl (lv_room (Nat.le_of_ble_eq_true rfl)) dL_law_1001 ⟨by show ((((((cells + 2) + 2) + 2) + 2) + 2) + 3) + 0 ≤ 614784; omega, by show ((((((slots + 12) + 12) + 12) + 12) + 12) + 18) + 0 ≤ 7245417; omega⟩) (fun abZ H locs hh => ?_)
                have hh : BH B s.heap [obW B (adX, abX, wX), obW B (adY, abY, wY), obW B (adZ, abZ, w30)] H locs := hh
                refine lv_bipush (v := (90 : Int32)) hx hb dL_law_1004 (by decide) ?_
                refine lv_bipush (v := (7 : Int32)) hx hb dL_law_1006 (by decide) ?_
                refine lv_iload hx hb dL_law_1008 (lv_at hl 6 rfl) ?_
                refine lv_imul hx hb dL_law_1010 ?_
                refine lv_isub hx hb dL_law_1011 ?_
                refine lv_icmp_ne (tgt := 1129) hx hb dL_law_1012 (by decide) (fun hc40 => ?_) (fun hc40 => ?_)
                · have hF := am_neg hc40 hF
                  refine lv_iconst (v := (0 : Int32)) hx hb dL_law_1129 (by decide) ?_
                  cases hF
                · have hF := am_pos hc40 hF
                  refine lv_aload hx hb dL_law_1015 (lv_at hl 3 rfl) ?_
                  obtain ⟨r42, hk41, hF⟩ := am_bind hF
                  refine bm_call (ob := (adZ, abZ, w30)) hh [obW B (adX, abX, wX), obW B (adY, abY, wY)] [] rfl (va_runV (As := []) (rest := []) X.1 (c_X10_releaseTotal l (obG B (adZ, abZ, w30) (va_A (obW B (adZ, abZ, w30)) H.size)) hk41) (cwV 0 hts gL_law_X10_releaseTotal rfl rfl rfl (by decide +kernel) ⟨Nat.le_of_ble_eq_true rfl, Nat.le_of_ble_eq_true rfl⟩) (bm_preV (ob := (adZ, abZ, w30)) X hh [obW B (adX, abX, wX), obW B (adY, abY, wY)] [] rfl) rfl rfl hl.1 rfl (lv_room (Nat.le_of_ble_eq_true rfl)) dL_law_1017 ⟨by show ((((((cells + 2) + 2) + 2) + 2) + 2) + 3) + 0 ≤ 614784; omega, by show ((((((slots + 12) + 12) + 12) + 12) + 12) + 18) + 0 ≤ 7245417; omega⟩) (fun abZ H locs hh => ?_)
                  have hh : BH B s.heap [obW B (adX, abX, wX), obW B (adY, abY, wY), obW B (adZ, abZ, w30)] H locs := hh
                  refine lv_iconst (v := (1 : Int32)) hx hb dL_law_1020 (by decide) ?_
                  refine lv_icmp_ne (tgt := 1129) hx hb dL_law_1021 (by decide) (fun hc44 => ?_) (fun hc44 => ?_)
                  · have hF := am_neg hc44 hF
                    refine lv_iconst (v := (0 : Int32)) hx hb dL_law_1129 (by decide) ?_
                    cases hF
                  · have hF := am_pos hc44 hF
                    refine lv_aload hx hb dL_law_1024 (lv_at hl 3 rfl) ?_
                    obtain ⟨z47, hk45, hF⟩ := am_bind hF
                    obtain ⟨r46, hz48, hF⟩ := am_zn hF
                    subst hz48
                    refine bm_callX (ob := (adZ, abZ, w30)) hh [obW B (adX, abX, wX), obW B (adY, abY, wY)] [] rfl (vx_runV (As := []) (rest := []) X.1 (c_X10_meanTeeth l (obG B (adZ, abZ, w30) (va_A (obW B (adZ, abZ, w30)) H.size)) hst hk45) (cwV 0 hts gL_law_X10_meanTeeth rfl rfl rfl (by decide +kernel) ⟨Nat.le_of_ble_eq_true rfl, Nat.le_of_ble_eq_true rfl⟩) (bm_preV (ob := (adZ, abZ, w30)) X hh [obW B (adX, abX, wX), obW B (adY, abY, wY)] [] rfl) rfl rfl hl.1 rfl (lv_room (Nat.le_of_ble_eq_true rfl)) dL_law_1026 ⟨by show ((((((cells + 2) + 2) + 2) + 2) + 2) + 3) + 1 ≤ 614784; omega, by show ((((((slots + 12) + 12) + 12) + 12) + 12) + 18) + 6 ≤ 7245417; omega⟩) (fun abZ H locs hh => ?_)
                    have hh : BH B s.heap [obW B (adX, abX, wX), obW B (adY, abY, wY), obW B (adZ, abZ, w30)] H locs := hh
                    refine lv_ldc2d (v := (4629137466983448576 : UInt64)) hx hb hown (hts _ (wlw_3)) dL_law_1029 ?_
                    refine lv_dcmp hx hb dL_law_1032 ?_
                    refine lv_if_ne (tgt := 1129) hx hb dL_law_1033 (by decide) (fun hc49 => ?_) (fun hc49 => ?_)
                    · have hF := am_neg hc49 hF
                      refine lv_iconst (v := (0 : Int32)) hx hb dL_law_1129 (by decide) ?_
                      cases hF
                    · have hF := am_pos hc49 hF
                      refine lv_aload hx hb dL_law_1036 (lv_at hl 3 rfl) ?_
                      obtain ⟨z52, hk50, hF⟩ := am_bind hF
                      obtain ⟨r51, hz53, hF⟩ := am_zn hF
                      subst hz53
                      refine bm_callX (ob := (adZ, abZ, w30)) hh [obW B (adX, abX, wX), obW B (adY, abY, wY)] [] rfl (vx_runV (As := []) (rest := []) X.1 (c_X10_dryShare l (obG B (adZ, abZ, w30) (va_A (obW B (adZ, abZ, w30)) H.size)) hst hk50) (cwV 0 hts gL_law_X10_dryShare rfl rfl rfl (by decide +kernel) ⟨Nat.le_of_ble_eq_true rfl, Nat.le_of_ble_eq_true rfl⟩) (bm_preV (ob := (adZ, abZ, w30)) X hh [obW B (adX, abX, wX), obW B (adY, abY, wY)] [] rfl) rfl rfl hl.1 rfl (lv_room (Nat.le_of_ble_eq_true rfl)) dL_law_1038 ⟨by show (((((((cells + 2) + 2) + 2) + 2) + 2) + 3) + 1) + 1 ≤ 614784; omega, by show (((((((slots + 12) + 12) + 12) + 12) + 12) + 18) + 6) + 6 ≤ 7245417; omega⟩) (fun abZ H locs hh => ?_)
                      have hh : BH B s.heap [obW B (adX, abX, wX), obW B (adY, abY, wY), obW B (adZ, abZ, w30)] H locs := hh
                      refine lv_ldcwf (v := (1061158912 : UInt32)) hx hb hown (hts _ (wlw_4)) dL_law_1041 ?_
                      refine lv_fcmp hx hb dL_law_1044 ?_
                      refine lv_if_ne (tgt := 1129) hx hb dL_law_1045 (by decide) (fun hc54 => ?_) (fun hc54 => ?_)
                      · have hF := am_neg hc54 hF
                        refine lv_iconst (v := (0 : Int32)) hx hb dL_law_1129 (by decide) ?_
                        cases hF
                      · have hF := am_pos hc54 hF
                        cases hF
                        exact W.widen (by omega) (by omega) (kk abX abY abZ H locs ls hh (lv_sub hl [0, 1, 2, 3, 4, 5, 6] rfl))
def f_law_1095 (wX : Wd) (wY : Wd) (wZ : Wd) (l3 : Int32) (l4 : Int32) (l6 : Int32) : Option (Wd × Wd × Wd) := ((f_X10_renderGear wZ (1 : Int32)).bind fun z => u2 z fun z w3 => zc z (fun _ => none) (fun r2 => ((f_L_isText w3 r2 29).bind fun r7 => (if r7 = 0 then none else ((f_X10_renderTrain w3 (2 : Int32)).bind fun z => u2 z fun z w12 => zc z (fun _ => none) (fun r11 => ((f_L_isText w12 r11 30).bind fun r16 => (if r16 = 0 then none else (some (wX, wY, w12))))))))))
set_option maxHeartbeats 16000000 in
set_option maxRecDepth 100000 in
theorem c_law_1095 (l : Launch) (hst : l.stackTraces = false) {B : BP} {p : Program} {e : Env} {s : State} {m : MethodId} {args : Array Value} {below : List Frame} {meth : Method} {c : Code} {b cells slots abX abY abZ : Nat} {adX adY adZ : Nat → Nat} {H : Heap} {locs : List Loc} {ls : Array Slot} {wX wX1 wY wY1 wZ wZ1 : Wd} {l3 l4 l6 : Int32} {Q : State → Prop} (X : BX B p s m args meth c cL_law 8 RL wsL_lawQ) (hav : ∀ i, i < 31 → B.2.2 (300 + i) = 1) (hR : ∀ i, i < 31 → 13 ≤ i → vk_R "PlanetWorkshopLaw" (sW.getD i 0) (sX.getD i "") (B.2.2 (100 + i)) s) (hh : BH B s.heap [obW B (adX, abX, wX), obW B (adY, abY, wY), obW B (adZ, abZ, wZ)] H locs) (hc : cells + 95 ≤ 614784) (hs : slots + 3180 ≤ 7245417) (hl : lv_has ls 8 [(0, .ref b), (1, .ref (adX 0)), (2, .ref (adY 0)), (7, .ref (adZ 0)), (3, .int l3), (4, .int l4), (6, .int l6)]) (hF : f_law_1095 wX wY wZ l3 l4 l6 = some (wX1, wY1, wZ1)) (kk : ∀ (abX abY abZ : Nat) (H : Heap) (locs : List Loc) (ls : Array Slot), BH B s.heap [obW B (adX, abX, wX1), obW B (adY, abY, wY1), obW B (adZ, abZ, wZ1)] H locs → lv_has ls 8 [(0, .ref b), (1, .ref (adX 0)), (2, .ref (adY 0)), (7, .ref (adZ 0)), (3, .int l3), (4, .int l4), (6, .int l6)] → W p l e room_1 s m args below meth c H locs (cells + 95) (slots + 3180) Q (F0 m 1131 ls [])) : W p l e room_1 s m args below meth c H locs cells slots Q (F0 m 1095 ls []) := by
  have hx := X.1.1; have hb := X.1.2.1; have hml := X.1.2.2.1; have hown := X.1.2.2.2.1; have hts := X.1.2.2.2.2
  unfold f_law_1095 at hF
  refine lv_aload hx hb dL_law_1095 (lv_at hl 3 rfl) ?_
  refine lv_aload hx hb dL_law_1097 (lv_at hl 3 rfl) ?_
  refine lv_iconst (v := (1 : Int32)) hx hb dL_law_1099 (by decide) ?_
  obtain ⟨⟨z4, w3⟩, hk1, hF⟩ := am_bind hF
  have hF := am_u2 hF
  obtain ⟨r2, hz5, hF⟩ := am_zn hF
  subst hz5
  refine bm_callX (ob := (adZ, abZ, wZ)) hh [obW B (adX, abX, wX), obW B (adY, abY, wY)] [] rfl (vx_runV (As := [.int (1 : Int32)]) (rest := [.ref (adZ 0)]) X.1 (c_X10_renderGear l (obG B (adZ, abZ, wZ) (va_A (obW B (adZ, abZ, wZ)) H.size)) hst hk1) (cwV 1 hts gL_law_X10_renderGear rfl rfl rfl (by decide +kernel) ⟨Nat.le_of_ble_eq_true rfl, Nat.le_of_ble_eq_true rfl⟩) (bm_preV (ob := (adZ, abZ, wZ)) X hh [obW B (adX, abX, wX), obW B (adY, abY, wY)] [] rfl) rfl rfl hl.1 rfl (lv_room (Nat.le_of_ble_eq_true rfl)) dL_law_1100 ⟨by show cells + 12 ≤ 614784; omega, by show slots + 710 ≤ 7245417; omega⟩) (fun abZ H locs hh => ?_)
  have hh : BH B s.heap [obW B (adX, abX, wX), obW B (adY, abY, wY), obW B (adZ, abZ, w3)] H locs := hh
  refine lv_ldcwS hx hb hown (hR 29 (by decide) (by decide)) dL_law_1103 ?_
  obtain ⟨r7, hk6, hF⟩ := am_bind hF
  refine bm_call (ob := (adZ, abZ, w3)) hh [obW B (adX, abX, wX), obW B (adY, abY, wY)] [] rfl (va_runS (As := [.ref (adZ 0), .int r2, .ref (B.2.2 (100 + 29))]) (rest := []) X.1 (c_L_isText l (obG B (adZ, abZ, w3) (va_A (obW B (adZ, abZ, w3)) H.size)) hst (hav 29 (by decide)) hk6) (va_cwS 3 hts gL_law_L_isText rfl rfl rfl (by decide +kernel) ⟨Nat.le_of_ble_eq_true rfl, Nat.le_of_ble_eq_true rfl⟩) (bm_preS (ob := (adZ, abZ, w3)) X hh [obW B (adX, abX, wX), obW B (adY, abY, wY)] [] rfl) rfl rfl hl.1 rfl (lv_room (Nat.le_of_ble_eq_true rfl)) dL_law_1106 ⟨by show (cells + 12) + 24 ≤ 614784; omega, by show (slots + 710) + 144 ≤ 7245417; omega⟩) (fun abZ H locs hh => ?_)
  have hh : BH B s.heap [obW B (adX, abX, wX), obW B (adY, abY, wY), obW B (adZ, abZ, w3)] H locs := hh
  refine lv_if_eq (tgt := 1129) hx hb dL_law_1109 (by decide) (fun hc9 => ?_) (fun hc9 => ?_)
  · have hF := am_pos hc9 hF
    refine lv_iconst (v := (0 : Int32)) hx hb dL_law_1129 (by decide) ?_
    cases hF
  · have hF := am_neg hc9 hF
    refine lv_aload hx hb dL_law_1112 (lv_at hl 3 rfl) ?_
    refine lv_aload hx hb dL_law_1114 (lv_at hl 3 rfl) ?_
    refine lv_iconst (v := (2 : Int32)) hx hb dL_law_1116 (by decide) ?_
    obtain ⟨⟨z13, w12⟩, hk10, hF⟩ := am_bind hF
    have hF := am_u2 hF
    obtain ⟨r11, hz14, hF⟩ := am_zn hF
    subst hz14
    refine bm_callX (ob := (adZ, abZ, w3)) hh [obW B (adX, abX, wX), obW B (adY, abY, wY)] [] rfl (vx_runV (As := [.int (2 : Int32)]) (rest := [.ref (adZ 0)]) X.1 (c_X10_renderTrain l (obG B (adZ, abZ, w3) (va_A (obW B (adZ, abZ, w3)) H.size)) hst hk10) (cwV 1 hts gL_law_X10_renderTrain rfl rfl rfl (by decide +kernel) ⟨Nat.le_of_ble_eq_true rfl, Nat.le_of_ble_eq_true rfl⟩) (bm_preV (ob := (adZ, abZ, w3)) X hh [obW B (adX, abX, wX), obW B (adY, abY, wY)] [] rfl) rfl rfl hl.1 rfl (lv_room (Nat.le_of_ble_eq_true rfl)) dL_law_1117 ⟨by show ((cells + 12) + 24) + 35 ≤ 614784; omega, by show ((slots + 710) + 144) + 2182 ≤ 7245417; omega⟩) (fun abZ H locs hh => ?_)
    have hh : BH B s.heap [obW B (adX, abX, wX), obW B (adY, abY, wY), obW B (adZ, abZ, w12)] H locs := hh
    refine lv_ldcwS hx hb hown (hR 30 (by decide) (by decide)) dL_law_1120 ?_
    obtain ⟨r16, hk15, hF⟩ := am_bind hF
    refine bm_call (ob := (adZ, abZ, w12)) hh [obW B (adX, abX, wX), obW B (adY, abY, wY)] [] rfl (va_runS (As := [.ref (adZ 0), .int r11, .ref (B.2.2 (100 + 30))]) (rest := []) X.1 (c_L_isText l (obG B (adZ, abZ, w12) (va_A (obW B (adZ, abZ, w12)) H.size)) hst (hav 30 (by decide)) hk15) (va_cwS 3 hts gL_law_L_isText rfl rfl rfl (by decide +kernel) ⟨Nat.le_of_ble_eq_true rfl, Nat.le_of_ble_eq_true rfl⟩) (bm_preS (ob := (adZ, abZ, w12)) X hh [obW B (adX, abX, wX), obW B (adY, abY, wY)] [] rfl) rfl rfl hl.1 rfl (lv_room (Nat.le_of_ble_eq_true rfl)) dL_law_1123 ⟨by show (((cells + 12) + 24) + 35) + 24 ≤ 614784; omega, by show (((slots + 710) + 144) + 2182) + 144 ≤ 7245417; omega⟩) (fun abZ H locs hh => ?_)
    have hh : BH B s.heap [obW B (adX, abX, wX), obW B (adY, abY, wY), obW B (adZ, abZ, w12)] H locs := hh
    refine lv_if_ne (tgt := 1131) hx hb dL_law_1126 (by decide) (fun hc18 => ?_) (fun hc18 => ?_)
    · have hF := am_neg hc18 hF
      cases hF
      exact W.widen (by omega) (by omega) (kk abX abY abZ H locs ls hh (lv_sub hl [0, 1, 2, 3, 4, 5, 6] rfl))
    · have hF := am_pos hc18 hF
      refine lv_iconst (v := (0 : Int32)) hx hb dL_law_1129 (by decide) ?_
      cases hF
def f_law_1131 (wX : Wd) (wY : Wd) (wZ : Wd) (l3 : Int32) (l4 : Int32) (l6 : Int32) : Option (Wd × Wd × Wd) := ((f_X10_release wZ (0 : Int32) (20 : Int32)).bind fun z => u2 z fun z w3 => zc z (fun _ => none) (fun r2 => (if r2 = ((12 : Int32) - l6) then ((f_X10_isDry w3 (1 : Int32)).bind fun z => zc z (fun _ => none) (fun r8 => (if r8 = 0 then none else ((f_X10_tension w3 (0 : Int32)).bind fun z => zc z (fun _ => none) (fun r13 => (if r13 = (6 : Int32) then ((f_X10_releaseTotal w3).bind fun r18 => (if r18 = (2 : Int32) then ((f_X10_friction w3 (3 : Int32)).bind fun z => u2 z fun z w23 => zc z (fun _ => none) (fun r22 => (if r22 = (8 : Int32) then ((f_X10_release w23 (0 : Int32) (1 : Int32)).bind fun z => u2 z fun z w29 => zc z (fun _ => none) (fun r28 => (if r28 = 0 then ((f_X10_releaseTotal w29).bind fun r34 => (if r34 = (2 : Int32) then ((f_X10_separate w29 (2 : Int32) (1 : Int32)).bind fun z => u2 z fun z w39 => zc z (fun _ => none) (fun r38 => (if r38 = (2 : Int32) then ((f_X10_trainSize w39 (3 : Int32)).bind fun z => u2 z fun z w45 => zc z (fun _ => none) (fun r44 => (if r44 = (2 : Int32) then ((f_X10_areInTrain w45 (0 : Int32) (3 : Int32)).bind fun z => u2 z fun z w51 => zc z (fun _ => none) (fun r50 => (if r50 = 0 then ((f_L_act w51 (16 : Int32) (3 : Int32) (0 : Int32)).bind fun z => u2 z fun r56 w57 => (if r56 = (-5 : Int32) then ((f_X10_setSpring w57 (2 : Int32) (10 : Int32)).bind fun z => u2 z fun z w62 => zc z (fun _ => none) (fun r61 => (if r61 = (2 : Int32) then ((f_X10_wind w62 (2 : Int32) (4 : Int32)).bind fun z => u2 z fun z w68 => zc z (fun _ => none) (fun r67 => (if r67 = (4 : Int32) then ((f_X10_turnsLeft w68 (2 : Int32)).bind fun z => u2 z fun z w74 => zc z (fun _ => none) (fun r73 => (if r73 = (1 : Int32) then ((f_X10_release w74 (2 : Int32) (1 : Int32)).bind fun z => u2 z fun z w80 => zc z (fun _ => none) (fun r79 => (if r79 = (1 : Int32) then ((f_X10_angle w80 (3 : Int32)).bind fun z => zc z (fun _ => none) (fun r85 => (if r85 = (16588800000 : Int64) then ((f_X10_angle w80 (2 : Int32)).bind fun z => zc z (fun _ => none) (fun r90 => (if r90 = (0 : Int64) then ((f_L_act w80 (1 : Int32) (0 : Int32) (3 : Int32)).bind fun z => u2 z fun r95 w96 => (if r95 = (-3 : Int32) then ((f_L_eclipse w96 (0 : Int32) (0 : Int32) (1 : Int32) (2 : Int32)).bind fun z => u2 z fun r100 w101 => (if r100 = (-3 : Int32) then ((f_X10_tensionTotal w101).bind fun r105 => (if r105 = (6 : Int32) then ((f_X10_undo w101).bind fun z => u2 z fun z w110 => zc z (fun _ => none) (fun r109 => (if r109 < 0 then none else ((f_X10_angle w110 (3 : Int32)).bind fun z => zc z (fun _ => none) (fun r115 => (if r115 = (0 : Int64) then ((f_X10_isConsistent w110).bind fun z => u2 z fun r120 w121 => (if r120 = 0 then none else (some (wX, wY, w121)))) else none)))))) else none)) else none)) else none)) else none))) else none))) else none))) else none))) else none))) else none))) else none)) else none))) else none))) else none))) else none)) else none))) else none))) else none)) else none)))))) else none)))
set_option maxHeartbeats 16000000 in
set_option maxRecDepth 100000 in
theorem c_law_1131 (l : Launch) (hst : l.stackTraces = false) {B : BP} {p : Program} {e : Env} {s : State} {m : MethodId} {args : Array Value} {below : List Frame} {meth : Method} {c : Code} {b cells slots abX abY abZ : Nat} {adX adY adZ : Nat → Nat} {H : Heap} {locs : List Loc} {ls : Array Slot} {wX wX1 wY wY1 wZ wZ1 : Wd} {l3 l4 l6 : Int32} {Q : State → Prop} (X : BX B p s m args meth c cL_law 8 RL wsL_lawQ) (hav : ∀ i, i < 31 → B.2.2 (300 + i) = 1) (hR : ∀ i, i < 31 → 13 ≤ i → vk_R "PlanetWorkshopLaw" (sW.getD i 0) (sX.getD i "") (B.2.2 (100 + i)) s) (hh : BH B s.heap [obW B (adX, abX, wX), obW B (adY, abY, wY), obW B (adZ, abZ, wZ)] H locs) (hc : cells + 27 ≤ 614784) (hs : slots + 162 ≤ 7245417) (hl : lv_has ls 8 [(0, .ref b), (1, .ref (adX 0)), (2, .ref (adY 0)), (7, .ref (adZ 0)), (3, .int l3), (4, .int l4), (6, .int l6)]) (hF : f_law_1131 wX wY wZ l3 l4 l6 = some (wX1, wY1, wZ1)) (kk : ∀ (abX abY abZ : Nat) (H : Heap) (locs : List Loc) (ls : Array Slot), BH B s.heap [obW B (adX, abX, wX1), obW B (adY, abY, wY1), obW B (adZ, abZ, wZ1)] H locs → lv_has ls 8 [(0, .ref b), (1, .ref (adX 0)), (2, .ref (adY 0)), (7, .ref (adZ 0)), (3, .int l3), (4, .int l4), (6, .int l6)] → W p l e room_1 s m args below meth c H locs (cells + 27) (slots + 162) Q (F0 m 1385 ls [])) : W p l e room_1 s m args below meth c H locs cells slots Q (F0 m 1131 ls []) := by
  have hx := X.1.1; have hb := X.1.2.1; have hml := X.1.2.2.1; have hown := X.1.2.2.2.1; have hts := X.1.2.2.2.2
  unfold f_law_1131 at hF
  refine lv_aload hx hb dL_law_1131 (lv_at hl 3 rfl) ?_
  refine lv_iconst (v := (0 : Int32)) hx hb dL_law_1133 (by decide) ?_
  refine lv_bipush (v := (20 : Int32)) hx hb dL_law_1134 (by decide) ?_
  obtain ⟨⟨z4, w3⟩, hk1, hF⟩ := am_bind hF
  have hF := am_u2 hF
  obtain ⟨r2, hz5, hF⟩ := am_zn hF
  subst hz5
  refine bm_callX (ob := (adZ, abZ, wZ)) hh [obW B (adX, abX, wX), obW B (adY, abY, wY)] [] rfl (vx_runV (As := [.int (0 : Int32), .int (20 : Int32)]) (rest := []) X.1 (c_X10_release l (obG B (adZ, abZ, wZ) (va_A (obW B (adZ, abZ, wZ)) H.size)) hst hk1) (cwV 2 hts gL_law_X10_release rfl rfl rfl (by decide +kernel) ⟨Nat.le_of_ble_eq_true rfl, Nat.le_of_ble_eq_true rfl⟩) (bm_preV (ob := (adZ, abZ, wZ)) X hh [obW B (adX, abX, wX), obW B (adY, abY, wY)] [] rfl) rfl rfl hl.1 rfl (lv_room (Nat.le_of_ble_eq_true rfl)) dL_law_1136 ⟨by show cells + 1 ≤ 614784; omega, by show slots + 6 ≤ 7245417; omega⟩) (fun abZ H locs hh => ?_)
  have hh : BH B s.heap [obW B (adX, abX, wX), obW B (adY, abY, wY), obW B (adZ, abZ, w3)] H locs := hh
  refine lv_bipush (v := (12 : Int32)) hx hb dL_law_1139 (by decide) ?_
  refine lv_iload hx hb dL_law_1141 (lv_at hl 6 rfl) ?_
  refine lv_isub hx hb dL_law_1143 ?_
  refine lv_icmp_ne (tgt := 1383) hx hb dL_law_1144 (by decide) (fun hc6 => ?_) (fun hc6 => ?_)
  · have hF := am_neg hc6 hF
    refine lv_iconst (v := (0 : Int32)) hx hb dL_law_1383 (by decide) ?_
    cases hF
  · have hF := am_pos hc6 hF
    refine lv_aload hx hb dL_law_1147 (lv_at hl 3 rfl) ?_
    refine lv_iconst (v := (1 : Int32)) hx hb dL_law_1149 (by decide) ?_
    obtain ⟨z9, hk7, hF⟩ := am_bind hF
    obtain ⟨r8, hz10, hF⟩ := am_zn hF
    subst hz10
    refine bm_callX (ob := (adZ, abZ, w3)) hh [obW B (adX, abX, wX), obW B (adY, abY, wY)] [] rfl (vx_runV (As := [.int (1 : Int32)]) (rest := []) X.1 (c_X10_isDry l (obG B (adZ, abZ, w3) (va_A (obW B (adZ, abZ, w3)) H.size)) hst hk7) (cwV 1 hts gL_law_X10_isDry rfl rfl rfl (by decide +kernel) ⟨Nat.le_of_ble_eq_true rfl, Nat.le_of_ble_eq_true rfl⟩) (bm_preV (ob := (adZ, abZ, w3)) X hh [obW B (adX, abX, wX), obW B (adY, abY, wY)] [] rfl) rfl rfl hl.1 rfl (lv_room (Nat.le_of_ble_eq_true rfl)) dL_law_1150 ⟨by show (cells + 1) + 1 ≤ 614784; omega, by show (slots + 6) + 6 ≤ 7245417; omega⟩) (fun abZ H locs hh => ?_)
    have hh : BH B s.heap [obW B (adX, abX, wX), obW B (adY, abY, wY), obW B (adZ, abZ, w3)] H locs := hh
    refine lv_if_eq (tgt := 1383) hx hb dL_law_1153 (by decide) (fun hc11 => ?_) (fun hc11 => ?_)
    · have hF := am_pos hc11 hF
      refine lv_iconst (v := (0 : Int32)) hx hb dL_law_1383 (by decide) ?_
      cases hF
    · have hF := am_neg hc11 hF
      refine lv_aload hx hb dL_law_1156 (lv_at hl 3 rfl) ?_
      refine lv_iconst (v := (0 : Int32)) hx hb dL_law_1158 (by decide) ?_
      obtain ⟨z14, hk12, hF⟩ := am_bind hF
      obtain ⟨r13, hz15, hF⟩ := am_zn hF
      subst hz15
      refine bm_callX (ob := (adZ, abZ, w3)) hh [obW B (adX, abX, wX), obW B (adY, abY, wY)] [] rfl (vx_runV (As := [.int (0 : Int32)]) (rest := []) X.1 (c_X10_tension l (obG B (adZ, abZ, w3) (va_A (obW B (adZ, abZ, w3)) H.size)) hst hk12) (cwV 1 hts gL_law_X10_tension rfl rfl rfl (by decide +kernel) ⟨Nat.le_of_ble_eq_true rfl, Nat.le_of_ble_eq_true rfl⟩) (bm_preV (ob := (adZ, abZ, w3)) X hh [obW B (adX, abX, wX), obW B (adY, abY, wY)] [] rfl) rfl rfl hl.1 rfl (lv_room (Nat.le_of_ble_eq_true rfl)) dL_law_1159 ⟨by show ((cells + 1) + 1) + 2 ≤ 614784; omega, by show ((slots + 6) + 6) + 12 ≤ 7245417; omega⟩) (fun abZ H locs hh => ?_)
      have hh : BH B s.heap [obW B (adX, abX, wX), obW B (adY, abY, wY), obW B (adZ, abZ, w3)] H locs := hh
      refine lv_bipush (v := (6 : Int32)) hx hb dL_law_1162 (by decide) ?_
      refine lv_icmp_ne (tgt := 1383) hx hb dL_law_1164 (by decide) (fun hc16 => ?_) (fun hc16 => ?_)
      · have hF := am_neg hc16 hF
        refine lv_iconst (v := (0 : Int32)) hx hb dL_law_1383 (by decide) ?_
        cases hF
      · have hF := am_pos hc16 hF
        refine lv_aload hx hb dL_law_1167 (lv_at hl 3 rfl) ?_
        obtain ⟨r18, hk17, hF⟩ := am_bind hF
        refine bm_call (ob := (adZ, abZ, w3)) hh [obW B (adX, abX, wX), obW B (adY, abY, wY)] [] rfl (va_runV (As := []) (rest := []) X.1 (c_X10_releaseTotal l (obG B (adZ, abZ, w3) (va_A (obW B (adZ, abZ, w3)) H.size)) hk17) (cwV 0 hts gL_law_X10_releaseTotal rfl rfl rfl (by decide +kernel) ⟨Nat.le_of_ble_eq_true rfl, Nat.le_of_ble_eq_true rfl⟩) (bm_preV (ob := (adZ, abZ, w3)) X hh [obW B (adX, abX, wX), obW B (adY, abY, wY)] [] rfl) rfl rfl hl.1 rfl (lv_room (Nat.le_of_ble_eq_true rfl)) dL_law_1169 ⟨by show (((cells + 1) + 1) + 2) + 0 ≤ 614784; omega, by show (((slots + 6) + 6) + 12) + 0 ≤ 7245417; omega⟩) (fun abZ H locs hh => ?_)
        have hh : BH B s.heap [obW B (adX, abX, wX), obW B (adY, abY, wY), obW B (adZ, abZ, w3)] H locs := hh
        refine lv_iconst (v := (2 : Int32)) hx hb dL_law_1172 (by decide) ?_
        refine lv_icmp_ne (tgt := 1383) hx hb dL_law_1173 (by decide) (fun hc20 => ?_) (fun hc20 => ?_)
        · have hF := am_neg hc20 hF
          refine lv_iconst (v := (0 : Int32)) hx hb dL_law_1383 (by decide) ?_
          cases hF
        · have hF := am_pos hc20 hF
          refine lv_aload hx hb dL_law_1176 (lv_at hl 3 rfl) ?_
          refine lv_iconst (v := (3 : Int32)) hx hb dL_law_1178 (by decide) ?_
          obtain ⟨⟨z24, w23⟩, hk21, hF⟩ := am_bind hF
          have hF := am_u2 hF
          obtain ⟨r22, hz25, hF⟩ := am_zn hF
          subst hz25
          refine bm_callX (ob := (adZ, abZ, w3)) hh [obW B (adX, abX, wX), obW B (adY, abY, wY)] [] rfl (vx_runV (As := [.int (3 : Int32)]) (rest := []) X.1 (c_X10_friction l (obG B (adZ, abZ, w3) (va_A (obW B (adZ, abZ, w3)) H.size)) hst hk21) (cwV 1 hts gL_law_X10_friction rfl rfl rfl (by decide +kernel) ⟨Nat.le_of_ble_eq_true rfl, Nat.le_of_ble_eq_true rfl⟩) (bm_preV (ob := (adZ, abZ, w3)) X hh [obW B (adX, abX, wX), obW B (adY, abY, wY)] [] rfl) rfl rfl hl.1 rfl (lv_room (Nat.le_of_ble_eq_true rfl)) dL_law_1179 ⟨by show (((cells + 1) + 1) + 2) + 1 ≤ 614784; omega, by show (((slots + 6) + 6) + 12) + 6 ≤ 7245417; omega⟩) (fun abZ H locs hh => ?_)
          have hh : BH B s.heap [obW B (adX, abX, wX), obW B (adY, abY, wY), obW B (adZ, abZ, w23)] H locs := hh
          refine lv_bipush (v := (8 : Int32)) hx hb dL_law_1182 (by decide) ?_
          refine lv_icmp_ne (tgt := 1383) hx hb dL_law_1184 (by decide) (fun hc26 => ?_) (fun hc26 => ?_)
          · have hF := am_neg hc26 hF
            refine lv_iconst (v := (0 : Int32)) hx hb dL_law_1383 (by decide) ?_
            cases hF
          · have hF := am_pos hc26 hF
            refine lv_aload hx hb dL_law_1187 (lv_at hl 3 rfl) ?_
            refine lv_iconst (v := (0 : Int32)) hx hb dL_law_1189 (by decide) ?_
            refine lv_iconst (v := (1 : Int32)) hx hb dL_law_1190 (by decide) ?_
            obtain ⟨⟨z30, w29⟩, hk27, hF⟩ := am_bind hF
            have hF := am_u2 hF
            obtain ⟨r28, hz31, hF⟩ := am_zn hF
            subst hz31
            refine bm_callX (ob := (adZ, abZ, w23)) hh [obW B (adX, abX, wX), obW B (adY, abY, wY)] [] rfl (vx_runV (As := [.int (0 : Int32), .int (1 : Int32)]) (rest := []) X.1 (c_X10_release l (obG B (adZ, abZ, w23) (va_A (obW B (adZ, abZ, w23)) H.size)) hst hk27) (cwV 2 hts gL_law_X10_release rfl rfl rfl (by decide +kernel) ⟨Nat.le_of_ble_eq_true rfl, Nat.le_of_ble_eq_true rfl⟩) (bm_preV (ob := (adZ, abZ, w23)) X hh [obW B (adX, abX, wX), obW B (adY, abY, wY)] [] rfl) rfl rfl hl.1 rfl (lv_room (Nat.le_of_ble_eq_true rfl)) dL_law_1191 ⟨by show ((((cells + 1) + 1) + 2) + 1) + 1 ≤ 614784; omega, by show ((((slots + 6) + 6) + 12) + 6) + 6 ≤ 7245417; omega⟩) (fun abZ H locs hh => ?_)
            have hh : BH B s.heap [obW B (adX, abX, wX), obW B (adY, abY, wY), obW B (adZ, abZ, w29)] H locs := hh
            refine lv_if_ne (tgt := 1383) hx hb dL_law_1194 (by decide) (fun hc32 => ?_) (fun hc32 => ?_)
            · have hF := am_neg hc32 hF
              refine lv_iconst (v := (0 : Int32)) hx hb dL_law_1383 (by decide) ?_
              cases hF
            · have hF := am_pos hc32 hF
              refine lv_aload hx hb dL_law_1197 (lv_at hl 3 rfl) ?_
              obtain ⟨r34, hk33, hF⟩ := am_bind hF
              refine bm_call (ob := (adZ, abZ, w29)) hh [obW B (adX, abX, wX), obW B (adY, abY, wY)] [] rfl (va_runV (As := []) (rest := []) X.1 (c_X10_releaseTotal l (obG B (adZ, abZ, w29) (va_A (obW B (adZ, abZ, w29)) H.size)) hk33) (cwV 0 hts gL_law_X10_releaseTotal rfl rfl rfl (by decide +kernel) ⟨Nat.le_of_ble_eq_true rfl, Nat.le_of_ble_eq_true rfl⟩) (bm_preV (ob := (adZ, abZ, w29)) X hh [obW B (adX, abX, wX), obW B (adY, abY, wY)] [] rfl) rfl rfl hl.1 rfl (lv_room (Nat.le_of_ble_eq_true rfl)) dL_law_1199 ⟨by show (((((cells + 1) + 1) + 2) + 1) + 1) + 0 ≤ 614784; omega, by show (((((slots + 6) + 6) + 12) + 6) + 6) + 0 ≤ 7245417; omega⟩) (fun abZ H locs hh => ?_)
              have hh : BH B s.heap [obW B (adX, abX, wX), obW B (adY, abY, wY), obW B (adZ, abZ, w29)] H locs := hh
              refine lv_iconst (v := (2 : Int32)) hx hb dL_law_1202 (by decide) ?_
              refine lv_icmp_ne (tgt := 1383) hx hb dL_law_1203 (by decide) (fun hc36 => ?_) (fun hc36 => ?_)
              · have hF := am_neg hc36 hF
                refine lv_iconst (v := (0 : Int32)) hx hb dL_law_1383 (by decide) ?_
                cases hF
              · have hF := am_pos hc36 hF
                refine lv_aload hx hb dL_law_1206 (lv_at hl 3 rfl) ?_
                refine lv_iconst (v := (2 : Int32)) hx hb dL_law_1208 (by decide) ?_
                refine lv_iconst (v := (1 : Int32)) hx hb dL_law_1209 (by decide) ?_
                obtain ⟨⟨z40, w39⟩, hk37, hF⟩ := am_bind hF
                have hF := am_u2 hF
                obtain ⟨r38, hz41, hF⟩ := am_zn hF
                subst hz41
                refine bm_callX (ob := (adZ, abZ, w29)) hh [obW B (adX, abX, wX), obW B (adY, abY, wY)] [] rfl (vx_runV (As := [.int (2 : Int32), .int (1 : Int32)]) (rest := []) X.1 (c_X10_separate l (obG B (adZ, abZ, w29) (va_A (obW B (adZ, abZ, w29)) H.size)) hst hk37) (cwV 2 hts gL_law_X10_separate rfl rfl rfl (by decide +kernel) ⟨Nat.le_of_ble_eq_true rfl, Nat.le_of_ble_eq_true rfl⟩) (bm_preV (ob := (adZ, abZ, w29)) X hh [obW B (adX, abX, wX), obW B (adY, abY, wY)] [] rfl) rfl rfl hl.1 rfl (lv_room (Nat.le_of_ble_eq_true rfl)) dL_law_1210 ⟨by show (((((cells + 1) + 1) + 2) + 1) + 1) + 1 ≤ 614784; omega, by show (((((slots + 6) + 6) + 12) + 6) + 6) + 6 ≤ 7245417; omega⟩) (fun abZ H locs hh => ?_)
                have hh : BH B s.heap [obW B (adX, abX, wX), obW B (adY, abY, wY), obW B (adZ, abZ, w39)] H locs := hh
                refine lv_iconst (v := (2 : Int32)) hx hb dL_law_1213 (by decide) ?_
                refine lv_icmp_ne (tgt := 1383) hx hb dL_law_1214 (by decide) (fun hc42 => ?_) (fun hc42 => ?_)
                · have hF := am_neg hc42 hF
                  refine lv_iconst (v := (0 : Int32)) hx hb dL_law_1383 (by decide) ?_
                  cases hF
                · have hF := am_pos hc42 hF
                  refine lv_aload hx hb dL_law_1217 (lv_at hl 3 rfl) ?_
                  refine lv_iconst (v := (3 : Int32)) hx hb dL_law_1219 (by decide) ?_
                  obtain ⟨⟨z46, w45⟩, hk43, hF⟩ := am_bind hF
                  have hF := am_u2 hF
                  obtain ⟨r44, hz47, hF⟩ := am_zn hF
                  subst hz47
                  refine bm_callX (ob := (adZ, abZ, w39)) hh [obW B (adX, abX, wX), obW B (adY, abY, wY)] [] rfl (vx_runV (As := [.int (3 : Int32)]) (rest := []) X.1 (c_X10_trainSize l (obG B (adZ, abZ, w39) (va_A (obW B (adZ, abZ, w39)) H.size)) hst hk43) (cwV 1 hts gL_law_X10_trainSize rfl rfl rfl (by decide +kernel) ⟨Nat.le_of_ble_eq_true rfl, Nat.le_of_ble_eq_true rfl⟩) (bm_preV (ob := (adZ, abZ, w39)) X hh [obW B (adX, abX, wX), obW B (adY, abY, wY)] [] rfl) rfl rfl hl.1 rfl (lv_room (Nat.le_of_ble_eq_true rfl)) dL_law_1220 ⟨by show ((((((cells + 1) + 1) + 2) + 1) + 1) + 1) + 1 ≤ 614784; omega, by show ((((((slots + 6) + 6) + 12) + 6) + 6) + 6) + 6 ≤ 7245417; omega⟩) (fun abZ H locs hh => ?_)
                  have hh : BH B s.heap [obW B (adX, abX, wX), obW B (adY, abY, wY), obW B (adZ, abZ, w45)] H locs := hh
                  refine lv_iconst (v := (2 : Int32)) hx hb dL_law_1223 (by decide) ?_
                  refine lv_icmp_ne (tgt := 1383) hx hb dL_law_1224 (by decide) (fun hc48 => ?_) (fun hc48 => ?_)
                  · have hF := am_neg hc48 hF
                    refine lv_iconst (v := (0 : Int32)) hx hb dL_law_1383 (by decide) ?_
                    cases hF
                  · have hF := am_pos hc48 hF
                    refine lv_aload hx hb dL_law_1227 (lv_at hl 3 rfl) ?_
                    refine lv_iconst (v := (0 : Int32)) hx hb dL_law_1229 (by decide) ?_
                    refine lv_iconst (v := (3 : Int32)) hx hb dL_law_1230 (by decide) ?_
                    obtain ⟨⟨z52, w51⟩, hk49, hF⟩ := am_bind hF
                    have hF := am_u2 hF
                    obtain ⟨r50, hz53, hF⟩ := am_zn hF
                    subst hz53
                    refine bm_callX (ob := (adZ, abZ, w45)) hh [obW B (adX, abX, wX), obW B (adY, abY, wY)] [] rfl (vx_runV (As := [.int (0 : Int32), .int (3 : Int32)]) (rest := []) X.1 (c_X10_areInTrain l (obG B (adZ, abZ, w45) (va_A (obW B (adZ, abZ, w45)) H.size)) hst hk49) (cwV 2 hts gL_law_X10_areInTrain rfl rfl rfl (by decide +kernel) ⟨Nat.le_of_ble_eq_true rfl, Nat.le_of_ble_eq_true rfl⟩) (bm_preV (ob := (adZ, abZ, w45)) X hh [obW B (adX, abX, wX), obW B (adY, abY, wY)] [] rfl) rfl rfl hl.1 rfl (lv_room (Nat.le_of_ble_eq_true rfl)) dL_law_1231 ⟨by show (((((((cells + 1) + 1) + 2) + 1) + 1) + 1) + 1) + 2 ≤ 614784; omega, by show (((((((slots + 6) + 6) + 12) + 6) + 6) + 6) + 6) + 12 ≤ 7245417; omega⟩) (fun abZ H locs hh => ?_)
                    have hh : BH B s.heap [obW B (adX, abX, wX), obW B (adY, abY, wY), obW B (adZ, abZ, w51)] H locs := hh
                    refine lv_if_ne (tgt := 1383) hx hb dL_law_1234 (by decide) (fun hc54 => ?_) (fun hc54 => ?_)
                    · have hF := am_neg hc54 hF
                      refine lv_iconst (v := (0 : Int32)) hx hb dL_law_1383 (by decide) ?_
                      cases hF
                    · have hF := am_pos hc54 hF
                      refine lv_aload hx hb dL_law_1237 (lv_at hl 3 rfl) ?_
                      refine lv_bipush (v := (16 : Int32)) hx hb dL_law_1239 (by decide) ?_
                      refine lv_iconst (v := (3 : Int32)) hx hb dL_law_1241 (by decide) ?_
                      refine lv_iconst (v := (0 : Int32)) hx hb dL_law_1242 (by decide) ?_
                      obtain ⟨⟨r56, w57⟩, hk55, hF⟩ := am_bind hF
                      have hF := am_u2 hF
                      refine bm_callW (ob := (adZ, abZ, w51)) hh [obW B (adX, abX, wX), obW B (adY, abY, wY)] [] rfl (vx_runSX (As := [.ref (adZ 0), .int (16 : Int32), .int (3 : Int32), .int (0 : Int32)]) (rest := []) X.1 (c_L_act l (obG B (adZ, abZ, w51) (va_A (obW B (adZ, abZ, w51)) H.size)) hst hk55) (vx_cwSW 4 hts gL_law_L_act rfl rfl rfl (by decide +kernel) ⟨Nat.le_of_ble_eq_true rfl, Nat.le_of_ble_eq_true rfl⟩) (bm_preS (ob := (adZ, abZ, w51)) X hh [obW B (adX, abX, wX), obW B (adY, abY, wY)] [] rfl) rfl rfl hl.1 rfl (lv_room (Nat.le_of_ble_eq_true rfl)) dL_law_1243 ⟨by show ((((((((cells + 1) + 1) + 2) + 1) + 1) + 1) + 1) + 2) + 3 ≤ 614784; omega, by show ((((((((slots + 6) + 6) + 12) + 6) + 6) + 6) + 6) + 12) + 18 ≤ 7245417; omega⟩) (fun abZ H locs hh => ?_)
                      have hh : BH B s.heap [obW B (adX, abX, wX), obW B (adY, abY, wY), obW B (adZ, abZ, w57)] H locs := hh
                      refine lv_bipush (v := (-5 : Int32)) hx hb dL_law_1246 (by decide) ?_
                      refine lv_icmp_ne (tgt := 1383) hx hb dL_law_1248 (by decide) (fun hc59 => ?_) (fun hc59 => ?_)
                      · have hF := am_neg hc59 hF
                        refine lv_iconst (v := (0 : Int32)) hx hb dL_law_1383 (by decide) ?_
                        cases hF
                      · have hF := am_pos hc59 hF
                        refine lv_aload hx hb dL_law_1251 (lv_at hl 3 rfl) ?_
                        refine lv_iconst (v := (2 : Int32)) hx hb dL_law_1253 (by decide) ?_
                        refine lv_bipush (v := (10 : Int32)) hx hb dL_law_1254 (by decide) ?_
                        obtain ⟨⟨z63, w62⟩, hk60, hF⟩ := am_bind hF
                        have hF := am_u2 hF
                        obtain ⟨r61, hz64, hF⟩ := am_zn hF
                        subst hz64
                        refine bm_callX (ob := (adZ, abZ, w57)) hh [obW B (adX, abX, wX), obW B (adY, abY, wY)] [] rfl (vx_runV (As := [.int (2 : Int32), .int (10 : Int32)]) (rest := []) X.1 (c_X10_setSpring l (obG B (adZ, abZ, w57) (va_A (obW B (adZ, abZ, w57)) H.size)) hst hk60) (cwV 2 hts gL_law_X10_setSpring rfl rfl rfl (by decide +kernel) ⟨Nat.le_of_ble_eq_true rfl, Nat.le_of_ble_eq_true rfl⟩) (bm_preV (ob := (adZ, abZ, w57)) X hh [obW B (adX, abX, wX), obW B (adY, abY, wY)] [] rfl) rfl rfl hl.1 rfl (lv_room (Nat.le_of_ble_eq_true rfl)) dL_law_1256 ⟨by show (((((((((cells + 1) + 1) + 2) + 1) + 1) + 1) + 1) + 2) + 3) + 1 ≤ 614784; omega, by show (((((((((slots + 6) + 6) + 12) + 6) + 6) + 6) + 6) + 12) + 18) + 6 ≤ 7245417; omega⟩) (fun abZ H locs hh => ?_)
                        have hh : BH B s.heap [obW B (adX, abX, wX), obW B (adY, abY, wY), obW B (adZ, abZ, w62)] H locs := hh
                        refine lv_iconst (v := (2 : Int32)) hx hb dL_law_1259 (by decide) ?_
                        refine lv_icmp_ne (tgt := 1383) hx hb dL_law_1260 (by decide) (fun hc65 => ?_) (fun hc65 => ?_)
                        · have hF := am_neg hc65 hF
                          refine lv_iconst (v := (0 : Int32)) hx hb dL_law_1383 (by decide) ?_
                          cases hF
                        · have hF := am_pos hc65 hF
                          refine lv_aload hx hb dL_law_1263 (lv_at hl 3 rfl) ?_
                          refine lv_iconst (v := (2 : Int32)) hx hb dL_law_1265 (by decide) ?_
                          refine lv_iconst (v := (4 : Int32)) hx hb dL_law_1266 (by decide) ?_
                          obtain ⟨⟨z69, w68⟩, hk66, hF⟩ := am_bind hF
                          have hF := am_u2 hF
                          obtain ⟨r67, hz70, hF⟩ := am_zn hF
                          subst hz70
                          refine bm_callX (ob := (adZ, abZ, w62)) hh [obW B (adX, abX, wX), obW B (adY, abY, wY)] [] rfl (vx_runV (As := [.int (2 : Int32), .int (4 : Int32)]) (rest := []) X.1 (c_X10_wind l (obG B (adZ, abZ, w62) (va_A (obW B (adZ, abZ, w62)) H.size)) hst hk66) (cwV 2 hts gL_law_X10_wind rfl rfl rfl (by decide +kernel) ⟨Nat.le_of_ble_eq_true rfl, Nat.le_of_ble_eq_true rfl⟩) (bm_preV (ob := (adZ, abZ, w62)) X hh [obW B (adX, abX, wX), obW B (adY, abY, wY)] [] rfl) rfl rfl hl.1 rfl (lv_room (Nat.le_of_ble_eq_true rfl)) dL_law_1267 ⟨by show ((((((((((cells + 1) + 1) + 2) + 1) + 1) + 1) + 1) + 2) + 3) + 1) + 1 ≤ 614784; omega, by show ((((((((((slots + 6) + 6) + 12) + 6) + 6) + 6) + 6) + 12) + 18) + 6) + 6 ≤ 7245417; omega⟩) (fun abZ H locs hh => ?_)
                          have hh : BH B s.heap [obW B (adX, abX, wX), obW B (adY, abY, wY), obW B (adZ, abZ, w68)] H locs := hh
                          refine lv_iconst (v := (4 : Int32)) hx hb dL_law_1270 (by decide) ?_
                          refine lv_icmp_ne (tgt := 1383) hx hb dL_law_1271 (by decide) (fun hc71 => ?_) (fun hc71 => ?_)
                          · have hF := am_neg hc71 hF
                            refine lv_iconst (v := (0 : Int32)) hx hb dL_law_1383 (by decide) ?_
                            cases hF
                          · have hF := am_pos hc71 hF
                            refine lv_aload hx hb dL_law_1274 (lv_at hl 3 rfl) ?_
                            refine lv_iconst (v := (2 : Int32)) hx hb dL_law_1276 (by decide) ?_
                            obtain ⟨⟨z75, w74⟩, hk72, hF⟩ := am_bind hF
                            have hF := am_u2 hF
                            obtain ⟨r73, hz76, hF⟩ := am_zn hF
                            subst hz76
                            refine bm_callX (ob := (adZ, abZ, w68)) hh [obW B (adX, abX, wX), obW B (adY, abY, wY)] [] rfl (vx_runV (As := [.int (2 : Int32)]) (rest := []) X.1 (c_X10_turnsLeft l (obG B (adZ, abZ, w68) (va_A (obW B (adZ, abZ, w68)) H.size)) hst hk72) (cwV 1 hts gL_law_X10_turnsLeft rfl rfl rfl (by decide +kernel) ⟨Nat.le_of_ble_eq_true rfl, Nat.le_of_ble_eq_true rfl⟩) (bm_preV (ob := (adZ, abZ, w68)) X hh [obW B (adX, abX, wX), obW B (adY, abY, wY)] [] rfl) rfl rfl hl.1 rfl (lv_room (Nat.le_of_ble_eq_true rfl)) dL_law_1277 ⟨by show (((((((((((cells + 1) + 1) + 2) + 1) + 1) + 1) + 1) + 2) + 3) + 1) + 1) + 2 ≤ 614784; omega, by show (((((((((((slots + 6) + 6) + 12) + 6) + 6) + 6) + 6) + 12) + 18) + 6) + 6) + 12 ≤ 7245417; omega⟩) (fun abZ H locs hh => ?_)
                            have hh : BH B s.heap [obW B (adX, abX, wX), obW B (adY, abY, wY), obW B (adZ, abZ, w74)] H locs := hh
                            refine lv_iconst (v := (1 : Int32)) hx hb dL_law_1280 (by decide) ?_
                            refine lv_icmp_ne (tgt := 1383) hx hb dL_law_1281 (by decide) (fun hc77 => ?_) (fun hc77 => ?_)
                            · have hF := am_neg hc77 hF
                              refine lv_iconst (v := (0 : Int32)) hx hb dL_law_1383 (by decide) ?_
                              cases hF
                            · have hF := am_pos hc77 hF
                              refine lv_aload hx hb dL_law_1284 (lv_at hl 3 rfl) ?_
                              refine lv_iconst (v := (2 : Int32)) hx hb dL_law_1286 (by decide) ?_
                              refine lv_iconst (v := (1 : Int32)) hx hb dL_law_1287 (by decide) ?_
                              obtain ⟨⟨z81, w80⟩, hk78, hF⟩ := am_bind hF
                              have hF := am_u2 hF
                              obtain ⟨r79, hz82, hF⟩ := am_zn hF
                              subst hz82
                              refine bm_callX (ob := (adZ, abZ, w74)) hh [obW B (adX, abX, wX), obW B (adY, abY, wY)] [] rfl (vx_runV (As := [.int (2 : Int32), .int (1 : Int32)]) (rest := []) X.1 (c_X10_release l (obG B (adZ, abZ, w74) (va_A (obW B (adZ, abZ, w74)) H.size)) hst hk78) (cwV 2 hts gL_law_X10_release rfl rfl rfl (by decide +kernel) ⟨Nat.le_of_ble_eq_true rfl, Nat.le_of_ble_eq_true rfl⟩) (bm_preV (ob := (adZ, abZ, w74)) X hh [obW B (adX, abX, wX), obW B (adY, abY, wY)] [] rfl) rfl rfl hl.1 rfl (lv_room (Nat.le_of_ble_eq_true rfl)) dL_law_1288 ⟨by show ((((((((((((cells + 1) + 1) + 2) + 1) + 1) + 1) + 1) + 2) + 3) + 1) + 1) + 2) + 1 ≤ 614784; omega, by show ((((((((((((slots + 6) + 6) + 12) + 6) + 6) + 6) + 6) + 12) + 18) + 6) + 6) + 12) + 6 ≤ 7245417; omega⟩) (fun abZ H locs hh => ?_)
                              have hh : BH B s.heap [obW B (adX, abX, wX), obW B (adY, abY, wY), obW B (adZ, abZ, w80)] H locs := hh
                              refine lv_iconst (v := (1 : Int32)) hx hb dL_law_1291 (by decide) ?_
                              refine lv_icmp_ne (tgt := 1383) hx hb dL_law_1292 (by decide) (fun hc83 => ?_) (fun hc83 => ?_)
                              · have hF := am_neg hc83 hF
                                refine lv_iconst (v := (0 : Int32)) hx hb dL_law_1383 (by decide) ?_
                                cases hF
                              · have hF := am_pos hc83 hF
                                refine lv_aload hx hb dL_law_1295 (lv_at hl 3 rfl) ?_
                                refine lv_iconst (v := (3 : Int32)) hx hb dL_law_1297 (by decide) ?_
                                obtain ⟨z86, hk84, hF⟩ := am_bind hF
                                obtain ⟨r85, hz87, hF⟩ := am_zn hF
                                subst hz87
                                refine bm_callX (ob := (adZ, abZ, w80)) hh [obW B (adX, abX, wX), obW B (adY, abY, wY)] [] rfl (vx_runV (As := [.int (3 : Int32)]) (rest := []) X.1 (c_X10_angle l (obG B (adZ, abZ, w80) (va_A (obW B (adZ, abZ, w80)) H.size)) hst hk84) (cwV 1 hts gL_law_X10_angle rfl rfl rfl (by decide +kernel) ⟨Nat.le_of_ble_eq_true rfl, Nat.le_of_ble_eq_true rfl⟩) (bm_preV (ob := (adZ, abZ, w80)) X hh [obW B (adX, abX, wX), obW B (adY, abY, wY)] [] rfl) rfl rfl hl.1 rfl (lv_room (Nat.le_of_ble_eq_true rfl)) dL_law_1298 ⟨by show (((((((((((((cells + 1) + 1) + 2) + 1) + 1) + 1) + 1) + 2) + 3) + 1) + 1) + 2) + 1) + 1 ≤ 614784; omega, by show (((((((((((((slots + 6) + 6) + 12) + 6) + 6) + 6) + 6) + 12) + 18) + 6) + 6) + 12) + 6) + 6 ≤ 7245417; omega⟩) (fun abZ H locs hh => ?_)
                                have hh : BH B s.heap [obW B (adX, abX, wX), obW B (adY, abY, wY), obW B (adZ, abZ, w80)] H locs := hh
                                refine lv_ldc2 (v := (16588800000 : Int64)) hx hb hown (hts _ (wlw_5)) dL_law_1301 ?_
                                refine am_lcmp_ne (tgt := 1383) hx hb dL_law_1304 dL_law_1305 (by decide) (fun hc88 => ?_) (fun hc88 => ?_)
                                · have hF := am_neg hc88 hF
                                  refine lv_iconst (v := (0 : Int32)) hx hb dL_law_1383 (by decide) ?_
                                  cases hF
                                · have hF := am_pos hc88 hF
                                  refine lv_aload hx hb dL_law_1308 (lv_at hl 3 rfl) ?_
                                  refine lv_iconst (v := (2 : Int32)) hx hb dL_law_1310 (by decide) ?_
                                  obtain ⟨z91, hk89, hF⟩ := am_bind hF
                                  obtain ⟨r90, hz92, hF⟩ := am_zn hF
                                  subst hz92
                                  refine bm_callX (ob := (adZ, abZ, w80)) hh [obW B (adX, abX, wX), obW B (adY, abY, wY)] [] rfl (vx_runV (As := [.int (2 : Int32)]) (rest := []) X.1 (c_X10_angle l (obG B (adZ, abZ, w80) (va_A (obW B (adZ, abZ, w80)) H.size)) hst hk89) (cwV 1 hts gL_law_X10_angle rfl rfl rfl (by decide +kernel) ⟨Nat.le_of_ble_eq_true rfl, Nat.le_of_ble_eq_true rfl⟩) (bm_preV (ob := (adZ, abZ, w80)) X hh [obW B (adX, abX, wX), obW B (adY, abY, wY)] [] rfl) rfl rfl hl.1 rfl (lv_room (Nat.le_of_ble_eq_true rfl)) dL_law_1311 ⟨by show ((((((((((((((cells + 1) + 1) + 2) + 1) + 1) + 1) + 1) + 2) + 3) + 1) + 1) + 2) + 1) + 1) + 1 ≤ 614784; omega, by show ((((((((((((((slots + 6) + 6) + 12) + 6) + 6) + 6) + 6) + 12) + 18) + 6) + 6) + 12) + 6) + 6) + 6 ≤ 7245417; omega⟩) (fun abZ H locs hh => ?_)
                                  have hh : BH B s.heap [obW B (adX, abX, wX), obW B (adY, abY, wY), obW B (adZ, abZ, w80)] H locs := hh
                                  refine lv_lconst (v := (0 : Int64)) hx hb dL_law_1314 (by decide) ?_
                                  refine am_lcmp_ne (tgt := 1383) hx hb dL_law_1315 dL_law_1316 (by decide) (fun hc93 => ?_) (fun hc93 => ?_)
                                  · have hF := am_neg hc93 hF
                                    refine lv_iconst (v := (0 : Int32)) hx hb dL_law_1383 (by decide) ?_
                                    cases hF
                                  · have hF := am_pos hc93 hF
                                    refine lv_aload hx hb dL_law_1319 (lv_at hl 3 rfl) ?_
                                    refine lv_iconst (v := (1 : Int32)) hx hb dL_law_1321 (by decide) ?_
                                    refine lv_iconst (v := (0 : Int32)) hx hb dL_law_1322 (by decide) ?_
                                    refine lv_iconst (v := (3 : Int32)) hx hb dL_law_1323 (by decide) ?_
                                    obtain ⟨⟨r95, w96⟩, hk94, hF⟩ := am_bind hF
                                    have hF := am_u2 hF
                                    refine bm_callW (ob := (adZ, abZ, w80)) hh [obW B (adX, abX, wX), obW B (adY, abY, wY)] [] rfl (vx_runSX (As := [.ref (adZ 0), .int (1 : Int32), .int (0 : Int32), .int (3 : Int32)]) (rest := []) X.1 (c_L_act l (obG B (adZ, abZ, w80) (va_A (obW B (adZ, abZ, w80)) H.size)) hst hk94) (vx_cwSW 4 hts gL_law_L_act rfl rfl rfl (by decide +kernel) ⟨Nat.le_of_ble_eq_true rfl, Nat.le_of_ble_eq_true rfl⟩) (bm_preS (ob := (adZ, abZ, w80)) X hh [obW B (adX, abX, wX), obW B (adY, abY, wY)] [] rfl) rfl rfl hl.1 rfl (lv_room (Nat.le_of_ble_eq_true rfl)) dL_law_1324 ⟨by show (((((((((((((((cells + 1) + 1) + 2) + 1) + 1) + 1) + 1) + 2) + 3) + 1) + 1) + 2) + 1) + 1) + 1) + 3 ≤ 614784; omega, by show (((((((((((((((slots + 6) + 6) + 12) + 6) + 6) + 6) + 6) + 12) + 18) + 6) + 6) + 12) + 6) + 6) + 6) + 18 ≤ 7245417; omega⟩) (fun abZ H locs hh => ?_)
                                    have hh : BH B s.heap [obW B (adX, abX, wX), obW B (adY, abY, wY), obW B (adZ, abZ, w96)] H locs := hh
                                    refine lv_bipush (v := (-3 : Int32)) hx hb dL_law_1327 (by decide) ?_
                                    refine lv_icmp_ne (tgt := 1383) hx hb dL_law_1329 (by decide) (fun hc98 => ?_) (fun hc98 => ?_)
                                    · have hF := am_neg hc98 hF
                                      refine lv_iconst (v := (0 : Int32)) hx hb dL_law_1383 (by decide) ?_
                                      cases hF
                                    · have hF := am_pos hc98 hF
                                      refine lv_aload hx hb dL_law_1332 (lv_at hl 3 rfl) ?_
                                      refine lv_iconst (v := (0 : Int32)) hx hb dL_law_1334 (by decide) ?_
                                      refine lv_iconst (v := (0 : Int32)) hx hb dL_law_1335 (by decide) ?_
                                      refine lv_iconst (v := (1 : Int32)) hx hb dL_law_1336 (by decide) ?_
                                      refine lv_iconst (v := (2 : Int32)) hx hb dL_law_1337 (by decide) ?_
                                      obtain ⟨⟨r100, w101⟩, hk99, hF⟩ := am_bind hF
                                      have hF := am_u2 hF
                                      refine bm_callW (ob := (adZ, abZ, w96)) hh [obW B (adX, abX, wX), obW B (adY, abY, wY)] [] rfl (vx_runSX (As := [.ref (adZ 0), .int (0 : Int32), .int (0 : Int32), .int (1 : Int32), .int (2 : Int32)]) (rest := []) X.1 (c_L_eclipse l (obG B (adZ, abZ, w96) (va_A (obW B (adZ, abZ, w96)) H.size)) hst hk99) (vx_cwSW 5 hts gL_law_L_eclipse rfl rfl rfl (by decide +kernel) ⟨Nat.le_of_ble_eq_true rfl, Nat.le_of_ble_eq_true rfl⟩) (bm_preS (ob := (adZ, abZ, w96)) X hh [obW B (adX, abX, wX), obW B (adY, abY, wY)] [] rfl) rfl rfl hl.1 rfl (lv_room (Nat.le_of_ble_eq_true rfl)) dL_law_1338 ⟨by show ((((((((((((((((cells + 1) + 1) + 2) + 1) + 1) + 1) + 1) + 2) + 3) + 1) + 1) + 2) + 1) + 1) + 1) + 3) + 2 ≤ 614784; omega, by show ((((((((((((((((slots + 6) + 6) + 12) + 6) + 6) + 6) + 6) + 12) + 18) + 6) + 6) + 12) + 6) + 6) + 6) + 18) + 12 ≤ 7245417; omega⟩) (fun abZ H locs hh => ?_)
                                      have hh : BH B s.heap [obW B (adX, abX, wX), obW B (adY, abY, wY), obW B (adZ, abZ, w101)] H locs := hh
                                      refine lv_bipush (v := (-3 : Int32)) hx hb dL_law_1341 (by decide) ?_
                                      refine lv_icmp_ne (tgt := 1383) hx hb dL_law_1343 (by decide) (fun hc103 => ?_) (fun hc103 => ?_)
                                      · have hF := am_neg hc103 hF
                                        refine lv_iconst (v := (0 : Int32)) hx hb dL_law_1383 (by decide) ?_
                                        cases hF
                                      · have hF := am_pos hc103 hF
                                        refine lv_aload hx hb dL_law_1346 (lv_at hl 3 rfl) ?_
                                        obtain ⟨r105, hk104, hF⟩ := am_bind hF
                                        refine bm_call (ob := (adZ, abZ, w101)) hh [obW B (adX, abX, wX), obW B (adY, abY, wY)] [] rfl (va_runV (As := []) (rest := []) X.1 (c_X10_tensionTotal l (obG B (adZ, abZ, w101) (va_A (obW B (adZ, abZ, w101)) H.size)) hk104) (cwV 0 hts gL_law_X10_tensionTotal rfl rfl rfl (by decide +kernel) ⟨Nat.le_of_ble_eq_true rfl, Nat.le_of_ble_eq_true rfl⟩) (bm_preV (ob := (adZ, abZ, w101)) X hh [obW B (adX, abX, wX), obW B (adY, abY, wY)] [] rfl) rfl rfl hl.1 rfl (lv_room (Nat.le_of_ble_eq_true rfl)) dL_law_1348 ⟨by show (((((((((((((((((cells + 1) + 1) + 2) + 1) + 1) + 1) + 1) + 2) + 3) + 1) + 1) + 2) + 1) + 1) + 1) + 3) + 2) + 0 ≤ 614784; omega, by show (((((((((((((((((slots + 6) + 6) + 12) + 6) + 6) + 6) + 6) + 12) + 18) + 6) + 6) + 12) + 6) + 6) + 6) + 18) + 12) + 0 ≤ 7245417; omega⟩) (fun abZ H locs hh => ?_)
                                        have hh : BH B s.heap [obW B (adX, abX, wX), obW B (adY, abY, wY), obW B (adZ, abZ, w101)] H locs := hh
                                        refine lv_bipush (v := (6 : Int32)) hx hb dL_law_1351 (by decide) ?_
                                        refine lv_icmp_ne (tgt := 1383) hx hb dL_law_1353 (by decide) (fun hc107 => ?_) (fun hc107 => ?_)
                                        · have hF := am_neg hc107 hF
                                          refine lv_iconst (v := (0 : Int32)) hx hb dL_law_1383 (by decide) ?_
                                          cases hF
                                        · have hF := am_pos hc107 hF
                                          refine lv_aload hx hb dL_law_1356 (lv_at hl 3 rfl) ?_
                                          obtain ⟨⟨z111, w110⟩, hk108, hF⟩ := am_bind hF
                                          have hF := am_u2 hF
                                          obtain ⟨r109, hz112, hF⟩ := am_zn hF
                                          subst hz112
                                          refine bm_callX (ob := (adZ, abZ, w101)) hh [obW B (adX, abX, wX), obW B (adY, abY, wY)] [] rfl (vx_runV (As := []) (rest := []) X.1 (c_X10_undo l (obG B (adZ, abZ, w101) (va_A (obW B (adZ, abZ, w101)) H.size)) hst hk108) (cwV 0 hts gL_law_X10_undo rfl rfl rfl (by decide +kernel) ⟨Nat.le_of_ble_eq_true rfl, Nat.le_of_ble_eq_true rfl⟩) (bm_preV (ob := (adZ, abZ, w101)) X hh [obW B (adX, abX, wX), obW B (adY, abY, wY)] [] rfl) rfl rfl hl.1 rfl (lv_room (Nat.le_of_ble_eq_true rfl)) dL_law_1358 ⟨by show (((((((((((((((((cells + 1) + 1) + 2) + 1) + 1) + 1) + 1) + 2) + 3) + 1) + 1) + 2) + 1) + 1) + 1) + 3) + 2) + 1 ≤ 614784; omega, by show (((((((((((((((((slots + 6) + 6) + 12) + 6) + 6) + 6) + 6) + 12) + 18) + 6) + 6) + 12) + 6) + 6) + 6) + 18) + 12) + 6 ≤ 7245417; omega⟩) (fun abZ H locs hh => ?_)
                                          have hh : BH B s.heap [obW B (adX, abX, wX), obW B (adY, abY, wY), obW B (adZ, abZ, w110)] H locs := hh
                                          refine lv_if_lt (tgt := 1383) hx hb dL_law_1361 (by decide) (fun hc113 => ?_) (fun hc113 => ?_)
                                          · have hF := am_pos hc113 hF
                                            refine lv_iconst (v := (0 : Int32)) hx hb dL_law_1383 (by decide) ?_
                                            cases hF
                                          · have hF := am_neg hc113 hF
                                            refine lv_aload hx hb dL_law_1364 (lv_at hl 3 rfl) ?_
                                            refine lv_iconst (v := (3 : Int32)) hx hb dL_law_1366 (by decide) ?_
                                            obtain ⟨z116, hk114, hF⟩ := am_bind hF
                                            obtain ⟨r115, hz117, hF⟩ := am_zn hF
                                            subst hz117
                                            refine bm_callX (ob := (adZ, abZ, w110)) hh [obW B (adX, abX, wX), obW B (adY, abY, wY)] [] rfl (vx_runV (As := [.int (3 : Int32)]) (rest := []) X.1 (c_X10_angle l (obG B (adZ, abZ, w110) (va_A (obW B (adZ, abZ, w110)) H.size)) hst hk114) (cwV 1 hts gL_law_X10_angle rfl rfl rfl (by decide +kernel) ⟨Nat.le_of_ble_eq_true rfl, Nat.le_of_ble_eq_true rfl⟩) (bm_preV (ob := (adZ, abZ, w110)) X hh [obW B (adX, abX, wX), obW B (adY, abY, wY)] [] rfl) rfl rfl hl.1 rfl (lv_room (Nat.le_of_ble_eq_true rfl)) dL_law_1367 ⟨by show ((((((((((((((((((cells + 1) + 1) + 2) + 1) + 1) + 1) + 1) + 2) + 3) + 1) + 1) + 2) + 1) + 1) + 1) + 3) + 2) + 1) + 1 ≤ 614784; omega, by show ((((((((((((((((((slots + 6) + 6) + 12) + 6) + 6) + 6) + 6) + 12) + 18) + 6) + 6) + 12) + 6) + 6) + 6) + 18) + 12) + 6) + 6 ≤ 7245417; omega⟩) (fun abZ H locs hh => ?_)
                                            have hh : BH B s.heap [obW B (adX, abX, wX), obW B (adY, abY, wY), obW B (adZ, abZ, w110)] H locs := hh
                                            refine lv_lconst (v := (0 : Int64)) hx hb dL_law_1370 (by decide) ?_
                                            refine am_lcmp_ne (tgt := 1383) hx hb dL_law_1371 dL_law_1372 (by decide) (fun hc118 => ?_) (fun hc118 => ?_)
                                            · have hF := am_neg hc118 hF
                                              refine lv_iconst (v := (0 : Int32)) hx hb dL_law_1383 (by decide) ?_
                                              cases hF
                                            · have hF := am_pos hc118 hF
                                              refine lv_aload hx hb dL_law_1375 (lv_at hl 3 rfl) ?_
                                              obtain ⟨⟨r120, w121⟩, hk119, hF⟩ := am_bind hF
                                              have hF := am_u2 hF
                                              refine bm_call (ob := (adZ, abZ, w110)) hh [obW B (adX, abX, wX), obW B (adY, abY, wY)] [] rfl (va_runV (As := []) (rest := []) X.1 (c_X10_isConsistent l (obG B (adZ, abZ, w110) (va_A (obW B (adZ, abZ, w110)) H.size)) hk119) (cwV 0 hts gL_law_X10_isConsistent rfl rfl rfl (by decide +kernel) ⟨Nat.le_of_ble_eq_true rfl, Nat.le_of_ble_eq_true rfl⟩) (bm_preV (ob := (adZ, abZ, w110)) X hh [obW B (adX, abX, wX), obW B (adY, abY, wY)] [] rfl) rfl rfl hl.1 rfl (lv_room (Nat.le_of_ble_eq_true rfl)) dL_law_1377 ⟨by show (((((((((((((((((((cells + 1) + 1) + 2) + 1) + 1) + 1) + 1) + 2) + 3) + 1) + 1) + 2) + 1) + 1) + 1) + 3) + 2) + 1) + 1) + 0 ≤ 614784; omega, by show (((((((((((((((((((slots + 6) + 6) + 12) + 6) + 6) + 6) + 6) + 12) + 18) + 6) + 6) + 12) + 6) + 6) + 6) + 18) + 12) + 6) + 6) + 0 ≤ 7245417; omega⟩) (fun abZ H locs hh => ?_)
                                              have hh : BH B s.heap [obW B (adX, abX, wX), obW B (adY, abY, wY), obW B (adZ, abZ, w121)] H locs := hh
                                              refine lv_if_ne (tgt := 1385) hx hb dL_law_1380 (by decide) (fun hc123 => ?_) (fun hc123 => ?_)
                                              · have hF := am_neg hc123 hF
                                                cases hF
                                                exact W.widen (by omega) (by omega) (kk abX abY abZ H locs ls hh (lv_sub hl [0, 1, 2, 3, 4, 5, 6] rfl))
                                              · have hF := am_pos hc123 hF
                                                refine lv_iconst (v := (0 : Int32)) hx hb dL_law_1383 (by decide) ?_
                                                cases hF
def f_law_1385 (wX : Wd) (wY : Wd) (wZ : Wd) (l3 : Int32) (l4 : Int32) (l6 : Int32) : Option (Wd × Wd × Wd) := ((f_X10_restore wX).bind fun z => u2 z fun z w3 => zc z (fun _ => none) (fun r2 => (if r2 = l3 then ((f_L_state w3).bind fun z => u2 z fun r8 w9 => (if r8 = l4 then (some (w9, wY, wZ)) else none)) else none)))
set_option maxHeartbeats 16000000 in
set_option maxRecDepth 100000 in
theorem c_law_1385 (l : Launch) (hst : l.stackTraces = false) {B : BP} {p : Program} {e : Env} {s : State} {m : MethodId} {args : Array Value} {below : List Frame} {meth : Method} {c : Code} {b cells slots abX abY abZ : Nat} {adX adY adZ : Nat → Nat} {H : Heap} {locs : List Loc} {ls : Array Slot} {wX wX1 wY wY1 wZ wZ1 : Wd} {l3 l4 l6 : Int32} {Q : State → Prop} (X : BX B p s m args meth c cL_law 8 RL wsL_lawQ) (hav : ∀ i, i < 31 → B.2.2 (300 + i) = 1) (hR : ∀ i, i < 31 → 13 ≤ i → vk_R "PlanetWorkshopLaw" (sW.getD i 0) (sX.getD i "") (B.2.2 (100 + i)) s) (hh : BH B s.heap [obW B (adX, abX, wX), obW B (adY, abY, wY), obW B (adZ, abZ, wZ)] H locs) (hc : cells + 729 ≤ 614784) (hs : slots + 4374 ≤ 7245417) (hl : lv_has ls 8 [(0, .ref b), (1, .ref (adX 0)), (2, .ref (adY 0)), (7, .ref (adZ 0)), (3, .int l3), (4, .int l4), (6, .int l6)]) (hF : f_law_1385 wX wY wZ l3 l4 l6 = some (wX1, wY1, wZ1)) (kk : ∀ (abX abY abZ : Nat) (H : Heap) (locs : List Loc) (ls : Array Slot), BH B s.heap [obW B (adX, abX, wX1), obW B (adY, abY, wY1), obW B (adZ, abZ, wZ1)] H locs → lv_has ls 8 [(0, .ref b), (1, .ref (adX 0)), (2, .ref (adY 0)), (7, .ref (adZ 0)), (3, .int l3), (4, .int l4), (6, .int l6)] → W p l e room_1 s m args below meth c H locs (cells + 729) (slots + 4374) Q (F0 m 1402 ls [])) : W p l e room_1 s m args below meth c H locs cells slots Q (F0 m 1385 ls []) := by
  have hx := X.1.1; have hb := X.1.2.1; have hml := X.1.2.2.1; have hown := X.1.2.2.2.1; have hts := X.1.2.2.2.2
  unfold f_law_1385 at hF
  refine lv_aload_n hx hb dL_law_1385 rfl (lv_at hl 1 rfl) ?_
  obtain ⟨⟨z4, w3⟩, hk1, hF⟩ := am_bind hF
  have hF := am_u2 hF
  obtain ⟨r2, hz5, hF⟩ := am_zn hF
  subst hz5
  refine bm_callX (ob := (adX, abX, wX)) hh [] [obW B (adY, abY, wY), obW B (adZ, abZ, wZ)] rfl (vx_runV (As := []) (rest := []) X.1 (c_X10_restore l (obG B (adX, abX, wX) (va_A (obW B (adX, abX, wX)) H.size)) hst hk1) (cwV 0 hts gL_law_X10_restore rfl rfl rfl (by decide +kernel) ⟨Nat.le_of_ble_eq_true rfl, Nat.le_of_ble_eq_true rfl⟩) (bm_preV (ob := (adX, abX, wX)) X hh [] [obW B (adY, abY, wY), obW B (adZ, abZ, wZ)] rfl) rfl rfl hl.1 rfl (lv_room (Nat.le_of_ble_eq_true rfl)) dL_law_1386 ⟨by show cells + 1 ≤ 614784; omega, by show slots + 6 ≤ 7245417; omega⟩) (fun abX H locs hh => ?_)
  have hh : BH B s.heap [obW B (adX, abX, w3), obW B (adY, abY, wY), obW B (adZ, abZ, wZ)] H locs := hh
  refine lv_iload_n hx hb dL_law_1389 rfl (lv_at hl 4 rfl) ?_
  refine lv_icmp_ne (tgt := 1406) hx hb dL_law_1390 (by decide) (fun hc6 => ?_) (fun hc6 => ?_)
  · have hF := am_neg hc6 hF
    refine lv_iconst (v := (0 : Int32)) hx hb dL_law_1406 (by decide) ?_
    cases hF
  · have hF := am_pos hc6 hF
    refine lv_aload_n hx hb dL_law_1393 rfl (lv_at hl 1 rfl) ?_
    obtain ⟨⟨r8, w9⟩, hk7, hF⟩ := am_bind hF
    have hF := am_u2 hF
    refine bm_call (ob := (adX, abX, w3)) hh [] [obW B (adY, abY, wY), obW B (adZ, abZ, wZ)] rfl (va_runS (As := [.ref (adX 0)]) (rest := []) X.1 (c_L_state l (obG B (adX, abX, w3) (va_A (obW B (adX, abX, w3)) H.size)) hst hk7) (va_cwS 1 hts gL_law_L_state rfl rfl rfl (by decide +kernel) ⟨Nat.le_of_ble_eq_true rfl, Nat.le_of_ble_eq_true rfl⟩) (bm_preS (ob := (adX, abX, w3)) X hh [] [obW B (adY, abY, wY), obW B (adZ, abZ, wZ)] rfl) rfl rfl hl.1 rfl (lv_room (Nat.le_of_ble_eq_true rfl)) dL_law_1394 ⟨by show (cells + 1) + 728 ≤ 614784; omega, by show (slots + 6) + 4368 ≤ 7245417; omega⟩) (fun abX H locs hh => ?_)
    have hh : BH B s.heap [obW B (adX, abX, w9), obW B (adY, abY, wY), obW B (adZ, abZ, wZ)] H locs := hh
    refine lv_iload hx hb dL_law_1397 (lv_at hl 5 rfl) ?_
    refine lv_icmp_ne (tgt := 1406) hx hb dL_law_1399 (by decide) (fun hc11 => ?_) (fun hc11 => ?_)
    · have hF := am_neg hc11 hF
      refine lv_iconst (v := (0 : Int32)) hx hb dL_law_1406 (by decide) ?_
      cases hF
    · have hF := am_pos hc11 hF
      cases hF
      exact W.widen (by omega) (by omega) (kk abX abY abZ H locs ls hh (lv_sub hl [0, 1, 2, 3, 4, 5, 6] rfl))
