def f_law_10 (wX : Wd) (wY : Wd) : Option (Wd × Wd × Int32 × Int32) := ((f_X10_save wX).bind fun z => u2 z fun r2 w3 => ((f_L_state w3).bind fun z => u2 z fun r6 w7 => ((f_L_put w7 13).bind fun w11 => ((f_X10_setRatchet wY (0 : Int32) (1 : Int32)).bind fun z => u2 z fun z w15 => zc z (fun _ => none) (fun r14 => ((f_X10_setRatchet w15 (0 : Int32) (0 : Int32)).bind fun z => u2 z fun z w20 => zc z (fun _ => none) (fun r19 => ((f_X10_setRatchet w20 (1 : Int32) (1 : Int32)).bind fun z => u2 z fun z w25 => zc z (fun _ => none) (fun r24 => ((f_X10_runScript w11).bind fun z => u2 z fun z w30 => zc z (fun _ => none) (fun r29 => (if r29 = (3 : Int32) then ((f_L_state w30).bind fun z => u2 z fun r35 w36 => ((f_L_state w25).bind fun z => u2 z fun r39 w40 => (if r35 = r39 then (some (w36, w40, r2, r6)) else none))) else none))))))))))))
set_option maxHeartbeats 16000000 in
set_option maxRecDepth 100000 in
theorem c_law_10 (l : Launch) (hst : l.stackTraces = false) {B : BP} {p : Program} {e : Env} {s : State} {m : MethodId} {args : Array Value} {below : List Frame} {meth : Method} {c : Code} {b cells slots abX abY : Nat} {adX adY : Nat → Nat} {H : Heap} {locs : List Loc} {ls : Array Slot} {wX wX1 wY wY1 : Wd} {m3 m4 : Int32} {Q : State → Prop} (X : BX B p s m args meth c cL_law 8 RL wsL_lawQ) (hav : ∀ i, i < 31 → B.2.2 (300 + i) = 1) (hR : ∀ i, i < 31 → 13 ≤ i → vk_R "PlanetWorkshopLaw" (sW.getD i 0) (sX.getD i "") (B.2.2 (100 + i)) s) (hh : BH B s.heap [obW B (adX, abX, wX), obW B (adY, abY, wY)] H locs) (hc : cells + 2252 ≤ 614784) (hs : slots + 13512 ≤ 7245417) (hl : lv_has ls 8 [(0, .ref b), (1, .ref (adX 0)), (2, .ref (adY 0))]) (hF : f_law_10 wX wY = some (wX1, wY1, m3, m4)) (kk : ∀ (abX abY : Nat) (H : Heap) (locs : List Loc) (ls : Array Slot), BH B s.heap [obW B (adX, abX, wX1), obW B (adY, abY, wY1)] H locs → lv_has ls 8 [(0, .ref b), (1, .ref (adX 0)), (2, .ref (adY 0)), (3, .int m3), (4, .int m4)] → W p l e room_1 s m args below meth c H locs (cells + 2252) (slots + 13512) Q (F0 m 72 ls [])) : W p l e room_1 s m args below meth c H locs cells slots Q (F0 m 10 ls []) := by
  have hx := X.1.1; have hb := X.1.2.1; have hml := X.1.2.2.1; have hown := X.1.2.2.2.1; have hts := X.1.2.2.2.2
  unfold f_law_10 at hF
  refine lv_aload_n hx hb dL_law_10 rfl (lv_at hl 1 rfl) ?_
  obtain ⟨⟨r2, w3⟩, hk1, hF⟩ := am_bind hF
  have hF := am_u2 hF
  refine bm_call (ob := (adX, abX, wX)) hh [] [obW B (adY, abY, wY)] rfl (va_runV (As := []) (rest := []) X.1 (c_X10_save l (obG B (adX, abX, wX) (va_A (obW B (adX, abX, wX)) H.size)) hk1) (cwV 0 hts gL_law_X10_save rfl rfl rfl (by decide +kernel) ⟨Nat.le_of_ble_eq_true rfl, Nat.le_of_ble_eq_true rfl⟩) (bm_preV (ob := (adX, abX, wX)) X hh [] [obW B (adY, abY, wY)] rfl) rfl rfl hl.1 rfl (lv_room (Nat.le_of_ble_eq_true rfl)) dL_law_11 ⟨by show cells + 0 ≤ 614784; omega, by show slots + 0 ≤ 7245417; omega⟩) (fun abX H locs hh => ?_)
  have hh : BH B s.heap [obW B (adX, abX, w3), obW B (adY, abY, wY)] H locs := hh
  refine lv_istore_n (lv' := [(3, .int r2), (0, .ref b), (1, .ref (adX 0)), (2, .ref (adY 0))]) hx hb dL_law_14 rfl hl (by decide) rfl (fun ls hl => ?_)
  refine lv_aload_n hx hb dL_law_15 rfl (lv_at hl 2 rfl) ?_
  obtain ⟨⟨r6, w7⟩, hk5, hF⟩ := am_bind hF
  have hF := am_u2 hF
  refine bm_call (ob := (adX, abX, w3)) hh [] [obW B (adY, abY, wY)] rfl (va_runS (As := [.ref (adX 0)]) (rest := []) X.1 (c_L_state l (obG B (adX, abX, w3) (va_A (obW B (adX, abX, w3)) H.size)) hst hk5) (va_cwS 1 hts gL_law_L_state rfl rfl rfl (by decide +kernel) ⟨Nat.le_of_ble_eq_true rfl, Nat.le_of_ble_eq_true rfl⟩) (bm_preS (ob := (adX, abX, w3)) X hh [] [obW B (adY, abY, wY)] rfl) rfl rfl hl.1 rfl (lv_room (Nat.le_of_ble_eq_true rfl)) dL_law_16 ⟨by show cells + 728 ≤ 614784; omega, by show slots + 4368 ≤ 7245417; omega⟩) (fun abX H locs hh => ?_)
  have hh : BH B s.heap [obW B (adX, abX, w7), obW B (adY, abY, wY)] H locs := hh
  refine lv_istore (lv' := [(4, .int r6), (3, .int r2), (0, .ref b), (1, .ref (adX 0)), (2, .ref (adY 0))]) hx hb dL_law_19 hl (by decide) rfl (fun ls hl => ?_)
  refine lv_aload_n hx hb dL_law_21 rfl (lv_at hl 3 rfl) ?_
  refine va_ldcS hx hb hown (hR 13 (by decide) (by decide)) dL_law_22 ?_
  obtain ⟨w11, hk9, hF⟩ := am_bind hF
  refine bm_call (ob := (adX, abX, w7)) hh [] [obW B (adY, abY, wY)] rfl (va_runS (As := [.ref (adX 0), .ref (B.2.2 (100 + 13))]) (rest := []) X.1 (c_L_put l (obG B (adX, abX, w7) (va_A (obW B (adX, abX, w7)) H.size)) hst (hav 13 (by decide)) hk9) (va_cwS 2 hts gL_law_L_put rfl rfl rfl (by decide +kernel) ⟨Nat.le_of_ble_eq_true rfl, Nat.le_of_ble_eq_true rfl⟩) (bm_preS (ob := (adX, abX, w7)) X hh [] [obW B (adY, abY, wY)] rfl) rfl rfl hl.1 rfl (lv_room (Nat.le_of_ble_eq_true rfl)) dL_law_24 ⟨by show (cells + 728) + 64 ≤ 614784; omega, by show (slots + 4368) + 384 ≤ 7245417; omega⟩) (fun abX H locs hh => ?_)
  have hh : BH B s.heap [obW B (adX, abX, w11), obW B (adY, abY, wY)] H locs := hh
  refine lv_aload_n hx hb dL_law_27 rfl (lv_at hl 4 rfl) ?_
  refine lv_iconst (v := (0 : Int32)) hx hb dL_law_28 (by decide) ?_
  refine lv_iconst (v := (1 : Int32)) hx hb dL_law_29 (by decide) ?_
  obtain ⟨⟨z16, w15⟩, hk13, hF⟩ := am_bind hF
  have hF := am_u2 hF
  obtain ⟨r14, hz17, hF⟩ := am_zn hF
  subst hz17
  refine bm_callX (ob := (adY, abY, wY)) hh [obW B (adX, abX, w11)] [] rfl (vx_runV (As := [.int (0 : Int32), .int (1 : Int32)]) (rest := []) X.1 (c_X10_setRatchet l (obG B (adY, abY, wY) (va_A (obW B (adY, abY, wY)) H.size)) hst hk13) (cwV 2 hts gL_law_X10_setRatchet rfl rfl rfl (by decide +kernel) ⟨Nat.le_of_ble_eq_true rfl, Nat.le_of_ble_eq_true rfl⟩) (bm_preV (ob := (adY, abY, wY)) X hh [obW B (adX, abX, w11)] [] rfl) rfl rfl hl.1 rfl (lv_room (Nat.le_of_ble_eq_true rfl)) dL_law_30 ⟨by show ((cells + 728) + 64) + 1 ≤ 614784; omega, by show ((slots + 4368) + 384) + 6 ≤ 7245417; omega⟩) (fun abY H locs hh => ?_)
  have hh : BH B s.heap [obW B (adX, abX, w11), obW B (adY, abY, w15)] H locs := hh
  refine lv_istore (lv' := [(5, .int r14), (4, .int r6), (3, .int r2), (0, .ref b), (1, .ref (adX 0)), (2, .ref (adY 0))]) hx hb dL_law_33 hl (by decide) rfl (fun ls hl => ?_)
  refine lv_aload_n hx hb dL_law_35 rfl (lv_at hl 5 rfl) ?_
  refine lv_iconst (v := (0 : Int32)) hx hb dL_law_36 (by decide) ?_
  refine lv_iconst (v := (0 : Int32)) hx hb dL_law_37 (by decide) ?_
  obtain ⟨⟨z21, w20⟩, hk18, hF⟩ := am_bind hF
  have hF := am_u2 hF
  obtain ⟨r19, hz22, hF⟩ := am_zn hF
  subst hz22
  refine bm_callX (ob := (adY, abY, w15)) hh [obW B (adX, abX, w11)] [] rfl (vx_runV (As := [.int (0 : Int32), .int (0 : Int32)]) (rest := []) X.1 (c_X10_setRatchet l (obG B (adY, abY, w15) (va_A (obW B (adY, abY, w15)) H.size)) hst hk18) (cwV 2 hts gL_law_X10_setRatchet rfl rfl rfl (by decide +kernel) ⟨Nat.le_of_ble_eq_true rfl, Nat.le_of_ble_eq_true rfl⟩) (bm_preV (ob := (adY, abY, w15)) X hh [obW B (adX, abX, w11)] [] rfl) rfl rfl hl.1 rfl (lv_room (Nat.le_of_ble_eq_true rfl)) dL_law_38 ⟨by show (((cells + 728) + 64) + 1) + 1 ≤ 614784; omega, by show (((slots + 4368) + 384) + 6) + 6 ≤ 7245417; omega⟩) (fun abY H locs hh => ?_)
  have hh : BH B s.heap [obW B (adX, abX, w11), obW B (adY, abY, w20)] H locs := hh
  refine lv_istore (lv' := [(5, .int r19), (4, .int r6), (3, .int r2), (0, .ref b), (1, .ref (adX 0)), (2, .ref (adY 0))]) hx hb dL_law_41 hl (by decide) rfl (fun ls hl => ?_)
  refine lv_aload_n hx hb dL_law_43 rfl (lv_at hl 5 rfl) ?_
  refine lv_iconst (v := (1 : Int32)) hx hb dL_law_44 (by decide) ?_
  refine lv_iconst (v := (1 : Int32)) hx hb dL_law_45 (by decide) ?_
  obtain ⟨⟨z26, w25⟩, hk23, hF⟩ := am_bind hF
  have hF := am_u2 hF
  obtain ⟨r24, hz27, hF⟩ := am_zn hF
  subst hz27
  refine bm_callX (ob := (adY, abY, w20)) hh [obW B (adX, abX, w11)] [] rfl (vx_runV (As := [.int (1 : Int32), .int (1 : Int32)]) (rest := []) X.1 (c_X10_setRatchet l (obG B (adY, abY, w20) (va_A (obW B (adY, abY, w20)) H.size)) hst hk23) (cwV 2 hts gL_law_X10_setRatchet rfl rfl rfl (by decide +kernel) ⟨Nat.le_of_ble_eq_true rfl, Nat.le_of_ble_eq_true rfl⟩) (bm_preV (ob := (adY, abY, w20)) X hh [obW B (adX, abX, w11)] [] rfl) rfl rfl hl.1 rfl (lv_room (Nat.le_of_ble_eq_true rfl)) dL_law_46 ⟨by show ((((cells + 728) + 64) + 1) + 1) + 1 ≤ 614784; omega, by show ((((slots + 4368) + 384) + 6) + 6) + 6 ≤ 7245417; omega⟩) (fun abY H locs hh => ?_)
  have hh : BH B s.heap [obW B (adX, abX, w11), obW B (adY, abY, w25)] H locs := hh
  refine lv_istore (lv' := [(5, .int r24), (4, .int r6), (3, .int r2), (0, .ref b), (1, .ref (adX 0)), (2, .ref (adY 0))]) hx hb dL_law_49 hl (by decide) rfl (fun ls hl => ?_)
  refine lv_aload_n hx hb dL_law_51 rfl (lv_at hl 4 rfl) ?_
  obtain ⟨⟨z31, w30⟩, hk28, hF⟩ := am_bind hF
  have hF := am_u2 hF
  obtain ⟨r29, hz32, hF⟩ := am_zn hF
  subst hz32
  refine bm_callX (ob := (adX, abX, w11)) hh [] [obW B (adY, abY, w25)] rfl (vx_runV (As := []) (rest := []) X.1 (c_X10_runScript l (obG B (adX, abX, w11) (va_A (obW B (adX, abX, w11)) H.size)) hst hk28) (cwV 0 hts gL_law_X10_runScript rfl rfl rfl (by decide +kernel) ⟨Nat.le_of_ble_eq_true rfl, Nat.le_of_ble_eq_true rfl⟩) (bm_preV (ob := (adX, abX, w11)) X hh [] [obW B (adY, abY, w25)] rfl) rfl rfl hl.1 rfl (lv_room (Nat.le_of_ble_eq_true rfl)) dL_law_52 ⟨by show (((((cells + 728) + 64) + 1) + 1) + 1) + 1 ≤ 614784; omega, by show (((((slots + 4368) + 384) + 6) + 6) + 6) + 6 ≤ 7245417; omega⟩) (fun abX H locs hh => ?_)
  have hh : BH B s.heap [obW B (adX, abX, w30), obW B (adY, abY, w25)] H locs := hh
  refine lv_iconst (v := (3 : Int32)) hx hb dL_law_55 (by decide) ?_
  refine lv_icmp_ne (tgt := 70) hx hb dL_law_56 (by decide) (fun hc33 => ?_) (fun hc33 => ?_)
  · have hF := am_neg hc33 hF
    refine lv_iconst (v := (0 : Int32)) hx hb dL_law_70 (by decide) ?_
    cases hF
  · have hF := am_pos hc33 hF
    refine lv_aload_n hx hb dL_law_59 rfl (lv_at hl 4 rfl) ?_
    obtain ⟨⟨r35, w36⟩, hk34, hF⟩ := am_bind hF
    have hF := am_u2 hF
    refine bm_call (ob := (adX, abX, w30)) hh [] [obW B (adY, abY, w25)] rfl (va_runS (As := [.ref (adX 0)]) (rest := []) X.1 (c_L_state l (obG B (adX, abX, w30) (va_A (obW B (adX, abX, w30)) H.size)) hst hk34) (va_cwS 1 hts gL_law_L_state rfl rfl rfl (by decide +kernel) ⟨Nat.le_of_ble_eq_true rfl, Nat.le_of_ble_eq_true rfl⟩) (bm_preS (ob := (adX, abX, w30)) X hh [] [obW B (adY, abY, w25)] rfl) rfl rfl hl.1 rfl (lv_room (Nat.le_of_ble_eq_true rfl)) dL_law_60 ⟨by show ((((((cells + 728) + 64) + 1) + 1) + 1) + 1) + 728 ≤ 614784; omega, by show ((((((slots + 4368) + 384) + 6) + 6) + 6) + 6) + 4368 ≤ 7245417; omega⟩) (fun abX H locs hh => ?_)
    have hh : BH B s.heap [obW B (adX, abX, w36), obW B (adY, abY, w25)] H locs := hh
    refine lv_aload_n hx hb dL_law_63 rfl (lv_at hl 5 rfl) ?_
    obtain ⟨⟨r39, w40⟩, hk38, hF⟩ := am_bind hF
    have hF := am_u2 hF
    refine bm_call (ob := (adY, abY, w25)) hh [obW B (adX, abX, w36)] [] rfl (va_runS (As := [.ref (adY 0)]) (rest := [.int r35]) X.1 (c_L_state l (obG B (adY, abY, w25) (va_A (obW B (adY, abY, w25)) H.size)) hst hk38) (va_cwS 1 hts gL_law_L_state rfl rfl rfl (by decide +kernel) ⟨Nat.le_of_ble_eq_true rfl, Nat.le_of_ble_eq_true rfl⟩) (bm_preS (ob := (adY, abY, w25)) X hh [obW B (adX, abX, w36)] [] rfl) rfl rfl hl.1 rfl (lv_room (Nat.le_of_ble_eq_true rfl)) dL_law_64 ⟨by show (((((((cells + 728) + 64) + 1) + 1) + 1) + 1) + 728) + 728 ≤ 614784; omega, by show (((((((slots + 4368) + 384) + 6) + 6) + 6) + 6) + 4368) + 4368 ≤ 7245417; omega⟩) (fun abY H locs hh => ?_)
    have hh : BH B s.heap [obW B (adX, abX, w36), obW B (adY, abY, w40)] H locs := hh
    refine lv_icmp_eq (tgt := 72) hx hb dL_law_67 (by decide) (fun hc42 => ?_) (fun hc42 => ?_)
    · have hF := am_pos hc42 hF
      cases hF
      exact W.widen (by omega) (by omega) (kk abX abY H locs ls hh (lv_sub hl [3, 4, 5, 2, 1] rfl))
    · have hF := am_neg hc42 hF
      refine lv_iconst (v := (0 : Int32)) hx hb dL_law_70 (by decide) ?_
      cases hF
def f_law_72 (wX : Wd) (wY : Wd) (l3 : Int32) (l4 : Int32) : Option (Wd × Wd) := ((f_X10_undo wX).bind fun z => u2 z fun z w3 => zc z (fun _ => none) (fun r2 => (if r2 < 0 then none else ((f_L_state w3).bind fun z => u2 z fun r8 w9 => (if r8 = l4 then ((f_X10_undo wY).bind fun z => u2 z fun z w14 => zc z (fun _ => none) (fun r13 => (if r13 < 0 then none else ((f_X10_undo w14).bind fun z => u2 z fun z w20 => zc z (fun _ => none) (fun r19 => (if r19 < 0 then none else ((f_X10_undo w20).bind fun z => u2 z fun z w26 => zc z (fun _ => none) (fun r25 => (if r25 < 0 then none else ((f_L_state w26).bind fun z => u2 z fun r31 w32 => (if r31 = l4 then (some (w9, w32)) else none))))))))))) else none)))))
set_option maxHeartbeats 16000000 in
set_option maxRecDepth 100000 in
theorem c_law_72 (l : Launch) (hst : l.stackTraces = false) {B : BP} {p : Program} {e : Env} {s : State} {m : MethodId} {args : Array Value} {below : List Frame} {meth : Method} {c : Code} {b cells slots abX abY : Nat} {adX adY : Nat → Nat} {H : Heap} {locs : List Loc} {ls : Array Slot} {wX wX1 wY wY1 : Wd} {l3 l4 : Int32} {Q : State → Prop} (X : BX B p s m args meth c cL_law 8 RL wsL_lawQ) (hav : ∀ i, i < 31 → B.2.2 (300 + i) = 1) (hR : ∀ i, i < 31 → 13 ≤ i → vk_R "PlanetWorkshopLaw" (sW.getD i 0) (sX.getD i "") (B.2.2 (100 + i)) s) (hh : BH B s.heap [obW B (adX, abX, wX), obW B (adY, abY, wY)] H locs) (hc : cells + 1460 ≤ 614784) (hs : slots + 8760 ≤ 7245417) (hl : lv_has ls 8 [(0, .ref b), (1, .ref (adX 0)), (2, .ref (adY 0)), (3, .int l3), (4, .int l4)]) (hF : f_law_72 wX wY l3 l4 = some (wX1, wY1)) (kk : ∀ (abX abY : Nat) (H : Heap) (locs : List Loc) (ls : Array Slot), BH B s.heap [obW B (adX, abX, wX1), obW B (adY, abY, wY1)] H locs → lv_has ls 8 [(0, .ref b), (1, .ref (adX 0)), (2, .ref (adY 0)), (3, .int l3), (4, .int l4)] → W p l e room_1 s m args below meth c H locs (cells + 1460) (slots + 8760) Q (F0 m 120 ls [])) : W p l e room_1 s m args below meth c H locs cells slots Q (F0 m 72 ls []) := by
  have hx := X.1.1; have hb := X.1.2.1; have hml := X.1.2.2.1; have hown := X.1.2.2.2.1; have hts := X.1.2.2.2.2
  unfold f_law_72 at hF
  refine lv_aload_n hx hb dL_law_72 rfl (lv_at hl 1 rfl) ?_
  obtain ⟨⟨z4, w3⟩, hk1, hF⟩ := am_bind hF
  have hF := am_u2 hF
  obtain ⟨r2, hz5, hF⟩ := am_zn hF
  subst hz5
  refine bm_callX (ob := (adX, abX, wX)) hh [] [obW B (adY, abY, wY)] rfl (vx_runV (As := []) (rest := []) X.1 (c_X10_undo l (obG B (adX, abX, wX) (va_A (obW B (adX, abX, wX)) H.size)) hst hk1) (cwV 0 hts gL_law_X10_undo rfl rfl rfl (by decide +kernel) ⟨Nat.le_of_ble_eq_true rfl, Nat.le_of_ble_eq_true rfl⟩) (bm_preV (ob := (adX, abX, wX)) X hh [] [obW B (adY, abY, wY)] rfl) rfl rfl hl.1 rfl (lv_room (Nat.le_of_ble_eq_true rfl)) dL_law_73 ⟨by show cells + 1 ≤ 614784; omega, by show slots + 6 ≤ 7245417; omega⟩) (fun abX H locs hh => ?_)
  have hh : BH B s.heap [obW B (adX, abX, w3), obW B (adY, abY, wY)] H locs := hh
  refine lv_if_lt (tgt := 118) hx hb dL_law_76 (by decide) (fun hc6 => ?_) (fun hc6 => ?_)
  · have hF := am_pos hc6 hF
    refine lv_iconst (v := (0 : Int32)) hx hb dL_law_118 (by decide) ?_
    cases hF
  · have hF := am_neg hc6 hF
    refine lv_aload_n hx hb dL_law_79 rfl (lv_at hl 1 rfl) ?_
    obtain ⟨⟨r8, w9⟩, hk7, hF⟩ := am_bind hF
    have hF := am_u2 hF
    refine bm_call (ob := (adX, abX, w3)) hh [] [obW B (adY, abY, wY)] rfl (va_runS (As := [.ref (adX 0)]) (rest := []) X.1 (c_L_state l (obG B (adX, abX, w3) (va_A (obW B (adX, abX, w3)) H.size)) hst hk7) (va_cwS 1 hts gL_law_L_state rfl rfl rfl (by decide +kernel) ⟨Nat.le_of_ble_eq_true rfl, Nat.le_of_ble_eq_true rfl⟩) (bm_preS (ob := (adX, abX, w3)) X hh [] [obW B (adY, abY, wY)] rfl) rfl rfl hl.1 rfl (lv_room (Nat.le_of_ble_eq_true rfl)) dL_law_80 ⟨by show (cells + 1) + 728 ≤ 614784; omega, by show (slots + 6) + 4368 ≤ 7245417; omega⟩) (fun abX H locs hh => ?_)
    have hh : BH B s.heap [obW B (adX, abX, w9), obW B (adY, abY, wY)] H locs := hh
    refine lv_iload hx hb dL_law_83 (lv_at hl 4 rfl) ?_
    refine lv_icmp_ne (tgt := 118) hx hb dL_law_85 (by decide) (fun hc11 => ?_) (fun hc11 => ?_)
    · have hF := am_neg hc11 hF
      refine lv_iconst (v := (0 : Int32)) hx hb dL_law_118 (by decide) ?_
      cases hF
    · have hF := am_pos hc11 hF
      refine lv_aload_n hx hb dL_law_88 rfl (lv_at hl 2 rfl) ?_
      obtain ⟨⟨z15, w14⟩, hk12, hF⟩ := am_bind hF
      have hF := am_u2 hF
      obtain ⟨r13, hz16, hF⟩ := am_zn hF
      subst hz16
      refine bm_callX (ob := (adY, abY, wY)) hh [obW B (adX, abX, w9)] [] rfl (vx_runV (As := []) (rest := []) X.1 (c_X10_undo l (obG B (adY, abY, wY) (va_A (obW B (adY, abY, wY)) H.size)) hst hk12) (cwV 0 hts gL_law_X10_undo rfl rfl rfl (by decide +kernel) ⟨Nat.le_of_ble_eq_true rfl, Nat.le_of_ble_eq_true rfl⟩) (bm_preV (ob := (adY, abY, wY)) X hh [obW B (adX, abX, w9)] [] rfl) rfl rfl hl.1 rfl (lv_room (Nat.le_of_ble_eq_true rfl)) dL_law_89 ⟨by show ((cells + 1) + 728) + 1 ≤ 614784; omega, by show ((slots + 6) + 4368) + 6 ≤ 7245417; omega⟩) (fun abY H locs hh => ?_)
      have hh : BH B s.heap [obW B (adX, abX, w9), obW B (adY, abY, w14)] H locs := hh
      refine lv_if_lt (tgt := 118) hx hb dL_law_92 (by decide) (fun hc17 => ?_) (fun hc17 => ?_)
      · have hF := am_pos hc17 hF
        refine lv_iconst (v := (0 : Int32)) hx hb dL_law_118 (by decide) ?_
        cases hF
      · have hF := am_neg hc17 hF
        refine lv_aload_n hx hb dL_law_95 rfl (lv_at hl 2 rfl) ?_
        obtain ⟨⟨z21, w20⟩, hk18, hF⟩ := am_bind hF
        have hF := am_u2 hF
        obtain ⟨r19, hz22, hF⟩ := am_zn hF
        subst hz22
        refine bm_callX (ob := (adY, abY, w14)) hh [obW B (adX, abX, w9)] [] rfl (vx_runV (As := []) (rest := []) X.1 (c_X10_undo l (obG B (adY, abY, w14) (va_A (obW B (adY, abY, w14)) H.size)) hst hk18) (cwV 0 hts gL_law_X10_undo rfl rfl rfl (by decide +kernel) ⟨Nat.le_of_ble_eq_true rfl, Nat.le_of_ble_eq_true rfl⟩) (bm_preV (ob := (adY, abY, w14)) X hh [obW B (adX, abX, w9)] [] rfl) rfl rfl hl.1 rfl (lv_room (Nat.le_of_ble_eq_true rfl)) dL_law_96 ⟨by show (((cells + 1) + 728) + 1) + 1 ≤ 614784; omega, by show (((slots + 6) + 4368) + 6) + 6 ≤ 7245417; omega⟩) (fun abY H locs hh => ?_)
        have hh : BH B s.heap [obW B (adX, abX, w9), obW B (adY, abY, w20)] H locs := hh
        refine lv_if_lt (tgt := 118) hx hb dL_law_99 (by decide) (fun hc23 => ?_) (fun hc23 => ?_)
        · have hF := am_pos hc23 hF
          refine lv_iconst (v := (0 : Int32)) hx hb dL_law_118 (by decide) ?_
          cases hF
        · have hF := am_neg hc23 hF
          refine lv_aload_n hx hb dL_law_102 rfl (lv_at hl 2 rfl) ?_
          obtain ⟨⟨z27, w26⟩, hk24, hF⟩ := am_bind hF
          have hF := am_u2 hF
          obtain ⟨r25, hz28, hF⟩ := am_zn hF
          subst hz28
          refine bm_callX (ob := (adY, abY, w20)) hh [obW B (adX, abX, w9)] [] rfl (vx_runV (As := []) (rest := []) X.1 (c_X10_undo l (obG B (adY, abY, w20) (va_A (obW B (adY, abY, w20)) H.size)) hst hk24) (cwV 0 hts gL_law_X10_undo rfl rfl rfl (by decide +kernel) ⟨Nat.le_of_ble_eq_true rfl, Nat.le_of_ble_eq_true rfl⟩) (bm_preV (ob := (adY, abY, w20)) X hh [obW B (adX, abX, w9)] [] rfl) rfl rfl hl.1 rfl (lv_room (Nat.le_of_ble_eq_true rfl)) dL_law_103 ⟨by show ((((cells + 1) + 728) + 1) + 1) + 1 ≤ 614784; omega, by show ((((slots + 6) + 4368) + 6) + 6) + 6 ≤ 7245417; omega⟩) (fun abY H locs hh => ?_)
          have hh : BH B s.heap [obW B (adX, abX, w9), obW B (adY, abY, w26)] H locs := hh
          refine lv_if_lt (tgt := 118) hx hb dL_law_106 (by decide) (fun hc29 => ?_) (fun hc29 => ?_)
          · have hF := am_pos hc29 hF
            refine lv_iconst (v := (0 : Int32)) hx hb dL_law_118 (by decide) ?_
            cases hF
          · have hF := am_neg hc29 hF
            refine lv_aload_n hx hb dL_law_109 rfl (lv_at hl 2 rfl) ?_
            obtain ⟨⟨r31, w32⟩, hk30, hF⟩ := am_bind hF
            have hF := am_u2 hF
            refine bm_call (ob := (adY, abY, w26)) hh [obW B (adX, abX, w9)] [] rfl (va_runS (As := [.ref (adY 0)]) (rest := []) X.1 (c_L_state l (obG B (adY, abY, w26) (va_A (obW B (adY, abY, w26)) H.size)) hst hk30) (va_cwS 1 hts gL_law_L_state rfl rfl rfl (by decide +kernel) ⟨Nat.le_of_ble_eq_true rfl, Nat.le_of_ble_eq_true rfl⟩) (bm_preS (ob := (adY, abY, w26)) X hh [obW B (adX, abX, w9)] [] rfl) rfl rfl hl.1 rfl (lv_room (Nat.le_of_ble_eq_true rfl)) dL_law_110 ⟨by show (((((cells + 1) + 728) + 1) + 1) + 1) + 728 ≤ 614784; omega, by show (((((slots + 6) + 4368) + 6) + 6) + 6) + 4368 ≤ 7245417; omega⟩) (fun abY H locs hh => ?_)
            have hh : BH B s.heap [obW B (adX, abX, w9), obW B (adY, abY, w32)] H locs := hh
            refine lv_iload hx hb dL_law_113 (lv_at hl 4 rfl) ?_
            refine lv_icmp_eq (tgt := 120) hx hb dL_law_115 (by decide) (fun hc34 => ?_) (fun hc34 => ?_)
            · have hF := am_pos hc34 hF
              cases hF
              exact W.widen (by omega) (by omega) (kk abX abY H locs ls hh (lv_sub hl [0, 1, 2, 3, 4] rfl))
            · have hF := am_neg hc34 hF
              refine lv_iconst (v := (0 : Int32)) hx hb dL_law_118 (by decide) ?_
              cases hF
def f_law_120 (wX : Wd) (wY : Wd) (l3 : Int32) (l4 : Int32) : Option (Wd × Wd) := ((f_L_put wX 14).bind fun w3 => ((f_L_runs w3).bind fun z => u2 z fun r6 w7 => (if r6 = (-2 : Int32) then ((f_X10_failedCommand w7).bind fun z => zc z (fun _ => none) (fun r11 => (if r11 = (1 : Int32) then ((f_L_state w7).bind fun z => u2 z fun r16 w17 => (if r16 = l4 then (some (w17, wY)) else none)) else none))) else none)))
set_option maxHeartbeats 16000000 in
set_option maxRecDepth 100000 in
theorem c_law_120 (l : Launch) (hst : l.stackTraces = false) {B : BP} {p : Program} {e : Env} {s : State} {m : MethodId} {args : Array Value} {below : List Frame} {meth : Method} {c : Code} {b cells slots abX abY : Nat} {adX adY : Nat → Nat} {H : Heap} {locs : List Loc} {ls : Array Slot} {wX wX1 wY wY1 : Wd} {l3 l4 : Int32} {Q : State → Prop} (X : BX B p s m args meth c cL_law 8 RL wsL_lawQ) (hav : ∀ i, i < 31 → B.2.2 (300 + i) = 1) (hR : ∀ i, i < 31 → 13 ≤ i → vk_R "PlanetWorkshopLaw" (sW.getD i 0) (sX.getD i "") (B.2.2 (100 + i)) s) (hh : BH B s.heap [obW B (adX, abX, wX), obW B (adY, abY, wY)] H locs) (hc : cells + 794 ≤ 614784) (hs : slots + 4764 ≤ 7245417) (hl : lv_has ls 8 [(0, .ref b), (1, .ref (adX 0)), (2, .ref (adY 0)), (3, .int l3), (4, .int l4)]) (hF : f_law_120 wX wY l3 l4 = some (wX1, wY1)) (kk : ∀ (abX abY : Nat) (H : Heap) (locs : List Loc) (ls : Array Slot), BH B s.heap [obW B (adX, abX, wX1), obW B (adY, abY, wY1)] H locs → lv_has ls 8 [(0, .ref b), (1, .ref (adX 0)), (2, .ref (adY 0)), (3, .int l3), (4, .int l4)] → W p l e room_1 s m args below meth c H locs (cells + 794) (slots + 4764) Q (F0 m 154 ls [])) : W p l e room_1 s m args below meth c H locs cells slots Q (F0 m 120 ls []) := by
  have hx := X.1.1; have hb := X.1.2.1; have hml := X.1.2.2.1; have hown := X.1.2.2.2.1; have hts := X.1.2.2.2.2
  unfold f_law_120 at hF
  refine lv_aload_n hx hb dL_law_120 rfl (lv_at hl 1 rfl) ?_
  refine va_ldcS hx hb hown (hR 14 (by decide) (by decide)) dL_law_121 ?_
  obtain ⟨w3, hk1, hF⟩ := am_bind hF
  refine bm_call (ob := (adX, abX, wX)) hh [] [obW B (adY, abY, wY)] rfl (va_runS (As := [.ref (adX 0), .ref (B.2.2 (100 + 14))]) (rest := []) X.1 (c_L_put l (obG B (adX, abX, wX) (va_A (obW B (adX, abX, wX)) H.size)) hst (hav 14 (by decide)) hk1) (va_cwS 2 hts gL_law_L_put rfl rfl rfl (by decide +kernel) ⟨Nat.le_of_ble_eq_true rfl, Nat.le_of_ble_eq_true rfl⟩) (bm_preS (ob := (adX, abX, wX)) X hh [] [obW B (adY, abY, wY)] rfl) rfl rfl hl.1 rfl (lv_room (Nat.le_of_ble_eq_true rfl)) dL_law_123 ⟨by show cells + 64 ≤ 614784; omega, by show slots + 384 ≤ 7245417; omega⟩) (fun abX H locs hh => ?_)
  have hh : BH B s.heap [obW B (adX, abX, w3), obW B (adY, abY, wY)] H locs := hh
  refine lv_aload_n hx hb dL_law_126 rfl (lv_at hl 1 rfl) ?_
  obtain ⟨⟨r6, w7⟩, hk5, hF⟩ := am_bind hF
  have hF := am_u2 hF
  refine bm_callW (ob := (adX, abX, w3)) hh [] [obW B (adY, abY, wY)] rfl (vx_runSX (As := [.ref (adX 0)]) (rest := []) X.1 (c_L_runs l (obG B (adX, abX, w3) (va_A (obW B (adX, abX, w3)) H.size)) hst hk5) (vx_cwSW 1 hts gL_law_L_runs rfl rfl rfl (by decide +kernel) ⟨Nat.le_of_ble_eq_true rfl, Nat.le_of_ble_eq_true rfl⟩) (bm_preS (ob := (adX, abX, w3)) X hh [] [obW B (adY, abY, wY)] rfl) rfl rfl hl.1 rfl (lv_room (Nat.le_of_ble_eq_true rfl)) dL_law_127 ⟨by show (cells + 64) + 1 ≤ 614784; omega, by show (slots + 384) + 6 ≤ 7245417; omega⟩) (fun abX H locs hh => ?_)
  have hh : BH B s.heap [obW B (adX, abX, w7), obW B (adY, abY, wY)] H locs := hh
  refine lv_bipush (v := (-2 : Int32)) hx hb dL_law_130 (by decide) ?_
  refine lv_icmp_ne (tgt := 152) hx hb dL_law_132 (by decide) (fun hc9 => ?_) (fun hc9 => ?_)
  · have hF := am_neg hc9 hF
    refine lv_iconst (v := (0 : Int32)) hx hb dL_law_152 (by decide) ?_
    cases hF
  · have hF := am_pos hc9 hF
    refine lv_aload_n hx hb dL_law_135 rfl (lv_at hl 1 rfl) ?_
    obtain ⟨z12, hk10, hF⟩ := am_bind hF
    obtain ⟨r11, hz13, hF⟩ := am_zn hF
    subst hz13
    refine bm_callX (ob := (adX, abX, w7)) hh [] [obW B (adY, abY, wY)] rfl (vx_runV (As := []) (rest := []) X.1 (c_X10_failedCommand l (obG B (adX, abX, w7) (va_A (obW B (adX, abX, w7)) H.size)) hst hk10) (cwV 0 hts gL_law_X10_failedCommand rfl rfl rfl (by decide +kernel) ⟨Nat.le_of_ble_eq_true rfl, Nat.le_of_ble_eq_true rfl⟩) (bm_preV (ob := (adX, abX, w7)) X hh [] [obW B (adY, abY, wY)] rfl) rfl rfl hl.1 rfl (lv_room (Nat.le_of_ble_eq_true rfl)) dL_law_136 ⟨by show ((cells + 64) + 1) + 1 ≤ 614784; omega, by show ((slots + 384) + 6) + 6 ≤ 7245417; omega⟩) (fun abX H locs hh => ?_)
    have hh : BH B s.heap [obW B (adX, abX, w7), obW B (adY, abY, wY)] H locs := hh
    refine lv_iconst (v := (1 : Int32)) hx hb dL_law_139 (by decide) ?_
    refine lv_icmp_ne (tgt := 152) hx hb dL_law_140 (by decide) (fun hc14 => ?_) (fun hc14 => ?_)
    · have hF := am_neg hc14 hF
      refine lv_iconst (v := (0 : Int32)) hx hb dL_law_152 (by decide) ?_
      cases hF
    · have hF := am_pos hc14 hF
      refine lv_aload_n hx hb dL_law_143 rfl (lv_at hl 1 rfl) ?_
      obtain ⟨⟨r16, w17⟩, hk15, hF⟩ := am_bind hF
      have hF := am_u2 hF
      refine bm_call (ob := (adX, abX, w7)) hh [] [obW B (adY, abY, wY)] rfl (va_runS (As := [.ref (adX 0)]) (rest := []) X.1 (c_L_state l (obG B (adX, abX, w7) (va_A (obW B (adX, abX, w7)) H.size)) hst hk15) (va_cwS 1 hts gL_law_L_state rfl rfl rfl (by decide +kernel) ⟨Nat.le_of_ble_eq_true rfl, Nat.le_of_ble_eq_true rfl⟩) (bm_preS (ob := (adX, abX, w7)) X hh [] [obW B (adY, abY, wY)] rfl) rfl rfl hl.1 rfl (lv_room (Nat.le_of_ble_eq_true rfl)) dL_law_144 ⟨by show (((cells + 64) + 1) + 1) + 728 ≤ 614784; omega, by show (((slots + 384) + 6) + 6) + 4368 ≤ 7245417; omega⟩) (fun abX H locs hh => ?_)
      have hh : BH B s.heap [obW B (adX, abX, w17), obW B (adY, abY, wY)] H locs := hh
      refine lv_iload hx hb dL_law_147 (lv_at hl 4 rfl) ?_
      refine lv_icmp_eq (tgt := 154) hx hb dL_law_149 (by decide) (fun hc19 => ?_) (fun hc19 => ?_)
      · have hF := am_pos hc19 hF
        cases hF
        exact W.widen (by omega) (by omega) (kk abX abY H locs ls hh (lv_sub hl [0, 1, 2, 3, 4] rfl))
      · have hF := am_neg hc19 hF
        refine lv_iconst (v := (0 : Int32)) hx hb dL_law_152 (by decide) ?_
        cases hF
def f_law_154 (wX : Wd) (wY : Wd) (l3 : Int32) (l4 : Int32) : Option (Wd × Wd) := ((f_L_put wX 15).bind fun w3 => ((f_L_runs w3).bind fun z => u2 z fun r6 w7 => (if r6 = (-2 : Int32) then ((f_X10_failedCommand w7).bind fun z => zc z (fun _ => none) (fun r11 => (if r11 = 0 then ((f_L_state w7).bind fun z => u2 z fun r16 w17 => (if r16 = l4 then (some (w17, wY)) else none)) else none))) else none)))
set_option maxHeartbeats 16000000 in
set_option maxRecDepth 100000 in
theorem c_law_154 (l : Launch) (hst : l.stackTraces = false) {B : BP} {p : Program} {e : Env} {s : State} {m : MethodId} {args : Array Value} {below : List Frame} {meth : Method} {c : Code} {b cells slots abX abY : Nat} {adX adY : Nat → Nat} {H : Heap} {locs : List Loc} {ls : Array Slot} {wX wX1 wY wY1 : Wd} {l3 l4 : Int32} {Q : State → Prop} (X : BX B p s m args meth c cL_law 8 RL wsL_lawQ) (hav : ∀ i, i < 31 → B.2.2 (300 + i) = 1) (hR : ∀ i, i < 31 → 13 ≤ i → vk_R "PlanetWorkshopLaw" (sW.getD i 0) (sX.getD i "") (B.2.2 (100 + i)) s) (hh : BH B s.heap [obW B (adX, abX, wX), obW B (adY, abY, wY)] H locs) (hc : cells + 794 ≤ 614784) (hs : slots + 4764 ≤ 7245417) (hl : lv_has ls 8 [(0, .ref b), (1, .ref (adX 0)), (2, .ref (adY 0)), (3, .int l3), (4, .int l4)]) (hF : f_law_154 wX wY l3 l4 = some (wX1, wY1)) (kk : ∀ (abX abY : Nat) (H : Heap) (locs : List Loc) (ls : Array Slot), BH B s.heap [obW B (adX, abX, wX1), obW B (adY, abY, wY1)] H locs → lv_has ls 8 [(0, .ref b), (1, .ref (adX 0)), (2, .ref (adY 0)), (3, .int l3), (4, .int l4)] → W p l e room_1 s m args below meth c H locs (cells + 794) (slots + 4764) Q (F0 m 187 ls [])) : W p l e room_1 s m args below meth c H locs cells slots Q (F0 m 154 ls []) := by
  have hx := X.1.1; have hb := X.1.2.1; have hml := X.1.2.2.1; have hown := X.1.2.2.2.1; have hts := X.1.2.2.2.2
  unfold f_law_154 at hF
  refine lv_aload_n hx hb dL_law_154 rfl (lv_at hl 1 rfl) ?_
  refine va_ldcS hx hb hown (hR 15 (by decide) (by decide)) dL_law_155 ?_
  obtain ⟨w3, hk1, hF⟩ := am_bind hF
  refine bm_call (ob := (adX, abX, wX)) hh [] [obW B (adY, abY, wY)] rfl (va_runS (As := [.ref (adX 0), .ref (B.2.2 (100 + 15))]) (rest := []) X.1 (c_L_put l (obG B (adX, abX, wX) (va_A (obW B (adX, abX, wX)) H.size)) hst (hav 15 (by decide)) hk1) (va_cwS 2 hts gL_law_L_put rfl rfl rfl (by decide +kernel) ⟨Nat.le_of_ble_eq_true rfl, Nat.le_of_ble_eq_true rfl⟩) (bm_preS (ob := (adX, abX, wX)) X hh [] [obW B (adY, abY, wY)] rfl) rfl rfl hl.1 rfl (lv_room (Nat.le_of_ble_eq_true rfl)) dL_law_157 ⟨by show cells + 64 ≤ 614784; omega, by show slots + 384 ≤ 7245417; omega⟩) (fun abX H locs hh => ?_)
  have hh : BH B s.heap [obW B (adX, abX, w3), obW B (adY, abY, wY)] H locs := hh
  refine lv_aload_n hx hb dL_law_160 rfl (lv_at hl 1 rfl) ?_
  obtain ⟨⟨r6, w7⟩, hk5, hF⟩ := am_bind hF
  have hF := am_u2 hF
  refine bm_callW (ob := (adX, abX, w3)) hh [] [obW B (adY, abY, wY)] rfl (vx_runSX (As := [.ref (adX 0)]) (rest := []) X.1 (c_L_runs l (obG B (adX, abX, w3) (va_A (obW B (adX, abX, w3)) H.size)) hst hk5) (vx_cwSW 1 hts gL_law_L_runs rfl rfl rfl (by decide +kernel) ⟨Nat.le_of_ble_eq_true rfl, Nat.le_of_ble_eq_true rfl⟩) (bm_preS (ob := (adX, abX, w3)) X hh [] [obW B (adY, abY, wY)] rfl) rfl rfl hl.1 rfl (lv_room (Nat.le_of_ble_eq_true rfl)) dL_law_161 ⟨by show (cells + 64) + 1 ≤ 614784; omega, by show (slots + 384) + 6 ≤ 7245417; omega⟩) (fun abX H locs hh => ?_)
  have hh : BH B s.heap [obW B (adX, abX, w7), obW B (adY, abY, wY)] H locs := hh
  refine lv_bipush (v := (-2 : Int32)) hx hb dL_law_164 (by decide) ?_
  refine lv_icmp_ne (tgt := 185) hx hb dL_law_166 (by decide) (fun hc9 => ?_) (fun hc9 => ?_)
  · have hF := am_neg hc9 hF
    refine lv_iconst (v := (0 : Int32)) hx hb dL_law_185 (by decide) ?_
    cases hF
  · have hF := am_pos hc9 hF
    refine lv_aload_n hx hb dL_law_169 rfl (lv_at hl 1 rfl) ?_
    obtain ⟨z12, hk10, hF⟩ := am_bind hF
    obtain ⟨r11, hz13, hF⟩ := am_zn hF
    subst hz13
    refine bm_callX (ob := (adX, abX, w7)) hh [] [obW B (adY, abY, wY)] rfl (vx_runV (As := []) (rest := []) X.1 (c_X10_failedCommand l (obG B (adX, abX, w7) (va_A (obW B (adX, abX, w7)) H.size)) hst hk10) (cwV 0 hts gL_law_X10_failedCommand rfl rfl rfl (by decide +kernel) ⟨Nat.le_of_ble_eq_true rfl, Nat.le_of_ble_eq_true rfl⟩) (bm_preV (ob := (adX, abX, w7)) X hh [] [obW B (adY, abY, wY)] rfl) rfl rfl hl.1 rfl (lv_room (Nat.le_of_ble_eq_true rfl)) dL_law_170 ⟨by show ((cells + 64) + 1) + 1 ≤ 614784; omega, by show ((slots + 384) + 6) + 6 ≤ 7245417; omega⟩) (fun abX H locs hh => ?_)
    have hh : BH B s.heap [obW B (adX, abX, w7), obW B (adY, abY, wY)] H locs := hh
    refine lv_if_ne (tgt := 185) hx hb dL_law_173 (by decide) (fun hc14 => ?_) (fun hc14 => ?_)
    · have hF := am_neg hc14 hF
      refine lv_iconst (v := (0 : Int32)) hx hb dL_law_185 (by decide) ?_
      cases hF
    · have hF := am_pos hc14 hF
      refine lv_aload_n hx hb dL_law_176 rfl (lv_at hl 1 rfl) ?_
      obtain ⟨⟨r16, w17⟩, hk15, hF⟩ := am_bind hF
      have hF := am_u2 hF
      refine bm_call (ob := (adX, abX, w7)) hh [] [obW B (adY, abY, wY)] rfl (va_runS (As := [.ref (adX 0)]) (rest := []) X.1 (c_L_state l (obG B (adX, abX, w7) (va_A (obW B (adX, abX, w7)) H.size)) hst hk15) (va_cwS 1 hts gL_law_L_state rfl rfl rfl (by decide +kernel) ⟨Nat.le_of_ble_eq_true rfl, Nat.le_of_ble_eq_true rfl⟩) (bm_preS (ob := (adX, abX, w7)) X hh [] [obW B (adY, abY, wY)] rfl) rfl rfl hl.1 rfl (lv_room (Nat.le_of_ble_eq_true rfl)) dL_law_177 ⟨by show (((cells + 64) + 1) + 1) + 728 ≤ 614784; omega, by show (((slots + 384) + 6) + 6) + 4368 ≤ 7245417; omega⟩) (fun abX H locs hh => ?_)
      have hh : BH B s.heap [obW B (adX, abX, w17), obW B (adY, abY, wY)] H locs := hh
      refine lv_iload hx hb dL_law_180 (lv_at hl 4 rfl) ?_
      refine lv_icmp_eq (tgt := 187) hx hb dL_law_182 (by decide) (fun hc19 => ?_) (fun hc19 => ?_)
      · have hF := am_pos hc19 hF
        cases hF
        exact W.widen (by omega) (by omega) (kk abX abY H locs ls hh (lv_sub hl [0, 1, 2, 3, 4] rfl))
      · have hF := am_neg hc19 hF
        refine lv_iconst (v := (0 : Int32)) hx hb dL_law_185 (by decide) ?_
        cases hF
def f_law_187 (wX : Wd) (wY : Wd) (l3 : Int32) (l4 : Int32) : Option (Wd × Wd) := ((f_L_fails wX 16 (1 : Int32)).bind fun z => u2 z fun r2 w3 => (if r2 = 0 then none else ((f_L_fails w3 17 (2 : Int32)).bind fun z => u2 z fun r7 w8 => (if r7 = 0 then none else ((f_L_fails w8 18 (6 : Int32)).bind fun z => u2 z fun r12 w13 => (if r12 = 0 then none else ((f_L_fails w13 19 (8 : Int32)).bind fun z => u2 z fun r17 w18 => (if r17 = 0 then none else ((f_L_fails w18 20 (8 : Int32)).bind fun z => u2 z fun r22 w23 => (if r22 = 0 then none else ((f_L_fails w23 21 (0 : Int32)).bind fun z => u2 z fun r27 w28 => (if r27 = 0 then none else ((f_L_fails w28 22 (6 : Int32)).bind fun z => u2 z fun r32 w33 => (if r32 = 0 then none else ((f_L_fails w33 23 (1 : Int32)).bind fun z => u2 z fun r37 w38 => (if r37 = 0 then none else ((f_L_fails w38 24 (9 : Int32)).bind fun z => u2 z fun r42 w43 => (if r42 = 0 then none else ((f_L_fails w43 25 (0 : Int32)).bind fun z => u2 z fun r47 w48 => (if r47 = 0 then none else ((f_X10_failedCommand w48).bind fun z => zc z (fun _ => none) (fun r52 => (if r52 = 0 then ((f_L_state w48).bind fun z => u2 z fun r57 w58 => (if r57 = l4 then (some (w58, wY)) else none)) else none)))))))))))))))))))))))
set_option maxHeartbeats 16000000 in
set_option maxRecDepth 100000 in
theorem c_law_187 (l : Launch) (hst : l.stackTraces = false) {B : BP} {p : Program} {e : Env} {s : State} {m : MethodId} {args : Array Value} {below : List Frame} {meth : Method} {c : Code} {b cells slots abX abY : Nat} {adX adY : Nat → Nat} {H : Heap} {locs : List Loc} {ls : Array Slot} {wX wX1 wY wY1 : Wd} {l3 l4 : Int32} {Q : State → Prop} (X : BX B p s m args meth c cL_law 8 RL wsL_lawQ) (hav : ∀ i, i < 31 → B.2.2 (300 + i) = 1) (hR : ∀ i, i < 31 → 13 ≤ i → vk_R "PlanetWorkshopLaw" (sW.getD i 0) (sX.getD i "") (B.2.2 (100 + i)) s) (hh : BH B s.heap [obW B (adX, abX, wX), obW B (adY, abY, wY)] H locs) (hc : cells + 1389 ≤ 614784) (hs : slots + 8334 ≤ 7245417) (hl : lv_has ls 8 [(0, .ref b), (1, .ref (adX 0)), (2, .ref (adY 0)), (3, .int l3), (4, .int l4)]) (hF : f_law_187 wX wY l3 l4 = some (wX1, wY1)) (kk : ∀ (abX abY : Nat) (H : Heap) (locs : List Loc) (ls : Array Slot), BH B s.heap [obW B (adX, abX, wX1), obW B (adY, abY, wY1)] H locs → lv_has ls 8 [(0, .ref b), (1, .ref (adX 0)), (2, .ref (adY 0)), (3, .int l3), (4, .int l4)] → W p l e room_1 s m args below meth c H locs (cells + 1389) (slots + 8334) Q (F0 m 310 ls [])) : W p l e room_1 s m args below meth c H locs cells slots Q (F0 m 187 ls []) := by
  have hx := X.1.1; have hb := X.1.2.1; have hml := X.1.2.2.1; have hown := X.1.2.2.2.1; have hts := X.1.2.2.2.2
  unfold f_law_187 at hF
  refine lv_aload_n hx hb dL_law_187 rfl (lv_at hl 1 rfl) ?_
  refine va_ldcS hx hb hown (hR 16 (by decide) (by decide)) dL_law_188 ?_
  refine lv_iconst (v := (1 : Int32)) hx hb dL_law_190 (by decide) ?_
  obtain ⟨⟨r2, w3⟩, hk1, hF⟩ := am_bind hF
  have hF := am_u2 hF
  refine bm_call (ob := (adX, abX, wX)) hh [] [obW B (adY, abY, wY)] rfl (va_runS (As := [.ref (adX 0), .ref (B.2.2 (100 + 16)), .int (1 : Int32)]) (rest := []) X.1 (c_L_fails l (obG B (adX, abX, wX) (va_A (obW B (adX, abX, wX)) H.size)) hst (hav 16 (by decide)) hk1) (va_cwS 3 hts gL_law_L_fails rfl rfl rfl (by decide +kernel) ⟨Nat.le_of_ble_eq_true rfl, Nat.le_of_ble_eq_true rfl⟩) (bm_preS (ob := (adX, abX, wX)) X hh [] [obW B (adY, abY, wY)] rfl) rfl rfl hl.1 rfl (lv_room (Nat.le_of_ble_eq_true rfl)) dL_law_191 ⟨by show cells + 66 ≤ 614784; omega, by show slots + 396 ≤ 7245417; omega⟩) (fun abX H locs hh => ?_)
  have hh : BH B s.heap [obW B (adX, abX, w3), obW B (adY, abY, wY)] H locs := hh
  refine lv_if_eq (tgt := 308) hx hb dL_law_194 (by decide) (fun hc5 => ?_) (fun hc5 => ?_)
  · have hF := am_pos hc5 hF
    refine lv_iconst (v := (0 : Int32)) hx hb dL_law_308 (by decide) ?_
    cases hF
  · have hF := am_neg hc5 hF
    refine lv_aload_n hx hb dL_law_197 rfl (lv_at hl 1 rfl) ?_
    refine va_ldcS hx hb hown (hR 17 (by decide) (by decide)) dL_law_198 ?_
    refine lv_iconst (v := (2 : Int32)) hx hb dL_law_200 (by decide) ?_
    obtain ⟨⟨r7, w8⟩, hk6, hF⟩ := am_bind hF
    have hF := am_u2 hF
    refine bm_call (ob := (adX, abX, w3)) hh [] [obW B (adY, abY, wY)] rfl (va_runS (As := [.ref (adX 0), .ref (B.2.2 (100 + 17)), .int (2 : Int32)]) (rest := []) X.1 (c_L_fails l (obG B (adX, abX, w3) (va_A (obW B (adX, abX, w3)) H.size)) hst (hav 17 (by decide)) hk6) (va_cwS 3 hts gL_law_L_fails rfl rfl rfl (by decide +kernel) ⟨Nat.le_of_ble_eq_true rfl, Nat.le_of_ble_eq_true rfl⟩) (bm_preS (ob := (adX, abX, w3)) X hh [] [obW B (adY, abY, wY)] rfl) rfl rfl hl.1 rfl (lv_room (Nat.le_of_ble_eq_true rfl)) dL_law_201 ⟨by show (cells + 66) + 66 ≤ 614784; omega, by show (slots + 396) + 396 ≤ 7245417; omega⟩) (fun abX H locs hh => ?_)
    have hh : BH B s.heap [obW B (adX, abX, w8), obW B (adY, abY, wY)] H locs := hh
    refine lv_if_eq (tgt := 308) hx hb dL_law_204 (by decide) (fun hc10 => ?_) (fun hc10 => ?_)
    · have hF := am_pos hc10 hF
      refine lv_iconst (v := (0 : Int32)) hx hb dL_law_308 (by decide) ?_
      cases hF
    · have hF := am_neg hc10 hF
      refine lv_aload_n hx hb dL_law_207 rfl (lv_at hl 1 rfl) ?_
      refine va_ldcS hx hb hown (hR 18 (by decide) (by decide)) dL_law_208 ?_
      refine lv_bipush (v := (6 : Int32)) hx hb dL_law_210 (by decide) ?_
      obtain ⟨⟨r12, w13⟩, hk11, hF⟩ := am_bind hF
      have hF := am_u2 hF
      refine bm_call (ob := (adX, abX, w8)) hh [] [obW B (adY, abY, wY)] rfl (va_runS (As := [.ref (adX 0), .ref (B.2.2 (100 + 18)), .int (6 : Int32)]) (rest := []) X.1 (c_L_fails l (obG B (adX, abX, w8) (va_A (obW B (adX, abX, w8)) H.size)) hst (hav 18 (by decide)) hk11) (va_cwS 3 hts gL_law_L_fails rfl rfl rfl (by decide +kernel) ⟨Nat.le_of_ble_eq_true rfl, Nat.le_of_ble_eq_true rfl⟩) (bm_preS (ob := (adX, abX, w8)) X hh [] [obW B (adY, abY, wY)] rfl) rfl rfl hl.1 rfl (lv_room (Nat.le_of_ble_eq_true rfl)) dL_law_212 ⟨by show ((cells + 66) + 66) + 66 ≤ 614784; omega, by show ((slots + 396) + 396) + 396 ≤ 7245417; omega⟩) (fun abX H locs hh => ?_)
      have hh : BH B s.heap [obW B (adX, abX, w13), obW B (adY, abY, wY)] H locs := hh
      refine lv_if_eq (tgt := 308) hx hb dL_law_215 (by decide) (fun hc15 => ?_) (fun hc15 => ?_)
      · have hF := am_pos hc15 hF
        refine lv_iconst (v := (0 : Int32)) hx hb dL_law_308 (by decide) ?_
        cases hF
      · have hF := am_neg hc15 hF
        refine lv_aload_n hx hb dL_law_218 rfl (lv_at hl 1 rfl) ?_
        refine va_ldcS hx hb hown (hR 19 (by decide) (by decide)) dL_law_219 ?_
        refine lv_bipush (v := (8 : Int32)) hx hb dL_law_221 (by decide) ?_
        obtain ⟨⟨r17, w18⟩, hk16, hF⟩ := am_bind hF
        have hF := am_u2 hF
        refine bm_call (ob := (adX, abX, w13)) hh [] [obW B (adY, abY, wY)] rfl (va_runS (As := [.ref (adX 0), .ref (B.2.2 (100 + 19)), .int (8 : Int32)]) (rest := []) X.1 (c_L_fails l (obG B (adX, abX, w13) (va_A (obW B (adX, abX, w13)) H.size)) hst (hav 19 (by decide)) hk16) (va_cwS 3 hts gL_law_L_fails rfl rfl rfl (by decide +kernel) ⟨Nat.le_of_ble_eq_true rfl, Nat.le_of_ble_eq_true rfl⟩) (bm_preS (ob := (adX, abX, w13)) X hh [] [obW B (adY, abY, wY)] rfl) rfl rfl hl.1 rfl (lv_room (Nat.le_of_ble_eq_true rfl)) dL_law_223 ⟨by show (((cells + 66) + 66) + 66) + 66 ≤ 614784; omega, by show (((slots + 396) + 396) + 396) + 396 ≤ 7245417; omega⟩) (fun abX H locs hh => ?_)
        have hh : BH B s.heap [obW B (adX, abX, w18), obW B (adY, abY, wY)] H locs := hh
        refine lv_if_eq (tgt := 308) hx hb dL_law_226 (by decide) (fun hc20 => ?_) (fun hc20 => ?_)
        · have hF := am_pos hc20 hF
          refine lv_iconst (v := (0 : Int32)) hx hb dL_law_308 (by decide) ?_
          cases hF
        · have hF := am_neg hc20 hF
          refine lv_aload_n hx hb dL_law_229 rfl (lv_at hl 1 rfl) ?_
          refine va_ldcS hx hb hown (hR 20 (by decide) (by decide)) dL_law_230 ?_
          refine lv_bipush (v := (8 : Int32)) hx hb dL_law_232 (by decide) ?_
          obtain ⟨⟨r22, w23⟩, hk21, hF⟩ := am_bind hF
          have hF := am_u2 hF
          refine bm_call (ob := (adX, abX, w18)) hh [] [obW B (adY, abY, wY)] rfl (va_runS (As := [.ref (adX 0), .ref (B.2.2 (100 + 20)), .int (8 : Int32)]) (rest := []) X.1 (c_L_fails l (obG B (adX, abX, w18) (va_A (obW B (adX, abX, w18)) H.size)) hst (hav 20 (by decide)) hk21) (va_cwS 3 hts gL_law_L_fails rfl rfl rfl (by decide +kernel) ⟨Nat.le_of_ble_eq_true rfl, Nat.le_of_ble_eq_true rfl⟩) (bm_preS (ob := (adX, abX, w18)) X hh [] [obW B (adY, abY, wY)] rfl) rfl rfl hl.1 rfl (lv_room (Nat.le_of_ble_eq_true rfl)) dL_law_234 ⟨by show ((((cells + 66) + 66) + 66) + 66) + 66 ≤ 614784; omega, by show ((((slots + 396) + 396) + 396) + 396) + 396 ≤ 7245417; omega⟩) (fun abX H locs hh => ?_)
          have hh : BH B s.heap [obW B (adX, abX, w23), obW B (adY, abY, wY)] H locs := hh
          refine lv_if_eq (tgt := 308) hx hb dL_law_237 (by decide) (fun hc25 => ?_) (fun hc25 => ?_)
          · have hF := am_pos hc25 hF
            refine lv_iconst (v := (0 : Int32)) hx hb dL_law_308 (by decide) ?_
            cases hF
          · have hF := am_neg hc25 hF
            refine lv_aload_n hx hb dL_law_240 rfl (lv_at hl 1 rfl) ?_
            refine va_ldcS hx hb hown (hR 21 (by decide) (by decide)) dL_law_241 ?_
            refine lv_iconst (v := (0 : Int32)) hx hb dL_law_243 (by decide) ?_
            obtain ⟨⟨r27, w28⟩, hk26, hF⟩ := am_bind hF
            have hF := am_u2 hF
            refine bm_call (ob := (adX, abX, w23)) hh [] [obW B (adY, abY, wY)] rfl (va_runS (As := [.ref (adX 0), .ref (B.2.2 (100 + 21)), .int (0 : Int32)]) (rest := []) X.1 (c_L_fails l (obG B (adX, abX, w23) (va_A (obW B (adX, abX, w23)) H.size)) hst (hav 21 (by decide)) hk26) (va_cwS 3 hts gL_law_L_fails rfl rfl rfl (by decide +kernel) ⟨Nat.le_of_ble_eq_true rfl, Nat.le_of_ble_eq_true rfl⟩) (bm_preS (ob := (adX, abX, w23)) X hh [] [obW B (adY, abY, wY)] rfl) rfl rfl hl.1 rfl (lv_room (Nat.le_of_ble_eq_true rfl)) dL_law_244 ⟨by show (((((cells + 66) + 66) + 66) + 66) + 66) + 66 ≤ 614784; omega, by show (((((slots + 396) + 396) + 396) + 396) + 396) + 396 ≤ 7245417; omega⟩) (fun abX H locs hh => ?_)
            have hh : BH B s.heap [obW B (adX, abX, w28), obW B (adY, abY, wY)] H locs := hh
            refine lv_if_eq (tgt := 308) hx hb dL_law_247 (by decide) (fun hc30 => ?_) (fun hc30 => ?_)
            · have hF := am_pos hc30 hF
              refine lv_iconst (v := (0 : Int32)) hx hb dL_law_308 (by decide) ?_
              cases hF
            · have hF := am_neg hc30 hF
              refine lv_aload_n hx hb dL_law_250 rfl (lv_at hl 1 rfl) ?_
              refine va_ldcS hx hb hown (hR 22 (by decide) (by decide)) dL_law_251 ?_
              refine lv_bipush (v := (6 : Int32)) hx hb dL_law_253 (by decide) ?_
              obtain ⟨⟨r32, w33⟩, hk31, hF⟩ := am_bind hF
              have hF := am_u2 hF
              refine bm_call (ob := (adX, abX, w28)) hh [] [obW B (adY, abY, wY)] rfl (va_runS (As := [.ref (adX 0), .ref (B.2.2 (100 + 22)), .int (6 : Int32)]) (rest := []) X.1 (c_L_fails l (obG B (adX, abX, w28) (va_A (obW B (adX, abX, w28)) H.size)) hst (hav 22 (by decide)) hk31) (va_cwS 3 hts gL_law_L_fails rfl rfl rfl (by decide +kernel) ⟨Nat.le_of_ble_eq_true rfl, Nat.le_of_ble_eq_true rfl⟩) (bm_preS (ob := (adX, abX, w28)) X hh [] [obW B (adY, abY, wY)] rfl) rfl rfl hl.1 rfl (lv_room (Nat.le_of_ble_eq_true rfl)) dL_law_255 ⟨by show ((((((cells + 66) + 66) + 66) + 66) + 66) + 66) + 66 ≤ 614784; omega, by show ((((((slots + 396) + 396) + 396) + 396) + 396) + 396) + 396 ≤ 7245417; omega⟩) (fun abX H locs hh => ?_)
              have hh : BH B s.heap [obW B (adX, abX, w33), obW B (adY, abY, wY)] H locs := hh
              refine lv_if_eq (tgt := 308) hx hb dL_law_258 (by decide) (fun hc35 => ?_) (fun hc35 => ?_)
              · have hF := am_pos hc35 hF
                refine lv_iconst (v := (0 : Int32)) hx hb dL_law_308 (by decide) ?_
                cases hF
              · have hF := am_neg hc35 hF
                refine lv_aload_n hx hb dL_law_261 rfl (lv_at hl 1 rfl) ?_
                refine va_ldcS hx hb hown (hR 23 (by decide) (by decide)) dL_law_262 ?_
                refine lv_iconst (v := (1 : Int32)) hx hb dL_law_264 (by decide) ?_
                obtain ⟨⟨r37, w38⟩, hk36, hF⟩ := am_bind hF
                have hF := am_u2 hF
                refine bm_call (ob := (adX, abX, w33)) hh [] [obW B (adY, abY, wY)] rfl (va_runS (As := [.ref (adX 0), .ref (B.2.2 (100 + 23)), .int (1 : Int32)]) (rest := []) X.1 (c_L_fails l (obG B (adX, abX, w33) (va_A (obW B (adX, abX, w33)) H.size)) hst (hav 23 (by decide)) hk36) (va_cwS 3 hts gL_law_L_fails rfl rfl rfl (by decide +kernel) ⟨Nat.le_of_ble_eq_true rfl, Nat.le_of_ble_eq_true rfl⟩) (bm_preS (ob := (adX, abX, w33)) X hh [] [obW B (adY, abY, wY)] rfl) rfl rfl hl.1 rfl (lv_room (Nat.le_of_ble_eq_true rfl)) dL_law_265 ⟨by show (((((((cells + 66) + 66) + 66) + 66) + 66) + 66) + 66) + 66 ≤ 614784; omega, by show (((((((slots + 396) + 396) + 396) + 396) + 396) + 396) + 396) + 396 ≤ 7245417; omega⟩) (fun abX H locs hh => ?_)
                have hh : BH B s.heap [obW B (adX, abX, w38), obW B (adY, abY, wY)] H locs := hh
                refine lv_if_eq (tgt := 308) hx hb dL_law_268 (by decide) (fun hc40 => ?_) (fun hc40 => ?_)
                · have hF := am_pos hc40 hF
                  refine lv_iconst (v := (0 : Int32)) hx hb dL_law_308 (by decide) ?_
                  cases hF
                · have hF := am_neg hc40 hF
                  refine lv_aload_n hx hb dL_law_271 rfl (lv_at hl 1 rfl) ?_
                  refine va_ldcS hx hb hown (hR 24 (by decide) (by decide)) dL_law_272 ?_
                  refine lv_bipush (v := (9 : Int32)) hx hb dL_law_274 (by decide) ?_
                  obtain ⟨⟨r42, w43⟩, hk41, hF⟩ := am_bind hF
                  have hF := am_u2 hF
                  refine bm_call (ob := (adX, abX, w38)) hh [] [obW B (adY, abY, wY)] rfl (va_runS (As := [.ref (adX 0), .ref (B.2.2 (100 + 24)), .int (9 : Int32)]) (rest := []) X.1 (c_L_fails l (obG B (adX, abX, w38) (va_A (obW B (adX, abX, w38)) H.size)) hst (hav 24 (by decide)) hk41) (va_cwS 3 hts gL_law_L_fails rfl rfl rfl (by decide +kernel) ⟨Nat.le_of_ble_eq_true rfl, Nat.le_of_ble_eq_true rfl⟩) (bm_preS (ob := (adX, abX, w38)) X hh [] [obW B (adY, abY, wY)] rfl) rfl rfl hl.1 rfl (lv_room (Nat.le_of_ble_eq_true rfl)) dL_law_276 ⟨by show ((((((((cells + 66) + 66) + 66) + 66) + 66) + 66) + 66) + 66) + 66 ≤ 614784; omega, by show ((((((((slots + 396) + 396) + 396) + 396) + 396) + 396) + 396) + 396) + 396 ≤ 7245417; omega⟩) (fun abX H locs hh => ?_)
                  have hh : BH B s.heap [obW B (adX, abX, w43), obW B (adY, abY, wY)] H locs := hh
                  refine lv_if_eq (tgt := 308) hx hb dL_law_279 (by decide) (fun hc45 => ?_) (fun hc45 => ?_)
                  · have hF := am_pos hc45 hF
                    refine lv_iconst (v := (0 : Int32)) hx hb dL_law_308 (by decide) ?_
                    cases hF
                  · have hF := am_neg hc45 hF
                    refine lv_aload_n hx hb dL_law_282 rfl (lv_at hl 1 rfl) ?_
                    refine va_ldcS hx hb hown (hR 25 (by decide) (by decide)) dL_law_283 ?_
                    refine lv_iconst (v := (0 : Int32)) hx hb dL_law_285 (by decide) ?_
                    obtain ⟨⟨r47, w48⟩, hk46, hF⟩ := am_bind hF
                    have hF := am_u2 hF
                    refine bm_call (ob := (adX, abX, w43)) hh [] [obW B (adY, abY, wY)] rfl (va_runS (As := [.ref (adX 0), .ref (B.2.2 (100 + 25)), .int (0 : Int32)]) (rest := []) X.1 (c_L_fails l (obG B (adX, abX, w43) (va_A (obW B (adX, abX, w43)) H.size)) hst (hav 25 (by decide)) hk46) (va_cwS 3 hts gL_law_L_fails rfl rfl rfl (by decide +kernel) ⟨Nat.le_of_ble_eq_true rfl, Nat.le_of_ble_eq_true rfl⟩) (bm_preS (ob := (adX, abX, w43)) X hh [] [obW B (adY, abY, wY)] rfl) rfl rfl hl.1 rfl (lv_room (Nat.le_of_ble_eq_true rfl)) dL_law_286 ⟨by show (((((((((cells + 66) + 66) + 66) + 66) + 66) + 66) + 66) + 66) + 66) + 66 ≤ 614784; omega, by show (((((((((slots + 396) + 396) + 396) + 396) + 396) + 396) + 396) + 396) + 396) + 396 ≤ 7245417; omega⟩) (fun abX H locs hh => ?_)
                    have hh : BH B s.heap [obW B (adX, abX, w48), obW B (adY, abY, wY)] H locs := hh
                    refine lv_if_eq (tgt := 308) hx hb dL_law_289 (by decide) (fun hc50 => ?_) (fun hc50 => ?_)
                    · have hF := am_pos hc50 hF
                      refine lv_iconst (v := (0 : Int32)) hx hb dL_law_308 (by decide) ?_
                      cases hF
                    · have hF := am_neg hc50 hF
                      refine lv_aload_n hx hb dL_law_292 rfl (lv_at hl 1 rfl) ?_
                      obtain ⟨z53, hk51, hF⟩ := am_bind hF
                      obtain ⟨r52, hz54, hF⟩ := am_zn hF
                      subst hz54
                      refine bm_callX (ob := (adX, abX, w48)) hh [] [obW B (adY, abY, wY)] rfl (vx_runV (As := []) (rest := []) X.1 (c_X10_failedCommand l (obG B (adX, abX, w48) (va_A (obW B (adX, abX, w48)) H.size)) hst hk51) (cwV 0 hts gL_law_X10_failedCommand rfl rfl rfl (by decide +kernel) ⟨Nat.le_of_ble_eq_true rfl, Nat.le_of_ble_eq_true rfl⟩) (bm_preV (ob := (adX, abX, w48)) X hh [] [obW B (adY, abY, wY)] rfl) rfl rfl hl.1 rfl (lv_room (Nat.le_of_ble_eq_true rfl)) dL_law_293 ⟨by show ((((((((((cells + 66) + 66) + 66) + 66) + 66) + 66) + 66) + 66) + 66) + 66) + 1 ≤ 614784; omega, by show ((((((((((slots + 396) + 396) + 396) + 396) + 396) + 396) + 396) + 396) + 396) + 396) + 6 ≤ 7245417; omega⟩) (fun abX H locs hh => ?_)
                      have hh : BH B s.heap [obW B (adX, abX, w48), obW B (adY, abY, wY)] H locs := hh
                      refine lv_if_ne (tgt := 308) hx hb dL_law_296 (by decide) (fun hc55 => ?_) (fun hc55 => ?_)
                      · have hF := am_neg hc55 hF
                        refine lv_iconst (v := (0 : Int32)) hx hb dL_law_308 (by decide) ?_
                        cases hF
                      · have hF := am_pos hc55 hF
                        refine lv_aload_n hx hb dL_law_299 rfl (lv_at hl 1 rfl) ?_
                        obtain ⟨⟨r57, w58⟩, hk56, hF⟩ := am_bind hF
                        have hF := am_u2 hF
                        refine bm_call (ob := (adX, abX, w48)) hh [] [obW B (adY, abY, wY)] rfl (va_runS (As := [.ref (adX 0)]) (rest := []) X.1 (c_L_state l (obG B (adX, abX, w48) (va_A (obW B (adX, abX, w48)) H.size)) hst hk56) (va_cwS 1 hts gL_law_L_state rfl rfl rfl (by decide +kernel) ⟨Nat.le_of_ble_eq_true rfl, Nat.le_of_ble_eq_true rfl⟩) (bm_preS (ob := (adX, abX, w48)) X hh [] [obW B (adY, abY, wY)] rfl) rfl rfl hl.1 rfl (lv_room (Nat.le_of_ble_eq_true rfl)) dL_law_300 ⟨by show (((((((((((cells + 66) + 66) + 66) + 66) + 66) + 66) + 66) + 66) + 66) + 66) + 1) + 728 ≤ 614784; omega, by show (((((((((((slots + 396) + 396) + 396) + 396) + 396) + 396) + 396) + 396) + 396) + 396) + 6) + 4368 ≤ 7245417; omega⟩) (fun abX H locs hh => ?_)
                        have hh : BH B s.heap [obW B (adX, abX, w58), obW B (adY, abY, wY)] H locs := hh
                        refine lv_iload hx hb dL_law_303 (lv_at hl 4 rfl) ?_
                        refine lv_icmp_eq (tgt := 310) hx hb dL_law_305 (by decide) (fun hc60 => ?_) (fun hc60 => ?_)
                        · have hF := am_pos hc60 hF
                          cases hF
                          exact W.widen (by omega) (by omega) (kk abX abY H locs ls hh (lv_sub hl [0, 1, 2, 3, 4] rfl))
                        · have hF := am_neg hc60 hF
                          refine lv_iconst (v := (0 : Int32)) hx hb dL_law_308 (by decide) ?_
                          cases hF
def f_law_310 (wX : Wd) (wY : Wd) (l3 : Int32) (l4 : Int32) (sc : Sc) : Option (Wd × Wd × Int32) := ((f_L_at sc (13 : Int32)).bind fun r1 => (some (wX, wY, ((1 : Int32) + (r1 &&& (3 : Int32))))))
set_option maxHeartbeats 16000000 in
set_option maxRecDepth 100000 in
theorem c_law_310 (l : Launch) (hst : l.stackTraces = false) {B : BP} {p : Program} {e : Env} {s : State} {m : MethodId} {args : Array Value} {below : List Frame} {meth : Method} {c : Code} {b cells slots abX abY : Nat} {adX adY : Nat → Nat} {H : Heap} {locs : List Loc} {ls : Array Slot} {wX wX1 wY wY1 : Wd} {l3 l4 m6 : Int32} {Q : State → Prop} (X : BX B p s m args meth c cL_law 8 RL wsL_lawQ) {sc : Sc} (hX : va_X b sc.1 sc.2 s s.heap) (hbl : b < s.heap.size) (hbA : ¬ (fun q : Nat => s.heap.size ≤ q) b) (hav : ∀ i, i < 31 → B.2.2 (300 + i) = 1) (hR : ∀ i, i < 31 → 13 ≤ i → vk_R "PlanetWorkshopLaw" (sW.getD i 0) (sX.getD i "") (B.2.2 (100 + i)) s) (hh : BH B s.heap [obW B (adX, abX, wX), obW B (adY, abY, wY)] H locs) (hc : cells + 0 ≤ 614784) (hs : slots + 0 ≤ 7245417) (hl : lv_has ls 8 [(0, .ref b), (1, .ref (adX 0)), (2, .ref (adY 0)), (3, .int l3), (4, .int l4)]) (hF : f_law_310 wX wY l3 l4 sc = some (wX1, wY1, m6)) (kk : ∀ (abX abY : Nat) (H : Heap) (locs : List Loc) (ls : Array Slot), BH B s.heap [obW B (adX, abX, wX1), obW B (adY, abY, wY1)] H locs → lv_has ls 8 [(0, .ref b), (1, .ref (adX 0)), (2, .ref (adY 0)), (3, .int l3), (4, .int l4), (6, .int m6)] → W p l e room_1 s m args below meth c H locs (cells + 0) (slots + 0) Q (F0 m 322 ls [])) : W p l e room_1 s m args below meth c H locs cells slots Q (F0 m 310 ls []) := by
  have hx := X.1.1; have hb := X.1.2.1; have hml := X.1.2.2.1; have hown := X.1.2.2.2.1; have hts := X.1.2.2.2.2
  unfold f_law_310 at hF
  refine lv_iconst (v := (1 : Int32)) hx hb dL_law_310 (by decide) ?_
  refine lv_aload_n hx hb dL_law_311 rfl (lv_at hl 0 rfl) ?_
  refine lv_bipush (v := (13 : Int32)) hx hb dL_law_312 (by decide) ?_
  obtain ⟨r1, hk2, hF⟩ := am_bind hF
  refine bm_callAt (b := b) (sc := sc) hh (va_runS (As := [.ref b, .int (13 : Int32)]) (rest := [.int (1 : Int32)]) X.1 (c_L_at l hk2) (va_cwS 2 hts gL_law_L_at rfl rfl rfl (by decide +kernel) ⟨Nat.le_of_ble_eq_true rfl, Nat.le_of_ble_eq_true rfl⟩) (at_preS hX hbl hbA hh.2.2) rfl rfl hl.1 rfl (lv_room (Nat.le_of_ble_eq_true rfl)) dL_law_314 ⟨by show cells + 0 ≤ 614784; omega, by show slots + 0 ≤ 7245417; omega⟩) (fun H locs hh => ?_)
  refine lv_iconst (v := (3 : Int32)) hx hb dL_law_317 (by decide) ?_
  refine lv_iand hx hb dL_law_318 ?_
  refine lv_iadd hx hb dL_law_319 ?_
  refine lv_istore (lv' := [(6, .int ((1 : Int32) + (r1 &&& (3 : Int32)))), (0, .ref b), (1, .ref (adX 0)), (2, .ref (adY 0)), (3, .int l3), (4, .int l4)]) hx hb dL_law_320 hl (by decide) rfl (fun ls hl => ?_)
  cases hF
  exact W.widen (by omega) (by omega) (kk abX abY H locs ls hh (lv_sub hl [1, 2, 3, 4, 5, 0] rfl))
def f_law_331 (wX : Wd) (wY : Wd) (wZ : Wd) (l3 : Int32) (l4 : Int32) (l6 : Int32) : Option (Wd × Wd × Wd) := ((f_X10_isConsistent wZ).bind fun z => u2 z fun r2 w3 => (if r2 = 0 then none else ((f_X10_gearCount w3).bind fun r7 => (if r7 = 0 then ((f_X10_drops w3).bind fun r11 => (if r11 = (12 : Int32) then ((f_X10_tensionTotal w3).bind fun r15 => (if r15 = 0 then ((f_L_act w3 (7 : Int32) (0 : Int32) (1 : Int32)).bind fun z => u2 z fun r19 w20 => (if r19 = (-1 : Int32) then ((f_L_act w20 (17 : Int32) (1 : Int32) (1 : Int32)).bind fun z => u2 z fun r24 w25 => (if r24 = (-5 : Int32) then ((f_L_act w25 (17 : Int32) (0 : Int32) (1 : Int32)).bind fun z => u2 z fun r29 w30 => (if r29 = (-2 : Int32) then ((f_L_act w30 (11 : Int32) (51 : Int32) (0 : Int32)).bind fun z => u2 z fun r34 w35 => (if r34 = (-2 : Int32) then (some (wX, wY, w35)) else none)) else none)) else none)) else none)) else none)) else none)) else none))))
set_option maxHeartbeats 16000000 in
set_option maxRecDepth 100000 in
theorem c_law_331 (l : Launch) (hst : l.stackTraces = false) {B : BP} {p : Program} {e : Env} {s : State} {m : MethodId} {args : Array Value} {below : List Frame} {meth : Method} {c : Code} {b cells slots abX abY abZ : Nat} {adX adY adZ : Nat → Nat} {H : Heap} {locs : List Loc} {ls : Array Slot} {wX wX1 wY wY1 wZ wZ1 : Wd} {l3 l4 l6 : Int32} {Q : State → Prop} (X : BX B p s m args meth c cL_law 8 RL wsL_lawQ) (hav : ∀ i, i < 31 → B.2.2 (300 + i) = 1) (hR : ∀ i, i < 31 → 13 ≤ i → vk_R "PlanetWorkshopLaw" (sW.getD i 0) (sX.getD i "") (B.2.2 (100 + i)) s) (hh : BH B s.heap [obW B (adX, abX, wX), obW B (adY, abY, wY), obW B (adZ, abZ, wZ)] H locs) (hc : cells + 12 ≤ 614784) (hs : slots + 72 ≤ 7245417) (hl : lv_has ls 8 [(0, .ref b), (1, .ref (adX 0)), (2, .ref (adY 0)), (7, .ref (adZ 0)), (3, .int l3), (4, .int l4), (6, .int l6)]) (hF : f_law_331 wX wY wZ l3 l4 l6 = some (wX1, wY1, wZ1)) (kk : ∀ (abX abY abZ : Nat) (H : Heap) (locs : List Loc) (ls : Array Slot), BH B s.heap [obW B (adX, abX, wX1), obW B (adY, abY, wY1), obW B (adZ, abZ, wZ1)] H locs → lv_has ls 8 [(0, .ref b), (1, .ref (adX 0)), (2, .ref (adY 0)), (7, .ref (adZ 0)), (3, .int l3), (4, .int l4), (6, .int l6)] → W p l e room_1 s m args below meth c H locs (cells + 12) (slots + 72) Q (F0 m 423 ls [])) : W p l e room_1 s m args below meth c H locs cells slots Q (F0 m 331 ls []) := by
  have hx := X.1.1; have hb := X.1.2.1; have hml := X.1.2.2.1; have hown := X.1.2.2.2.1; have hts := X.1.2.2.2.2
  unfold f_law_331 at hF
  refine lv_aload hx hb dL_law_331 (lv_at hl 3 rfl) ?_
  obtain ⟨⟨r2, w3⟩, hk1, hF⟩ := am_bind hF
  have hF := am_u2 hF
  refine bm_call (ob := (adZ, abZ, wZ)) hh [obW B (adX, abX, wX), obW B (adY, abY, wY)] [] rfl (va_runV (As := []) (rest := []) X.1 (c_X10_isConsistent l (obG B (adZ, abZ, wZ) (va_A (obW B (adZ, abZ, wZ)) H.size)) hk1) (cwV 0 hts gL_law_X10_isConsistent rfl rfl rfl (by decide +kernel) ⟨Nat.le_of_ble_eq_true rfl, Nat.le_of_ble_eq_true rfl⟩) (bm_preV (ob := (adZ, abZ, wZ)) X hh [obW B (adX, abX, wX), obW B (adY, abY, wY)] [] rfl) rfl rfl hl.1 rfl (lv_room (Nat.le_of_ble_eq_true rfl)) dL_law_333 ⟨by show cells + 0 ≤ 614784; omega, by show slots + 0 ≤ 7245417; omega⟩) (fun abZ H locs hh => ?_)
  have hh : BH B s.heap [obW B (adX, abX, wX), obW B (adY, abY, wY), obW B (adZ, abZ, w3)] H locs := hh
  refine lv_if_eq (tgt := 421) hx hb dL_law_336 (by decide) (fun hc5 => ?_) (fun hc5 => ?_)
  · have hF := am_pos hc5 hF
    refine lv_iconst (v := (0 : Int32)) hx hb dL_law_421 (by decide) ?_
    cases hF
  · have hF := am_neg hc5 hF
    refine lv_aload hx hb dL_law_339 (lv_at hl 3 rfl) ?_
    obtain ⟨r7, hk6, hF⟩ := am_bind hF
    refine bm_call (ob := (adZ, abZ, w3)) hh [obW B (adX, abX, wX), obW B (adY, abY, wY)] [] rfl (va_runV (As := []) (rest := []) X.1 (c_X10_gearCount l (obG B (adZ, abZ, w3) (va_A (obW B (adZ, abZ, w3)) H.size)) hk6) (cwV 0 hts gL_law_X10_gearCount rfl rfl rfl (by decide +kernel) ⟨Nat.le_of_ble_eq_true rfl, Nat.le_of_ble_eq_true rfl⟩) (bm_preV (ob := (adZ, abZ, w3)) X hh [obW B (adX, abX, wX), obW B (adY, abY, wY)] [] rfl) rfl rfl hl.1 rfl (lv_room (Nat.le_of_ble_eq_true rfl)) dL_law_341 ⟨by show cells + 0 ≤ 614784; omega, by show slots + 0 ≤ 7245417; omega⟩) (fun abZ H locs hh => ?_)
    have hh : BH B s.heap [obW B (adX, abX, wX), obW B (adY, abY, wY), obW B (adZ, abZ, w3)] H locs := hh
    refine lv_if_ne (tgt := 421) hx hb dL_law_344 (by decide) (fun hc9 => ?_) (fun hc9 => ?_)
    · have hF := am_neg hc9 hF
      refine lv_iconst (v := (0 : Int32)) hx hb dL_law_421 (by decide) ?_
      cases hF
    · have hF := am_pos hc9 hF
      refine lv_aload hx hb dL_law_347 (lv_at hl 3 rfl) ?_
      obtain ⟨r11, hk10, hF⟩ := am_bind hF
      refine bm_call (ob := (adZ, abZ, w3)) hh [obW B (adX, abX, wX), obW B (adY, abY, wY)] [] rfl (va_runV (As := []) (rest := []) X.1 (c_X10_drops l (obG B (adZ, abZ, w3) (va_A (obW B (adZ, abZ, w3)) H.size)) hk10) (cwV 0 hts gL_law_X10_drops rfl rfl rfl (by decide +kernel) ⟨Nat.le_of_ble_eq_true rfl, Nat.le_of_ble_eq_true rfl⟩) (bm_preV (ob := (adZ, abZ, w3)) X hh [obW B (adX, abX, wX), obW B (adY, abY, wY)] [] rfl) rfl rfl hl.1 rfl (lv_room (Nat.le_of_ble_eq_true rfl)) dL_law_349 ⟨by show cells + 0 ≤ 614784; omega, by show slots + 0 ≤ 7245417; omega⟩) (fun abZ H locs hh => ?_)
      have hh : BH B s.heap [obW B (adX, abX, wX), obW B (adY, abY, wY), obW B (adZ, abZ, w3)] H locs := hh
      refine lv_bipush (v := (12 : Int32)) hx hb dL_law_352 (by decide) ?_
      refine lv_icmp_ne (tgt := 421) hx hb dL_law_354 (by decide) (fun hc13 => ?_) (fun hc13 => ?_)
      · have hF := am_neg hc13 hF
        refine lv_iconst (v := (0 : Int32)) hx hb dL_law_421 (by decide) ?_
        cases hF
      · have hF := am_pos hc13 hF
        refine lv_aload hx hb dL_law_357 (lv_at hl 3 rfl) ?_
        obtain ⟨r15, hk14, hF⟩ := am_bind hF
        refine bm_call (ob := (adZ, abZ, w3)) hh [obW B (adX, abX, wX), obW B (adY, abY, wY)] [] rfl (va_runV (As := []) (rest := []) X.1 (c_X10_tensionTotal l (obG B (adZ, abZ, w3) (va_A (obW B (adZ, abZ, w3)) H.size)) hk14) (cwV 0 hts gL_law_X10_tensionTotal rfl rfl rfl (by decide +kernel) ⟨Nat.le_of_ble_eq_true rfl, Nat.le_of_ble_eq_true rfl⟩) (bm_preV (ob := (adZ, abZ, w3)) X hh [obW B (adX, abX, wX), obW B (adY, abY, wY)] [] rfl) rfl rfl hl.1 rfl (lv_room (Nat.le_of_ble_eq_true rfl)) dL_law_359 ⟨by show cells + 0 ≤ 614784; omega, by show slots + 0 ≤ 7245417; omega⟩) (fun abZ H locs hh => ?_)
        have hh : BH B s.heap [obW B (adX, abX, wX), obW B (adY, abY, wY), obW B (adZ, abZ, w3)] H locs := hh
        refine lv_if_ne (tgt := 421) hx hb dL_law_362 (by decide) (fun hc17 => ?_) (fun hc17 => ?_)
        · have hF := am_neg hc17 hF
          refine lv_iconst (v := (0 : Int32)) hx hb dL_law_421 (by decide) ?_
          cases hF
        · have hF := am_pos hc17 hF
          refine lv_aload hx hb dL_law_365 (lv_at hl 3 rfl) ?_
          refine lv_bipush (v := (7 : Int32)) hx hb dL_law_367 (by decide) ?_
          refine lv_iconst (v := (0 : Int32)) hx hb dL_law_369 (by decide) ?_
          refine lv_iconst (v := (1 : Int32)) hx hb dL_law_370 (by decide) ?_
          obtain ⟨⟨r19, w20⟩, hk18, hF⟩ := am_bind hF
          have hF := am_u2 hF
          refine bm_callW (ob := (adZ, abZ, w3)) hh [obW B (adX, abX, wX), obW B (adY, abY, wY)] [] rfl (vx_runSX (As := [.ref (adZ 0), .int (7 : Int32), .int (0 : Int32), .int (1 : Int32)]) (rest := []) X.1 (c_L_act l (obG B (adZ, abZ, w3) (va_A (obW B (adZ, abZ, w3)) H.size)) hst hk18) (vx_cwSW 4 hts gL_law_L_act rfl rfl rfl (by decide +kernel) ⟨Nat.le_of_ble_eq_true rfl, Nat.le_of_ble_eq_true rfl⟩) (bm_preS (ob := (adZ, abZ, w3)) X hh [obW B (adX, abX, wX), obW B (adY, abY, wY)] [] rfl) rfl rfl hl.1 rfl (lv_room (Nat.le_of_ble_eq_true rfl)) dL_law_371 ⟨by show cells + 3 ≤ 614784; omega, by show slots + 18 ≤ 7245417; omega⟩) (fun abZ H locs hh => ?_)
          have hh : BH B s.heap [obW B (adX, abX, wX), obW B (adY, abY, wY), obW B (adZ, abZ, w20)] H locs := hh
          refine lv_iconst (v := (-1 : Int32)) hx hb dL_law_374 (by decide) ?_
          refine lv_icmp_ne (tgt := 421) hx hb dL_law_375 (by decide) (fun hc22 => ?_) (fun hc22 => ?_)
          · have hF := am_neg hc22 hF
            refine lv_iconst (v := (0 : Int32)) hx hb dL_law_421 (by decide) ?_
            cases hF
          · have hF := am_pos hc22 hF
            refine lv_aload hx hb dL_law_378 (lv_at hl 3 rfl) ?_
            refine lv_bipush (v := (17 : Int32)) hx hb dL_law_380 (by decide) ?_
            refine lv_iconst (v := (1 : Int32)) hx hb dL_law_382 (by decide) ?_
            refine lv_iconst (v := (1 : Int32)) hx hb dL_law_383 (by decide) ?_
            obtain ⟨⟨r24, w25⟩, hk23, hF⟩ := am_bind hF
            have hF := am_u2 hF
            refine bm_callW (ob := (adZ, abZ, w20)) hh [obW B (adX, abX, wX), obW B (adY, abY, wY)] [] rfl (vx_runSX (As := [.ref (adZ 0), .int (17 : Int32), .int (1 : Int32), .int (1 : Int32)]) (rest := []) X.1 (c_L_act l (obG B (adZ, abZ, w20) (va_A (obW B (adZ, abZ, w20)) H.size)) hst hk23) (vx_cwSW 4 hts gL_law_L_act rfl rfl rfl (by decide +kernel) ⟨Nat.le_of_ble_eq_true rfl, Nat.le_of_ble_eq_true rfl⟩) (bm_preS (ob := (adZ, abZ, w20)) X hh [obW B (adX, abX, wX), obW B (adY, abY, wY)] [] rfl) rfl rfl hl.1 rfl (lv_room (Nat.le_of_ble_eq_true rfl)) dL_law_384 ⟨by show (cells + 3) + 3 ≤ 614784; omega, by show (slots + 18) + 18 ≤ 7245417; omega⟩) (fun abZ H locs hh => ?_)
            have hh : BH B s.heap [obW B (adX, abX, wX), obW B (adY, abY, wY), obW B (adZ, abZ, w25)] H locs := hh
            refine lv_bipush (v := (-5 : Int32)) hx hb dL_law_387 (by decide) ?_
            refine lv_icmp_ne (tgt := 421) hx hb dL_law_389 (by decide) (fun hc27 => ?_) (fun hc27 => ?_)
            · have hF := am_neg hc27 hF
              refine lv_iconst (v := (0 : Int32)) hx hb dL_law_421 (by decide) ?_
              cases hF
            · have hF := am_pos hc27 hF
              refine lv_aload hx hb dL_law_392 (lv_at hl 3 rfl) ?_
              refine lv_bipush (v := (17 : Int32)) hx hb dL_law_394 (by decide) ?_
              refine lv_iconst (v := (0 : Int32)) hx hb dL_law_396 (by decide) ?_
              refine lv_iconst (v := (1 : Int32)) hx hb dL_law_397 (by decide) ?_
              obtain ⟨⟨r29, w30⟩, hk28, hF⟩ := am_bind hF
              have hF := am_u2 hF
              refine bm_callW (ob := (adZ, abZ, w25)) hh [obW B (adX, abX, wX), obW B (adY, abY, wY)] [] rfl (vx_runSX (As := [.ref (adZ 0), .int (17 : Int32), .int (0 : Int32), .int (1 : Int32)]) (rest := []) X.1 (c_L_act l (obG B (adZ, abZ, w25) (va_A (obW B (adZ, abZ, w25)) H.size)) hst hk28) (vx_cwSW 4 hts gL_law_L_act rfl rfl rfl (by decide +kernel) ⟨Nat.le_of_ble_eq_true rfl, Nat.le_of_ble_eq_true rfl⟩) (bm_preS (ob := (adZ, abZ, w25)) X hh [obW B (adX, abX, wX), obW B (adY, abY, wY)] [] rfl) rfl rfl hl.1 rfl (lv_room (Nat.le_of_ble_eq_true rfl)) dL_law_398 ⟨by show ((cells + 3) + 3) + 3 ≤ 614784; omega, by show ((slots + 18) + 18) + 18 ≤ 7245417; omega⟩) (fun abZ H locs hh => ?_)
              have hh : BH B s.heap [obW B (adX, abX, wX), obW B (adY, abY, wY), obW B (adZ, abZ, w30)] H locs := hh
              refine lv_bipush (v := (-2 : Int32)) hx hb dL_law_401 (by decide) ?_
              refine lv_icmp_ne (tgt := 421) hx hb dL_law_403 (by decide) (fun hc32 => ?_) (fun hc32 => ?_)
              · have hF := am_neg hc32 hF
                refine lv_iconst (v := (0 : Int32)) hx hb dL_law_421 (by decide) ?_
                cases hF
              · have hF := am_pos hc32 hF
                refine lv_aload hx hb dL_law_406 (lv_at hl 3 rfl) ?_
                refine lv_bipush (v := (11 : Int32)) hx hb dL_law_408 (by decide) ?_
                refine lv_bipush (v := (51 : Int32)) hx hb dL_law_410 (by decide) ?_
                refine lv_iconst (v := (0 : Int32)) hx hb dL_law_412 (by decide) ?_
                obtain ⟨⟨r34, w35⟩, hk33, hF⟩ := am_bind hF
                have hF := am_u2 hF
                refine bm_callW (ob := (adZ, abZ, w30)) hh [obW B (adX, abX, wX), obW B (adY, abY, wY)] [] rfl (vx_runSX (As := [.ref (adZ 0), .int (11 : Int32), .int (51 : Int32), .int (0 : Int32)]) (rest := []) X.1 (c_L_act l (obG B (adZ, abZ, w30) (va_A (obW B (adZ, abZ, w30)) H.size)) hst hk33) (vx_cwSW 4 hts gL_law_L_act rfl rfl rfl (by decide +kernel) ⟨Nat.le_of_ble_eq_true rfl, Nat.le_of_ble_eq_true rfl⟩) (bm_preS (ob := (adZ, abZ, w30)) X hh [obW B (adX, abX, wX), obW B (adY, abY, wY)] [] rfl) rfl rfl hl.1 rfl (lv_room (Nat.le_of_ble_eq_true rfl)) dL_law_413 ⟨by show (((cells + 3) + 3) + 3) + 3 ≤ 614784; omega, by show (((slots + 18) + 18) + 18) + 18 ≤ 7245417; omega⟩) (fun abZ H locs hh => ?_)
                have hh : BH B s.heap [obW B (adX, abX, wX), obW B (adY, abY, wY), obW B (adZ, abZ, w35)] H locs := hh
                refine lv_bipush (v := (-2 : Int32)) hx hb dL_law_416 (by decide) ?_
                refine lv_icmp_eq (tgt := 423) hx hb dL_law_418 (by decide) (fun hc37 => ?_) (fun hc37 => ?_)
                · have hF := am_pos hc37 hF
                  cases hF
                  exact W.widen (by omega) (by omega) (kk abX abY abZ H locs ls hh (lv_sub hl [0, 1, 2, 3, 4, 5, 6] rfl))
                · have hF := am_neg hc37 hF
                  refine lv_iconst (v := (0 : Int32)) hx hb dL_law_421 (by decide) ?_
                  cases hF
