def p_L_state_147 (y12 : Int32) : Nat → Int32 → Int32 → Wd → Option ((Int32 × Int32 × Wd) ⊕ Unit)
  | 0, _, _, _ => none
  | n + 1, y44, y45, w46 => (if y12 ≤ y45 then (some (.inl (y44, y45, w46))) else ((f_L_act w46 (15 : Int32) y12 y45).bind fun z => u2 z fun r50 w51 => (p_L_state_147 y12 n (((31 : Int32) * y44) + r50) (y45 + (1 : Int32)) w51)))
def p_L_state_39 : Nat → Int32 → Int32 → Wd → Option ((Int32 × Int32 × Wd) ⊕ Unit)
  | 0, _, _, _ => none
  | n + 1, y11, y12, w13 => ((f_X10_gearCount w13).bind fun r16 => (if r16 ≤ y12 then (some (.inl (y11, y12, w13))) else ((f_X10_angle w13 y12).bind fun z => zc z (fun k => none) (fun r19 => ((f_X10_teeth w13 y12).bind fun z => zc z (fun k => none) (fun r22 => ((f_X10_hasRatchet w13 y12).bind fun z => zc z (fun k => none) (fun r25 => (if r25 = 0 then ((f_X10_isDry w13 y12).bind fun z => zc z (fun k => none) (fun r29 => (if r29 = 0 then ((f_L_act w13 (12 : Int32) y12 (0 : Int32)).bind fun z => u2 z fun r33 w34 => ((f_L_act w34 (13 : Int32) y12 (0 : Int32)).bind fun z => u2 z fun r37 w38 => ((f_L_act w38 (14 : Int32) y12 (0 : Int32)).bind fun z => u2 z fun r41 w42 => ((p_L_state_147 y12 12 (((31 : Int32) * (((31 : Int32) * (((31 : Int32) * ((((31 : Int32) * (((31 : Int32) * (((31 : Int32) * y11) + r22)) + ((r19 ^^^ (r19 >>> (((31 : Int32)).toInt64 &&& 63)))).toInt32)) + (0 : Int32)) + (0 : Int32))) + r33)) + r37)) + r41) (0 : Int32) w42).bind fun z => zc z (fun q => u3 q fun y44 y45 w46 => ((f_X10_canRelease w46 y12).bind fun z => u2 z fun z w57 => zc z (fun k => none) (fun r56 => (if r56 = 0 then (p_L_state_39 n (((31 : Int32) * y44) + (0 : Int32)) (y12 + (1 : Int32)) w57) else (p_L_state_39 n (((31 : Int32) * y44) + (1 : Int32)) (y12 + (1 : Int32)) w57))))) (fun _ => none))))) else ((f_L_act w13 (12 : Int32) y12 (0 : Int32)).bind fun z => u2 z fun r61 w62 => ((f_L_act w62 (13 : Int32) y12 (0 : Int32)).bind fun z => u2 z fun r65 w66 => ((f_L_act w66 (14 : Int32) y12 (0 : Int32)).bind fun z => u2 z fun r69 w70 => ((p_L_state_147 y12 12 (((31 : Int32) * (((31 : Int32) * (((31 : Int32) * ((((31 : Int32) * (((31 : Int32) * (((31 : Int32) * y11) + r22)) + ((r19 ^^^ (r19 >>> (((31 : Int32)).toInt64 &&& 63)))).toInt32)) + (0 : Int32)) + (2 : Int32))) + r61)) + r65)) + r69) (0 : Int32) w70).bind fun z => zc z (fun q => u3 q fun y72 y73 w74 => ((f_X10_canRelease w74 y12).bind fun z => u2 z fun z w85 => zc z (fun k => none) (fun r84 => (if r84 = 0 then (p_L_state_39 n (((31 : Int32) * y72) + (0 : Int32)) (y12 + (1 : Int32)) w85) else (p_L_state_39 n (((31 : Int32) * y72) + (1 : Int32)) (y12 + (1 : Int32)) w85))))) (fun _ => none)))))))) else ((f_X10_isDry w13 y12).bind fun z => zc z (fun k => none) (fun r89 => (if r89 = 0 then ((f_L_act w13 (12 : Int32) y12 (0 : Int32)).bind fun z => u2 z fun r93 w94 => ((f_L_act w94 (13 : Int32) y12 (0 : Int32)).bind fun z => u2 z fun r97 w98 => ((f_L_act w98 (14 : Int32) y12 (0 : Int32)).bind fun z => u2 z fun r101 w102 => ((p_L_state_147 y12 12 (((31 : Int32) * (((31 : Int32) * (((31 : Int32) * ((((31 : Int32) * (((31 : Int32) * (((31 : Int32) * y11) + r22)) + ((r19 ^^^ (r19 >>> (((31 : Int32)).toInt64 &&& 63)))).toInt32)) + (1 : Int32)) + (0 : Int32))) + r93)) + r97)) + r101) (0 : Int32) w102).bind fun z => zc z (fun q => u3 q fun y104 y105 w106 => ((f_X10_canRelease w106 y12).bind fun z => u2 z fun z w117 => zc z (fun k => none) (fun r116 => (if r116 = 0 then (p_L_state_39 n (((31 : Int32) * y104) + (0 : Int32)) (y12 + (1 : Int32)) w117) else (p_L_state_39 n (((31 : Int32) * y104) + (1 : Int32)) (y12 + (1 : Int32)) w117))))) (fun _ => none))))) else ((f_L_act w13 (12 : Int32) y12 (0 : Int32)).bind fun z => u2 z fun r121 w122 => ((f_L_act w122 (13 : Int32) y12 (0 : Int32)).bind fun z => u2 z fun r125 w126 => ((f_L_act w126 (14 : Int32) y12 (0 : Int32)).bind fun z => u2 z fun r129 w130 => ((p_L_state_147 y12 12 (((31 : Int32) * (((31 : Int32) * (((31 : Int32) * ((((31 : Int32) * (((31 : Int32) * (((31 : Int32) * y11) + r22)) + ((r19 ^^^ (r19 >>> (((31 : Int32)).toInt64 &&& 63)))).toInt32)) + (1 : Int32)) + (2 : Int32))) + r121)) + r125)) + r129) (0 : Int32) w130).bind fun z => zc z (fun q => u3 q fun y132 y133 w134 => ((f_X10_canRelease w134 y12).bind fun z => u2 z fun z w145 => zc z (fun k => none) (fun r144 => (if r144 = 0 then (p_L_state_39 n (((31 : Int32) * y132) + (0 : Int32)) (y12 + (1 : Int32)) w145) else (p_L_state_39 n (((31 : Int32) * y132) + (1 : Int32)) (y12 + (1 : Int32)) w145))))) (fun _ => none)))))))))))))))))
def p_L_state_201 (w13 : Wd) : Nat → Int32 → Int32 → Option ((Int32 × Int32) ⊕ Unit)
  | 0, _, _ => none
  | n + 1, y150, y151 => ((f_X10_planetCount w13).bind fun r154 => (if r154 ≤ y151 then (some (.inl (y150, y151))) else ((f_X10_gearOf w13 y151).bind fun z => zc z (fun k => none) (fun r157 => (p_L_state_201 w13 n (((31 : Int32) * y150) + r157) (y151 + (1 : Int32)))))))
def f_L_state (w : Wd) : Option (Int32 × Wd) := ((f_X10_gearCount w).bind fun r2 => ((f_X10_drops w).bind fun r4 => ((f_X10_woundTotal w).bind fun r6 => ((f_X10_releaseTotal w).bind fun r8 => ((f_X10_tensionByAccounts w).bind fun r10 => ((p_L_state_39 12 (((31 : Int32) * (((31 : Int32) * (((31 : Int32) * (((31 : Int32) * r2) + r4)) + r6)) + r8)) + r10) (0 : Int32) w).bind fun z => zc z (fun q => u3 q fun y11 y12 w13 => ((p_L_state_201 w13 8 y11 (0 : Int32)).bind fun z => zc z (fun q => u2 q fun y150 y151 => (some (y150, w13))) (fun _ => none))) (fun _ => none)))))))
set_option maxHeartbeats 4000000 in
set_option maxRecDepth 100000 in
theorem c_L_state (l : Launch) (G : GG) (hst : l.stackTraces = false) {w : Wd} {r0 : Int32} {w1 : Wd} (hF : f_L_state w = some (r0, w1)) : Met l yL_state wsL_state ({ frames := 10, cells := 728, slots := 4368, locals := 195 } : Room) (va_Pc [.ref (gAd G 0)] (Rel G w)) (amQ G (oI r0) w1) 728 4368 (gA G) := by
  refine am_met (own := RL) (cc := cL_state) (maxL := 6) (ret := (some .int)) (by decide +kernel) rfl rfl (Nat.le_of_ble_eq_true rfl) ?_
  intro p e s m args below meth c ab H locs ls X hr hh hl
  have hx := X.1.1; have hb := X.1.2.1; have hml := X.1.2.2.1; have hown := X.1.2.2.2.1; have hts := X.1.2.2.2.2
  have hl : lv_has ls 6 [(0, .ref (gAd G 0))] := hl
  unfold f_L_state at hF
  refine lv_bipush (v := (31 : Int32)) hx hb dL_state_0 (by decide) ?_
  refine lv_bipush (v := (31 : Int32)) hx hb dL_state_2 (by decide) ?_
  refine lv_bipush (v := (31 : Int32)) hx hb dL_state_4 (by decide) ?_
  refine lv_bipush (v := (31 : Int32)) hx hb dL_state_6 (by decide) ?_
  refine lv_aload_n hx hb dL_state_8 rfl (lv_at hl 0 rfl) ?_
  obtain ⟨r2, hk1, hF⟩ := am_bind hF
  refine am_call X hh (va_runV (As := []) (rest := [.int (31 : Int32), .int (31 : Int32), .int (31 : Int32), .int (31 : Int32)]) X.1 (c_X10_gearCount l G hk1) (cwV 0 hts gL_state_X10_gearCount rfl rfl rfl (by decide +kernel) ⟨Nat.le_of_ble_eq_true rfl, Nat.le_of_ble_eq_true rfl⟩) (am_preV X hh 0 11 (by decide) rfl rfl) rfl rfl hl.1 rfl (lv_room (Nat.le_of_ble_eq_true rfl)) dL_state_9 ⟨Nat.le_of_ble_eq_true rfl, Nat.le_of_ble_eq_true rfl⟩) (fun ab H locs hh => ?_)
  refine lv_imul hx hb dL_state_12 ?_
  refine lv_aload_n hx hb dL_state_13 rfl (lv_at hl 0 rfl) ?_
  obtain ⟨r4, hk3, hF⟩ := am_bind hF
  refine am_call X hh (va_runV (As := []) (rest := [.int ((31 : Int32) * r2), .int (31 : Int32), .int (31 : Int32), .int (31 : Int32)]) X.1 (c_X10_drops l G hk3) (cwV 0 hts gL_state_X10_drops rfl rfl rfl (by decide +kernel) ⟨Nat.le_of_ble_eq_true rfl, Nat.le_of_ble_eq_true rfl⟩) (am_preV X hh 0 11 (by decide) rfl rfl) rfl rfl hl.1 rfl (lv_room (Nat.le_of_ble_eq_true rfl)) dL_state_14 ⟨Nat.le_of_ble_eq_true rfl, Nat.le_of_ble_eq_true rfl⟩) (fun ab H locs hh => ?_)
  refine lv_iadd hx hb dL_state_17 ?_
  refine lv_imul hx hb dL_state_18 ?_
  refine lv_aload_n hx hb dL_state_19 rfl (lv_at hl 0 rfl) ?_
  obtain ⟨r6, hk5, hF⟩ := am_bind hF
  refine am_call X hh (va_runV (As := []) (rest := [.int ((31 : Int32) * (((31 : Int32) * r2) + r4)), .int (31 : Int32), .int (31 : Int32)]) X.1 (c_X10_woundTotal l G hk5) (cwV 0 hts gL_state_X10_woundTotal rfl rfl rfl (by decide +kernel) ⟨Nat.le_of_ble_eq_true rfl, Nat.le_of_ble_eq_true rfl⟩) (am_preV X hh 0 11 (by decide) rfl rfl) rfl rfl hl.1 rfl (lv_room (Nat.le_of_ble_eq_true rfl)) dL_state_20 ⟨Nat.le_of_ble_eq_true rfl, Nat.le_of_ble_eq_true rfl⟩) (fun ab H locs hh => ?_)
  refine lv_iadd hx hb dL_state_23 ?_
  refine lv_imul hx hb dL_state_24 ?_
  refine lv_aload_n hx hb dL_state_25 rfl (lv_at hl 0 rfl) ?_
  obtain ⟨r8, hk7, hF⟩ := am_bind hF
  refine am_call X hh (va_runV (As := []) (rest := [.int ((31 : Int32) * (((31 : Int32) * (((31 : Int32) * r2) + r4)) + r6)), .int (31 : Int32)]) X.1 (c_X10_releaseTotal l G hk7) (cwV 0 hts gL_state_X10_releaseTotal rfl rfl rfl (by decide +kernel) ⟨Nat.le_of_ble_eq_true rfl, Nat.le_of_ble_eq_true rfl⟩) (am_preV X hh 0 11 (by decide) rfl rfl) rfl rfl hl.1 rfl (lv_room (Nat.le_of_ble_eq_true rfl)) dL_state_26 ⟨Nat.le_of_ble_eq_true rfl, Nat.le_of_ble_eq_true rfl⟩) (fun ab H locs hh => ?_)
  refine lv_iadd hx hb dL_state_29 ?_
  refine lv_imul hx hb dL_state_30 ?_
  refine lv_aload_n hx hb dL_state_31 rfl (lv_at hl 0 rfl) ?_
  obtain ⟨r10, hk9, hF⟩ := am_bind hF
  refine am_call X hh (va_runV (As := []) (rest := [.int ((31 : Int32) * (((31 : Int32) * (((31 : Int32) * (((31 : Int32) * r2) + r4)) + r6)) + r8))]) X.1 (c_X10_tensionByAccounts l G hk9) (cwV 0 hts gL_state_X10_tensionByAccounts rfl rfl rfl (by decide +kernel) ⟨Nat.le_of_ble_eq_true rfl, Nat.le_of_ble_eq_true rfl⟩) (am_preV X hh 0 11 (by decide) rfl rfl) rfl rfl hl.1 rfl (lv_room (Nat.le_of_ble_eq_true rfl)) dL_state_32 ⟨Nat.le_of_ble_eq_true rfl, Nat.le_of_ble_eq_true rfl⟩) (fun ab H locs hh => ?_)
  refine lv_iadd hx hb dL_state_35 ?_
  refine lv_istore_n (lv' := [(1, .int (((31 : Int32) * (((31 : Int32) * (((31 : Int32) * (((31 : Int32) * r2) + r4)) + r6)) + r8)) + r10)), (0, .ref (gAd G 0))]) hx hb dL_state_36 rfl hl (by decide) rfl (fun ls hl => ?_)
  refine lv_iconst (v := (0 : Int32)) hx hb dL_state_37 (by decide) ?_
  refine lv_istore_n (lv' := [(2, .int (0 : Int32)), (1, .int (((31 : Int32) * (((31 : Int32) * (((31 : Int32) * (((31 : Int32) * r2) + r4)) + r6)) + r8)) + r10)), (0, .ref (gAd G 0))]) hx hb dL_state_38 rfl hl (by decide) rfl (fun ls hl => ?_)
  have hlp39 : ∀ (n : Nat) (j : Nat) (y11 : Int32) (y12 : Int32) (w13 : Wd) (ab : Nat) (H : Heap) (locs : List Loc) (ls : Array Slot) (z : (Int32 × Int32 × Wd) ⊕ Unit), n + j ≤ 12 → p_L_state_39 n y11 y12 w13 = some z → AH G s.heap w13 ab H locs → lv_has ls 6 [(1, .int y11), (2, .int y12), (0, .ref (gAd G 0))] → (∀ (y11 : Int32) (y12 : Int32) (w13 : Wd) (ab : Nat) (H : Heap) (locs : List Loc) (ls : Array Slot), z = .inl (y11, y12, w13) → AH G s.heap w13 ab H locs → lv_has ls 6 [(1, .int y11), (2, .int y12), (0, .ref (gAd G 0))] → W p l e ({ frames := 10, cells := 728, slots := 4368, locals := 195 } : Room) s m args below meth c H locs (0 + 60 * 12) (0 + 360 * 12) (MQ below (amQ G (oI r0) w1) args s 728 4368 (gA G)) (F0 m 199 ls [])) → W p l e ({ frames := 10, cells := 728, slots := 4368, locals := 195 } : Room) s m args below meth c H locs (0 + 60 * j) (0 + 360 * j) (MQ below (amQ G (oI r0) w1) args s 728 4368 (gA G)) (F0 m 39 ls []) := by
    intro n
    induction n with
    | zero =>
      intro j y11 y12 w13 ab H locs ls z hj hF
      unfold p_L_state_39 at hF
      cases hF
    | succ n ih =>
      intro j y11 y12 w13 ab H locs ls z hj hF hh hl kE
      unfold p_L_state_39 at hF
      refine lv_iload_n hx hb dL_state_39 rfl (lv_at hl 1 rfl) ?_
      refine lv_aload_n hx hb dL_state_40 rfl (lv_at hl 2 rfl) ?_
      obtain ⟨r16, hk15, hF⟩ := am_bind hF
      refine am_call X hh (va_runV (As := []) (rest := [.int y12]) X.1 (c_X10_gearCount l G hk15) (cwV 0 hts gL_state_X10_gearCount rfl rfl rfl (by decide +kernel) ⟨Nat.le_of_ble_eq_true rfl, Nat.le_of_ble_eq_true rfl⟩) (am_preV X hh 0 11 (by decide) rfl rfl) rfl rfl hl.1 rfl (lv_room (Nat.le_of_ble_eq_true rfl)) dL_state_41 ⟨by show (0 + 60 * j) + 0 ≤ 728; omega, by show (0 + 360 * j) + 0 ≤ 4368; omega⟩) (fun ab H locs hh => ?_)
      refine lv_icmp_ge (tgt := 199) hx hb dL_state_44 (by decide) (fun hc17 => ?_) (fun hc17 => ?_)
      · have hF := am_pos hc17 hF
        exact W.widen (by omega) (by omega) (kE y11 y12 w13 ab H locs ls (Option.some.inj hF).symm hh (lv_sub hl [0, 1, 2] rfl))
      · have hF := am_neg hc17 hF
        refine lv_aload_n hx hb dL_state_47 rfl (lv_at hl 2 rfl) ?_
        refine lv_iload_n hx hb dL_state_48 rfl (lv_at hl 1 rfl) ?_
        obtain ⟨z20, hk18, hF⟩ := am_bind hF
        refine am_callX X hh (vx_runV (As := [.int y12]) (rest := []) X.1 (c_X10_angle l G hst hk18) (cwV 1 hts gL_state_X10_angle rfl rfl rfl (by decide +kernel) ⟨Nat.le_of_ble_eq_true rfl, Nat.le_of_ble_eq_true rfl⟩) (am_preV X hh 0 11 (by decide) rfl rfl) rfl rfl hl.1 rfl (lv_room (Nat.le_of_ble_eq_true rfl)) dL_state_49 ⟨by show (0 + 60 * j) + 1 ≤ 728; omega, by show (0 + 360 * j) + 6 ≤ 4368; omega⟩) (fun k ab H locs ce q hz hh hce hcv hcl => ?_) (fun r19 ab H locs hz hh => ?_)
        · subst hz
          cases hF
        · subst hz
          have hF := am_zr hF
          refine lv_lstore_n (lv' := [(3, .long r19), (1, .int y11), (2, .int y12), (0, .ref (gAd G 0))]) hx hb dL_state_52 rfl hl (by decide) rfl (fun ls hl => ?_)
          refine lv_bipush (v := (31 : Int32)) hx hb dL_state_53 (by decide) ?_
          refine lv_bipush (v := (31 : Int32)) hx hb dL_state_55 (by decide) ?_
          refine lv_bipush (v := (31 : Int32)) hx hb dL_state_57 (by decide) ?_
          refine lv_iload_n hx hb dL_state_59 rfl (lv_at hl 1 rfl) ?_
          refine lv_imul hx hb dL_state_60 ?_
          refine lv_aload_n hx hb dL_state_61 rfl (lv_at hl 3 rfl) ?_
          refine lv_iload_n hx hb dL_state_62 rfl (lv_at hl 2 rfl) ?_
          obtain ⟨z23, hk21, hF⟩ := am_bind hF
          refine am_callX X hh (vx_runV (As := [.int y12]) (rest := [.int ((31 : Int32) * y11), .int (31 : Int32), .int (31 : Int32)]) X.1 (c_X10_teeth l G hst hk21) (cwV 1 hts gL_state_X10_teeth rfl rfl rfl (by decide +kernel) ⟨Nat.le_of_ble_eq_true rfl, Nat.le_of_ble_eq_true rfl⟩) (am_preV X hh 0 11 (by decide) rfl rfl) rfl rfl hl.1 rfl (lv_room (Nat.le_of_ble_eq_true rfl)) dL_state_63 ⟨by show ((0 + 60 * j) + 1) + 1 ≤ 728; omega, by show ((0 + 360 * j) + 6) + 6 ≤ 4368; omega⟩) (fun k ab H locs ce q hz hh hce hcv hcl => ?_) (fun r22 ab H locs hz hh => ?_)
          · subst hz
            cases hF
          · subst hz
            have hF := am_zr hF
            refine lv_iadd hx hb dL_state_66 ?_
            refine lv_imul hx hb dL_state_67 ?_
            refine lv_lload_n hx hb dL_state_68 rfl (lv_at hl 0 rfl) ?_
            refine lv_lload_n hx hb dL_state_69 rfl (lv_at hl 0 rfl) ?_
            refine lv_bipush (v := (31 : Int32)) hx hb dL_state_70 (by decide) ?_
            refine lv_lshr hx hb dL_state_72 rfl ?_
            refine lv_lxor hx hb dL_state_73 ?_
            refine lv_l2i hx hb dL_state_74 rfl ?_
            refine lv_iadd hx hb dL_state_75 ?_
            refine lv_imul hx hb dL_state_76 ?_
            refine lv_aload_n hx hb dL_state_77 rfl (lv_at hl 3 rfl) ?_
            refine lv_iload_n hx hb dL_state_78 rfl (lv_at hl 2 rfl) ?_
            obtain ⟨z26, hk24, hF⟩ := am_bind hF
            refine am_callX X hh (vx_runV (As := [.int y12]) (rest := [.int ((31 : Int32) * (((31 : Int32) * (((31 : Int32) * y11) + r22)) + ((r19 ^^^ (r19 >>> (((31 : Int32)).toInt64 &&& 63)))).toInt32))]) X.1 (c_X10_hasRatchet l G hst hk24) (cwV 1 hts gL_state_X10_hasRatchet rfl rfl rfl (by decide +kernel) ⟨Nat.le_of_ble_eq_true rfl, Nat.le_of_ble_eq_true rfl⟩) (am_preV X hh 0 11 (by decide) rfl rfl) rfl rfl hl.1 rfl (lv_room (Nat.le_of_ble_eq_true rfl)) dL_state_79 ⟨by show (((0 + 60 * j) + 1) + 1) + 1 ≤ 728; omega, by show (((0 + 360 * j) + 6) + 6) + 6 ≤ 4368; omega⟩) (fun k ab H locs ce q hz hh hce hcv hcl => ?_) (fun r25 ab H locs hz hh => ?_)
            · subst hz
              cases hF
            · subst hz
              have hF := am_zr hF
              refine lv_if_eq (tgt := 89) hx hb dL_state_82 (by decide) (fun hc27 => ?_) (fun hc27 => ?_)
              · have hF := am_pos hc27 hF
                refine lv_iconst (v := (0 : Int32)) hx hb dL_state_89 (by decide) ?_
                refine lv_iadd hx hb dL_state_90 ?_
                refine lv_aload_n hx hb dL_state_91 rfl (lv_at hl 3 rfl) ?_
                refine lv_iload_n hx hb dL_state_92 rfl (lv_at hl 2 rfl) ?_
                obtain ⟨z30, hk28, hF⟩ := am_bind hF
                refine am_callX X hh (vx_runV (As := [.int y12]) (rest := [.int (((31 : Int32) * (((31 : Int32) * (((31 : Int32) * y11) + r22)) + ((r19 ^^^ (r19 >>> (((31 : Int32)).toInt64 &&& 63)))).toInt32)) + (0 : Int32))]) X.1 (c_X10_isDry l G hst hk28) (cwV 1 hts gL_state_X10_isDry rfl rfl rfl (by decide +kernel) ⟨Nat.le_of_ble_eq_true rfl, Nat.le_of_ble_eq_true rfl⟩) (am_preV X hh 0 11 (by decide) rfl rfl) rfl rfl hl.1 rfl (lv_room (Nat.le_of_ble_eq_true rfl)) dL_state_93 ⟨by show ((((0 + 60 * j) + 1) + 1) + 1) + 1 ≤ 728; omega, by show ((((0 + 360 * j) + 6) + 6) + 6) + 6 ≤ 4368; omega⟩) (fun k ab H locs ce q hz hh hce hcv hcl => ?_) (fun r29 ab H locs hz hh => ?_)
                · subst hz
                  cases hF
                · subst hz
                  have hF := am_zr hF
                  refine lv_if_eq (tgt := 103) hx hb dL_state_96 (by decide) (fun hc31 => ?_) (fun hc31 => ?_)
                  · have hF := am_pos hc31 hF
                    refine lv_iconst (v := (0 : Int32)) hx hb dL_state_103 (by decide) ?_
                    refine lv_iadd hx hb dL_state_104 ?_
                    refine lv_istore_n (lv' := [(1, .int ((((31 : Int32) * (((31 : Int32) * (((31 : Int32) * y11) + r22)) + ((r19 ^^^ (r19 >>> (((31 : Int32)).toInt64 &&& 63)))).toInt32)) + (0 : Int32)) + (0 : Int32))), (3, .long r19), (2, .int y12), (0, .ref (gAd G 0))]) hx hb dL_state_105 rfl hl (by decide) rfl (fun ls hl => ?_)
                    refine lv_bipush (v := (31 : Int32)) hx hb dL_state_106 (by decide) ?_
                    refine lv_bipush (v := (31 : Int32)) hx hb dL_state_108 (by decide) ?_
                    refine lv_bipush (v := (31 : Int32)) hx hb dL_state_110 (by decide) ?_
                    refine lv_iload_n hx hb dL_state_112 rfl (lv_at hl 0 rfl) ?_
                    refine lv_imul hx hb dL_state_113 ?_
                    refine lv_aload_n hx hb dL_state_114 rfl (lv_at hl 3 rfl) ?_
                    refine lv_bipush (v := (12 : Int32)) hx hb dL_state_115 (by decide) ?_
                    refine lv_iload_n hx hb dL_state_117 rfl (lv_at hl 2 rfl) ?_
                    refine lv_iconst (v := (0 : Int32)) hx hb dL_state_118 (by decide) ?_
                    obtain ⟨⟨r33, w34⟩, hk32, hF⟩ := am_bind hF
                    have hF := am_u2 hF
                    refine am_callW X hh (vx_runSX (As := [.ref (gAd G 0), .int (12 : Int32), .int y12, .int (0 : Int32)]) (rest := [.int ((31 : Int32) * ((((31 : Int32) * (((31 : Int32) * (((31 : Int32) * y11) + r22)) + ((r19 ^^^ (r19 >>> (((31 : Int32)).toInt64 &&& 63)))).toInt32)) + (0 : Int32)) + (0 : Int32))), .int (31 : Int32), .int (31 : Int32)]) X.1 (c_L_act l G hst hk32) (vx_cwSW 4 hts gL_state_L_act rfl rfl rfl (by decide +kernel) ⟨Nat.le_of_ble_eq_true rfl, Nat.le_of_ble_eq_true rfl⟩) (am_preS X hh) rfl rfl hl.1 rfl (lv_room (Nat.le_of_ble_eq_true rfl)) dL_state_119 ⟨by show (((((0 + 60 * j) + 1) + 1) + 1) + 1) + 3 ≤ 728; omega, by show (((((0 + 360 * j) + 6) + 6) + 6) + 6) + 18 ≤ 4368; omega⟩) (fun ab H locs hh => ?_)
                    refine lv_iadd hx hb dL_state_122 ?_
                    refine lv_imul hx hb dL_state_123 ?_
                    refine lv_aload_n hx hb dL_state_124 rfl (lv_at hl 3 rfl) ?_
                    refine lv_bipush (v := (13 : Int32)) hx hb dL_state_125 (by decide) ?_
                    refine lv_iload_n hx hb dL_state_127 rfl (lv_at hl 2 rfl) ?_
                    refine lv_iconst (v := (0 : Int32)) hx hb dL_state_128 (by decide) ?_
                    obtain ⟨⟨r37, w38⟩, hk36, hF⟩ := am_bind hF
                    have hF := am_u2 hF
                    refine am_callW X hh (vx_runSX (As := [.ref (gAd G 0), .int (13 : Int32), .int y12, .int (0 : Int32)]) (rest := [.int ((31 : Int32) * (((31 : Int32) * ((((31 : Int32) * (((31 : Int32) * (((31 : Int32) * y11) + r22)) + ((r19 ^^^ (r19 >>> (((31 : Int32)).toInt64 &&& 63)))).toInt32)) + (0 : Int32)) + (0 : Int32))) + r33)), .int (31 : Int32)]) X.1 (c_L_act l G hst hk36) (vx_cwSW 4 hts gL_state_L_act rfl rfl rfl (by decide +kernel) ⟨Nat.le_of_ble_eq_true rfl, Nat.le_of_ble_eq_true rfl⟩) (am_preS X hh) rfl rfl hl.1 rfl (lv_room (Nat.le_of_ble_eq_true rfl)) dL_state_129 ⟨by show ((((((0 + 60 * j) + 1) + 1) + 1) + 1) + 3) + 3 ≤ 728; omega, by show ((((((0 + 360 * j) + 6) + 6) + 6) + 6) + 18) + 18 ≤ 4368; omega⟩) (fun ab H locs hh => ?_)
                    refine lv_iadd hx hb dL_state_132 ?_
                    refine lv_imul hx hb dL_state_133 ?_
                    refine lv_aload_n hx hb dL_state_134 rfl (lv_at hl 3 rfl) ?_
                    refine lv_bipush (v := (14 : Int32)) hx hb dL_state_135 (by decide) ?_
                    refine lv_iload_n hx hb dL_state_137 rfl (lv_at hl 2 rfl) ?_
                    refine lv_iconst (v := (0 : Int32)) hx hb dL_state_138 (by decide) ?_
                    obtain ⟨⟨r41, w42⟩, hk40, hF⟩ := am_bind hF
                    have hF := am_u2 hF
                    refine am_callW X hh (vx_runSX (As := [.ref (gAd G 0), .int (14 : Int32), .int y12, .int (0 : Int32)]) (rest := [.int ((31 : Int32) * (((31 : Int32) * (((31 : Int32) * ((((31 : Int32) * (((31 : Int32) * (((31 : Int32) * y11) + r22)) + ((r19 ^^^ (r19 >>> (((31 : Int32)).toInt64 &&& 63)))).toInt32)) + (0 : Int32)) + (0 : Int32))) + r33)) + r37))]) X.1 (c_L_act l G hst hk40) (vx_cwSW 4 hts gL_state_L_act rfl rfl rfl (by decide +kernel) ⟨Nat.le_of_ble_eq_true rfl, Nat.le_of_ble_eq_true rfl⟩) (am_preS X hh) rfl rfl hl.1 rfl (lv_room (Nat.le_of_ble_eq_true rfl)) dL_state_139 ⟨by show (((((((0 + 60 * j) + 1) + 1) + 1) + 1) + 3) + 3) + 3 ≤ 728; omega, by show (((((((0 + 360 * j) + 6) + 6) + 6) + 6) + 18) + 18) + 18 ≤ 4368; omega⟩) (fun ab H locs hh => ?_)
                    refine lv_iadd hx hb dL_state_142 ?_
                    refine lv_istore_n (lv' := [(1, .int (((31 : Int32) * (((31 : Int32) * (((31 : Int32) * ((((31 : Int32) * (((31 : Int32) * (((31 : Int32) * y11) + r22)) + ((r19 ^^^ (r19 >>> (((31 : Int32)).toInt64 &&& 63)))).toInt32)) + (0 : Int32)) + (0 : Int32))) + r33)) + r37)) + r41)), (3, .long r19), (2, .int y12), (0, .ref (gAd G 0))]) hx hb dL_state_143 rfl hl (by decide) rfl (fun ls hl => ?_)
                    refine lv_iconst (v := (0 : Int32)) hx hb dL_state_144 (by decide) ?_
                    refine lv_istore (lv' := [(5, .int (0 : Int32)), (1, .int (((31 : Int32) * (((31 : Int32) * (((31 : Int32) * ((((31 : Int32) * (((31 : Int32) * (((31 : Int32) * y11) + r22)) + ((r19 ^^^ (r19 >>> (((31 : Int32)).toInt64 &&& 63)))).toInt32)) + (0 : Int32)) + (0 : Int32))) + r33)) + r37)) + r41)), (3, .long r19), (2, .int y12), (0, .ref (gAd G 0))]) hx hb dL_state_145 hl (by decide) rfl (fun ls hl => ?_)
                    have hlp147 : ∀ (n : Nat) (j1 : Nat) (y44 : Int32) (y45 : Int32) (w46 : Wd) (ab : Nat) (H : Heap) (locs : List Loc) (ls : Array Slot) (z : (Int32 × Int32 × Wd) ⊕ Unit), n + j1 ≤ 12 → p_L_state_147 y12 n y44 y45 w46 = some z → AH G s.heap w46 ab H locs → lv_has ls 6 [(1, .int y44), (5, .int y45), (3, .long r19), (2, .int y12), (0, .ref (gAd G 0))] → (∀ (y44 : Int32) (y45 : Int32) (w46 : Wd) (ab : Nat) (H : Heap) (locs : List Loc) (ls : Array Slot), z = .inl (y44, y45, w46) → AH G s.heap w46 ab H locs → lv_has ls 6 [(1, .int y44), (5, .int y45), (3, .long r19), (2, .int y12), (0, .ref (gAd G 0))] → W p l e ({ frames := 10, cells := 728, slots := 4368, locals := 195 } : Room) s m args below meth c H locs (((((((((0 + 60 * j) + 1) + 1) + 1) + 1) + 3) + 3) + 3) + 3 * 12) (((((((((0 + 360 * j) + 6) + 6) + 6) + 6) + 18) + 18) + 18) + 18 * 12) (MQ below (amQ G (oI r0) w1) args s 728 4368 (gA G)) (F0 m 174 ls [])) → W p l e ({ frames := 10, cells := 728, slots := 4368, locals := 195 } : Room) s m args below meth c H locs (((((((((0 + 60 * j) + 1) + 1) + 1) + 1) + 3) + 3) + 3) + 3 * j1) (((((((((0 + 360 * j) + 6) + 6) + 6) + 6) + 18) + 18) + 18) + 18 * j1) (MQ below (amQ G (oI r0) w1) args s 728 4368 (gA G)) (F0 m 147 ls []) := by
                      intro n
                      induction n with
                      | zero =>
                        intro j1 y44 y45 w46 ab H locs ls z hj1 hF
                        unfold p_L_state_147 at hF
                        cases hF
                      | succ n ih =>
                        intro j1 y44 y45 w46 ab H locs ls z hj1 hF hh hl kE
                        unfold p_L_state_147 at hF
                        refine lv_iload hx hb dL_state_147 (lv_at hl 1 rfl) ?_
                        refine lv_iload_n hx hb dL_state_149 rfl (lv_at hl 3 rfl) ?_
                        refine lv_icmp_ge (tgt := 174) hx hb dL_state_150 (by decide) (fun hc48 => ?_) (fun hc48 => ?_)
                        · have hF := am_pos hc48 hF
                          exact W.widen (by omega) (by omega) (kE y44 y45 w46 ab H locs ls (Option.some.inj hF).symm hh (lv_sub hl [0, 1, 2, 3, 4] rfl))
                        · have hF := am_neg hc48 hF
                          refine lv_bipush (v := (31 : Int32)) hx hb dL_state_153 (by decide) ?_
                          refine lv_iload_n hx hb dL_state_155 rfl (lv_at hl 0 rfl) ?_
                          refine lv_imul hx hb dL_state_156 ?_
                          refine lv_aload_n hx hb dL_state_157 rfl (lv_at hl 4 rfl) ?_
                          refine lv_bipush (v := (15 : Int32)) hx hb dL_state_158 (by decide) ?_
                          refine lv_iload_n hx hb dL_state_160 rfl (lv_at hl 3 rfl) ?_
                          refine lv_iload hx hb dL_state_161 (lv_at hl 1 rfl) ?_
                          obtain ⟨⟨r50, w51⟩, hk49, hF⟩ := am_bind hF
                          have hF := am_u2 hF
                          refine am_callW X hh (vx_runSX (As := [.ref (gAd G 0), .int (15 : Int32), .int y12, .int y45]) (rest := [.int ((31 : Int32) * y44)]) X.1 (c_L_act l G hst hk49) (vx_cwSW 4 hts gL_state_L_act rfl rfl rfl (by decide +kernel) ⟨Nat.le_of_ble_eq_true rfl, Nat.le_of_ble_eq_true rfl⟩) (am_preS X hh) rfl rfl hl.1 rfl (lv_room (Nat.le_of_ble_eq_true rfl)) dL_state_163 ⟨by show (((((((((0 + 60 * j) + 1) + 1) + 1) + 1) + 3) + 3) + 3) + 3 * j1) + 3 ≤ 728; omega, by show (((((((((0 + 360 * j) + 6) + 6) + 6) + 6) + 18) + 18) + 18) + 18 * j1) + 18 ≤ 4368; omega⟩) (fun ab H locs hh => ?_)
                          refine lv_iadd hx hb dL_state_166 ?_
                          refine lv_istore_n (lv' := [(1, .int (((31 : Int32) * y44) + r50)), (5, .int y45), (3, .long r19), (2, .int y12), (0, .ref (gAd G 0))]) hx hb dL_state_167 rfl hl (by decide) rfl (fun ls hl => ?_)
                          refine lv_iinc (v := (y45 + (1 : Int32))) (lv' := [(5, .int (y45 + (1 : Int32))), (1, .int (((31 : Int32) * y44) + r50)), (3, .long r19), (2, .int y12), (0, .ref (gAd G 0))]) hx hb dL_state_168 hl (k := 1) rfl rfl (by decide) rfl (fun ls hl => ?_)
                          refine lv_goto (tgt := 147) hx hb dL_state_171 (by decide) ?_
                          exact W.widen (by omega) (by omega) (ih (j1 + 1) (((31 : Int32) * y44) + r50) (y45 + (1 : Int32)) w51 ab H locs ls _ (by omega) hF hh (lv_sub hl [1, 0, 2, 3, 4] rfl) kE)
                    obtain ⟨z53, hz54, hF⟩ := am_bind hF
                    refine W.widen (show ((((((((0 + 60 * j) + 1) + 1) + 1) + 1) + 3) + 3) + 3) ≤ ((((((((0 + 60 * j) + 1) + 1) + 1) + 1) + 3) + 3) + 3) + 3 * 0 by omega) (show ((((((((0 + 360 * j) + 6) + 6) + 6) + 6) + 18) + 18) + 18) ≤ ((((((((0 + 360 * j) + 6) + 6) + 6) + 6) + 18) + 18) + 18) + 18 * 0 by omega) (hlp147 12 0 (((31 : Int32) * (((31 : Int32) * (((31 : Int32) * ((((31 : Int32) * (((31 : Int32) * (((31 : Int32) * y11) + r22)) + ((r19 ^^^ (r19 >>> (((31 : Int32)).toInt64 &&& 63)))).toInt32)) + (0 : Int32)) + (0 : Int32))) + r33)) + r37)) + r41) (0 : Int32) w42 ab H locs ls z53 (Nat.le_refl _) hz54 hh (lv_sub hl [1, 0, 2, 3, 4] rfl) (fun y44 y45 w46 ab H locs ls hz hh hl => ?_))
                    · subst hz
                      have hF := am_zl hF
                      have hF := am_u3 hF
                      refine lv_bipush (v := (31 : Int32)) hx hb dL_state_174 (by decide) ?_
                      refine lv_iload_n hx hb dL_state_176 rfl (lv_at hl 0 rfl) ?_
                      refine lv_imul hx hb dL_state_177 ?_
                      refine lv_aload_n hx hb dL_state_178 rfl (lv_at hl 4 rfl) ?_
                      refine lv_iload_n hx hb dL_state_179 rfl (lv_at hl 3 rfl) ?_
                      obtain ⟨⟨z58, w57⟩, hk55, hF⟩ := am_bind hF
                      have hF := am_u2 hF
                      refine am_callX X hh (vx_runV (As := [.int y12]) (rest := [.int ((31 : Int32) * y44)]) X.1 (c_X10_canRelease l G hst hk55) (cwV 1 hts gL_state_X10_canRelease rfl rfl rfl (by decide +kernel) ⟨Nat.le_of_ble_eq_true rfl, Nat.le_of_ble_eq_true rfl⟩) (am_preV X hh 0 11 (by decide) rfl rfl) rfl rfl hl.1 rfl (lv_room (Nat.le_of_ble_eq_true rfl)) dL_state_180 ⟨by show (((((((((0 + 60 * j) + 1) + 1) + 1) + 1) + 3) + 3) + 3) + 3 * 12) + 1 ≤ 728; omega, by show (((((((((0 + 360 * j) + 6) + 6) + 6) + 6) + 18) + 18) + 18) + 18 * 12) + 6 ≤ 4368; omega⟩) (fun k ab H locs ce q hz hh hce hcv hcl => ?_) (fun r56 ab H locs hz hh => ?_)
                      · subst hz
                        cases hF
                      · subst hz
                        have hF := am_zr hF
                        refine lv_if_eq (tgt := 190) hx hb dL_state_183 (by decide) (fun hc59 => ?_) (fun hc59 => ?_)
                        · have hF := am_pos hc59 hF
                          refine lv_iconst (v := (0 : Int32)) hx hb dL_state_190 (by decide) ?_
                          refine lv_iadd hx hb dL_state_191 ?_
                          refine lv_istore_n (lv' := [(1, .int (((31 : Int32) * y44) + (0 : Int32))), (5, .int y45), (3, .long r19), (2, .int y12), (0, .ref (gAd G 0))]) hx hb dL_state_192 rfl hl (by decide) rfl (fun ls hl => ?_)
                          refine lv_iinc (v := (y12 + (1 : Int32))) (lv' := [(2, .int (y12 + (1 : Int32))), (1, .int (((31 : Int32) * y44) + (0 : Int32))), (5, .int y45), (3, .long r19), (0, .ref (gAd G 0))]) hx hb dL_state_193 hl (k := 3) rfl rfl (by decide) rfl (fun ls hl => ?_)
                          refine lv_goto (tgt := 39) hx hb dL_state_196 (by decide) ?_
                          exact W.widen (by omega) (by omega) (ih (j + 1) (((31 : Int32) * y44) + (0 : Int32)) (y12 + (1 : Int32)) w57 ab H locs ls _ (by omega) hF hh (lv_sub hl [1, 0, 4] rfl) kE)
                        · have hF := am_neg hc59 hF
                          refine lv_iconst (v := (1 : Int32)) hx hb dL_state_186 (by decide) ?_
                          refine lv_goto (tgt := 191) hx hb dL_state_187 (by decide) ?_
                          refine lv_iadd hx hb dL_state_191 ?_
                          refine lv_istore_n (lv' := [(1, .int (((31 : Int32) * y44) + (1 : Int32))), (5, .int y45), (3, .long r19), (2, .int y12), (0, .ref (gAd G 0))]) hx hb dL_state_192 rfl hl (by decide) rfl (fun ls hl => ?_)
                          refine lv_iinc (v := (y12 + (1 : Int32))) (lv' := [(2, .int (y12 + (1 : Int32))), (1, .int (((31 : Int32) * y44) + (1 : Int32))), (5, .int y45), (3, .long r19), (0, .ref (gAd G 0))]) hx hb dL_state_193 hl (k := 3) rfl rfl (by decide) rfl (fun ls hl => ?_)
                          refine lv_goto (tgt := 39) hx hb dL_state_196 (by decide) ?_
                          exact W.widen (by omega) (by omega) (ih (j + 1) (((31 : Int32) * y44) + (1 : Int32)) (y12 + (1 : Int32)) w57 ab H locs ls _ (by omega) hF hh (lv_sub hl [1, 0, 4] rfl) kE)
                  · have hF := am_neg hc31 hF
                    refine lv_iconst (v := (2 : Int32)) hx hb dL_state_99 (by decide) ?_
                    refine lv_goto (tgt := 104) hx hb dL_state_100 (by decide) ?_
                    refine lv_iadd hx hb dL_state_104 ?_
                    refine lv_istore_n (lv' := [(1, .int ((((31 : Int32) * (((31 : Int32) * (((31 : Int32) * y11) + r22)) + ((r19 ^^^ (r19 >>> (((31 : Int32)).toInt64 &&& 63)))).toInt32)) + (0 : Int32)) + (2 : Int32))), (3, .long r19), (2, .int y12), (0, .ref (gAd G 0))]) hx hb dL_state_105 rfl hl (by decide) rfl (fun ls hl => ?_)
                    refine lv_bipush (v := (31 : Int32)) hx hb dL_state_106 (by decide) ?_
                    refine lv_bipush (v := (31 : Int32)) hx hb dL_state_108 (by decide) ?_
                    refine lv_bipush (v := (31 : Int32)) hx hb dL_state_110 (by decide) ?_
                    refine lv_iload_n hx hb dL_state_112 rfl (lv_at hl 0 rfl) ?_
                    refine lv_imul hx hb dL_state_113 ?_
                    refine lv_aload_n hx hb dL_state_114 rfl (lv_at hl 3 rfl) ?_
                    refine lv_bipush (v := (12 : Int32)) hx hb dL_state_115 (by decide) ?_
                    refine lv_iload_n hx hb dL_state_117 rfl (lv_at hl 2 rfl) ?_
                    refine lv_iconst (v := (0 : Int32)) hx hb dL_state_118 (by decide) ?_
                    obtain ⟨⟨r61, w62⟩, hk60, hF⟩ := am_bind hF
                    have hF := am_u2 hF
                    refine am_callW X hh (vx_runSX (As := [.ref (gAd G 0), .int (12 : Int32), .int y12, .int (0 : Int32)]) (rest := [.int ((31 : Int32) * ((((31 : Int32) * (((31 : Int32) * (((31 : Int32) * y11) + r22)) + ((r19 ^^^ (r19 >>> (((31 : Int32)).toInt64 &&& 63)))).toInt32)) + (0 : Int32)) + (2 : Int32))), .int (31 : Int32), .int (31 : Int32)]) X.1 (c_L_act l G hst hk60) (vx_cwSW 4 hts gL_state_L_act rfl rfl rfl (by decide +kernel) ⟨Nat.le_of_ble_eq_true rfl, Nat.le_of_ble_eq_true rfl⟩) (am_preS X hh) rfl rfl hl.1 rfl (lv_room (Nat.le_of_ble_eq_true rfl)) dL_state_119 ⟨by show (((((0 + 60 * j) + 1) + 1) + 1) + 1) + 3 ≤ 728; omega, by show (((((0 + 360 * j) + 6) + 6) + 6) + 6) + 18 ≤ 4368; omega⟩) (fun ab H locs hh => ?_)
                    refine lv_iadd hx hb dL_state_122 ?_
                    refine lv_imul hx hb dL_state_123 ?_
                    refine lv_aload_n hx hb dL_state_124 rfl (lv_at hl 3 rfl) ?_
                    refine lv_bipush (v := (13 : Int32)) hx hb dL_state_125 (by decide) ?_
                    refine lv_iload_n hx hb dL_state_127 rfl (lv_at hl 2 rfl) ?_
                    refine lv_iconst (v := (0 : Int32)) hx hb dL_state_128 (by decide) ?_
                    obtain ⟨⟨r65, w66⟩, hk64, hF⟩ := am_bind hF
                    have hF := am_u2 hF
                    refine am_callW X hh (vx_runSX (As := [.ref (gAd G 0), .int (13 : Int32), .int y12, .int (0 : Int32)]) (rest := [.int ((31 : Int32) * (((31 : Int32) * ((((31 : Int32) * (((31 : Int32) * (((31 : Int32) * y11) + r22)) + ((r19 ^^^ (r19 >>> (((31 : Int32)).toInt64 &&& 63)))).toInt32)) + (0 : Int32)) + (2 : Int32))) + r61)), .int (31 : Int32)]) X.1 (c_L_act l G hst hk64) (vx_cwSW 4 hts gL_state_L_act rfl rfl rfl (by decide +kernel) ⟨Nat.le_of_ble_eq_true rfl, Nat.le_of_ble_eq_true rfl⟩) (am_preS X hh) rfl rfl hl.1 rfl (lv_room (Nat.le_of_ble_eq_true rfl)) dL_state_129 ⟨by show ((((((0 + 60 * j) + 1) + 1) + 1) + 1) + 3) + 3 ≤ 728; omega, by show ((((((0 + 360 * j) + 6) + 6) + 6) + 6) + 18) + 18 ≤ 4368; omega⟩) (fun ab H locs hh => ?_)
                    refine lv_iadd hx hb dL_state_132 ?_
                    refine lv_imul hx hb dL_state_133 ?_
                    refine lv_aload_n hx hb dL_state_134 rfl (lv_at hl 3 rfl) ?_
                    refine lv_bipush (v := (14 : Int32)) hx hb dL_state_135 (by decide) ?_
                    refine lv_iload_n hx hb dL_state_137 rfl (lv_at hl 2 rfl) ?_
                    refine lv_iconst (v := (0 : Int32)) hx hb dL_state_138 (by decide) ?_
                    obtain ⟨⟨r69, w70⟩, hk68, hF⟩ := am_bind hF
                    have hF := am_u2 hF
                    refine am_callW X hh (vx_runSX (As := [.ref (gAd G 0), .int (14 : Int32), .int y12, .int (0 : Int32)]) (rest := [.int ((31 : Int32) * (((31 : Int32) * (((31 : Int32) * ((((31 : Int32) * (((31 : Int32) * (((31 : Int32) * y11) + r22)) + ((r19 ^^^ (r19 >>> (((31 : Int32)).toInt64 &&& 63)))).toInt32)) + (0 : Int32)) + (2 : Int32))) + r61)) + r65))]) X.1 (c_L_act l G hst hk68) (vx_cwSW 4 hts gL_state_L_act rfl rfl rfl (by decide +kernel) ⟨Nat.le_of_ble_eq_true rfl, Nat.le_of_ble_eq_true rfl⟩) (am_preS X hh) rfl rfl hl.1 rfl (lv_room (Nat.le_of_ble_eq_true rfl)) dL_state_139 ⟨by show (((((((0 + 60 * j) + 1) + 1) + 1) + 1) + 3) + 3) + 3 ≤ 728; omega, by show (((((((0 + 360 * j) + 6) + 6) + 6) + 6) + 18) + 18) + 18 ≤ 4368; omega⟩) (fun ab H locs hh => ?_)
                    refine lv_iadd hx hb dL_state_142 ?_
                    refine lv_istore_n (lv' := [(1, .int (((31 : Int32) * (((31 : Int32) * (((31 : Int32) * ((((31 : Int32) * (((31 : Int32) * (((31 : Int32) * y11) + r22)) + ((r19 ^^^ (r19 >>> (((31 : Int32)).toInt64 &&& 63)))).toInt32)) + (0 : Int32)) + (2 : Int32))) + r61)) + r65)) + r69)), (3, .long r19), (2, .int y12), (0, .ref (gAd G 0))]) hx hb dL_state_143 rfl hl (by decide) rfl (fun ls hl => ?_)
                    refine lv_iconst (v := (0 : Int32)) hx hb dL_state_144 (by decide) ?_
                    refine lv_istore (lv' := [(5, .int (0 : Int32)), (1, .int (((31 : Int32) * (((31 : Int32) * (((31 : Int32) * ((((31 : Int32) * (((31 : Int32) * (((31 : Int32) * y11) + r22)) + ((r19 ^^^ (r19 >>> (((31 : Int32)).toInt64 &&& 63)))).toInt32)) + (0 : Int32)) + (2 : Int32))) + r61)) + r65)) + r69)), (3, .long r19), (2, .int y12), (0, .ref (gAd G 0))]) hx hb dL_state_145 hl (by decide) rfl (fun ls hl => ?_)
                    have hlp147 : ∀ (n : Nat) (j1 : Nat) (y72 : Int32) (y73 : Int32) (w74 : Wd) (ab : Nat) (H : Heap) (locs : List Loc) (ls : Array Slot) (z : (Int32 × Int32 × Wd) ⊕ Unit), n + j1 ≤ 12 → p_L_state_147 y12 n y72 y73 w74 = some z → AH G s.heap w74 ab H locs → lv_has ls 6 [(1, .int y72), (5, .int y73), (3, .long r19), (2, .int y12), (0, .ref (gAd G 0))] → (∀ (y72 : Int32) (y73 : Int32) (w74 : Wd) (ab : Nat) (H : Heap) (locs : List Loc) (ls : Array Slot), z = .inl (y72, y73, w74) → AH G s.heap w74 ab H locs → lv_has ls 6 [(1, .int y72), (5, .int y73), (3, .long r19), (2, .int y12), (0, .ref (gAd G 0))] → W p l e ({ frames := 10, cells := 728, slots := 4368, locals := 195 } : Room) s m args below meth c H locs (((((((((0 + 60 * j) + 1) + 1) + 1) + 1) + 3) + 3) + 3) + 3 * 12) (((((((((0 + 360 * j) + 6) + 6) + 6) + 6) + 18) + 18) + 18) + 18 * 12) (MQ below (amQ G (oI r0) w1) args s 728 4368 (gA G)) (F0 m 174 ls [])) → W p l e ({ frames := 10, cells := 728, slots := 4368, locals := 195 } : Room) s m args below meth c H locs (((((((((0 + 60 * j) + 1) + 1) + 1) + 1) + 3) + 3) + 3) + 3 * j1) (((((((((0 + 360 * j) + 6) + 6) + 6) + 6) + 18) + 18) + 18) + 18 * j1) (MQ below (amQ G (oI r0) w1) args s 728 4368 (gA G)) (F0 m 147 ls []) := by
                      intro n
                      induction n with
                      | zero =>
                        intro j1 y72 y73 w74 ab H locs ls z hj1 hF
                        unfold p_L_state_147 at hF
                        cases hF
                      | succ n ih =>
                        intro j1 y72 y73 w74 ab H locs ls z hj1 hF hh hl kE
                        unfold p_L_state_147 at hF
                        refine lv_iload hx hb dL_state_147 (lv_at hl 1 rfl) ?_
                        refine lv_iload_n hx hb dL_state_149 rfl (lv_at hl 3 rfl) ?_
                        refine lv_icmp_ge (tgt := 174) hx hb dL_state_150 (by decide) (fun hc76 => ?_) (fun hc76 => ?_)
                        · have hF := am_pos hc76 hF
                          exact W.widen (by omega) (by omega) (kE y72 y73 w74 ab H locs ls (Option.some.inj hF).symm hh (lv_sub hl [0, 1, 2, 3, 4] rfl))
                        · have hF := am_neg hc76 hF
                          refine lv_bipush (v := (31 : Int32)) hx hb dL_state_153 (by decide) ?_
                          refine lv_iload_n hx hb dL_state_155 rfl (lv_at hl 0 rfl) ?_
                          refine lv_imul hx hb dL_state_156 ?_
                          refine lv_aload_n hx hb dL_state_157 rfl (lv_at hl 4 rfl) ?_
                          refine lv_bipush (v := (15 : Int32)) hx hb dL_state_158 (by decide) ?_
                          refine lv_iload_n hx hb dL_state_160 rfl (lv_at hl 3 rfl) ?_
                          refine lv_iload hx hb dL_state_161 (lv_at hl 1 rfl) ?_
                          obtain ⟨⟨r78, w79⟩, hk77, hF⟩ := am_bind hF
                          have hF := am_u2 hF
                          refine am_callW X hh (vx_runSX (As := [.ref (gAd G 0), .int (15 : Int32), .int y12, .int y73]) (rest := [.int ((31 : Int32) * y72)]) X.1 (c_L_act l G hst hk77) (vx_cwSW 4 hts gL_state_L_act rfl rfl rfl (by decide +kernel) ⟨Nat.le_of_ble_eq_true rfl, Nat.le_of_ble_eq_true rfl⟩) (am_preS X hh) rfl rfl hl.1 rfl (lv_room (Nat.le_of_ble_eq_true rfl)) dL_state_163 ⟨by show (((((((((0 + 60 * j) + 1) + 1) + 1) + 1) + 3) + 3) + 3) + 3 * j1) + 3 ≤ 728; omega, by show (((((((((0 + 360 * j) + 6) + 6) + 6) + 6) + 18) + 18) + 18) + 18 * j1) + 18 ≤ 4368; omega⟩) (fun ab H locs hh => ?_)
                          refine lv_iadd hx hb dL_state_166 ?_
                          refine lv_istore_n (lv' := [(1, .int (((31 : Int32) * y72) + r78)), (5, .int y73), (3, .long r19), (2, .int y12), (0, .ref (gAd G 0))]) hx hb dL_state_167 rfl hl (by decide) rfl (fun ls hl => ?_)
                          refine lv_iinc (v := (y73 + (1 : Int32))) (lv' := [(5, .int (y73 + (1 : Int32))), (1, .int (((31 : Int32) * y72) + r78)), (3, .long r19), (2, .int y12), (0, .ref (gAd G 0))]) hx hb dL_state_168 hl (k := 1) rfl rfl (by decide) rfl (fun ls hl => ?_)
                          refine lv_goto (tgt := 147) hx hb dL_state_171 (by decide) ?_
                          exact W.widen (by omega) (by omega) (ih (j1 + 1) (((31 : Int32) * y72) + r78) (y73 + (1 : Int32)) w79 ab H locs ls _ (by omega) hF hh (lv_sub hl [1, 0, 2, 3, 4] rfl) kE)
                    obtain ⟨z81, hz82, hF⟩ := am_bind hF
                    refine W.widen (show ((((((((0 + 60 * j) + 1) + 1) + 1) + 1) + 3) + 3) + 3) ≤ ((((((((0 + 60 * j) + 1) + 1) + 1) + 1) + 3) + 3) + 3) + 3 * 0 by omega) (show ((((((((0 + 360 * j) + 6) + 6) + 6) + 6) + 18) + 18) + 18) ≤ ((((((((0 + 360 * j) + 6) + 6) + 6) + 6) + 18) + 18) + 18) + 18 * 0 by omega) (hlp147 12 0 (((31 : Int32) * (((31 : Int32) * (((31 : Int32) * ((((31 : Int32) * (((31 : Int32) * (((31 : Int32) * y11) + r22)) + ((r19 ^^^ (r19 >>> (((31 : Int32)).toInt64 &&& 63)))).toInt32)) + (0 : Int32)) + (2 : Int32))) + r61)) + r65)) + r69) (0 : Int32) w70 ab H locs ls z81 (Nat.le_refl _) hz82 hh (lv_sub hl [1, 0, 2, 3, 4] rfl) (fun y72 y73 w74 ab H locs ls hz hh hl => ?_))
                    · subst hz
                      have hF := am_zl hF
                      have hF := am_u3 hF
                      refine lv_bipush (v := (31 : Int32)) hx hb dL_state_174 (by decide) ?_
                      refine lv_iload_n hx hb dL_state_176 rfl (lv_at hl 0 rfl) ?_
                      refine lv_imul hx hb dL_state_177 ?_
                      refine lv_aload_n hx hb dL_state_178 rfl (lv_at hl 4 rfl) ?_
                      refine lv_iload_n hx hb dL_state_179 rfl (lv_at hl 3 rfl) ?_
                      obtain ⟨⟨z86, w85⟩, hk83, hF⟩ := am_bind hF
                      have hF := am_u2 hF
                      refine am_callX X hh (vx_runV (As := [.int y12]) (rest := [.int ((31 : Int32) * y72)]) X.1 (c_X10_canRelease l G hst hk83) (cwV 1 hts gL_state_X10_canRelease rfl rfl rfl (by decide +kernel) ⟨Nat.le_of_ble_eq_true rfl, Nat.le_of_ble_eq_true rfl⟩) (am_preV X hh 0 11 (by decide) rfl rfl) rfl rfl hl.1 rfl (lv_room (Nat.le_of_ble_eq_true rfl)) dL_state_180 ⟨by show (((((((((0 + 60 * j) + 1) + 1) + 1) + 1) + 3) + 3) + 3) + 3 * 12) + 1 ≤ 728; omega, by show (((((((((0 + 360 * j) + 6) + 6) + 6) + 6) + 18) + 18) + 18) + 18 * 12) + 6 ≤ 4368; omega⟩) (fun k ab H locs ce q hz hh hce hcv hcl => ?_) (fun r84 ab H locs hz hh => ?_)
                      · subst hz
                        cases hF
                      · subst hz
                        have hF := am_zr hF
                        refine lv_if_eq (tgt := 190) hx hb dL_state_183 (by decide) (fun hc87 => ?_) (fun hc87 => ?_)
                        · have hF := am_pos hc87 hF
                          refine lv_iconst (v := (0 : Int32)) hx hb dL_state_190 (by decide) ?_
                          refine lv_iadd hx hb dL_state_191 ?_
                          refine lv_istore_n (lv' := [(1, .int (((31 : Int32) * y72) + (0 : Int32))), (5, .int y73), (3, .long r19), (2, .int y12), (0, .ref (gAd G 0))]) hx hb dL_state_192 rfl hl (by decide) rfl (fun ls hl => ?_)
                          refine lv_iinc (v := (y12 + (1 : Int32))) (lv' := [(2, .int (y12 + (1 : Int32))), (1, .int (((31 : Int32) * y72) + (0 : Int32))), (5, .int y73), (3, .long r19), (0, .ref (gAd G 0))]) hx hb dL_state_193 hl (k := 3) rfl rfl (by decide) rfl (fun ls hl => ?_)
                          refine lv_goto (tgt := 39) hx hb dL_state_196 (by decide) ?_
                          exact W.widen (by omega) (by omega) (ih (j + 1) (((31 : Int32) * y72) + (0 : Int32)) (y12 + (1 : Int32)) w85 ab H locs ls _ (by omega) hF hh (lv_sub hl [1, 0, 4] rfl) kE)
                        · have hF := am_neg hc87 hF
                          refine lv_iconst (v := (1 : Int32)) hx hb dL_state_186 (by decide) ?_
                          refine lv_goto (tgt := 191) hx hb dL_state_187 (by decide) ?_
                          refine lv_iadd hx hb dL_state_191 ?_
                          refine lv_istore_n (lv' := [(1, .int (((31 : Int32) * y72) + (1 : Int32))), (5, .int y73), (3, .long r19), (2, .int y12), (0, .ref (gAd G 0))]) hx hb dL_state_192 rfl hl (by decide) rfl (fun ls hl => ?_)
                          refine lv_iinc (v := (y12 + (1 : Int32))) (lv' := [(2, .int (y12 + (1 : Int32))), (1, .int (((31 : Int32) * y72) + (1 : Int32))), (5, .int y73), (3, .long r19), (0, .ref (gAd G 0))]) hx hb dL_state_193 hl (k := 3) rfl rfl (by decide) rfl (fun ls hl => ?_)
                          refine lv_goto (tgt := 39) hx hb dL_state_196 (by decide) ?_
                          exact W.widen (by omega) (by omega) (ih (j + 1) (((31 : Int32) * y72) + (1 : Int32)) (y12 + (1 : Int32)) w85 ab H locs ls _ (by omega) hF hh (lv_sub hl [1, 0, 4] rfl) kE)
              · have hF := am_neg hc27 hF
                refine lv_iconst (v := (1 : Int32)) hx hb dL_state_85 (by decide) ?_
                refine lv_goto (tgt := 90) hx hb dL_state_86 (by decide) ?_
                refine lv_iadd hx hb dL_state_90 ?_
                refine lv_aload_n hx hb dL_state_91 rfl (lv_at hl 3 rfl) ?_
                refine lv_iload_n hx hb dL_state_92 rfl (lv_at hl 2 rfl) ?_
                obtain ⟨z90, hk88, hF⟩ := am_bind hF
                refine am_callX X hh (vx_runV (As := [.int y12]) (rest := [.int (((31 : Int32) * (((31 : Int32) * (((31 : Int32) * y11) + r22)) + ((r19 ^^^ (r19 >>> (((31 : Int32)).toInt64 &&& 63)))).toInt32)) + (1 : Int32))]) X.1 (c_X10_isDry l G hst hk88) (cwV 1 hts gL_state_X10_isDry rfl rfl rfl (by decide +kernel) ⟨Nat.le_of_ble_eq_true rfl, Nat.le_of_ble_eq_true rfl⟩) (am_preV X hh 0 11 (by decide) rfl rfl) rfl rfl hl.1 rfl (lv_room (Nat.le_of_ble_eq_true rfl)) dL_state_93 ⟨by show ((((0 + 60 * j) + 1) + 1) + 1) + 1 ≤ 728; omega, by show ((((0 + 360 * j) + 6) + 6) + 6) + 6 ≤ 4368; omega⟩) (fun k ab H locs ce q hz hh hce hcv hcl => ?_) (fun r89 ab H locs hz hh => ?_)
                · subst hz
                  cases hF
                · subst hz
                  have hF := am_zr hF
                  refine lv_if_eq (tgt := 103) hx hb dL_state_96 (by decide) (fun hc91 => ?_) (fun hc91 => ?_)
                  · have hF := am_pos hc91 hF
                    refine lv_iconst (v := (0 : Int32)) hx hb dL_state_103 (by decide) ?_
                    refine lv_iadd hx hb dL_state_104 ?_
                    refine lv_istore_n (lv' := [(1, .int ((((31 : Int32) * (((31 : Int32) * (((31 : Int32) * y11) + r22)) + ((r19 ^^^ (r19 >>> (((31 : Int32)).toInt64 &&& 63)))).toInt32)) + (1 : Int32)) + (0 : Int32))), (3, .long r19), (2, .int y12), (0, .ref (gAd G 0))]) hx hb dL_state_105 rfl hl (by decide) rfl (fun ls hl => ?_)
                    refine lv_bipush (v := (31 : Int32)) hx hb dL_state_106 (by decide) ?_
                    refine lv_bipush (v := (31 : Int32)) hx hb dL_state_108 (by decide) ?_
                    refine lv_bipush (v := (31 : Int32)) hx hb dL_state_110 (by decide) ?_
                    refine lv_iload_n hx hb dL_state_112 rfl (lv_at hl 0 rfl) ?_
                    refine lv_imul hx hb dL_state_113 ?_
                    refine lv_aload_n hx hb dL_state_114 rfl (lv_at hl 3 rfl) ?_
                    refine lv_bipush (v := (12 : Int32)) hx hb dL_state_115 (by decide) ?_
                    refine lv_iload_n hx hb dL_state_117 rfl (lv_at hl 2 rfl) ?_
                    refine lv_iconst (v := (0 : Int32)) hx hb dL_state_118 (by decide) ?_
                    obtain ⟨⟨r93, w94⟩, hk92, hF⟩ := am_bind hF
                    have hF := am_u2 hF
                    refine am_callW X hh (vx_runSX (As := [.ref (gAd G 0), .int (12 : Int32), .int y12, .int (0 : Int32)]) (rest := [.int ((31 : Int32) * ((((31 : Int32) * (((31 : Int32) * (((31 : Int32) * y11) + r22)) + ((r19 ^^^ (r19 >>> (((31 : Int32)).toInt64 &&& 63)))).toInt32)) + (1 : Int32)) + (0 : Int32))), .int (31 : Int32), .int (31 : Int32)]) X.1 (c_L_act l G hst hk92) (vx_cwSW 4 hts gL_state_L_act rfl rfl rfl (by decide +kernel) ⟨Nat.le_of_ble_eq_true rfl, Nat.le_of_ble_eq_true rfl⟩) (am_preS X hh) rfl rfl hl.1 rfl (lv_room (Nat.le_of_ble_eq_true rfl)) dL_state_119 ⟨by show (((((0 + 60 * j) + 1) + 1) + 1) + 1) + 3 ≤ 728; omega, by show (((((0 + 360 * j) + 6) + 6) + 6) + 6) + 18 ≤ 4368; omega⟩) (fun ab H locs hh => ?_)
                    refine lv_iadd hx hb dL_state_122 ?_
                    refine lv_imul hx hb dL_state_123 ?_
                    refine lv_aload_n hx hb dL_state_124 rfl (lv_at hl 3 rfl) ?_
                    refine lv_bipush (v := (13 : Int32)) hx hb dL_state_125 (by decide) ?_
                    refine lv_iload_n hx hb dL_state_127 rfl (lv_at hl 2 rfl) ?_
                    refine lv_iconst (v := (0 : Int32)) hx hb dL_state_128 (by decide) ?_
                    obtain ⟨⟨r97, w98⟩, hk96, hF⟩ := am_bind hF
                    have hF := am_u2 hF
                    refine am_callW X hh (vx_runSX (As := [.ref (gAd G 0), .int (13 : Int32), .int y12, .int (0 : Int32)]) (rest := [.int ((31 : Int32) * (((31 : Int32) * ((((31 : Int32) * (((31 : Int32) * (((31 : Int32) * y11) + r22)) + ((r19 ^^^ (r19 >>> (((31 : Int32)).toInt64 &&& 63)))).toInt32)) + (1 : Int32)) + (0 : Int32))) + r93)), .int (31 : Int32)]) X.1 (c_L_act l G hst hk96) (vx_cwSW 4 hts gL_state_L_act rfl rfl rfl (by decide +kernel) ⟨Nat.le_of_ble_eq_true rfl, Nat.le_of_ble_eq_true rfl⟩) (am_preS X hh) rfl rfl hl.1 rfl (lv_room (Nat.le_of_ble_eq_true rfl)) dL_state_129 ⟨by show ((((((0 + 60 * j) + 1) + 1) + 1) + 1) + 3) + 3 ≤ 728; omega, by show ((((((0 + 360 * j) + 6) + 6) + 6) + 6) + 18) + 18 ≤ 4368; omega⟩) (fun ab H locs hh => ?_)
                    refine lv_iadd hx hb dL_state_132 ?_
                    refine lv_imul hx hb dL_state_133 ?_
                    refine lv_aload_n hx hb dL_state_134 rfl (lv_at hl 3 rfl) ?_
                    refine lv_bipush (v := (14 : Int32)) hx hb dL_state_135 (by decide) ?_
                    refine lv_iload_n hx hb dL_state_137 rfl (lv_at hl 2 rfl) ?_
                    refine lv_iconst (v := (0 : Int32)) hx hb dL_state_138 (by decide) ?_
                    obtain ⟨⟨r101, w102⟩, hk100, hF⟩ := am_bind hF
                    have hF := am_u2 hF
                    refine am_callW X hh (vx_runSX (As := [.ref (gAd G 0), .int (14 : Int32), .int y12, .int (0 : Int32)]) (rest := [.int ((31 : Int32) * (((31 : Int32) * (((31 : Int32) * ((((31 : Int32) * (((31 : Int32) * (((31 : Int32) * y11) + r22)) + ((r19 ^^^ (r19 >>> (((31 : Int32)).toInt64 &&& 63)))).toInt32)) + (1 : Int32)) + (0 : Int32))) + r93)) + r97))]) X.1 (c_L_act l G hst hk100) (vx_cwSW 4 hts gL_state_L_act rfl rfl rfl (by decide +kernel) ⟨Nat.le_of_ble_eq_true rfl, Nat.le_of_ble_eq_true rfl⟩) (am_preS X hh) rfl rfl hl.1 rfl (lv_room (Nat.le_of_ble_eq_true rfl)) dL_state_139 ⟨by show (((((((0 + 60 * j) + 1) + 1) + 1) + 1) + 3) + 3) + 3 ≤ 728; omega, by show (((((((0 + 360 * j) + 6) + 6) + 6) + 6) + 18) + 18) + 18 ≤ 4368; omega⟩) (fun ab H locs hh => ?_)
                    refine lv_iadd hx hb dL_state_142 ?_
                    refine lv_istore_n (lv' := [(1, .int (((31 : Int32) * (((31 : Int32) * (((31 : Int32) * ((((31 : Int32) * (((31 : Int32) * (((31 : Int32) * y11) + r22)) + ((r19 ^^^ (r19 >>> (((31 : Int32)).toInt64 &&& 63)))).toInt32)) + (1 : Int32)) + (0 : Int32))) + r93)) + r97)) + r101)), (3, .long r19), (2, .int y12), (0, .ref (gAd G 0))]) hx hb dL_state_143 rfl hl (by decide) rfl (fun ls hl => ?_)
                    refine lv_iconst (v := (0 : Int32)) hx hb dL_state_144 (by decide) ?_
                    refine lv_istore (lv' := [(5, .int (0 : Int32)), (1, .int (((31 : Int32) * (((31 : Int32) * (((31 : Int32) * ((((31 : Int32) * (((31 : Int32) * (((31 : Int32) * y11) + r22)) + ((r19 ^^^ (r19 >>> (((31 : Int32)).toInt64 &&& 63)))).toInt32)) + (1 : Int32)) + (0 : Int32))) + r93)) + r97)) + r101)), (3, .long r19), (2, .int y12), (0, .ref (gAd G 0))]) hx hb dL_state_145 hl (by decide) rfl (fun ls hl => ?_)
                    have hlp147 : ∀ (n : Nat) (j1 : Nat) (y104 : Int32) (y105 : Int32) (w106 : Wd) (ab : Nat) (H : Heap) (locs : List Loc) (ls : Array Slot) (z : (Int32 × Int32 × Wd) ⊕ Unit), n + j1 ≤ 12 → p_L_state_147 y12 n y104 y105 w106 = some z → AH G s.heap w106 ab H locs → lv_has ls 6 [(1, .int y104), (5, .int y105), (3, .long r19), (2, .int y12), (0, .ref (gAd G 0))] → (∀ (y104 : Int32) (y105 : Int32) (w106 : Wd) (ab : Nat) (H : Heap) (locs : List Loc) (ls : Array Slot), z = .inl (y104, y105, w106) → AH G s.heap w106 ab H locs → lv_has ls 6 [(1, .int y104), (5, .int y105), (3, .long r19), (2, .int y12), (0, .ref (gAd G 0))] → W p l e ({ frames := 10, cells := 728, slots := 4368, locals := 195 } : Room) s m args below meth c H locs (((((((((0 + 60 * j) + 1) + 1) + 1) + 1) + 3) + 3) + 3) + 3 * 12) (((((((((0 + 360 * j) + 6) + 6) + 6) + 6) + 18) + 18) + 18) + 18 * 12) (MQ below (amQ G (oI r0) w1) args s 728 4368 (gA G)) (F0 m 174 ls [])) → W p l e ({ frames := 10, cells := 728, slots := 4368, locals := 195 } : Room) s m args below meth c H locs (((((((((0 + 60 * j) + 1) + 1) + 1) + 1) + 3) + 3) + 3) + 3 * j1) (((((((((0 + 360 * j) + 6) + 6) + 6) + 6) + 18) + 18) + 18) + 18 * j1) (MQ below (amQ G (oI r0) w1) args s 728 4368 (gA G)) (F0 m 147 ls []) := by
                      intro n
                      induction n with
                      | zero =>
                        intro j1 y104 y105 w106 ab H locs ls z hj1 hF
                        unfold p_L_state_147 at hF
                        cases hF
                      | succ n ih =>
                        intro j1 y104 y105 w106 ab H locs ls z hj1 hF hh hl kE
                        unfold p_L_state_147 at hF
                        refine lv_iload hx hb dL_state_147 (lv_at hl 1 rfl) ?_
                        refine lv_iload_n hx hb dL_state_149 rfl (lv_at hl 3 rfl) ?_
                        refine lv_icmp_ge (tgt := 174) hx hb dL_state_150 (by decide) (fun hc108 => ?_) (fun hc108 => ?_)
                        · have hF := am_pos hc108 hF
                          exact W.widen (by omega) (by omega) (kE y104 y105 w106 ab H locs ls (Option.some.inj hF).symm hh (lv_sub hl [0, 1, 2, 3, 4] rfl))
                        · have hF := am_neg hc108 hF
                          refine lv_bipush (v := (31 : Int32)) hx hb dL_state_153 (by decide) ?_
                          refine lv_iload_n hx hb dL_state_155 rfl (lv_at hl 0 rfl) ?_
                          refine lv_imul hx hb dL_state_156 ?_
                          refine lv_aload_n hx hb dL_state_157 rfl (lv_at hl 4 rfl) ?_
                          refine lv_bipush (v := (15 : Int32)) hx hb dL_state_158 (by decide) ?_
                          refine lv_iload_n hx hb dL_state_160 rfl (lv_at hl 3 rfl) ?_
                          refine lv_iload hx hb dL_state_161 (lv_at hl 1 rfl) ?_
                          obtain ⟨⟨r110, w111⟩, hk109, hF⟩ := am_bind hF
                          have hF := am_u2 hF
                          refine am_callW X hh (vx_runSX (As := [.ref (gAd G 0), .int (15 : Int32), .int y12, .int y105]) (rest := [.int ((31 : Int32) * y104)]) X.1 (c_L_act l G hst hk109) (vx_cwSW 4 hts gL_state_L_act rfl rfl rfl (by decide +kernel) ⟨Nat.le_of_ble_eq_true rfl, Nat.le_of_ble_eq_true rfl⟩) (am_preS X hh) rfl rfl hl.1 rfl (lv_room (Nat.le_of_ble_eq_true rfl)) dL_state_163 ⟨by show (((((((((0 + 60 * j) + 1) + 1) + 1) + 1) + 3) + 3) + 3) + 3 * j1) + 3 ≤ 728; omega, by show (((((((((0 + 360 * j) + 6) + 6) + 6) + 6) + 18) + 18) + 18) + 18 * j1) + 18 ≤ 4368; omega⟩) (fun ab H locs hh => ?_)
                          refine lv_iadd hx hb dL_state_166 ?_
                          refine lv_istore_n (lv' := [(1, .int (((31 : Int32) * y104) + r110)), (5, .int y105), (3, .long r19), (2, .int y12), (0, .ref (gAd G 0))]) hx hb dL_state_167 rfl hl (by decide) rfl (fun ls hl => ?_)
                          refine lv_iinc (v := (y105 + (1 : Int32))) (lv' := [(5, .int (y105 + (1 : Int32))), (1, .int (((31 : Int32) * y104) + r110)), (3, .long r19), (2, .int y12), (0, .ref (gAd G 0))]) hx hb dL_state_168 hl (k := 1) rfl rfl (by decide) rfl (fun ls hl => ?_)
                          refine lv_goto (tgt := 147) hx hb dL_state_171 (by decide) ?_
                          exact W.widen (by omega) (by omega) (ih (j1 + 1) (((31 : Int32) * y104) + r110) (y105 + (1 : Int32)) w111 ab H locs ls _ (by omega) hF hh (lv_sub hl [1, 0, 2, 3, 4] rfl) kE)
                    obtain ⟨z113, hz114, hF⟩ := am_bind hF
                    refine W.widen (show ((((((((0 + 60 * j) + 1) + 1) + 1) + 1) + 3) + 3) + 3) ≤ ((((((((0 + 60 * j) + 1) + 1) + 1) + 1) + 3) + 3) + 3) + 3 * 0 by omega) (show ((((((((0 + 360 * j) + 6) + 6) + 6) + 6) + 18) + 18) + 18) ≤ ((((((((0 + 360 * j) + 6) + 6) + 6) + 6) + 18) + 18) + 18) + 18 * 0 by omega) (hlp147 12 0 (((31 : Int32) * (((31 : Int32) * (((31 : Int32) * ((((31 : Int32) * (((31 : Int32) * (((31 : Int32) * y11) + r22)) + ((r19 ^^^ (r19 >>> (((31 : Int32)).toInt64 &&& 63)))).toInt32)) + (1 : Int32)) + (0 : Int32))) + r93)) + r97)) + r101) (0 : Int32) w102 ab H locs ls z113 (Nat.le_refl _) hz114 hh (lv_sub hl [1, 0, 2, 3, 4] rfl) (fun y104 y105 w106 ab H locs ls hz hh hl => ?_))
                    · subst hz
                      have hF := am_zl hF
                      have hF := am_u3 hF
                      refine lv_bipush (v := (31 : Int32)) hx hb dL_state_174 (by decide) ?_
                      refine lv_iload_n hx hb dL_state_176 rfl (lv_at hl 0 rfl) ?_
                      refine lv_imul hx hb dL_state_177 ?_
                      refine lv_aload_n hx hb dL_state_178 rfl (lv_at hl 4 rfl) ?_
                      refine lv_iload_n hx hb dL_state_179 rfl (lv_at hl 3 rfl) ?_
                      obtain ⟨⟨z118, w117⟩, hk115, hF⟩ := am_bind hF
                      have hF := am_u2 hF
                      refine am_callX X hh (vx_runV (As := [.int y12]) (rest := [.int ((31 : Int32) * y104)]) X.1 (c_X10_canRelease l G hst hk115) (cwV 1 hts gL_state_X10_canRelease rfl rfl rfl (by decide +kernel) ⟨Nat.le_of_ble_eq_true rfl, Nat.le_of_ble_eq_true rfl⟩) (am_preV X hh 0 11 (by decide) rfl rfl) rfl rfl hl.1 rfl (lv_room (Nat.le_of_ble_eq_true rfl)) dL_state_180 ⟨by show (((((((((0 + 60 * j) + 1) + 1) + 1) + 1) + 3) + 3) + 3) + 3 * 12) + 1 ≤ 728; omega, by show (((((((((0 + 360 * j) + 6) + 6) + 6) + 6) + 18) + 18) + 18) + 18 * 12) + 6 ≤ 4368; omega⟩) (fun k ab H locs ce q hz hh hce hcv hcl => ?_) (fun r116 ab H locs hz hh => ?_)
                      · subst hz
                        cases hF
                      · subst hz
                        have hF := am_zr hF
                        refine lv_if_eq (tgt := 190) hx hb dL_state_183 (by decide) (fun hc119 => ?_) (fun hc119 => ?_)
                        · have hF := am_pos hc119 hF
                          refine lv_iconst (v := (0 : Int32)) hx hb dL_state_190 (by decide) ?_
                          refine lv_iadd hx hb dL_state_191 ?_
                          refine lv_istore_n (lv' := [(1, .int (((31 : Int32) * y104) + (0 : Int32))), (5, .int y105), (3, .long r19), (2, .int y12), (0, .ref (gAd G 0))]) hx hb dL_state_192 rfl hl (by decide) rfl (fun ls hl => ?_)
                          refine lv_iinc (v := (y12 + (1 : Int32))) (lv' := [(2, .int (y12 + (1 : Int32))), (1, .int (((31 : Int32) * y104) + (0 : Int32))), (5, .int y105), (3, .long r19), (0, .ref (gAd G 0))]) hx hb dL_state_193 hl (k := 3) rfl rfl (by decide) rfl (fun ls hl => ?_)
                          refine lv_goto (tgt := 39) hx hb dL_state_196 (by decide) ?_
                          exact W.widen (by omega) (by omega) (ih (j + 1) (((31 : Int32) * y104) + (0 : Int32)) (y12 + (1 : Int32)) w117 ab H locs ls _ (by omega) hF hh (lv_sub hl [1, 0, 4] rfl) kE)
                        · have hF := am_neg hc119 hF
                          refine lv_iconst (v := (1 : Int32)) hx hb dL_state_186 (by decide) ?_
                          refine lv_goto (tgt := 191) hx hb dL_state_187 (by decide) ?_
                          refine lv_iadd hx hb dL_state_191 ?_
                          refine lv_istore_n (lv' := [(1, .int (((31 : Int32) * y104) + (1 : Int32))), (5, .int y105), (3, .long r19), (2, .int y12), (0, .ref (gAd G 0))]) hx hb dL_state_192 rfl hl (by decide) rfl (fun ls hl => ?_)
                          refine lv_iinc (v := (y12 + (1 : Int32))) (lv' := [(2, .int (y12 + (1 : Int32))), (1, .int (((31 : Int32) * y104) + (1 : Int32))), (5, .int y105), (3, .long r19), (0, .ref (gAd G 0))]) hx hb dL_state_193 hl (k := 3) rfl rfl (by decide) rfl (fun ls hl => ?_)
                          refine lv_goto (tgt := 39) hx hb dL_state_196 (by decide) ?_
                          exact W.widen (by omega) (by omega) (ih (j + 1) (((31 : Int32) * y104) + (1 : Int32)) (y12 + (1 : Int32)) w117 ab H locs ls _ (by omega) hF hh (lv_sub hl [1, 0, 4] rfl) kE)
                  · have hF := am_neg hc91 hF
                    refine lv_iconst (v := (2 : Int32)) hx hb dL_state_99 (by decide) ?_
                    refine lv_goto (tgt := 104) hx hb dL_state_100 (by decide) ?_
                    refine lv_iadd hx hb dL_state_104 ?_
                    refine lv_istore_n (lv' := [(1, .int ((((31 : Int32) * (((31 : Int32) * (((31 : Int32) * y11) + r22)) + ((r19 ^^^ (r19 >>> (((31 : Int32)).toInt64 &&& 63)))).toInt32)) + (1 : Int32)) + (2 : Int32))), (3, .long r19), (2, .int y12), (0, .ref (gAd G 0))]) hx hb dL_state_105 rfl hl (by decide) rfl (fun ls hl => ?_)
                    refine lv_bipush (v := (31 : Int32)) hx hb dL_state_106 (by decide) ?_
                    refine lv_bipush (v := (31 : Int32)) hx hb dL_state_108 (by decide) ?_
                    refine lv_bipush (v := (31 : Int32)) hx hb dL_state_110 (by decide) ?_
                    refine lv_iload_n hx hb dL_state_112 rfl (lv_at hl 0 rfl) ?_
                    refine lv_imul hx hb dL_state_113 ?_
                    refine lv_aload_n hx hb dL_state_114 rfl (lv_at hl 3 rfl) ?_
                    refine lv_bipush (v := (12 : Int32)) hx hb dL_state_115 (by decide) ?_
                    refine lv_iload_n hx hb dL_state_117 rfl (lv_at hl 2 rfl) ?_
                    refine lv_iconst (v := (0 : Int32)) hx hb dL_state_118 (by decide) ?_
                    obtain ⟨⟨r121, w122⟩, hk120, hF⟩ := am_bind hF
                    have hF := am_u2 hF
                    refine am_callW X hh (vx_runSX (As := [.ref (gAd G 0), .int (12 : Int32), .int y12, .int (0 : Int32)]) (rest := [.int ((31 : Int32) * ((((31 : Int32) * (((31 : Int32) * (((31 : Int32) * y11) + r22)) + ((r19 ^^^ (r19 >>> (((31 : Int32)).toInt64 &&& 63)))).toInt32)) + (1 : Int32)) + (2 : Int32))), .int (31 : Int32), .int (31 : Int32)]) X.1 (c_L_act l G hst hk120) (vx_cwSW 4 hts gL_state_L_act rfl rfl rfl (by decide +kernel) ⟨Nat.le_of_ble_eq_true rfl, Nat.le_of_ble_eq_true rfl⟩) (am_preS X hh) rfl rfl hl.1 rfl (lv_room (Nat.le_of_ble_eq_true rfl)) dL_state_119 ⟨by show (((((0 + 60 * j) + 1) + 1) + 1) + 1) + 3 ≤ 728; omega, by show (((((0 + 360 * j) + 6) + 6) + 6) + 6) + 18 ≤ 4368; omega⟩) (fun ab H locs hh => ?_)
                    refine lv_iadd hx hb dL_state_122 ?_
                    refine lv_imul hx hb dL_state_123 ?_
                    refine lv_aload_n hx hb dL_state_124 rfl (lv_at hl 3 rfl) ?_
                    refine lv_bipush (v := (13 : Int32)) hx hb dL_state_125 (by decide) ?_
                    refine lv_iload_n hx hb dL_state_127 rfl (lv_at hl 2 rfl) ?_
                    refine lv_iconst (v := (0 : Int32)) hx hb dL_state_128 (by decide) ?_
                    obtain ⟨⟨r125, w126⟩, hk124, hF⟩ := am_bind hF
                    have hF := am_u2 hF
                    refine am_callW X hh (vx_runSX (As := [.ref (gAd G 0), .int (13 : Int32), .int y12, .int (0 : Int32)]) (rest := [.int ((31 : Int32) * (((31 : Int32) * ((((31 : Int32) * (((31 : Int32) * (((31 : Int32) * y11) + r22)) + ((r19 ^^^ (r19 >>> (((31 : Int32)).toInt64 &&& 63)))).toInt32)) + (1 : Int32)) + (2 : Int32))) + r121)), .int (31 : Int32)]) X.1 (c_L_act l G hst hk124) (vx_cwSW 4 hts gL_state_L_act rfl rfl rfl (by decide +kernel) ⟨Nat.le_of_ble_eq_true rfl, Nat.le_of_ble_eq_true rfl⟩) (am_preS X hh) rfl rfl hl.1 rfl (lv_room (Nat.le_of_ble_eq_true rfl)) dL_state_129 ⟨by show ((((((0 + 60 * j) + 1) + 1) + 1) + 1) + 3) + 3 ≤ 728; omega, by show ((((((0 + 360 * j) + 6) + 6) + 6) + 6) + 18) + 18 ≤ 4368; omega⟩) (fun ab H locs hh => ?_)
                    refine lv_iadd hx hb dL_state_132 ?_
                    refine lv_imul hx hb dL_state_133 ?_
                    refine lv_aload_n hx hb dL_state_134 rfl (lv_at hl 3 rfl) ?_
                    refine lv_bipush (v := (14 : Int32)) hx hb dL_state_135 (by decide) ?_
                    refine lv_iload_n hx hb dL_state_137 rfl (lv_at hl 2 rfl) ?_
                    refine lv_iconst (v := (0 : Int32)) hx hb dL_state_138 (by decide) ?_
                    obtain ⟨⟨r129, w130⟩, hk128, hF⟩ := am_bind hF
                    have hF := am_u2 hF
                    refine am_callW X hh (vx_runSX (As := [.ref (gAd G 0), .int (14 : Int32), .int y12, .int (0 : Int32)]) (rest := [.int ((31 : Int32) * (((31 : Int32) * (((31 : Int32) * ((((31 : Int32) * (((31 : Int32) * (((31 : Int32) * y11) + r22)) + ((r19 ^^^ (r19 >>> (((31 : Int32)).toInt64 &&& 63)))).toInt32)) + (1 : Int32)) + (2 : Int32))) + r121)) + r125))]) X.1 (c_L_act l G hst hk128) (vx_cwSW 4 hts gL_state_L_act rfl rfl rfl (by decide +kernel) ⟨Nat.le_of_ble_eq_true rfl, Nat.le_of_ble_eq_true rfl⟩) (am_preS X hh) rfl rfl hl.1 rfl (lv_room (Nat.le_of_ble_eq_true rfl)) dL_state_139 ⟨by show (((((((0 + 60 * j) + 1) + 1) + 1) + 1) + 3) + 3) + 3 ≤ 728; omega, by show (((((((0 + 360 * j) + 6) + 6) + 6) + 6) + 18) + 18) + 18 ≤ 4368; omega⟩) (fun ab H locs hh => ?_)
                    refine lv_iadd hx hb dL_state_142 ?_
                    refine lv_istore_n (lv' := [(1, .int (((31 : Int32) * (((31 : Int32) * (((31 : Int32) * ((((31 : Int32) * (((31 : Int32) * (((31 : Int32) * y11) + r22)) + ((r19 ^^^ (r19 >>> (((31 : Int32)).toInt64 &&& 63)))).toInt32)) + (1 : Int32)) + (2 : Int32))) + r121)) + r125)) + r129)), (3, .long r19), (2, .int y12), (0, .ref (gAd G 0))]) hx hb dL_state_143 rfl hl (by decide) rfl (fun ls hl => ?_)
                    refine lv_iconst (v := (0 : Int32)) hx hb dL_state_144 (by decide) ?_
                    refine lv_istore (lv' := [(5, .int (0 : Int32)), (1, .int (((31 : Int32) * (((31 : Int32) * (((31 : Int32) * ((((31 : Int32) * (((31 : Int32) * (((31 : Int32) * y11) + r22)) + ((r19 ^^^ (r19 >>> (((31 : Int32)).toInt64 &&& 63)))).toInt32)) + (1 : Int32)) + (2 : Int32))) + r121)) + r125)) + r129)), (3, .long r19), (2, .int y12), (0, .ref (gAd G 0))]) hx hb dL_state_145 hl (by decide) rfl (fun ls hl => ?_)
                    have hlp147 : ∀ (n : Nat) (j1 : Nat) (y132 : Int32) (y133 : Int32) (w134 : Wd) (ab : Nat) (H : Heap) (locs : List Loc) (ls : Array Slot) (z : (Int32 × Int32 × Wd) ⊕ Unit), n + j1 ≤ 12 → p_L_state_147 y12 n y132 y133 w134 = some z → AH G s.heap w134 ab H locs → lv_has ls 6 [(1, .int y132), (5, .int y133), (3, .long r19), (2, .int y12), (0, .ref (gAd G 0))] → (∀ (y132 : Int32) (y133 : Int32) (w134 : Wd) (ab : Nat) (H : Heap) (locs : List Loc) (ls : Array Slot), z = .inl (y132, y133, w134) → AH G s.heap w134 ab H locs → lv_has ls 6 [(1, .int y132), (5, .int y133), (3, .long r19), (2, .int y12), (0, .ref (gAd G 0))] → W p l e ({ frames := 10, cells := 728, slots := 4368, locals := 195 } : Room) s m args below meth c H locs (((((((((0 + 60 * j) + 1) + 1) + 1) + 1) + 3) + 3) + 3) + 3 * 12) (((((((((0 + 360 * j) + 6) + 6) + 6) + 6) + 18) + 18) + 18) + 18 * 12) (MQ below (amQ G (oI r0) w1) args s 728 4368 (gA G)) (F0 m 174 ls [])) → W p l e ({ frames := 10, cells := 728, slots := 4368, locals := 195 } : Room) s m args below meth c H locs (((((((((0 + 60 * j) + 1) + 1) + 1) + 1) + 3) + 3) + 3) + 3 * j1) (((((((((0 + 360 * j) + 6) + 6) + 6) + 6) + 18) + 18) + 18) + 18 * j1) (MQ below (amQ G (oI r0) w1) args s 728 4368 (gA G)) (F0 m 147 ls []) := by
                      intro n
                      induction n with
                      | zero =>
                        intro j1 y132 y133 w134 ab H locs ls z hj1 hF
                        unfold p_L_state_147 at hF
                        cases hF
                      | succ n ih =>
                        intro j1 y132 y133 w134 ab H locs ls z hj1 hF hh hl kE
                        unfold p_L_state_147 at hF
                        refine lv_iload hx hb dL_state_147 (lv_at hl 1 rfl) ?_
                        refine lv_iload_n hx hb dL_state_149 rfl (lv_at hl 3 rfl) ?_
                        refine lv_icmp_ge (tgt := 174) hx hb dL_state_150 (by decide) (fun hc136 => ?_) (fun hc136 => ?_)
                        · have hF := am_pos hc136 hF
                          exact W.widen (by omega) (by omega) (kE y132 y133 w134 ab H locs ls (Option.some.inj hF).symm hh (lv_sub hl [0, 1, 2, 3, 4] rfl))
                        · have hF := am_neg hc136 hF
                          refine lv_bipush (v := (31 : Int32)) hx hb dL_state_153 (by decide) ?_
                          refine lv_iload_n hx hb dL_state_155 rfl (lv_at hl 0 rfl) ?_
                          refine lv_imul hx hb dL_state_156 ?_
                          refine lv_aload_n hx hb dL_state_157 rfl (lv_at hl 4 rfl) ?_
                          refine lv_bipush (v := (15 : Int32)) hx hb dL_state_158 (by decide) ?_
                          refine lv_iload_n hx hb dL_state_160 rfl (lv_at hl 3 rfl) ?_
                          refine lv_iload hx hb dL_state_161 (lv_at hl 1 rfl) ?_
                          obtain ⟨⟨r138, w139⟩, hk137, hF⟩ := am_bind hF
                          have hF := am_u2 hF
                          refine am_callW X hh (vx_runSX (As := [.ref (gAd G 0), .int (15 : Int32), .int y12, .int y133]) (rest := [.int ((31 : Int32) * y132)]) X.1 (c_L_act l G hst hk137) (vx_cwSW 4 hts gL_state_L_act rfl rfl rfl (by decide +kernel) ⟨Nat.le_of_ble_eq_true rfl, Nat.le_of_ble_eq_true rfl⟩) (am_preS X hh) rfl rfl hl.1 rfl (lv_room (Nat.le_of_ble_eq_true rfl)) dL_state_163 ⟨by show (((((((((0 + 60 * j) + 1) + 1) + 1) + 1) + 3) + 3) + 3) + 3 * j1) + 3 ≤ 728; omega, by show (((((((((0 + 360 * j) + 6) + 6) + 6) + 6) + 18) + 18) + 18) + 18 * j1) + 18 ≤ 4368; omega⟩) (fun ab H locs hh => ?_)
                          refine lv_iadd hx hb dL_state_166 ?_
                          refine lv_istore_n (lv' := [(1, .int (((31 : Int32) * y132) + r138)), (5, .int y133), (3, .long r19), (2, .int y12), (0, .ref (gAd G 0))]) hx hb dL_state_167 rfl hl (by decide) rfl (fun ls hl => ?_)
                          refine lv_iinc (v := (y133 + (1 : Int32))) (lv' := [(5, .int (y133 + (1 : Int32))), (1, .int (((31 : Int32) * y132) + r138)), (3, .long r19), (2, .int y12), (0, .ref (gAd G 0))]) hx hb dL_state_168 hl (k := 1) rfl rfl (by decide) rfl (fun ls hl => ?_)
                          refine lv_goto (tgt := 147) hx hb dL_state_171 (by decide) ?_
                          exact W.widen (by omega) (by omega) (ih (j1 + 1) (((31 : Int32) * y132) + r138) (y133 + (1 : Int32)) w139 ab H locs ls _ (by omega) hF hh (lv_sub hl [1, 0, 2, 3, 4] rfl) kE)
                    obtain ⟨z141, hz142, hF⟩ := am_bind hF
                    refine W.widen (show ((((((((0 + 60 * j) + 1) + 1) + 1) + 1) + 3) + 3) + 3) ≤ ((((((((0 + 60 * j) + 1) + 1) + 1) + 1) + 3) + 3) + 3) + 3 * 0 by omega) (show ((((((((0 + 360 * j) + 6) + 6) + 6) + 6) + 18) + 18) + 18) ≤ ((((((((0 + 360 * j) + 6) + 6) + 6) + 6) + 18) + 18) + 18) + 18 * 0 by omega) (hlp147 12 0 (((31 : Int32) * (((31 : Int32) * (((31 : Int32) * ((((31 : Int32) * (((31 : Int32) * (((31 : Int32) * y11) + r22)) + ((r19 ^^^ (r19 >>> (((31 : Int32)).toInt64 &&& 63)))).toInt32)) + (1 : Int32)) + (2 : Int32))) + r121)) + r125)) + r129) (0 : Int32) w130 ab H locs ls z141 (Nat.le_refl _) hz142 hh (lv_sub hl [1, 0, 2, 3, 4] rfl) (fun y132 y133 w134 ab H locs ls hz hh hl => ?_))
                    · subst hz
                      have hF := am_zl hF
                      have hF := am_u3 hF
                      refine lv_bipush (v := (31 : Int32)) hx hb dL_state_174 (by decide) ?_
                      refine lv_iload_n hx hb dL_state_176 rfl (lv_at hl 0 rfl) ?_
                      refine lv_imul hx hb dL_state_177 ?_
                      refine lv_aload_n hx hb dL_state_178 rfl (lv_at hl 4 rfl) ?_
                      refine lv_iload_n hx hb dL_state_179 rfl (lv_at hl 3 rfl) ?_
                      obtain ⟨⟨z146, w145⟩, hk143, hF⟩ := am_bind hF
                      have hF := am_u2 hF
                      refine am_callX X hh (vx_runV (As := [.int y12]) (rest := [.int ((31 : Int32) * y132)]) X.1 (c_X10_canRelease l G hst hk143) (cwV 1 hts gL_state_X10_canRelease rfl rfl rfl (by decide +kernel) ⟨Nat.le_of_ble_eq_true rfl, Nat.le_of_ble_eq_true rfl⟩) (am_preV X hh 0 11 (by decide) rfl rfl) rfl rfl hl.1 rfl (lv_room (Nat.le_of_ble_eq_true rfl)) dL_state_180 ⟨by show (((((((((0 + 60 * j) + 1) + 1) + 1) + 1) + 3) + 3) + 3) + 3 * 12) + 1 ≤ 728; omega, by show (((((((((0 + 360 * j) + 6) + 6) + 6) + 6) + 18) + 18) + 18) + 18 * 12) + 6 ≤ 4368; omega⟩) (fun k ab H locs ce q hz hh hce hcv hcl => ?_) (fun r144 ab H locs hz hh => ?_)
                      · subst hz
                        cases hF
                      · subst hz
                        have hF := am_zr hF
                        refine lv_if_eq (tgt := 190) hx hb dL_state_183 (by decide) (fun hc147 => ?_) (fun hc147 => ?_)
                        · have hF := am_pos hc147 hF
                          refine lv_iconst (v := (0 : Int32)) hx hb dL_state_190 (by decide) ?_
                          refine lv_iadd hx hb dL_state_191 ?_
                          refine lv_istore_n (lv' := [(1, .int (((31 : Int32) * y132) + (0 : Int32))), (5, .int y133), (3, .long r19), (2, .int y12), (0, .ref (gAd G 0))]) hx hb dL_state_192 rfl hl (by decide) rfl (fun ls hl => ?_)
                          refine lv_iinc (v := (y12 + (1 : Int32))) (lv' := [(2, .int (y12 + (1 : Int32))), (1, .int (((31 : Int32) * y132) + (0 : Int32))), (5, .int y133), (3, .long r19), (0, .ref (gAd G 0))]) hx hb dL_state_193 hl (k := 3) rfl rfl (by decide) rfl (fun ls hl => ?_)
                          refine lv_goto (tgt := 39) hx hb dL_state_196 (by decide) ?_
                          exact W.widen (by omega) (by omega) (ih (j + 1) (((31 : Int32) * y132) + (0 : Int32)) (y12 + (1 : Int32)) w145 ab H locs ls _ (by omega) hF hh (lv_sub hl [1, 0, 4] rfl) kE)
                        · have hF := am_neg hc147 hF
                          refine lv_iconst (v := (1 : Int32)) hx hb dL_state_186 (by decide) ?_
                          refine lv_goto (tgt := 191) hx hb dL_state_187 (by decide) ?_
                          refine lv_iadd hx hb dL_state_191 ?_
                          refine lv_istore_n (lv' := [(1, .int (((31 : Int32) * y132) + (1 : Int32))), (5, .int y133), (3, .long r19), (2, .int y12), (0, .ref (gAd G 0))]) hx hb dL_state_192 rfl hl (by decide) rfl (fun ls hl => ?_)
                          refine lv_iinc (v := (y12 + (1 : Int32))) (lv' := [(2, .int (y12 + (1 : Int32))), (1, .int (((31 : Int32) * y132) + (1 : Int32))), (5, .int y133), (3, .long r19), (0, .ref (gAd G 0))]) hx hb dL_state_193 hl (k := 3) rfl rfl (by decide) rfl (fun ls hl => ?_)
                          refine lv_goto (tgt := 39) hx hb dL_state_196 (by decide) ?_
                          exact W.widen (by omega) (by omega) (ih (j + 1) (((31 : Int32) * y132) + (1 : Int32)) (y12 + (1 : Int32)) w145 ab H locs ls _ (by omega) hF hh (lv_sub hl [1, 0, 4] rfl) kE)
  obtain ⟨z148, hz149, hF⟩ := am_bind hF
  refine W.widen (show 0 ≤ 0 + 60 * 0 by omega) (show 0 ≤ 0 + 360 * 0 by omega) (hlp39 12 0 (((31 : Int32) * (((31 : Int32) * (((31 : Int32) * (((31 : Int32) * r2) + r4)) + r6)) + r8)) + r10) (0 : Int32) w ab H locs ls z148 (Nat.le_refl _) hz149 hh (lv_sub hl [1, 0, 2] rfl) (fun y11 y12 w13 ab H locs ls hz hh hl => ?_))
  · subst hz
    have hF := am_zl hF
    have hF := am_u3 hF
    refine lv_iconst (v := (0 : Int32)) hx hb dL_state_199 (by decide) ?_
    refine lv_istore_n (lv' := [(2, .int (0 : Int32)), (1, .int y11), (0, .ref (gAd G 0))]) hx hb dL_state_200 rfl hl (by decide) rfl (fun ls hl => ?_)
    have hlp201 : ∀ (n : Nat) (j : Nat) (y150 : Int32) (y151 : Int32) (ab : Nat) (H : Heap) (locs : List Loc) (ls : Array Slot) (z : (Int32 × Int32) ⊕ Unit), n + j ≤ 8 → p_L_state_201 w13 n y150 y151 = some z → AH G s.heap w13 ab H locs → lv_has ls 6 [(1, .int y150), (2, .int y151), (0, .ref (gAd G 0))] → (∀ (y150 : Int32) (y151 : Int32) (ab : Nat) (H : Heap) (locs : List Loc) (ls : Array Slot), z = .inl (y150, y151) → AH G s.heap w13 ab H locs → lv_has ls 6 [(1, .int y150), (2, .int y151), (0, .ref (gAd G 0))] → W p l e ({ frames := 10, cells := 728, slots := 4368, locals := 195 } : Room) s m args below meth c H locs (720 + 1 * 8) (4320 + 6 * 8) (MQ below (amQ G (oI r0) w1) args s 728 4368 (gA G)) (F0 m 226 ls [])) → W p l e ({ frames := 10, cells := 728, slots := 4368, locals := 195 } : Room) s m args below meth c H locs (720 + 1 * j) (4320 + 6 * j) (MQ below (amQ G (oI r0) w1) args s 728 4368 (gA G)) (F0 m 201 ls []) := by
      intro n
      induction n with
      | zero =>
        intro j y150 y151 ab H locs ls z hj hF
        unfold p_L_state_201 at hF
        cases hF
      | succ n ih =>
        intro j y150 y151 ab H locs ls z hj hF hh hl kE
        unfold p_L_state_201 at hF
        refine lv_iload_n hx hb dL_state_201 rfl (lv_at hl 1 rfl) ?_
        refine lv_aload_n hx hb dL_state_202 rfl (lv_at hl 2 rfl) ?_
        obtain ⟨r154, hk153, hF⟩ := am_bind hF
        refine am_call X hh (va_runV (As := []) (rest := [.int y151]) X.1 (c_X10_planetCount l G hk153) (cwV 0 hts gL_state_X10_planetCount rfl rfl rfl (by decide +kernel) ⟨Nat.le_of_ble_eq_true rfl, Nat.le_of_ble_eq_true rfl⟩) (am_preV X hh 0 11 (by decide) rfl rfl) rfl rfl hl.1 rfl (lv_room (Nat.le_of_ble_eq_true rfl)) dL_state_203 ⟨by show (720 + 1 * j) + 0 ≤ 728; omega, by show (4320 + 6 * j) + 0 ≤ 4368; omega⟩) (fun ab H locs hh => ?_)
        refine lv_icmp_ge (tgt := 226) hx hb dL_state_206 (by decide) (fun hc155 => ?_) (fun hc155 => ?_)
        · have hF := am_pos hc155 hF
          exact W.widen (by omega) (by omega) (kE y150 y151 ab H locs ls (Option.some.inj hF).symm hh (lv_sub hl [0, 1, 2] rfl))
        · have hF := am_neg hc155 hF
          refine lv_bipush (v := (31 : Int32)) hx hb dL_state_209 (by decide) ?_
          refine lv_iload_n hx hb dL_state_211 rfl (lv_at hl 0 rfl) ?_
          refine lv_imul hx hb dL_state_212 ?_
          refine lv_aload_n hx hb dL_state_213 rfl (lv_at hl 2 rfl) ?_
          refine lv_iload_n hx hb dL_state_214 rfl (lv_at hl 1 rfl) ?_
          obtain ⟨z158, hk156, hF⟩ := am_bind hF
          refine am_callX X hh (vx_runV (As := [.int y151]) (rest := [.int ((31 : Int32) * y150)]) X.1 (c_X10_gearOf l G hst hk156) (cwV 1 hts gL_state_X10_gearOf rfl rfl rfl (by decide +kernel) ⟨Nat.le_of_ble_eq_true rfl, Nat.le_of_ble_eq_true rfl⟩) (am_preV X hh 0 11 (by decide) rfl rfl) rfl rfl hl.1 rfl (lv_room (Nat.le_of_ble_eq_true rfl)) dL_state_215 ⟨by show (720 + 1 * j) + 1 ≤ 728; omega, by show (4320 + 6 * j) + 6 ≤ 4368; omega⟩) (fun k ab H locs ce q hz hh hce hcv hcl => ?_) (fun r157 ab H locs hz hh => ?_)
          · subst hz
            cases hF
          · subst hz
            have hF := am_zr hF
            refine lv_iadd hx hb dL_state_218 ?_
            refine lv_istore_n (lv' := [(1, .int (((31 : Int32) * y150) + r157)), (2, .int y151), (0, .ref (gAd G 0))]) hx hb dL_state_219 rfl hl (by decide) rfl (fun ls hl => ?_)
            refine lv_iinc (v := (y151 + (1 : Int32))) (lv' := [(2, .int (y151 + (1 : Int32))), (1, .int (((31 : Int32) * y150) + r157)), (0, .ref (gAd G 0))]) hx hb dL_state_220 hl (k := 1) rfl rfl (by decide) rfl (fun ls hl => ?_)
            refine lv_goto (tgt := 201) hx hb dL_state_223 (by decide) ?_
            exact W.widen (by omega) (by omega) (ih (j + 1) (((31 : Int32) * y150) + r157) (y151 + (1 : Int32)) ab H locs ls _ (by omega) hF hh (lv_sub hl [1, 0, 2] rfl) kE)
    obtain ⟨z159, hz160, hF⟩ := am_bind hF
    refine W.widen (show 720 ≤ 720 + 1 * 0 by omega) (show 4320 ≤ 4320 + 6 * 0 by omega) (hlp201 8 0 y11 (0 : Int32) ab H locs ls z159 (Nat.le_refl _) hz160 hh (lv_sub hl [1, 0, 2] rfl) (fun y150 y151 ab H locs ls hz hh hl => ?_))
    · subst hz
      have hF := am_zl hF
      have hF := am_u2 hF
      refine lv_iload_n hx hb dL_state_226 rfl (lv_at hl 0 rfl) ?_
      exact am_iret X hr hh (fun t ht => am_qw (mk := oI) hF ht) (Nat.le_of_ble_eq_true rfl) (Nat.le_of_ble_eq_true rfl) dL_state_227
def f_L_has (w : Wd) (x1 : Int32) : Option (Int32 × Wd) := ((f_L_act w (12 : Int32) x1 (0 : Int32)).bind fun z => u2 z fun r2 w3 => (if r2 < 0 then (some ((0 : Int32), w3)) else (some ((1 : Int32), w3))))
set_option maxHeartbeats 4000000 in
set_option maxRecDepth 100000 in
theorem c_L_has (l : Launch) (G : GG) (hst : l.stackTraces = false) {w : Wd} {x1 : Int32} {r0 : Int32} {w1 : Wd} (hF : f_L_has w x1 = some (r0, w1)) : Met l yL_has wsL_has ({ frames := 10, cells := 3, slots := 18, locals := 195 } : Room) (va_Pc [.ref (gAd G 0), .int x1] (Rel G w)) (amQ G (oI r0) w1) 3 18 (gA G) := by
  refine am_met (own := RL) (cc := cL_has) (maxL := 2) (ret := (some .boolean)) (by decide +kernel) rfl rfl (Nat.le_of_ble_eq_true rfl) ?_
  intro p e s m args below meth c ab H locs ls X hr hh hl
  have hx := X.1.1; have hb := X.1.2.1; have hml := X.1.2.2.1; have hown := X.1.2.2.2.1; have hts := X.1.2.2.2.2
  have hl : lv_has ls 2 [(0, .ref (gAd G 0)), (1, .int x1)] := hl
  unfold f_L_has at hF
  refine lv_aload_n hx hb dL_has_0 rfl (lv_at hl 0 rfl) ?_
  refine lv_bipush (v := (12 : Int32)) hx hb dL_has_1 (by decide) ?_
  refine lv_iload_n hx hb dL_has_3 rfl (lv_at hl 1 rfl) ?_
  refine lv_iconst (v := (0 : Int32)) hx hb dL_has_4 (by decide) ?_
  obtain ⟨⟨r2, w3⟩, hk1, hF⟩ := am_bind hF
  have hF := am_u2 hF
  refine am_callW X hh (vx_runSX (As := [.ref (gAd G 0), .int (12 : Int32), .int x1, .int (0 : Int32)]) (rest := []) X.1 (c_L_act l G hst hk1) (vx_cwSW 4 hts gL_has_L_act rfl rfl rfl (by decide +kernel) ⟨Nat.le_of_ble_eq_true rfl, Nat.le_of_ble_eq_true rfl⟩) (am_preS X hh) rfl rfl hl.1 rfl (lv_room (Nat.le_of_ble_eq_true rfl)) dL_has_5 ⟨Nat.le_of_ble_eq_true rfl, Nat.le_of_ble_eq_true rfl⟩) (fun ab H locs hh => ?_)
  refine lv_if_lt (tgt := 15) hx hb dL_has_8 (by decide) (fun hc5 => ?_) (fun hc5 => ?_)
  · have hF := am_pos hc5 hF
    refine lv_iconst (v := (0 : Int32)) hx hb dL_has_15 (by decide) ?_
    exact am_zret (v' := (0 : Int32)) X hr rfl hh (fun t ht => am_qw (mk := oI) hF ht) (Nat.le_of_ble_eq_true rfl) (Nat.le_of_ble_eq_true rfl) dL_has_16
  · have hF := am_neg hc5 hF
    refine lv_iconst (v := (1 : Int32)) hx hb dL_has_11 (by decide) ?_
    refine lv_goto (tgt := 16) hx hb dL_has_12 (by decide) ?_
    exact am_zret (v' := (1 : Int32)) X hr rfl hh (fun t ht => am_qw (mk := oI) hF ht) (Nat.le_of_ble_eq_true rfl) (Nat.le_of_ble_eq_true rfl) dL_has_16
def f_L_runs (w : Wd) : Option (Int32 × Wd) := ((f_X10_runScript w).bind fun z => u2 z fun z w3 => zc z (fun k => (if k = 1 then (some ((-1 : Int32), w3)) else (if k = 2 then (some ((-2 : Int32), w3)) else none))) (fun r2 => (some (r2, w3))))
set_option maxHeartbeats 4000000 in
set_option maxRecDepth 100000 in
theorem c_L_runs (l : Launch) (G : GG) (hst : l.stackTraces = false) {w : Wd} {r0 : Int32} {w1 : Wd} (hF : f_L_runs w = some (r0, w1)) : vx_Met l yL_runs wsL_runs ({ frames := 9, cells := 1, slots := 6, locals := 200 } : Room) (va_Pc [.ref (gAd G 0)] (Rel G w)) (amQ G (oI r0) w1) (fun _ _ _ => False) 1 6 (gA G) := by
  refine am_metW (own := RL) (cc := cL_runs) (maxL := 2) (ret := (some .int)) (by decide +kernel) rfl rfl (Nat.le_of_ble_eq_true rfl) ?_
  intro p e s m args below meth c ab H locs ls X hr htb hh hl
  have hx := X.1.1; have hb := X.1.2.1; have hml := X.1.2.2.1; have hown := X.1.2.2.2.1; have hts := X.1.2.2.2.2
  have hl : lv_has ls 2 [(0, .ref (gAd G 0))] := hl
  unfold f_L_runs at hF
  refine lv_aload_n hx hb dL_runs_0 rfl (lv_at hl 0 rfl) ?_
  obtain ⟨⟨z4, w3⟩, hk1, hF⟩ := am_bind hF
  have hF := am_u2 hF
  refine am_callX X hh (vx_runV (As := []) (rest := []) X.1 (c_X10_runScript l G hst hk1) (cwV 0 hts gL_runs_X10_runScript rfl rfl rfl (by decide +kernel) ⟨Nat.le_of_ble_eq_true rfl, Nat.le_of_ble_eq_true rfl⟩) (am_preV X hh 0 11 (by decide) rfl rfl) rfl rfl hl.1 rfl (lv_room (Nat.le_of_ble_eq_true rfl)) dL_runs_1 ⟨Nat.le_of_ble_eq_true rfl, Nat.le_of_ble_eq_true rfl⟩) (fun k ab H locs ce q hz hh hce hcv hcl => ?_) (fun r2 ab H locs hz hh => ?_)
  · subst hz
    have hF := am_zl hF
    by_cases he5 : k = 1
    · subst he5
      have hF := am_pos rfl hF
      refine vx_catch (own := RL) (name := exN 1) (E := exN 1) hown [] ⟨0, 4, 5, 109⟩ [⟨0, 4, 8, 111⟩] (htb.trans rfl) (List.forall_mem_nil _) (by decide) (by decide) (hts _ (show Cond.classLink RL 109 "java/lang/IllegalArgumentException" ∈ wsL_runs by decide +kernel)) ((X.2.2.1.2.2.2.1 1).use rfl) hce hcv hcl ?_
      refine lv_astore_n (lv' := [(1, .ref q), (0, .ref (gAd G 0))]) hx hb dL_runs_5 rfl hl (by decide) rfl (fun ls hl => ?_)
      refine lv_iconst (v := (-1 : Int32)) hx hb dL_runs_6 (by decide) ?_
      exact am_iret X hr hh (fun t ht => am_qw (mk := oI) hF ht) (Nat.le_of_ble_eq_true rfl) (Nat.le_of_ble_eq_true rfl) dL_runs_7
    · have hF := am_neg he5 hF
      by_cases he6 : k = 2
      · subst he6
        have hF := am_pos rfl hF
        refine vx_catch (own := RL) (name := exN 2) (E := exN 2) hown [⟨0, 4, 5, 109⟩] ⟨0, 4, 8, 111⟩ [] (htb.trans rfl) (List.forall_mem_cons.mpr ⟨Or.inr ⟨by decide, exN 1, hts _ (show Cond.classLink RL 109 "java/lang/IllegalArgumentException" ∈ wsL_runs by decide +kernel), X.2.2.1.2.2.2.2.1 2 1 (by decide) (by decide) (by decide)⟩, List.forall_mem_nil _⟩) (by decide) (by decide) (hts _ (show Cond.classLink RL 111 "java/lang/IllegalStateException" ∈ wsL_runs by decide +kernel)) ((X.2.2.1.2.2.2.1 2).use rfl) hce hcv hcl ?_
        refine lv_astore_n (lv' := [(1, .ref q), (0, .ref (gAd G 0))]) hx hb dL_runs_8 rfl hl (by decide) rfl (fun ls hl => ?_)
        refine lv_bipush (v := (-2 : Int32)) hx hb dL_runs_9 (by decide) ?_
        exact am_iret X hr hh (fun t ht => am_qw (mk := oI) hF ht) (Nat.le_of_ble_eq_true rfl) (Nat.le_of_ble_eq_true rfl) dL_runs_11
      · have hF := am_neg he6 hF
        cases hF
  · subst hz
    have hF := am_zr hF
    exact am_iret X hr hh (fun t ht => am_qw (mk := oI) hF ht) (Nat.le_of_ble_eq_true rfl) (Nat.le_of_ble_eq_true rfl) dL_runs_4
def f_L_fails (w : Wd) (x1 : Nat) (x2 : Int32) : Option (Int32 × Wd) := ((f_L_put w x1).bind fun w3 => ((f_L_runs w3).bind fun z => u2 z fun r5 w6 => (if r5 = (-1 : Int32) then ((f_X10_errorPosition w6).bind fun z => zc z (fun k => none) (fun r10 => (if r10 = x2 then (some ((1 : Int32), w6)) else (some ((0 : Int32), w6))))) else (some ((0 : Int32), w6)))))
set_option maxHeartbeats 4000000 in
set_option maxRecDepth 100000 in
theorem c_L_fails (l : Launch) (G : GG) (hst : l.stackTraces = false) {w : Wd} {x1 : Nat} {x2 : Int32} {r0 : Int32} {w1 : Wd} (hx1 : gAv G (300 + x1) = 1) (hF : f_L_fails w x1 x2 = some (r0, w1)) : Met l yL_fails wsL_fails ({ frames := 10, cells := 66, slots := 396, locals := 221 } : Room) (va_Pc [.ref (gAd G 0), .ref (gAv G (100 + x1)), .int x2] (Rel G w)) (amQ G (oI r0) w1) 66 396 (gA G) := by
  refine am_met (own := RL) (cc := cL_fails) (maxL := 3) (ret := (some .boolean)) (by decide +kernel) rfl rfl (Nat.le_of_ble_eq_true rfl) ?_
  intro p e s m args below meth c ab H locs ls X hr hh hl
  have hx := X.1.1; have hb := X.1.2.1; have hml := X.1.2.2.1; have hown := X.1.2.2.2.1; have hts := X.1.2.2.2.2
  have hl : lv_has ls 3 [(0, .ref (gAd G 0)), (1, .ref (gAv G (100 + x1))), (2, .int x2)] := hl
  unfold f_L_fails at hF
  refine lv_aload_n hx hb dL_fails_0 rfl (lv_at hl 0 rfl) ?_
  refine lv_aload_n hx hb dL_fails_1 rfl (lv_at hl 1 rfl) ?_
  obtain ⟨w3, hk1, hF⟩ := am_bind hF
  refine am_call X hh (va_runS (As := [.ref (gAd G 0), .ref (gAv G (100 + x1))]) (rest := []) X.1 (c_L_put l G hst hx1 hk1) (va_cwS 2 hts gL_fails_L_put rfl rfl rfl (by decide +kernel) ⟨Nat.le_of_ble_eq_true rfl, Nat.le_of_ble_eq_true rfl⟩) (am_preS X hh) rfl rfl hl.1 rfl (lv_room (Nat.le_of_ble_eq_true rfl)) dL_fails_2 ⟨Nat.le_of_ble_eq_true rfl, Nat.le_of_ble_eq_true rfl⟩) (fun ab H locs hh => ?_)
  refine lv_aload_n hx hb dL_fails_5 rfl (lv_at hl 0 rfl) ?_
  obtain ⟨⟨r5, w6⟩, hk4, hF⟩ := am_bind hF
  have hF := am_u2 hF
  refine am_callW X hh (vx_runSX (As := [.ref (gAd G 0)]) (rest := []) X.1 (c_L_runs l G hst hk4) (vx_cwSW 1 hts gL_fails_L_runs rfl rfl rfl (by decide +kernel) ⟨Nat.le_of_ble_eq_true rfl, Nat.le_of_ble_eq_true rfl⟩) (am_preS X hh) rfl rfl hl.1 rfl (lv_room (Nat.le_of_ble_eq_true rfl)) dL_fails_6 ⟨Nat.le_of_ble_eq_true rfl, Nat.le_of_ble_eq_true rfl⟩) (fun ab H locs hh => ?_)
  refine lv_iconst (v := (-1 : Int32)) hx hb dL_fails_9 (by decide) ?_
  refine lv_icmp_ne (tgt := 25) hx hb dL_fails_10 (by decide) (fun hc8 => ?_) (fun hc8 => ?_)
  · have hF := am_neg hc8 hF
    refine lv_iconst (v := (0 : Int32)) hx hb dL_fails_25 (by decide) ?_
    exact am_zret (v' := (0 : Int32)) X hr rfl hh (fun t ht => am_qw (mk := oI) hF ht) (Nat.le_of_ble_eq_true rfl) (Nat.le_of_ble_eq_true rfl) dL_fails_26
  · have hF := am_pos hc8 hF
    refine lv_aload_n hx hb dL_fails_13 rfl (lv_at hl 0 rfl) ?_
    obtain ⟨z11, hk9, hF⟩ := am_bind hF
    refine am_callX X hh (vx_runV (As := []) (rest := []) X.1 (c_X10_errorPosition l G hst hk9) (cwV 0 hts gL_fails_X10_errorPosition rfl rfl rfl (by decide +kernel) ⟨Nat.le_of_ble_eq_true rfl, Nat.le_of_ble_eq_true rfl⟩) (am_preV X hh 0 11 (by decide) rfl rfl) rfl rfl hl.1 rfl (lv_room (Nat.le_of_ble_eq_true rfl)) dL_fails_14 ⟨Nat.le_of_ble_eq_true rfl, Nat.le_of_ble_eq_true rfl⟩) (fun k ab H locs ce q hz hh hce hcv hcl => ?_) (fun r10 ab H locs hz hh => ?_)
    · subst hz
      cases hF
    · subst hz
      have hF := am_zr hF
      refine lv_iload_n hx hb dL_fails_17 rfl (lv_at hl 2 rfl) ?_
      refine lv_icmp_ne (tgt := 25) hx hb dL_fails_18 (by decide) (fun hc12 => ?_) (fun hc12 => ?_)
      · have hF := am_neg hc12 hF
        refine lv_iconst (v := (0 : Int32)) hx hb dL_fails_25 (by decide) ?_
        exact am_zret (v' := (0 : Int32)) X hr rfl hh (fun t ht => am_qw (mk := oI) hF ht) (Nat.le_of_ble_eq_true rfl) (Nat.le_of_ble_eq_true rfl) dL_fails_26
      · have hF := am_pos hc12 hF
        refine lv_iconst (v := (1 : Int32)) hx hb dL_fails_21 (by decide) ?_
        refine lv_goto (tgt := 26) hx hb dL_fails_22 (by decide) ?_
        exact am_zret (v' := (1 : Int32)) X hr rfl hh (fun t ht => am_qw (mk := oI) hF ht) (Nat.le_of_ble_eq_true rfl) (Nat.le_of_ble_eq_true rfl) dL_fails_26
