set_option maxHeartbeats 4000000 in
set_option maxRecDepth 100000 in
theorem c_J9_floorDiv_f86c9 (l : Launch) (G : GG) {w : Wd} {x0 : Int64} {x2 : Int64} {r0 : Int64} (hF : f_J9_floorDiv_f86c9 x0 x2 = some r0) : Met l yJ9_floorDiv_f86c9 wsJ9_floorDiv_f86c9 ({ frames := 0, cells := 0, slots := 0, locals := 0 } : Room) (va_Pc [.long x0, .long x2] (Rel G w)) (amQ G (oL r0) w) 0 0 (gA G) := by
  refine am_metF (own := RJ9) (cc := cJ9_floorDiv_f86c9) (maxL := 6) (ret := (some .long)) (by decide +kernel) rfl rfl (Nat.le_of_ble_eq_true rfl) ?_
  intro p e s m args below meth c ab H locs ls X hr hh hl
  have hx := X.1.1; have hb := X.1.2.1; have hml := X.1.2.2.1; have hown := X.1.2.2.2.1; have hts := X.1.2.2.2.2
  have hl : lv_has ls 6 [(0, .long x0), (2, .long x2)] := hl
  unfold f_J9_floorDiv_f86c9 at hF
  refine lv_lload_n hx hb dJ9_floorDiv_f86c9_0 rfl (lv_at hl 0 rfl) ?_
  refine lv_lload_n hx hb dJ9_floorDiv_f86c9_1 rfl (lv_at hl 1 rfl) ?_
  obtain ⟨hq1, hF⟩ := am_if hF
  refine lv_ldiv hx hb dJ9_floorDiv_f86c9_2 hq1 ?_
  refine lv_lstore (lv' := [(4, .long (x0 / x2)), (0, .long x0), (2, .long x2)]) hx hb dJ9_floorDiv_f86c9_3 hl (by decide) rfl (fun ls hl => ?_)
  refine lv_lload_n hx hb dJ9_floorDiv_f86c9_5 rfl (lv_at hl 1 rfl) ?_
  refine lv_lload_n hx hb dJ9_floorDiv_f86c9_6 rfl (lv_at hl 2 rfl) ?_
  refine lv_lxor hx hb dJ9_floorDiv_f86c9_7 ?_
  refine lv_lconst (v := (0 : Int64)) hx hb dJ9_floorDiv_f86c9_8 (by decide) ?_
  refine am_lcmp_ge (tgt := 27) hx hb dJ9_floorDiv_f86c9_9 dJ9_floorDiv_f86c9_10 (by decide) (fun hc2 => ?_) (fun hc2 => ?_)
  · have hF := am_pos hc2 hF
    refine lv_lload hx hb dJ9_floorDiv_f86c9_27 (lv_at hl 0 rfl) ?_
    exact am_lret X hr hh (fun t ht => am_qp (mk := oL) hF ht) (Nat.le_of_ble_eq_true rfl) (Nat.le_of_ble_eq_true rfl) dJ9_floorDiv_f86c9_29
  · have hF := am_neg hc2 hF
    refine lv_lload hx hb dJ9_floorDiv_f86c9_13 (lv_at hl 0 rfl) ?_
    refine lv_lload_n hx hb dJ9_floorDiv_f86c9_15 rfl (lv_at hl 2 rfl) ?_
    refine lv_lmul hx hb dJ9_floorDiv_f86c9_16 ?_
    refine lv_lload_n hx hb dJ9_floorDiv_f86c9_17 rfl (lv_at hl 1 rfl) ?_
    refine am_lcmp_eq (tgt := 27) hx hb dJ9_floorDiv_f86c9_18 dJ9_floorDiv_f86c9_19 (by decide) (fun hc3 => ?_) (fun hc3 => ?_)
    · have hF := am_pos hc3 hF
      refine lv_lload hx hb dJ9_floorDiv_f86c9_27 (lv_at hl 0 rfl) ?_
      exact am_lret X hr hh (fun t ht => am_qp (mk := oL) hF ht) (Nat.le_of_ble_eq_true rfl) (Nat.le_of_ble_eq_true rfl) dJ9_floorDiv_f86c9_29
    · have hF := am_neg hc3 hF
      refine lv_lload hx hb dJ9_floorDiv_f86c9_22 (lv_at hl 0 rfl) ?_
      refine lv_lconst (v := (1 : Int64)) hx hb dJ9_floorDiv_f86c9_24 (by decide) ?_
      refine lv_lsub hx hb dJ9_floorDiv_f86c9_25 ?_
      exact am_lret X hr hh (fun t ht => am_qp (mk := oL) hF ht) (Nat.le_of_ble_eq_true rfl) (Nat.le_of_ble_eq_true rfl) dJ9_floorDiv_f86c9_26
set_option maxHeartbeats 4000000 in
set_option maxRecDepth 100000 in
theorem c_J9_floorMod_f86c9 (l : Launch) (G : GG) {w : Wd} {x0 : Int64} {x2 : Int64} {r0 : Int64} (hF : f_J9_floorMod_f86c9 x0 x2 = some r0) : Met l yJ9_floorMod_f86c9 wsJ9_floorMod_f86c9 ({ frames := 0, cells := 0, slots := 0, locals := 0 } : Room) (va_Pc [.long x0, .long x2] (Rel G w)) (amQ G (oL r0) w) 0 0 (gA G) := by
  refine am_metF (own := RJ9) (cc := cJ9_floorMod_f86c9) (maxL := 6) (ret := (some .long)) (by decide +kernel) rfl rfl (Nat.le_of_ble_eq_true rfl) ?_
  intro p e s m args below meth c ab H locs ls X hr hh hl
  have hx := X.1.1; have hb := X.1.2.1; have hml := X.1.2.2.1; have hown := X.1.2.2.2.1; have hts := X.1.2.2.2.2
  have hl : lv_has ls 6 [(0, .long x0), (2, .long x2)] := hl
  unfold f_J9_floorMod_f86c9 at hF
  refine lv_lload_n hx hb dJ9_floorMod_f86c9_0 rfl (lv_at hl 0 rfl) ?_
  refine lv_lload_n hx hb dJ9_floorMod_f86c9_1 rfl (lv_at hl 1 rfl) ?_
  obtain ⟨hq1, hF⟩ := am_if hF
  refine lv_lrem hx hb dJ9_floorMod_f86c9_2 hq1 ?_
  refine lv_lstore (lv' := [(4, .long (x0 - x0 / x2 * x2)), (0, .long x0), (2, .long x2)]) hx hb dJ9_floorMod_f86c9_3 hl (by decide) rfl (fun ls hl => ?_)
  refine lv_lload_n hx hb dJ9_floorMod_f86c9_5 rfl (lv_at hl 1 rfl) ?_
  refine lv_lload_n hx hb dJ9_floorMod_f86c9_6 rfl (lv_at hl 2 rfl) ?_
  refine lv_lxor hx hb dJ9_floorMod_f86c9_7 ?_
  refine lv_lconst (v := (0 : Int64)) hx hb dJ9_floorMod_f86c9_8 (by decide) ?_
  refine am_lcmp_ge (tgt := 25) hx hb dJ9_floorMod_f86c9_9 dJ9_floorMod_f86c9_10 (by decide) (fun hc2 => ?_) (fun hc2 => ?_)
  · have hF := am_pos hc2 hF
    refine lv_lload hx hb dJ9_floorMod_f86c9_25 (lv_at hl 0 rfl) ?_
    exact am_lret X hr hh (fun t ht => am_qp (mk := oL) hF ht) (Nat.le_of_ble_eq_true rfl) (Nat.le_of_ble_eq_true rfl) dJ9_floorMod_f86c9_27
  · have hF := am_neg hc2 hF
    refine lv_lload hx hb dJ9_floorMod_f86c9_13 (lv_at hl 0 rfl) ?_
    refine lv_lconst (v := (0 : Int64)) hx hb dJ9_floorMod_f86c9_15 (by decide) ?_
    refine am_lcmp_eq (tgt := 25) hx hb dJ9_floorMod_f86c9_16 dJ9_floorMod_f86c9_17 (by decide) (fun hc3 => ?_) (fun hc3 => ?_)
    · have hF := am_pos hc3 hF
      refine lv_lload hx hb dJ9_floorMod_f86c9_25 (lv_at hl 0 rfl) ?_
      exact am_lret X hr hh (fun t ht => am_qp (mk := oL) hF ht) (Nat.le_of_ble_eq_true rfl) (Nat.le_of_ble_eq_true rfl) dJ9_floorMod_f86c9_27
    · have hF := am_neg hc3 hF
      refine lv_lload hx hb dJ9_floorMod_f86c9_20 (lv_at hl 0 rfl) ?_
      refine lv_lload_n hx hb dJ9_floorMod_f86c9_22 rfl (lv_at hl 2 rfl) ?_
      refine lv_ladd hx hb dJ9_floorMod_f86c9_23 ?_
      exact am_lret X hr hh (fun t ht => am_qp (mk := oL) hF ht) (Nat.le_of_ble_eq_true rfl) (Nat.le_of_ble_eq_true rfl) dJ9_floorMod_f86c9_24
set_option maxHeartbeats 4000000 in
set_option maxRecDepth 100000 in
theorem c_X4_quotient (l : Launch) (G : GG) {w : Wd} {x0 : Int64} {x2 : Int64} {r0 : Int64} (hF : f_X4_quotient x0 x2 = some r0) : Met l yX4_quotient wsX4_quotient ({ frames := 1, cells := 0, slots := 0, locals := 25 } : Room) (va_Pc [.long x0, .long x2] (Rel G w)) (amQ G (oL r0) w) 0 0 (gA G) := by
  refine am_met (own := RX4) (cc := cX4_quotient) (maxL := 4) (ret := (some .long)) (by decide +kernel) rfl rfl (Nat.le_of_ble_eq_true rfl) ?_
  intro p e s m args below meth c ab H locs ls X hr hh hl
  have hx := X.1.1; have hb := X.1.2.1; have hml := X.1.2.2.1; have hown := X.1.2.2.2.1; have hts := X.1.2.2.2.2
  have hl : lv_has ls 4 [(0, .long x0), (2, .long x2)] := hl
  unfold f_X4_quotient at hF
  refine lv_lload_n hx hb dX4_quotient_0 rfl (lv_at hl 1 rfl) ?_
  refine lv_lconst (v := (0 : Int64)) hx hb dX4_quotient_1 (by decide) ?_
  refine am_lcmp_ne (tgt := 10) hx hb dX4_quotient_2 dX4_quotient_3 (by decide) (fun hc1 => ?_) (fun hc1 => ?_)
  · have hF := am_neg hc1 hF
    refine lv_lload_n hx hb dX4_quotient_10 rfl (lv_at hl 0 rfl) ?_
    refine lv_lload_n hx hb dX4_quotient_11 rfl (lv_at hl 1 rfl) ?_
    obtain ⟨r3, hk2, hF⟩ := am_bind hF
    refine am_call X hh (va_runS (As := [.long x0, .long x2]) (rest := []) X.1 (c_J9_floorDiv_f86c9 l G hk2) (va_cwS 2 hts gX4_quotient_J9_floorDiv_f86c9 rfl rfl rfl (by decide +kernel) ⟨Nat.le_of_ble_eq_true rfl, Nat.le_of_ble_eq_true rfl⟩) (am_preS X hh) rfl rfl hl.1 rfl (lv_room (Nat.le_of_ble_eq_true rfl)) dX4_quotient_12 ⟨Nat.le_of_ble_eq_true rfl, Nat.le_of_ble_eq_true rfl⟩) (fun ab H locs hh => ?_)
    exact am_lret X hr hh (fun t ht => am_qp (mk := oL) hF ht) (Nat.le_of_ble_eq_true rfl) (Nat.le_of_ble_eq_true rfl) dX4_quotient_15
  · have hF := am_pos hc1 hF
    refine lv_lconst (v := (0 : Int64)) hx hb dX4_quotient_6 (by decide) ?_
    refine lv_goto (tgt := 15) hx hb dX4_quotient_7 (by decide) ?_
    exact am_lret X hr hh (fun t ht => am_qp (mk := oL) hF ht) (Nat.le_of_ble_eq_true rfl) (Nat.le_of_ble_eq_true rfl) dX4_quotient_15
set_option maxHeartbeats 4000000 in
set_option maxRecDepth 100000 in
theorem c_X4_remainder (l : Launch) (G : GG) {w : Wd} {x0 : Int64} {x2 : Int64} {r0 : Int64} (hF : f_X4_remainder x0 x2 = some r0) : Met l yX4_remainder wsX4_remainder ({ frames := 1, cells := 0, slots := 0, locals := 25 } : Room) (va_Pc [.long x0, .long x2] (Rel G w)) (amQ G (oL r0) w) 0 0 (gA G) := by
  refine am_met (own := RX4) (cc := cX4_remainder) (maxL := 4) (ret := (some .long)) (by decide +kernel) rfl rfl (Nat.le_of_ble_eq_true rfl) ?_
  intro p e s m args below meth c ab H locs ls X hr hh hl
  have hx := X.1.1; have hb := X.1.2.1; have hml := X.1.2.2.1; have hown := X.1.2.2.2.1; have hts := X.1.2.2.2.2
  have hl : lv_has ls 4 [(0, .long x0), (2, .long x2)] := hl
  unfold f_X4_remainder at hF
  refine lv_lload_n hx hb dX4_remainder_0 rfl (lv_at hl 1 rfl) ?_
  refine lv_lconst (v := (0 : Int64)) hx hb dX4_remainder_1 (by decide) ?_
  refine am_lcmp_ne (tgt := 10) hx hb dX4_remainder_2 dX4_remainder_3 (by decide) (fun hc1 => ?_) (fun hc1 => ?_)
  · have hF := am_neg hc1 hF
    refine lv_lload_n hx hb dX4_remainder_10 rfl (lv_at hl 0 rfl) ?_
    refine lv_lload_n hx hb dX4_remainder_11 rfl (lv_at hl 1 rfl) ?_
    obtain ⟨r3, hk2, hF⟩ := am_bind hF
    refine am_call X hh (va_runS (As := [.long x0, .long x2]) (rest := []) X.1 (c_J9_floorMod_f86c9 l G hk2) (va_cwS 2 hts gX4_remainder_J9_floorMod_f86c9 rfl rfl rfl (by decide +kernel) ⟨Nat.le_of_ble_eq_true rfl, Nat.le_of_ble_eq_true rfl⟩) (am_preS X hh) rfl rfl hl.1 rfl (lv_room (Nat.le_of_ble_eq_true rfl)) dX4_remainder_12 ⟨Nat.le_of_ble_eq_true rfl, Nat.le_of_ble_eq_true rfl⟩) (fun ab H locs hh => ?_)
    exact am_lret X hr hh (fun t ht => am_qp (mk := oL) hF ht) (Nat.le_of_ble_eq_true rfl) (Nat.le_of_ble_eq_true rfl) dX4_remainder_15
  · have hF := am_pos hc1 hF
    refine lv_lconst (v := (0 : Int64)) hx hb dX4_remainder_6 (by decide) ?_
    refine lv_goto (tgt := 15) hx hb dX4_remainder_7 (by decide) ?_
    exact am_lret X hr hh (fun t ht => am_qp (mk := oL) hF ht) (Nat.le_of_ble_eq_true rfl) (Nat.le_of_ble_eq_true rfl) dX4_remainder_15
set_option maxHeartbeats 4000000 in
set_option maxRecDepth 100000 in
theorem c_X4_commonDivisor (l : Launch) (G : GG) {w : Wd} {x0 : Int64} {x2 : Int64} {r0 : Int64} (hF : f_X4_commonDivisor x0 x2 = some r0) : Met l yX4_commonDivisor wsX4_commonDivisor ({ frames := 2, cells := 0, slots := 0, locals := 48 } : Room) (va_Pc [.long x0, .long x2] (Rel G w)) (amQ G (oL r0) w) 0 0 (gA G) := by
  refine am_met (own := RX4) (cc := cX4_commonDivisor) (maxL := 11) (ret := (some .long)) (by decide +kernel) rfl rfl (Nat.le_of_ble_eq_true rfl) ?_
  intro p e s m args below meth c ab H locs ls X hr hh hl
  have hx := X.1.1; have hb := X.1.2.1; have hml := X.1.2.2.1; have hown := X.1.2.2.2.1; have hts := X.1.2.2.2.2
  have hl : lv_has ls 11 [(0, .long x0), (2, .long x2)] := hl
  unfold f_X4_commonDivisor at hF
  refine lv_lload_n hx hb dX4_commonDivisor_0 rfl (lv_at hl 0 rfl) ?_
  refine va_mabs_long hx hb (hml.trans hl.1.symm) hown (hts _ (show Cond.methodLink RX4 16 Lib.MathLoose.abs_long.x ∈ wsX4_commonDivisor by decide +kernel)) (hts _ (show Cond.static Lib.MathLoose.abs_long.x ∈ wsX4_commonDivisor by decide +kernel)) (hts _ (show Cond.initialized "java/lang/Math"  ∈ wsX4_commonDivisor by decide +kernel)) (hts _ (show Cond.code Lib.MathLoose.abs_long.x Lib.MathLoose.abs_long.code 2 (some .long) ∈ wsX4_commonDivisor by decide +kernel)) (Nat.le_of_ble_eq_true rfl) (Nat.le_of_ble_eq_true rfl) (Nat.le_of_ble_eq_true rfl) (Nat.le_of_ble_eq_true rfl) dX4_commonDivisor_1 ?_
  refine lv_lstore (lv' := [(4, .long (if 0 < x0 then x0 else -x0)), (0, .long x0), (2, .long x2)]) hx hb dX4_commonDivisor_4 hl (by decide) rfl (fun ls hl => ?_)
  refine lv_lload_n hx hb dX4_commonDivisor_6 rfl (lv_at hl 2 rfl) ?_
  refine va_mabs_long hx hb (hml.trans hl.1.symm) hown (hts _ (show Cond.methodLink RX4 16 Lib.MathLoose.abs_long.x ∈ wsX4_commonDivisor by decide +kernel)) (hts _ (show Cond.static Lib.MathLoose.abs_long.x ∈ wsX4_commonDivisor by decide +kernel)) (hts _ (show Cond.initialized "java/lang/Math"  ∈ wsX4_commonDivisor by decide +kernel)) (hts _ (show Cond.code Lib.MathLoose.abs_long.x Lib.MathLoose.abs_long.code 2 (some .long) ∈ wsX4_commonDivisor by decide +kernel)) (Nat.le_of_ble_eq_true rfl) (Nat.le_of_ble_eq_true rfl) (Nat.le_of_ble_eq_true rfl) (Nat.le_of_ble_eq_true rfl) dX4_commonDivisor_7 ?_
  refine lv_lstore (lv' := [(6, .long (if 0 < x2 then x2 else -x2)), (4, .long (if 0 < x0 then x0 else -x0)), (0, .long x0), (2, .long x2)]) hx hb dX4_commonDivisor_10 hl (by decide) rfl (fun ls hl => ?_)
  refine lv_iconst (v := (0 : Int32)) hx hb dX4_commonDivisor_12 (by decide) ?_
  refine lv_istore (lv' := [(8, .int (0 : Int32)), (6, .long (if 0 < x2 then x2 else -x2)), (4, .long (if 0 < x0 then x0 else -x0)), (0, .long x0), (2, .long x2)]) hx hb dX4_commonDivisor_13 hl (by decide) rfl (fun ls hl => ?_)
  have hlp15 : ∀ (n : Nat) (y1 : Int64) (y2 : Int64) (y3 : Int32) (ab : Nat) (H : Heap) (locs : List Loc) (ls : Array Slot) (z : (Int64 × Int64 × Int32) ⊕ Unit), p_X4_commonDivisor_15 n y1 y2 y3 = some z → AH G s.heap w ab H locs → lv_has ls 11 [(4, .long y1), (6, .long y2), (8, .int y3), (0, .long x0), (2, .long x2)] → (∀ (y1 : Int64) (y2 : Int64) (y3 : Int32) (ab : Nat) (H : Heap) (locs : List Loc) (ls : Array Slot), z = .inl (y1, y2, y3) → AH G s.heap w ab H locs → lv_has ls 11 [(4, .long y1), (6, .long y2), (8, .int y3), (0, .long x0), (2, .long x2)] → W p l e ({ frames := 2, cells := 0, slots := 0, locals := 48 } : Room) s m args below meth c H locs 0 0 (MQ below (amQ G (oL r0) w) args s 0 0 (gA G)) (F0 m 53 ls [])) → W p l e ({ frames := 2, cells := 0, slots := 0, locals := 48 } : Room) s m args below meth c H locs 0 0 (MQ below (amQ G (oL r0) w) args s 0 0 (gA G)) (F0 m 15 ls []) := by
    intro n
    induction n with
    | zero =>
      intro y1 y2 y3 ab H locs ls z hF
      unfold p_X4_commonDivisor_15 at hF
      cases hF
    | succ n ih =>
      intro y1 y2 y3 ab H locs ls z hF hh hl kE
      unfold p_X4_commonDivisor_15 at hF
      refine lv_iload hx hb dX4_commonDivisor_15 (lv_at hl 2 rfl) ?_
      refine lv_sipush (v := (200 : Int32)) hx hb dX4_commonDivisor_17 (by decide) ?_
      refine lv_icmp_ge (tgt := 53) hx hb dX4_commonDivisor_20 (by decide) (fun hc5 => ?_) (fun hc5 => ?_)
      · have hF := am_pos hc5 hF
        exact kE y1 y2 y3 ab H locs ls (Option.some.inj hF).symm hh (lv_sub hl [0, 1, 2, 3, 4] rfl)
      · have hF := am_neg hc5 hF
        refine lv_lload hx hb dX4_commonDivisor_23 (lv_at hl 1 rfl) ?_
        refine lv_lconst (v := (0 : Int64)) hx hb dX4_commonDivisor_25 (by decide) ?_
        refine am_lcmp_eq (tgt := 53) hx hb dX4_commonDivisor_26 dX4_commonDivisor_27 (by decide) (fun hc6 => ?_) (fun hc6 => ?_)
        · have hF := am_pos hc6 hF
          exact kE y1 y2 y3 ab H locs ls (Option.some.inj hF).symm hh (lv_sub hl [0, 1, 2, 3, 4] rfl)
        · have hF := am_neg hc6 hF
          refine lv_lload hx hb dX4_commonDivisor_30 (lv_at hl 0 rfl) ?_
          refine lv_lload hx hb dX4_commonDivisor_32 (lv_at hl 1 rfl) ?_
          obtain ⟨r8, hk7, hF⟩ := am_bind hF
          refine am_call X hh (va_runS (As := [.long y1, .long y2]) (rest := []) X.1 (c_X4_remainder l G hk7) (va_cwS 2 hts gX4_commonDivisor_X4_remainder rfl rfl rfl (by decide +kernel) ⟨Nat.le_of_ble_eq_true rfl, Nat.le_of_ble_eq_true rfl⟩) (am_preS X hh) rfl rfl hl.1 rfl (lv_room (Nat.le_of_ble_eq_true rfl)) dX4_commonDivisor_34 ⟨Nat.le_of_ble_eq_true rfl, Nat.le_of_ble_eq_true rfl⟩) (fun ab H locs hh => ?_)
          refine lv_lstore (lv' := [(9, .long r8), (4, .long y1), (6, .long y2), (8, .int y3), (0, .long x0), (2, .long x2)]) hx hb dX4_commonDivisor_37 hl (by decide) rfl (fun ls hl => ?_)
          refine lv_lload hx hb dX4_commonDivisor_39 (lv_at hl 2 rfl) ?_
          refine lv_lstore (lv' := [(4, .long y2), (9, .long r8), (6, .long y2), (8, .int y3), (0, .long x0), (2, .long x2)]) hx hb dX4_commonDivisor_41 hl (by decide) rfl (fun ls hl => ?_)
          refine lv_lload hx hb dX4_commonDivisor_43 (lv_at hl 1 rfl) ?_
          refine lv_lstore (lv' := [(6, .long r8), (4, .long y2), (9, .long r8), (8, .int y3), (0, .long x0), (2, .long x2)]) hx hb dX4_commonDivisor_45 hl (by decide) rfl (fun ls hl => ?_)
          refine lv_iinc (v := (y3 + (1 : Int32))) (lv' := [(8, .int (y3 + (1 : Int32))), (6, .long r8), (4, .long y2), (9, .long r8), (0, .long x0), (2, .long x2)]) hx hb dX4_commonDivisor_47 hl (k := 3) rfl rfl (by decide) rfl (fun ls hl => ?_)
          refine lv_goto (tgt := 15) hx hb dX4_commonDivisor_50 (by decide) ?_
          exact ih y2 r8 (y3 + (1 : Int32)) ab H locs ls _ hF hh (lv_sub hl [2, 1, 0, 4, 5] rfl) kE
  obtain ⟨z9, hz10, hF⟩ := am_bind hF
  refine hlp15 2000 (if 0 < x0 then x0 else -x0) (if 0 < x2 then x2 else -x2) (0 : Int32) ab H locs ls z9 hz10 hh (lv_sub hl [2, 1, 0, 3, 4] rfl) (fun y1 y2 y3 ab H locs ls hz hh hl => ?_)
  · subst hz
    have hF := am_zl hF
    have hF := am_u3 hF
    refine lv_lload hx hb dX4_commonDivisor_53 (lv_at hl 0 rfl) ?_
    exact am_lret X hr hh (fun t ht => am_qp (mk := oL) hF ht) (Nat.le_of_ble_eq_true rfl) (Nat.le_of_ble_eq_true rfl) dX4_commonDivisor_55
set_option maxHeartbeats 4000000 in
set_option maxRecDepth 100000 in
theorem c_X4_inverse (l : Launch) (G : GG) {w : Wd} {x0 : Int64} {x2 : Int64} {r0 : Int64} (hF : f_X4_inverse x0 x2 = some r0) : Met l yX4_inverse wsX4_inverse ({ frames := 2, cells := 0, slots := 0, locals := 48 } : Room) (va_Pc [.long x0, .long x2] (Rel G w)) (amQ G (oL r0) w) 0 0 (gA G) := by
  refine am_met (own := RX4) (cc := cX4_inverse) (maxL := 19) (ret := (some .long)) (by decide +kernel) rfl rfl (Nat.le_of_ble_eq_true rfl) ?_
  intro p e s m args below meth c ab H locs ls X hr hh hl
  have hx := X.1.1; have hb := X.1.2.1; have hml := X.1.2.2.1; have hown := X.1.2.2.2.1; have hts := X.1.2.2.2.2
  have hl : lv_has ls 19 [(0, .long x0), (2, .long x2)] := hl
  unfold f_X4_inverse at hF
  refine lv_lload_n hx hb dX4_inverse_0 rfl (lv_at hl 1 rfl) ?_
  refine lv_lstore (lv' := [(4, .long x2), (0, .long x0), (2, .long x2)]) hx hb dX4_inverse_1 hl (by decide) rfl (fun ls hl => ?_)
  refine lv_lload_n hx hb dX4_inverse_3 rfl (lv_at hl 1 rfl) ?_
  refine lv_lload_n hx hb dX4_inverse_4 rfl (lv_at hl 2 rfl) ?_
  obtain ⟨r2, hk1, hF⟩ := am_bind hF
  refine am_call X hh (va_runS (As := [.long x0, .long x2]) (rest := []) X.1 (c_X4_remainder l G hk1) (va_cwS 2 hts gX4_inverse_X4_remainder rfl rfl rfl (by decide +kernel) ⟨Nat.le_of_ble_eq_true rfl, Nat.le_of_ble_eq_true rfl⟩) (am_preS X hh) rfl rfl hl.1 rfl (lv_room (Nat.le_of_ble_eq_true rfl)) dX4_inverse_5 ⟨Nat.le_of_ble_eq_true rfl, Nat.le_of_ble_eq_true rfl⟩) (fun ab H locs hh => ?_)
  refine lv_lstore (lv' := [(6, .long r2), (4, .long x2), (0, .long x0), (2, .long x2)]) hx hb dX4_inverse_8 hl (by decide) rfl (fun ls hl => ?_)
  refine lv_lconst (v := (0 : Int64)) hx hb dX4_inverse_10 (by decide) ?_
  refine lv_lstore (lv' := [(8, .long (0 : Int64)), (6, .long r2), (4, .long x2), (0, .long x0), (2, .long x2)]) hx hb dX4_inverse_11 hl (by decide) rfl (fun ls hl => ?_)
  refine lv_lconst (v := (1 : Int64)) hx hb dX4_inverse_13 (by decide) ?_
  refine lv_lstore (lv' := [(10, .long (1 : Int64)), (8, .long (0 : Int64)), (6, .long r2), (4, .long x2), (0, .long x0), (2, .long x2)]) hx hb dX4_inverse_14 hl (by decide) rfl (fun ls hl => ?_)
  refine lv_iconst (v := (0 : Int32)) hx hb dX4_inverse_16 (by decide) ?_
  refine lv_istore (lv' := [(12, .int (0 : Int32)), (10, .long (1 : Int64)), (8, .long (0 : Int64)), (6, .long r2), (4, .long x2), (0, .long x0), (2, .long x2)]) hx hb dX4_inverse_17 hl (by decide) rfl (fun ls hl => ?_)
  have hlp19 : ∀ (n : Nat) (y3 : Int64) (y4 : Int64) (y5 : Int64) (y6 : Int64) (y7 : Int32) (ab : Nat) (H : Heap) (locs : List Loc) (ls : Array Slot) (z : (Int64 × Int64 × Int64 × Int64 × Int32) ⊕ Unit), p_X4_inverse_19 n y3 y4 y5 y6 y7 = some z → AH G s.heap w ab H locs → lv_has ls 19 [(4, .long y3), (6, .long y4), (8, .long y5), (10, .long y6), (12, .int y7), (0, .long x0), (2, .long x2)] → (∀ (y3 : Int64) (y4 : Int64) (y5 : Int64) (y6 : Int64) (y7 : Int32) (ab : Nat) (H : Heap) (locs : List Loc) (ls : Array Slot), z = .inl (y3, y4, y5, y6, y7) → AH G s.heap w ab H locs → lv_has ls 19 [(4, .long y3), (6, .long y4), (8, .long y5), (10, .long y6), (12, .int y7), (0, .long x0), (2, .long x2)] → W p l e ({ frames := 2, cells := 0, slots := 0, locals := 48 } : Room) s m args below meth c H locs 0 0 (MQ below (amQ G (oL r0) w) args s 0 0 (gA G)) (F0 m 85 ls [])) → W p l e ({ frames := 2, cells := 0, slots := 0, locals := 48 } : Room) s m args below meth c H locs 0 0 (MQ below (amQ G (oL r0) w) args s 0 0 (gA G)) (F0 m 19 ls []) := by
    intro n
    induction n with
    | zero =>
      intro y3 y4 y5 y6 y7 ab H locs ls z hF
      unfold p_X4_inverse_19 at hF
      cases hF
    | succ n ih =>
      intro y3 y4 y5 y6 y7 ab H locs ls z hF hh hl kE
      unfold p_X4_inverse_19 at hF
      refine lv_iload hx hb dX4_inverse_19 (lv_at hl 4 rfl) ?_
      refine lv_sipush (v := (200 : Int32)) hx hb dX4_inverse_21 (by decide) ?_
      refine lv_icmp_ge (tgt := 85) hx hb dX4_inverse_24 (by decide) (fun hc9 => ?_) (fun hc9 => ?_)
      · have hF := am_pos hc9 hF
        exact kE y3 y4 y5 y6 y7 ab H locs ls (Option.some.inj hF).symm hh (lv_sub hl [0, 1, 2, 3, 4, 5, 6] rfl)
      · have hF := am_neg hc9 hF
        refine lv_lload hx hb dX4_inverse_27 (lv_at hl 1 rfl) ?_
        refine lv_lconst (v := (0 : Int64)) hx hb dX4_inverse_29 (by decide) ?_
        refine am_lcmp_eq (tgt := 85) hx hb dX4_inverse_30 dX4_inverse_31 (by decide) (fun hc10 => ?_) (fun hc10 => ?_)
        · have hF := am_pos hc10 hF
          exact kE y3 y4 y5 y6 y7 ab H locs ls (Option.some.inj hF).symm hh (lv_sub hl [0, 1, 2, 3, 4, 5, 6] rfl)
        · have hF := am_neg hc10 hF
          refine lv_lload hx hb dX4_inverse_34 (lv_at hl 0 rfl) ?_
          refine lv_lload hx hb dX4_inverse_36 (lv_at hl 1 rfl) ?_
          obtain ⟨r12, hk11, hF⟩ := am_bind hF
          refine am_call X hh (va_runS (As := [.long y3, .long y4]) (rest := []) X.1 (c_X4_quotient l G hk11) (va_cwS 2 hts gX4_inverse_X4_quotient rfl rfl rfl (by decide +kernel) ⟨Nat.le_of_ble_eq_true rfl, Nat.le_of_ble_eq_true rfl⟩) (am_preS X hh) rfl rfl hl.1 rfl (lv_room (Nat.le_of_ble_eq_true rfl)) dX4_inverse_38 ⟨Nat.le_of_ble_eq_true rfl, Nat.le_of_ble_eq_true rfl⟩) (fun ab H locs hh => ?_)
          refine lv_lstore (lv' := [(13, .long r12), (4, .long y3), (6, .long y4), (8, .long y5), (10, .long y6), (12, .int y7), (0, .long x0), (2, .long x2)]) hx hb dX4_inverse_41 hl (by decide) rfl (fun ls hl => ?_)
          refine lv_lload hx hb dX4_inverse_43 (lv_at hl 1 rfl) ?_
          refine lv_lload hx hb dX4_inverse_45 (lv_at hl 0 rfl) ?_
          refine lv_lload hx hb dX4_inverse_47 (lv_at hl 2 rfl) ?_
          refine lv_lmul hx hb dX4_inverse_49 ?_
          refine lv_lsub hx hb dX4_inverse_50 ?_
          refine lv_lstore (lv' := [(15, .long (y3 - (r12 * y4))), (13, .long r12), (4, .long y3), (6, .long y4), (8, .long y5), (10, .long y6), (12, .int y7), (0, .long x0), (2, .long x2)]) hx hb dX4_inverse_51 hl (by decide) rfl (fun ls hl => ?_)
          refine lv_lload hx hb dX4_inverse_53 (lv_at hl 4 rfl) ?_
          refine lv_lload hx hb dX4_inverse_55 (lv_at hl 1 rfl) ?_
          refine lv_lload hx hb dX4_inverse_57 (lv_at hl 5 rfl) ?_
          refine lv_lmul hx hb dX4_inverse_59 ?_
          refine lv_lsub hx hb dX4_inverse_60 ?_
          refine lv_lstore (lv' := [(17, .long (y5 - (r12 * y6))), (15, .long (y3 - (r12 * y4))), (13, .long r12), (4, .long y3), (6, .long y4), (8, .long y5), (10, .long y6), (12, .int y7), (0, .long x0), (2, .long x2)]) hx hb dX4_inverse_61 hl (by decide) rfl (fun ls hl => ?_)
          refine lv_lload hx hb dX4_inverse_63 (lv_at hl 4 rfl) ?_
          refine lv_lstore (lv' := [(4, .long y4), (17, .long (y5 - (r12 * y6))), (15, .long (y3 - (r12 * y4))), (13, .long r12), (6, .long y4), (8, .long y5), (10, .long y6), (12, .int y7), (0, .long x0), (2, .long x2)]) hx hb dX4_inverse_65 hl (by decide) rfl (fun ls hl => ?_)
          refine lv_lload hx hb dX4_inverse_67 (lv_at hl 2 rfl) ?_
          refine lv_lstore (lv' := [(6, .long (y3 - (r12 * y4))), (4, .long y4), (17, .long (y5 - (r12 * y6))), (15, .long (y3 - (r12 * y4))), (13, .long r12), (8, .long y5), (10, .long y6), (12, .int y7), (0, .long x0), (2, .long x2)]) hx hb dX4_inverse_69 hl (by decide) rfl (fun ls hl => ?_)
          refine lv_lload hx hb dX4_inverse_71 (lv_at hl 6 rfl) ?_
          refine lv_lstore (lv' := [(8, .long y6), (6, .long (y3 - (r12 * y4))), (4, .long y4), (17, .long (y5 - (r12 * y6))), (15, .long (y3 - (r12 * y4))), (13, .long r12), (10, .long y6), (12, .int y7), (0, .long x0), (2, .long x2)]) hx hb dX4_inverse_73 hl (by decide) rfl (fun ls hl => ?_)
          refine lv_lload hx hb dX4_inverse_75 (lv_at hl 3 rfl) ?_
          refine lv_lstore (lv' := [(10, .long (y5 - (r12 * y6))), (8, .long y6), (6, .long (y3 - (r12 * y4))), (4, .long y4), (17, .long (y5 - (r12 * y6))), (15, .long (y3 - (r12 * y4))), (13, .long r12), (12, .int y7), (0, .long x0), (2, .long x2)]) hx hb dX4_inverse_77 hl (by decide) rfl (fun ls hl => ?_)
          refine lv_iinc (v := (y7 + (1 : Int32))) (lv' := [(12, .int (y7 + (1 : Int32))), (10, .long (y5 - (r12 * y6))), (8, .long y6), (6, .long (y3 - (r12 * y4))), (4, .long y4), (17, .long (y5 - (r12 * y6))), (15, .long (y3 - (r12 * y4))), (13, .long r12), (0, .long x0), (2, .long x2)]) hx hb dX4_inverse_79 hl (k := 7) rfl rfl (by decide) rfl (fun ls hl => ?_)
          refine lv_goto (tgt := 19) hx hb dX4_inverse_82 (by decide) ?_
          exact ih y4 (y3 - (r12 * y4)) y6 (y5 - (r12 * y6)) (y7 + (1 : Int32)) ab H locs ls _ hF hh (lv_sub hl [4, 3, 2, 1, 0, 8, 9] rfl) kE
  obtain ⟨z13, hz14, hF⟩ := am_bind hF
  refine hlp19 2000 x2 r2 (0 : Int64) (1 : Int64) (0 : Int32) ab H locs ls z13 hz14 hh (lv_sub hl [4, 3, 2, 1, 0, 5, 6] rfl) (fun y3 y4 y5 y6 y7 ab H locs ls hz hh hl => ?_)
  · subst hz
    have hF := am_zl hF
    have hF := am_u5 hF
    refine lv_lload hx hb dX4_inverse_85 (lv_at hl 2 rfl) ?_
    refine lv_lload_n hx hb dX4_inverse_87 rfl (lv_at hl 6 rfl) ?_
    obtain ⟨r16, hk15, hF⟩ := am_bind hF
    refine am_call X hh (va_runS (As := [.long y5, .long x2]) (rest := []) X.1 (c_X4_remainder l G hk15) (va_cwS 2 hts gX4_inverse_X4_remainder rfl rfl rfl (by decide +kernel) ⟨Nat.le_of_ble_eq_true rfl, Nat.le_of_ble_eq_true rfl⟩) (am_preS X hh) rfl rfl hl.1 rfl (lv_room (Nat.le_of_ble_eq_true rfl)) dX4_inverse_88 ⟨Nat.le_of_ble_eq_true rfl, Nat.le_of_ble_eq_true rfl⟩) (fun ab H locs hh => ?_)
    exact am_lret X hr hh (fun t ht => am_qp (mk := oL) hF ht) (Nat.le_of_ble_eq_true rfl) (Nat.le_of_ble_eq_true rfl) dX4_inverse_91
set_option maxHeartbeats 4000000 in
set_option maxRecDepth 100000 in
theorem c_X4_product (l : Launch) (G : GG) {w : Wd} {x0 : Int64} {x2 : Int64} {x4 : Int64} {r0 : Int64} (hF : f_X4_product x0 x2 x4 = some r0) : Met l yX4_product wsX4_product ({ frames := 2, cells := 0, slots := 0, locals := 48 } : Room) (va_Pc [.long x0, .long x2, .long x4] (Rel G w)) (amQ G (oL r0) w) 0 0 (gA G) := by
  refine am_met (own := RX4) (cc := cX4_product) (maxL := 12) (ret := (some .long)) (by decide +kernel) rfl rfl (Nat.le_of_ble_eq_true rfl) ?_
  intro p e s m args below meth c ab H locs ls X hr hh hl
  have hx := X.1.1; have hb := X.1.2.1; have hml := X.1.2.2.1; have hown := X.1.2.2.2.1; have hts := X.1.2.2.2.2
  have hl : lv_has ls 12 [(0, .long x0), (2, .long x2), (4, .long x4)] := hl
  unfold f_X4_product at hF
  refine lv_lload_n hx hb dX4_product_0 rfl (lv_at hl 1 rfl) ?_
  refine lv_bipush (v := (20 : Int32)) hx hb dX4_product_1 (by decide) ?_
  refine lv_lshr hx hb dX4_product_3 rfl ?_
  refine lv_lstore (lv' := [(6, .long (x2 >>> (((20 : Int32)).toInt64 &&& 63))), (0, .long x0), (2, .long x2), (4, .long x4)]) hx hb dX4_product_4 hl (by decide) rfl (fun ls hl => ?_)
  refine lv_lload_n hx hb dX4_product_6 rfl (lv_at hl 2 rfl) ?_
  refine lv_lload hx hb dX4_product_7 (lv_at hl 0 rfl) ?_
  refine lv_bipush (v := (20 : Int32)) hx hb dX4_product_9 (by decide) ?_
  refine lv_lshl hx hb dX4_product_11 rfl ?_
  refine lv_lsub hx hb dX4_product_12 ?_
  refine lv_lstore (lv' := [(8, .long (x2 - ((x2 >>> (((20 : Int32)).toInt64 &&& 63)) <<< (((20 : Int32)).toInt64 &&& 63)))), (6, .long (x2 >>> (((20 : Int32)).toInt64 &&& 63))), (0, .long x0), (2, .long x2), (4, .long x4)]) hx hb dX4_product_13 hl (by decide) rfl (fun ls hl => ?_)
  refine lv_lload_n hx hb dX4_product_15 rfl (lv_at hl 2 rfl) ?_
  refine lv_lload hx hb dX4_product_16 (lv_at hl 1 rfl) ?_
  refine lv_lmul hx hb dX4_product_18 ?_
  refine lv_lload hx hb dX4_product_19 (lv_at hl 4 rfl) ?_
  obtain ⟨r2, hk1, hF⟩ := am_bind hF
  refine am_call X hh (va_runS (As := [.long (x0 * (x2 >>> (((20 : Int32)).toInt64 &&& 63))), .long x4]) (rest := []) X.1 (c_X4_remainder l G hk1) (va_cwS 2 hts gX4_product_X4_remainder rfl rfl rfl (by decide +kernel) ⟨Nat.le_of_ble_eq_true rfl, Nat.le_of_ble_eq_true rfl⟩) (am_preS X hh) rfl rfl hl.1 rfl (lv_room (Nat.le_of_ble_eq_true rfl)) dX4_product_21 ⟨Nat.le_of_ble_eq_true rfl, Nat.le_of_ble_eq_true rfl⟩) (fun ab H locs hh => ?_)
  refine lv_lstore (lv' := [(10, .long r2), (8, .long (x2 - ((x2 >>> (((20 : Int32)).toInt64 &&& 63)) <<< (((20 : Int32)).toInt64 &&& 63)))), (6, .long (x2 >>> (((20 : Int32)).toInt64 &&& 63))), (0, .long x0), (2, .long x2), (4, .long x4)]) hx hb dX4_product_24 hl (by decide) rfl (fun ls hl => ?_)
  refine lv_lload hx hb dX4_product_26 (lv_at hl 0 rfl) ?_
  refine lv_bipush (v := (20 : Int32)) hx hb dX4_product_28 (by decide) ?_
  refine lv_lshl hx hb dX4_product_30 rfl ?_
  refine lv_lload_n hx hb dX4_product_31 rfl (lv_at hl 3 rfl) ?_
  refine lv_lload hx hb dX4_product_32 (lv_at hl 1 rfl) ?_
  refine lv_lmul hx hb dX4_product_34 ?_
  refine lv_ladd hx hb dX4_product_35 ?_
  refine lv_lload hx hb dX4_product_36 (lv_at hl 5 rfl) ?_
  obtain ⟨r4, hk3, hF⟩ := am_bind hF
  refine am_call X hh (va_runS (As := [.long ((r2 <<< (((20 : Int32)).toInt64 &&& 63)) + (x0 * (x2 - ((x2 >>> (((20 : Int32)).toInt64 &&& 63)) <<< (((20 : Int32)).toInt64 &&& 63))))), .long x4]) (rest := []) X.1 (c_X4_remainder l G hk3) (va_cwS 2 hts gX4_product_X4_remainder rfl rfl rfl (by decide +kernel) ⟨Nat.le_of_ble_eq_true rfl, Nat.le_of_ble_eq_true rfl⟩) (am_preS X hh) rfl rfl hl.1 rfl (lv_room (Nat.le_of_ble_eq_true rfl)) dX4_product_38 ⟨Nat.le_of_ble_eq_true rfl, Nat.le_of_ble_eq_true rfl⟩) (fun ab H locs hh => ?_)
  exact am_lret X hr hh (fun t ht => am_qp (mk := oL) hF ht) (Nat.le_of_ble_eq_true rfl) (Nat.le_of_ble_eq_true rfl) dX4_product_41
