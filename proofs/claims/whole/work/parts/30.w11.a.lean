set_option maxHeartbeats 4000000 in
set_option maxRecDepth 100000 in
theorem c_X11_thrown (l : Launch) (G : GG) {w : Wd} {r0 : Int32} (hF : f_X11_thrown w = some r0) : Met l yX11_thrown wsX11_thrown ({ frames := 0, cells := 0, slots := 0, locals := 0 } : Room) (va_Pc [.ref (gAd G 141)] (Rel G w)) (amQ G (oI r0) w) 0 0 (gA G) := by
  refine am_met (own := RX11) (cc := cX11_thrown) (maxL := 1) (ret := (some .int)) (by decide +kernel) rfl rfl (Nat.le_of_ble_eq_true rfl) ?_
  intro p e s m args below meth c ab H locs ls X hr hh hl
  have hx := X.1.1; have hb := X.1.2.1; have hml := X.1.2.2.1; have hown := X.1.2.2.2.1; have hts := X.1.2.2.2.2
  have hl : lv_has ls 1 [(0, .ref (gAd G 141))] := hl
  have hwRX11 : ∀ z ∈ u_ws RX11 TX11 18, z ∈ wsX11_thrown := by decide +kernel
  unfold f_X11_thrown at hF
  refine lv_aload_n hx hb dX11_thrown_0 rfl (lv_at hl 0 rfl) ?_
  refine am_getI X hh 141 12 12 (by decide) rfl rfl (by decide) hwRX11 (show Cond.fieldLink RX11 49 "PlanetWorkshopModel" "thrown" "I" ∈ wsX11_thrown by decide +kernel) rfl dX11_thrown_1 ?_
  exact am_iret X hr hh (fun t ht => am_qp (mk := oI) hF ht) (Nat.le_of_ble_eq_true rfl) (Nat.le_of_ble_eq_true rfl) dX11_thrown_4
set_option maxHeartbeats 4000000 in
set_option maxRecDepth 100000 in
theorem c_X11_in (l : Launch) (G : GG) {w : Wd} {x0 : Int32} {x1 : Int32} {x2 : Int32} {r0 : Int32} (hF : f_X11_in w x0 x1 x2 = some r0) : Met l yX11_in wsX11_in ({ frames := 0, cells := 0, slots := 0, locals := 0 } : Room) (va_Pc [.int x0, .int x1, .int x2] (Rel G w)) (amQ G (oI r0) w) 0 0 (gA G) := by
  refine am_met (own := RX11) (cc := cX11_in) (maxL := 3) (ret := (some .boolean)) (by decide +kernel) rfl rfl (Nat.le_of_ble_eq_true rfl) ?_
  intro p e s m args below meth c ab H locs ls X hr hh hl
  have hx := X.1.1; have hb := X.1.2.1; have hml := X.1.2.2.1; have hown := X.1.2.2.2.1; have hts := X.1.2.2.2.2
  have hl : lv_has ls 3 [(0, .int x0), (1, .int x1), (2, .int x2)] := hl
  unfold f_X11_in at hF
  refine lv_iload_n hx hb dX11_in_0 rfl (lv_at hl 0 rfl) ?_
  refine lv_iload_n hx hb dX11_in_1 rfl (lv_at hl 1 rfl) ?_
  refine lv_icmp_lt (tgt := 14) hx hb dX11_in_2 (by decide) (fun hc1 => ?_) (fun hc1 => ?_)
  · have hF := am_pos hc1 hF
    refine lv_iconst (v := (0 : Int32)) hx hb dX11_in_14 (by decide) ?_
    exact am_zret (v' := (0 : Int32)) X hr rfl hh (fun t ht => am_qp (mk := oI) hF ht) (Nat.le_of_ble_eq_true rfl) (Nat.le_of_ble_eq_true rfl) dX11_in_15
  · have hF := am_neg hc1 hF
    refine lv_iload_n hx hb dX11_in_5 rfl (lv_at hl 0 rfl) ?_
    refine lv_iload_n hx hb dX11_in_6 rfl (lv_at hl 2 rfl) ?_
    refine lv_icmp_gt (tgt := 14) hx hb dX11_in_7 (by decide) (fun hc2 => ?_) (fun hc2 => ?_)
    · have hF := am_pos hc2 hF
      refine lv_iconst (v := (0 : Int32)) hx hb dX11_in_14 (by decide) ?_
      exact am_zret (v' := (0 : Int32)) X hr rfl hh (fun t ht => am_qp (mk := oI) hF ht) (Nat.le_of_ble_eq_true rfl) (Nat.le_of_ble_eq_true rfl) dX11_in_15
    · have hF := am_neg hc2 hF
      refine lv_iconst (v := (1 : Int32)) hx hb dX11_in_10 (by decide) ?_
      refine lv_goto (tgt := 15) hx hb dX11_in_11 (by decide) ?_
      exact am_zret (v' := (1 : Int32)) X hr rfl hh (fun t ht => am_qp (mk := oI) hF ht) (Nat.le_of_ble_eq_true rfl) (Nat.le_of_ble_eq_true rfl) dX11_in_15
set_option maxHeartbeats 4000000 in
set_option maxRecDepth 100000 in
theorem c_X11_size (l : Launch) (G : GG) {w : Wd} {x0 : Int64} {r0 : Int64} (hF : f_X11_size w x0 = some r0) : Met l yX11_size wsX11_size ({ frames := 0, cells := 0, slots := 0, locals := 0 } : Room) (va_Pc [.long x0] (Rel G w)) (amQ G (oL r0) w) 0 0 (gA G) := by
  refine am_met (own := RX11) (cc := cX11_size) (maxL := 2) (ret := (some .long)) (by decide +kernel) rfl rfl (Nat.le_of_ble_eq_true rfl) ?_
  intro p e s m args below meth c ab H locs ls X hr hh hl
  have hx := X.1.1; have hb := X.1.2.1; have hml := X.1.2.2.1; have hown := X.1.2.2.2.1; have hts := X.1.2.2.2.2
  have hl : lv_has ls 2 [(0, .long x0)] := hl
  unfold f_X11_size at hF
  refine lv_lload_n hx hb dX11_size_0 rfl (lv_at hl 0 rfl) ?_
  refine lv_lconst (v := (0 : Int64)) hx hb dX11_size_1 (by decide) ?_
  refine am_lcmp_ge (tgt := 11) hx hb dX11_size_2 dX11_size_3 (by decide) (fun hc1 => ?_) (fun hc1 => ?_)
  · have hF := am_pos hc1 hF
    refine lv_lload_n hx hb dX11_size_11 rfl (lv_at hl 0 rfl) ?_
    exact am_lret X hr hh (fun t ht => am_qp (mk := oL) hF ht) (Nat.le_of_ble_eq_true rfl) (Nat.le_of_ble_eq_true rfl) dX11_size_12
  · have hF := am_neg hc1 hF
    refine lv_lload_n hx hb dX11_size_6 rfl (lv_at hl 0 rfl) ?_
    refine lv_lneg hx hb dX11_size_7 ?_
    refine lv_goto (tgt := 12) hx hb dX11_size_8 (by decide) ?_
    exact am_lret X hr hh (fun t ht => am_qp (mk := oL) hF ht) (Nat.le_of_ble_eq_true rfl) (Nat.le_of_ble_eq_true rfl) dX11_size_12
set_option maxHeartbeats 4000000 in
set_option maxRecDepth 100000 in
theorem c_X11_rest (l : Launch) (G : GG) {w : Wd} {x0 : Int64} {r0 : Int64} (hF : f_X11_rest w x0 = some r0) : Met l yX11_rest wsX11_rest ({ frames := 0, cells := 0, slots := 0, locals := 0 } : Room) (va_Pc [.long x0] (Rel G w)) (amQ G (oL r0) w) 0 0 (gA G) := by
  refine am_met (own := RX11) (cc := cX11_rest) (maxL := 2) (ret := (some .long)) (by decide +kernel) rfl rfl (Nat.le_of_ble_eq_true rfl) ?_
  intro p e s m args below meth c ab H locs ls X hr hh hl
  have hx := X.1.1; have hb := X.1.2.1; have hml := X.1.2.2.1; have hown := X.1.2.2.2.1; have hts := X.1.2.2.2.2
  have hl : lv_has ls 2 [(0, .long x0)] := hl
  unfold f_X11_rest at hF
  refine lv_lload_n hx hb dX11_rest_0 rfl (lv_at hl 0 rfl) ?_
  refine lv_ldc2 (v := (24883200000 : Int64)) hx hb hown (hts _ (show Cond.constantLong RX11 52 (24883200000) ∈ wsX11_rest by decide +kernel)) dX11_rest_1 ?_
  obtain ⟨hq1, hF⟩ := am_if hF
  refine lv_lrem hx hb dX11_rest_4 hq1 ?_
  refine lv_ldc2 (v := (24883200000 : Int64)) hx hb hown (hts _ (show Cond.constantLong RX11 52 (24883200000) ∈ wsX11_rest by decide +kernel)) dX11_rest_5 ?_
  refine lv_ladd hx hb dX11_rest_8 ?_
  refine lv_ldc2 (v := (24883200000 : Int64)) hx hb hown (hts _ (show Cond.constantLong RX11 52 (24883200000) ∈ wsX11_rest by decide +kernel)) dX11_rest_9 ?_
  obtain ⟨hq2, hF⟩ := am_if hF
  refine lv_lrem hx hb dX11_rest_12 hq2 ?_
  exact am_lret X hr hh (fun t ht => am_qp (mk := oL) hF ht) (Nat.le_of_ble_eq_true rfl) (Nat.le_of_ble_eq_true rfl) dX11_rest_13
set_option maxHeartbeats 4000000 in
set_option maxRecDepth 100000 in
theorem c_X11_done (l : Launch) (G : GG) {w : Wd} {x1 : Int32} {r0 : Int32} {wz : Wd} (hF : f_X11_done w x1 = some (r0, wz)) : Met l yX11_done wsX11_done ({ frames := 0, cells := 0, slots := 0, locals := 0 } : Room) (va_Pc [.ref (gAd G 141), .int x1] (Rel G w)) (amQ G (oI r0) wz) 0 0 (gA G) := by
  refine am_met (own := RX11) (cc := cX11_done) (maxL := 2) (ret := (some .int)) (by decide +kernel) rfl rfl (Nat.le_of_ble_eq_true rfl) ?_
  intro p e s m args below meth c ab H locs ls X hr hh hl
  have hx := X.1.1; have hb := X.1.2.1; have hml := X.1.2.2.1; have hown := X.1.2.2.2.1; have hts := X.1.2.2.2.2
  have hl : lv_has ls 2 [(0, .ref (gAd G 141)), (1, .int x1)] := hl
  have hwRX11 : ∀ z ∈ u_ws RX11 TX11 18, z ∈ wsX11_done := by decide +kernel
  unfold f_X11_done at hF
  refine lv_aload_n hx hb dX11_done_0 rfl (lv_at hl 0 rfl) ?_
  refine lv_iconst (v := (0 : Int32)) hx hb dX11_done_1 (by decide) ?_
  refine am_putI X hh 141 12 12 (by decide) rfl rfl (by decide) hwRX11 tyX11 tyX11_ok nmX11 (show Cond.fieldLink RX11 49 "PlanetWorkshopModel" "thrown" "I" ∈ wsX11_done by decide +kernel) rfl rfl rfl rfl dX11_done_2 (fun H locs hh => ?_)
  obtain ⟨w1, hw1, hF⟩ := am_wl hF
  have hh := AH_eq hw1 hh
  refine lv_iload_n hx hb dX11_done_5 rfl (lv_at hl 1 rfl) ?_
  exact am_iret X hr hh (fun t ht => am_qw (mk := oI) hF ht) (Nat.le_of_ble_eq_true rfl) (Nat.le_of_ble_eq_true rfl) dX11_done_6
set_option maxHeartbeats 4000000 in
set_option maxRecDepth 100000 in
theorem c_X11_fails (l : Launch) (G : GG) {w : Wd} {x1 : Int32} {r0 : Int32} {wz : Wd} (hF : f_X11_fails w x1 = some (r0, wz)) : Met l yX11_fails wsX11_fails ({ frames := 0, cells := 0, slots := 0, locals := 0 } : Room) (va_Pc [.ref (gAd G 141), .int x1] (Rel G w)) (amQ G (oI r0) wz) 0 0 (gA G) := by
  refine am_met (own := RX11) (cc := cX11_fails) (maxL := 2) (ret := (some .int)) (by decide +kernel) rfl rfl (Nat.le_of_ble_eq_true rfl) ?_
  intro p e s m args below meth c ab H locs ls X hr hh hl
  have hx := X.1.1; have hb := X.1.2.1; have hml := X.1.2.2.1; have hown := X.1.2.2.2.1; have hts := X.1.2.2.2.2
  have hl : lv_has ls 2 [(0, .ref (gAd G 141)), (1, .int x1)] := hl
  have hwRX11 : ∀ z ∈ u_ws RX11 TX11 18, z ∈ wsX11_fails := by decide +kernel
  unfold f_X11_fails at hF
  refine lv_aload_n hx hb dX11_fails_0 rfl (lv_at hl 0 rfl) ?_
  refine lv_iload_n hx hb dX11_fails_1 rfl (lv_at hl 1 rfl) ?_
  refine am_putI X hh 141 12 12 (by decide) rfl rfl (by decide) hwRX11 tyX11 tyX11_ok nmX11 (show Cond.fieldLink RX11 49 "PlanetWorkshopModel" "thrown" "I" ∈ wsX11_fails by decide +kernel) rfl rfl rfl rfl dX11_fails_2 (fun H locs hh => ?_)
  obtain ⟨w1, hw1, hF⟩ := am_wl hF
  have hh := AH_eq hw1 hh
  refine lv_iconst (v := (0 : Int32)) hx hb dX11_fails_5 (by decide) ?_
  exact am_iret X hr hh (fun t ht => am_qw (mk := oI) hF ht) (Nat.le_of_ble_eq_true rfl) (Nat.le_of_ble_eq_true rfl) dX11_fails_6
set_option maxHeartbeats 4000000 in
set_option maxRecDepth 100000 in
theorem c_X11_copy (l : Launch) (G : GG) {w : Wd} {k0 : Nat} {n0 : Nat} {k2 : Nat} {n2 : Nat} {x1 : Int32} {x3 : Int32} {w1 : Wd} (hk0 : isLA k0 n0) (hk2 : isLA k2 n2) (hF : f_X11_copy w k0 n0 k2 n2 x1 x3 = some w1) : Met l yX11_copy wsX11_copy ({ frames := 0, cells := 0, slots := 0, locals := 0 } : Room) (va_Pc [.ref (gAd G k0), .int x1, .ref (gAd G k2), .int x3] (Rel G w)) (amQ G none w1) 0 0 (gA G) := by
  refine am_met (own := RX11) (cc := cX11_copy) (maxL := 5) (ret := none) (by decide +kernel) rfl rfl (Nat.le_of_ble_eq_true rfl) ?_
  intro p e s m args below meth c ab H locs ls X hr hh hl
  have hx := X.1.1; have hb := X.1.2.1; have hml := X.1.2.2.1; have hown := X.1.2.2.2.1; have hts := X.1.2.2.2.2
  have hl : lv_has ls 5 [(0, .ref (gAd G k0)), (1, .int x1), (2, .ref (gAd G k2)), (3, .int x3)] := hl
  rw [← adx_la (ad := gAd G) (ab := ab) hk0] at hl
  rw [← adx_la (ad := gAd G) (ab := ab) hk2] at hl
  unfold f_X11_copy at hF
  refine lv_iconst (v := (0 : Int32)) hx hb dX11_copy_0 (by decide) ?_
  refine lv_istore (lv' := [(4, .int (0 : Int32)), (0, .ref (adx (gAd G) ab k0)), (1, .int x1), (2, .ref (adx (gAd G) ab k2)), (3, .int x3)]) hx hb dX11_copy_1 hl (by decide) rfl (fun ls hl => ?_)
  have hlp3 : ∀ (n : Nat) (y1 : Int32) (w2 : Wd) (ab : Nat) (H : Heap) (locs : List Loc) (ls : Array Slot) (z : (Int32 × Wd) ⊕ Unit), p_X11_copy_3 x1 n0 x3 n2 k2 k0 n y1 w2 = some z → AH G s.heap w2 ab H locs → lv_has ls 5 [(4, .int y1), (0, .ref (adx (gAd G) ab k0)), (1, .int x1), (2, .ref (adx (gAd G) ab k2)), (3, .int x3)] → (∀ (y1 : Int32) (w2 : Wd) (ab : Nat) (H : Heap) (locs : List Loc) (ls : Array Slot), z = .inl (y1, w2) → AH G s.heap w2 ab H locs → lv_has ls 5 [(4, .int y1), (0, .ref (adx (gAd G) ab k0)), (1, .int x1), (2, .ref (adx (gAd G) ab k2)), (3, .int x3)] → W p l e ({ frames := 0, cells := 0, slots := 0, locals := 0 } : Room) s m args below meth c H locs 0 0 (MQ below (amQ G none w1) args s 0 0 (gA G)) (F0 m 29 ls [])) → W p l e ({ frames := 0, cells := 0, slots := 0, locals := 0 } : Room) s m args below meth c H locs 0 0 (MQ below (amQ G none w1) args s 0 0 (gA G)) (F0 m 3 ls []) := by
    intro n
    induction n with
    | zero =>
      intro y1 w2 ab H locs ls z hF
      unfold p_X11_copy_3 at hF
      cases hF
    | succ n ih =>
      intro y1 w2 ab H locs ls z hF hh hl kE
      unfold p_X11_copy_3 at hF
      refine lv_iload hx hb dX11_copy_3 (lv_at hl 0 rfl) ?_
      refine lv_sipush (v := (192 : Int32)) hx hb dX11_copy_5 (by decide) ?_
      refine lv_icmp_ge (tgt := 29) hx hb dX11_copy_8 (by decide) (fun hc4 => ?_) (fun hc4 => ?_)
      · have hF := am_pos hc4 hF
        exact kE y1 w2 ab H locs ls (Option.some.inj hF).symm hh (lv_sub hl [0, 1, 2, 3, 4] rfl)
      · have hF := am_neg hc4 hF
        refine lv_aload_n hx hb dX11_copy_11 rfl (lv_at hl 3 rfl) ?_
        refine lv_iload_n hx hb dX11_copy_12 rfl (lv_at hl 4 rfl) ?_
        refine lv_iload hx hb dX11_copy_13 (lv_at hl 0 rfl) ?_
        refine lv_iadd hx hb dX11_copy_15 ?_
        refine lv_aload_n hx hb dX11_copy_16 rfl (lv_at hl 1 rfl) ?_
        refine lv_iload_n hx hb dX11_copy_17 rfl (lv_at hl 2 rfl) ?_
        refine lv_iload hx hb dX11_copy_18 (lv_at hl 0 rfl) ?_
        refine lv_iadd hx hb dX11_copy_20 ?_
        obtain ⟨hq5, hF⟩ := am_ifR hF
        refine am_lald X hh k0 hk0.1 (hk0.2.2 _) hq5 dX11_copy_21 ?_
        obtain ⟨hq6, hF⟩ := am_ifR hF
        refine am_last X hh k2 hk2.1 (hk2.2.2 _) hq6 dX11_copy_22 (fun H locs hh => ?_)
        obtain ⟨w7, hw7, hF⟩ := am_wl hF
        have hh := AH_eq hw7 hh
        refine lv_iinc (v := (y1 + (1 : Int32))) (lv' := [(4, .int (y1 + (1 : Int32))), (0, .ref (adx (gAd G) ab k0)), (1, .int x1), (2, .ref (adx (gAd G) ab k2)), (3, .int x3)]) hx hb dX11_copy_23 hl (k := 0) rfl rfl (by decide) rfl (fun ls hl => ?_)
        refine lv_goto (tgt := 3) hx hb dX11_copy_26 (by decide) ?_
        exact ih (y1 + (1 : Int32)) w7 ab H locs ls _ hF hh (lv_sub hl [0, 1, 2, 3, 4] rfl) kE
  obtain ⟨z8, hz9, hF⟩ := am_bind hF
  refine hlp3 2000 (0 : Int32) w ab H locs ls z8 hz9 hh (lv_sub hl [0, 1, 2, 3, 4] rfl) (fun y1 w2 ab H locs ls hz hh hl => ?_)
  · subst hz
    have hF := am_zl hF
    have hF := am_u2 hF
    exact am_vret X hr hh (fun t ht => am_qv hF ht) (Nat.le_of_ble_eq_true rfl) (Nat.le_of_ble_eq_true rfl) dX11_copy_29
set_option maxHeartbeats 4000000 in
set_option maxRecDepth 100000 in
theorem c_X11_begin (l : Launch) (G : GG) {w : Wd} {w1 : Wd} (hF : f_X11_begin w = some w1) : Met l yX11_begin wsX11_begin ({ frames := 1, cells := 0, slots := 0, locals := 24 } : Room) (va_Pc [.ref (gAd G 141)] (Rel G w)) (amQ G none w1) 0 0 (gA G) := by
  refine am_met (own := RX11) (cc := cX11_begin) (maxL := 1) (ret := none) (by decide +kernel) rfl rfl (Nat.le_of_ble_eq_true rfl) ?_
  intro p e s m args below meth c ab H locs ls X hr hh hl
  have hx := X.1.1; have hb := X.1.2.1; have hml := X.1.2.2.1; have hown := X.1.2.2.2.1; have hts := X.1.2.2.2.2
  have hl : lv_has ls 1 [(0, .ref (gAd G 141))] := hl
  have hwRX11 : ∀ z ∈ u_ws RX11 TX11 18, z ∈ wsX11_begin := by decide +kernel
  unfold f_X11_begin at hF
  refine lv_aload_n hx hb dX11_begin_0 rfl (lv_at hl 0 rfl) ?_
  refine am_getR X hh 141 12 0 142 (by decide) rfl rfl (by decide) hwRX11 (show Cond.fieldLink RX11 7 "PlanetWorkshopModel" "g" "[J" ∈ wsX11_begin by decide +kernel) rfl dX11_begin_1 ?_
  refine lv_iconst (v := (0 : Int32)) hx hb dX11_begin_4 (by decide) ?_
  refine lv_aload_n hx hb dX11_begin_5 rfl (lv_at hl 0 rfl) ?_
  refine am_getR X hh 141 12 1 143 (by decide) rfl rfl (by decide) hwRX11 (show Cond.fieldLink RX11 13 "PlanetWorkshopModel" "before" "[J" ∈ wsX11_begin by decide +kernel) rfl dX11_begin_6 ?_
  refine lv_iconst (v := (0 : Int32)) hx hb dX11_begin_9 (by decide) ?_
  obtain ⟨w3, hk1, hF⟩ := am_bind hF
  refine am_call X hh (va_runS (As := [.ref (gAd G 142), .int (0 : Int32), .ref (gAd G 143), .int (0 : Int32)]) (rest := []) X.1 (c_X11_copy l G (la_of (by decide) (by decide) (fun _ => rfl)) (la_of (by decide) (by decide) (fun _ => rfl)) hk1) (va_cwS 4 hts gX11_begin_X11_copy rfl rfl rfl (by decide +kernel) ⟨Nat.le_of_ble_eq_true rfl, Nat.le_of_ble_eq_true rfl⟩) (am_preS X hh) rfl rfl hl.1 rfl (lv_room (Nat.le_of_ble_eq_true rfl)) dX11_begin_10 ⟨Nat.le_of_ble_eq_true rfl, Nat.le_of_ble_eq_true rfl⟩) (fun ab H locs hh => ?_)
  exact am_vret X hr hh (fun t ht => am_qv hF ht) (Nat.le_of_ble_eq_true rfl) (Nat.le_of_ble_eq_true rfl) dX11_begin_13
set_option maxHeartbeats 4000000 in
set_option maxRecDepth 100000 in
theorem c_X11_kept (l : Launch) (G : GG) {w : Wd} {x1 : Int32} {r0 : Int32} {w1 : Wd} (hF : f_X11_kept w x1 = some (r0, w1)) : Met l yX11_kept wsX11_kept ({ frames := 1, cells := 0, slots := 0, locals := 24 } : Room) (va_Pc [.ref (gAd G 141), .int x1] (Rel G w)) (amQ G (oI r0) w1) 0 0 (gA G) := by
  refine am_met (own := RX11) (cc := cX11_kept) (maxL := 3) (ret := (some .int)) (by decide +kernel) rfl rfl (Nat.le_of_ble_eq_true rfl) ?_
  intro p e s m args below meth c ab H locs ls X hr hh hl
  have hx := X.1.1; have hb := X.1.2.1; have hml := X.1.2.2.1; have hown := X.1.2.2.2.1; have hts := X.1.2.2.2.2
  have hl : lv_has ls 3 [(0, .ref (gAd G 141)), (1, .int x1)] := hl
  have hwRX11 : ∀ z ∈ u_ws RX11 TX11 18, z ∈ wsX11_kept := by decide +kernel
  unfold f_X11_kept at hF
  refine lv_aload_n hx hb dX11_kept_0 rfl (lv_at hl 0 rfl) ?_
  refine am_getI X hh 141 12 12 (by decide) rfl rfl (by decide) hwRX11 (show Cond.fieldLink RX11 49 "PlanetWorkshopModel" "thrown" "I" ∈ wsX11_kept by decide +kernel) rfl dX11_kept_1 ?_
  refine lv_if_eq (tgt := 22) hx hb dX11_kept_4 (by decide) (fun hc1 => ?_) (fun hc1 => ?_)
  · have hF := am_pos hc1 hF
    refine lv_aload_n hx hb dX11_kept_22 rfl (lv_at hl 0 rfl) ?_
    refine am_getI X hh 141 12 3 (by decide) rfl rfl (by decide) hwRX11 (show Cond.fieldLink RX11 58 "PlanetWorkshopModel" "changes" "I" ∈ wsX11_kept by decide +kernel) rfl dX11_kept_23 ?_
    refine lv_bipush (v := (8 : Int32)) hx hb dX11_kept_26 (by decide) ?_
    refine lv_icmp_ne (tgt := 72) hx hb dX11_kept_28 (by decide) (fun hc2 => ?_) (fun hc2 => ?_)
    · have hF := am_neg hc2 hF
      refine lv_aload_n hx hb dX11_kept_72 rfl (lv_at hl 0 rfl) ?_
      refine am_getR X hh 141 12 1 143 (by decide) rfl rfl (by decide) hwRX11 (show Cond.fieldLink RX11 13 "PlanetWorkshopModel" "before" "[J" ∈ wsX11_kept by decide +kernel) rfl dX11_kept_73 ?_
      refine lv_iconst (v := (0 : Int32)) hx hb dX11_kept_76 (by decide) ?_
      refine lv_aload_n hx hb dX11_kept_77 rfl (lv_at hl 0 rfl) ?_
      refine am_getR X hh 141 12 2 144 (by decide) rfl rfl (by decide) hwRX11 (show Cond.fieldLink RX11 16 "PlanetWorkshopModel" "history" "[J" ∈ wsX11_kept by decide +kernel) rfl dX11_kept_78 ?_
      refine lv_aload_n hx hb dX11_kept_81 rfl (lv_at hl 0 rfl) ?_
      refine am_getI X hh 141 12 3 (by decide) rfl rfl (by decide) hwRX11 (show Cond.fieldLink RX11 58 "PlanetWorkshopModel" "changes" "I" ∈ wsX11_kept by decide +kernel) rfl dX11_kept_82 ?_
      refine lv_sipush (v := (192 : Int32)) hx hb dX11_kept_85 (by decide) ?_
      refine lv_imul hx hb dX11_kept_88 ?_
      obtain ⟨w5, hk3, hF⟩ := am_bind hF
      refine am_call X hh (va_runS (As := [.ref (gAd G 143), .int (0 : Int32), .ref (gAd G 144), .int ((gI w 141 3) * (192 : Int32))]) (rest := []) X.1 (c_X11_copy l G (la_of (by decide) (by decide) (fun _ => rfl)) (la_of (by decide) (by decide) (fun _ => rfl)) hk3) (va_cwS 4 hts gX11_kept_X11_copy rfl rfl rfl (by decide +kernel) ⟨Nat.le_of_ble_eq_true rfl, Nat.le_of_ble_eq_true rfl⟩) (am_preS X hh) rfl rfl hl.1 rfl (lv_room (Nat.le_of_ble_eq_true rfl)) dX11_kept_89 ⟨Nat.le_of_ble_eq_true rfl, Nat.le_of_ble_eq_true rfl⟩) (fun ab H locs hh => ?_)
      refine lv_aload_n hx hb dX11_kept_92 rfl (lv_at hl 0 rfl) ?_
      refine lv_dup hx hb dX11_kept_93 rfl ?_
      refine am_getI X hh 141 12 3 (by decide) rfl rfl (by decide) hwRX11 (show Cond.fieldLink RX11 58 "PlanetWorkshopModel" "changes" "I" ∈ wsX11_kept by decide +kernel) rfl dX11_kept_94 ?_
      refine lv_iconst (v := (1 : Int32)) hx hb dX11_kept_97 (by decide) ?_
      refine lv_iadd hx hb dX11_kept_98 ?_
      refine am_putI X hh 141 12 3 (by decide) rfl rfl (by decide) hwRX11 tyX11 tyX11_ok nmX11 (show Cond.fieldLink RX11 58 "PlanetWorkshopModel" "changes" "I" ∈ wsX11_kept by decide +kernel) rfl rfl rfl rfl dX11_kept_99 (fun H locs hh => ?_)
      obtain ⟨w6, hw6, hF⟩ := am_wl hF
      have hh := AH_eq hw6 hh
      refine lv_iload_n hx hb dX11_kept_102 rfl (lv_at hl 1 rfl) ?_
      exact am_iret X hr hh (fun t ht => am_qw (mk := oI) hF ht) (Nat.le_of_ble_eq_true rfl) (Nat.le_of_ble_eq_true rfl) dX11_kept_103
    · have hF := am_pos hc2 hF
      refine lv_iconst (v := (0 : Int32)) hx hb dX11_kept_31 (by decide) ?_
      refine lv_istore_n (lv' := [(2, .int (0 : Int32)), (0, .ref (gAd G 141)), (1, .int x1)]) hx hb dX11_kept_32 rfl hl (by decide) rfl (fun ls hl => ?_)
      have hlp33 : ∀ (n : Nat) (y7 : Int32) (w8 : Wd) (ab : Nat) (H : Heap) (locs : List Loc) (ls : Array Slot) (z : (Int32 × Wd) ⊕ Unit), p_X11_kept_33 n y7 w8 = some z → AH G s.heap w8 ab H locs → lv_has ls 3 [(2, .int y7), (0, .ref (gAd G 141)), (1, .int x1)] → (∀ (y7 : Int32) (w8 : Wd) (ab : Nat) (H : Heap) (locs : List Loc) (ls : Array Slot), z = .inl (y7, w8) → AH G s.heap w8 ab H locs → lv_has ls 3 [(2, .int y7), (0, .ref (gAd G 141)), (1, .int x1)] → W p l e ({ frames := 1, cells := 0, slots := 0, locals := 24 } : Room) s m args below meth c H locs 0 0 (MQ below (amQ G (oI r0) w1) args s 0 0 (gA G)) (F0 m 62 ls [])) → W p l e ({ frames := 1, cells := 0, slots := 0, locals := 24 } : Room) s m args below meth c H locs 0 0 (MQ below (amQ G (oI r0) w1) args s 0 0 (gA G)) (F0 m 33 ls []) := by
        intro n
        induction n with
        | zero =>
          intro y7 w8 ab H locs ls z hF
          unfold p_X11_kept_33 at hF
          cases hF
        | succ n ih =>
          intro y7 w8 ab H locs ls z hF hh hl kE
          unfold p_X11_kept_33 at hF
          refine lv_iload_n hx hb dX11_kept_33 rfl (lv_at hl 0 rfl) ?_
          refine lv_sipush (v := (1344 : Int32)) hx hb dX11_kept_34 (by decide) ?_
          refine lv_icmp_ge (tgt := 62) hx hb dX11_kept_37 (by decide) (fun hc10 => ?_) (fun hc10 => ?_)
          · have hF := am_pos hc10 hF
            exact kE y7 w8 ab H locs ls (Option.some.inj hF).symm hh (lv_sub hl [0, 1, 2] rfl)
          · have hF := am_neg hc10 hF
            refine lv_aload_n hx hb dX11_kept_40 rfl (lv_at hl 1 rfl) ?_
            refine am_getR X hh 141 12 2 144 (by decide) rfl rfl (by decide) hwRX11 (show Cond.fieldLink RX11 16 "PlanetWorkshopModel" "history" "[J" ∈ wsX11_kept by decide +kernel) rfl dX11_kept_41 ?_
            refine lv_iload_n hx hb dX11_kept_44 rfl (lv_at hl 0 rfl) ?_
            refine lv_aload_n hx hb dX11_kept_45 rfl (lv_at hl 1 rfl) ?_
            refine am_getR X hh 141 12 2 144 (by decide) rfl rfl (by decide) hwRX11 (show Cond.fieldLink RX11 16 "PlanetWorkshopModel" "history" "[J" ∈ wsX11_kept by decide +kernel) rfl dX11_kept_46 ?_
            refine lv_iload_n hx hb dX11_kept_49 rfl (lv_at hl 0 rfl) ?_
            refine lv_sipush (v := (192 : Int32)) hx hb dX11_kept_50 (by decide) ?_
            refine lv_iadd hx hb dX11_kept_53 ?_
            obtain ⟨hq11, hF⟩ := am_ifR hF
            refine am_lald X hh 144 (by decide) rfl hq11 dX11_kept_54 ?_
            obtain ⟨hq12, hF⟩ := am_ifR hF
            refine am_last X hh 144 (by decide) rfl hq12 dX11_kept_55 (fun H locs hh => ?_)
            obtain ⟨w13, hw13, hF⟩ := am_wl hF
            have hh := AH_eq hw13 hh
            refine lv_iinc (v := (y7 + (1 : Int32))) (lv' := [(2, .int (y7 + (1 : Int32))), (0, .ref (gAd G 141)), (1, .int x1)]) hx hb dX11_kept_56 hl (k := 0) rfl rfl (by decide) rfl (fun ls hl => ?_)
            refine lv_goto (tgt := 33) hx hb dX11_kept_59 (by decide) ?_
            exact ih (y7 + (1 : Int32)) w13 ab H locs ls _ hF hh (lv_sub hl [0, 1, 2] rfl) kE
      obtain ⟨z14, hz15, hF⟩ := am_bind hF
      refine hlp33 2000 (0 : Int32) w ab H locs ls z14 hz15 hh (lv_sub hl [0, 1, 2] rfl) (fun y7 w8 ab H locs ls hz hh hl => ?_)
      · subst hz
        have hF := am_zl hF
        have hF := am_u2 hF
        refine lv_aload_n hx hb dX11_kept_62 rfl (lv_at hl 1 rfl) ?_
        refine lv_dup hx hb dX11_kept_63 rfl ?_
        refine am_getI X hh 141 12 3 (by decide) rfl rfl (by decide) hwRX11 (show Cond.fieldLink RX11 58 "PlanetWorkshopModel" "changes" "I" ∈ wsX11_kept by decide +kernel) rfl dX11_kept_64 ?_
        refine lv_iconst (v := (1 : Int32)) hx hb dX11_kept_67 (by decide) ?_
        refine lv_isub hx hb dX11_kept_68 ?_
        refine am_putI X hh 141 12 3 (by decide) rfl rfl (by decide) hwRX11 tyX11 tyX11_ok nmX11 (show Cond.fieldLink RX11 58 "PlanetWorkshopModel" "changes" "I" ∈ wsX11_kept by decide +kernel) rfl rfl rfl rfl dX11_kept_69 (fun H locs hh => ?_)
        obtain ⟨w16, hw16, hF⟩ := am_wl hF
        have hh := AH_eq hw16 hh
        refine lv_aload_n hx hb dX11_kept_72 rfl (lv_at hl 1 rfl) ?_
        refine am_getR X hh 141 12 1 143 (by decide) rfl rfl (by decide) hwRX11 (show Cond.fieldLink RX11 13 "PlanetWorkshopModel" "before" "[J" ∈ wsX11_kept by decide +kernel) rfl dX11_kept_73 ?_
        refine lv_iconst (v := (0 : Int32)) hx hb dX11_kept_76 (by decide) ?_
        refine lv_aload_n hx hb dX11_kept_77 rfl (lv_at hl 1 rfl) ?_
        refine am_getR X hh 141 12 2 144 (by decide) rfl rfl (by decide) hwRX11 (show Cond.fieldLink RX11 16 "PlanetWorkshopModel" "history" "[J" ∈ wsX11_kept by decide +kernel) rfl dX11_kept_78 ?_
        refine lv_aload_n hx hb dX11_kept_81 rfl (lv_at hl 1 rfl) ?_
        refine am_getI X hh 141 12 3 (by decide) rfl rfl (by decide) hwRX11 (show Cond.fieldLink RX11 58 "PlanetWorkshopModel" "changes" "I" ∈ wsX11_kept by decide +kernel) rfl dX11_kept_82 ?_
        refine lv_sipush (v := (192 : Int32)) hx hb dX11_kept_85 (by decide) ?_
        refine lv_imul hx hb dX11_kept_88 ?_
        obtain ⟨w19, hk17, hF⟩ := am_bind hF
        refine am_call X hh (va_runS (As := [.ref (gAd G 143), .int (0 : Int32), .ref (gAd G 144), .int ((gI w16 141 3) * (192 : Int32))]) (rest := []) X.1 (c_X11_copy l G (la_of (by decide) (by decide) (fun _ => rfl)) (la_of (by decide) (by decide) (fun _ => rfl)) hk17) (va_cwS 4 hts gX11_kept_X11_copy rfl rfl rfl (by decide +kernel) ⟨Nat.le_of_ble_eq_true rfl, Nat.le_of_ble_eq_true rfl⟩) (am_preS X hh) rfl rfl hl.1 rfl (lv_room (Nat.le_of_ble_eq_true rfl)) dX11_kept_89 ⟨Nat.le_of_ble_eq_true rfl, Nat.le_of_ble_eq_true rfl⟩) (fun ab H locs hh => ?_)
        refine lv_aload_n hx hb dX11_kept_92 rfl (lv_at hl 1 rfl) ?_
        refine lv_dup hx hb dX11_kept_93 rfl ?_
        refine am_getI X hh 141 12 3 (by decide) rfl rfl (by decide) hwRX11 (show Cond.fieldLink RX11 58 "PlanetWorkshopModel" "changes" "I" ∈ wsX11_kept by decide +kernel) rfl dX11_kept_94 ?_
        refine lv_iconst (v := (1 : Int32)) hx hb dX11_kept_97 (by decide) ?_
        refine lv_iadd hx hb dX11_kept_98 ?_
        refine am_putI X hh 141 12 3 (by decide) rfl rfl (by decide) hwRX11 tyX11 tyX11_ok nmX11 (show Cond.fieldLink RX11 58 "PlanetWorkshopModel" "changes" "I" ∈ wsX11_kept by decide +kernel) rfl rfl rfl rfl dX11_kept_99 (fun H locs hh => ?_)
        obtain ⟨w20, hw20, hF⟩ := am_wl hF
        have hh := AH_eq hw20 hh
        refine lv_iload_n hx hb dX11_kept_102 rfl (lv_at hl 2 rfl) ?_
        exact am_iret X hr hh (fun t ht => am_qw (mk := oI) hF ht) (Nat.le_of_ble_eq_true rfl) (Nat.le_of_ble_eq_true rfl) dX11_kept_103
  · have hF := am_neg hc1 hF
    refine lv_aload_n hx hb dX11_kept_7 rfl (lv_at hl 0 rfl) ?_
    refine am_getR X hh 141 12 1 143 (by decide) rfl rfl (by decide) hwRX11 (show Cond.fieldLink RX11 13 "PlanetWorkshopModel" "before" "[J" ∈ wsX11_kept by decide +kernel) rfl dX11_kept_8 ?_
    refine lv_iconst (v := (0 : Int32)) hx hb dX11_kept_11 (by decide) ?_
    refine lv_aload_n hx hb dX11_kept_12 rfl (lv_at hl 0 rfl) ?_
    refine am_getR X hh 141 12 0 142 (by decide) rfl rfl (by decide) hwRX11 (show Cond.fieldLink RX11 7 "PlanetWorkshopModel" "g" "[J" ∈ wsX11_kept by decide +kernel) rfl dX11_kept_13 ?_
    refine lv_iconst (v := (0 : Int32)) hx hb dX11_kept_16 (by decide) ?_
    obtain ⟨w23, hk21, hF⟩ := am_bind hF
    refine am_call X hh (va_runS (As := [.ref (gAd G 143), .int (0 : Int32), .ref (gAd G 142), .int (0 : Int32)]) (rest := []) X.1 (c_X11_copy l G (la_of (by decide) (by decide) (fun _ => rfl)) (la_of (by decide) (by decide) (fun _ => rfl)) hk21) (va_cwS 4 hts gX11_kept_X11_copy rfl rfl rfl (by decide +kernel) ⟨Nat.le_of_ble_eq_true rfl, Nat.le_of_ble_eq_true rfl⟩) (am_preS X hh) rfl rfl hl.1 rfl (lv_room (Nat.le_of_ble_eq_true rfl)) dX11_kept_17 ⟨Nat.le_of_ble_eq_true rfl, Nat.le_of_ble_eq_true rfl⟩) (fun ab H locs hh => ?_)
    refine lv_iconst (v := (0 : Int32)) hx hb dX11_kept_20 (by decide) ?_
    exact am_iret X hr hh (fun t ht => am_qw (mk := oI) hF ht) (Nat.le_of_ble_eq_true rfl) (Nat.le_of_ble_eq_true rfl) dX11_kept_21
set_option maxHeartbeats 4000000 in
set_option maxRecDepth 100000 in
theorem c_X11_at (l : Launch) (G : GG) {w : Wd} {x1 : Int32} {r0 : Int32} (hF : f_X11_at w x1 = some r0) : Met l yX11_at wsX11_at ({ frames := 0, cells := 0, slots := 0, locals := 0 } : Room) (va_Pc [.ref (gAd G 141), .int x1] (Rel G w)) (amQ G (oI r0) w) 0 0 (gA G) := by
  refine am_met (own := RX11) (cc := cX11_at) (maxL := 2) (ret := (some .int)) (by decide +kernel) rfl rfl (Nat.le_of_ble_eq_true rfl) ?_
  intro p e s m args below meth c ab H locs ls X hr hh hl
  have hx := X.1.1; have hb := X.1.2.1; have hml := X.1.2.2.1; have hown := X.1.2.2.2.1; have hts := X.1.2.2.2.2
  have hl : lv_has ls 2 [(0, .ref (gAd G 141)), (1, .int x1)] := hl
  have hwRX11 : ∀ z ∈ u_ws RX11 TX11 18, z ∈ wsX11_at := by decide +kernel
  unfold f_X11_at at hF
  refine lv_aload_n hx hb dX11_at_0 rfl (lv_at hl 0 rfl) ?_
  refine am_getR X hh 141 12 0 142 (by decide) rfl rfl (by decide) hwRX11 (show Cond.fieldLink RX11 7 "PlanetWorkshopModel" "g" "[J" ∈ wsX11_at by decide +kernel) rfl dX11_at_1 ?_
  refine lv_iload_n hx hb dX11_at_4 rfl (lv_at hl 1 rfl) ?_
  obtain ⟨hq1, hF⟩ := am_ifR hF
  refine am_lald X hh 142 (by decide) rfl hq1 dX11_at_5 ?_
  refine lv_l2i hx hb dX11_at_6 rfl ?_
  exact am_iret X hr hh (fun t ht => am_qp (mk := oI) hF ht) (Nat.le_of_ble_eq_true rfl) (Nat.le_of_ble_eq_true rfl) dX11_at_7
set_option maxHeartbeats 4000000 in
set_option maxRecDepth 100000 in
theorem c_X11_isGear (l : Launch) (G : GG) {w : Wd} {x1 : Int32} {r0 : Int32} (hF : f_X11_isGear w x1 = some r0) : Met l yX11_isGear wsX11_isGear ({ frames := 1, cells := 0, slots := 0, locals := 22 } : Room) (va_Pc [.ref (gAd G 141), .int x1] (Rel G w)) (amQ G (oI r0) w) 0 0 (gA G) := by
  refine am_met (own := RX11) (cc := cX11_isGear) (maxL := 2) (ret := (some .boolean)) (by decide +kernel) rfl rfl (Nat.le_of_ble_eq_true rfl) ?_
  intro p e s m args below meth c ab H locs ls X hr hh hl
  have hx := X.1.1; have hb := X.1.2.1; have hml := X.1.2.2.1; have hown := X.1.2.2.2.1; have hts := X.1.2.2.2.2
  have hl : lv_has ls 2 [(0, .ref (gAd G 141)), (1, .int x1)] := hl
  unfold f_X11_isGear at hF
  refine lv_iload_n hx hb dX11_isGear_0 rfl (lv_at hl 1 rfl) ?_
  refine lv_iconst (v := (0 : Int32)) hx hb dX11_isGear_1 (by decide) ?_
  refine lv_aload_n hx hb dX11_isGear_2 rfl (lv_at hl 0 rfl) ?_
  refine lv_iconst (v := (0 : Int32)) hx hb dX11_isGear_3 (by decide) ?_
  obtain ⟨r2, hk1, hF⟩ := am_bind hF
  refine am_call X hh (va_runV (As := [.int (0 : Int32)]) (rest := [.int (0 : Int32), .int x1]) X.1 (c_X11_at l G hk1) (cwV 1 hts gX11_isGear_X11_at rfl rfl rfl (by decide +kernel) ⟨Nat.le_of_ble_eq_true rfl, Nat.le_of_ble_eq_true rfl⟩) (am_preV X hh 141 12 (by decide) rfl rfl) rfl rfl hl.1 rfl (lv_room (Nat.le_of_ble_eq_true rfl)) dX11_isGear_4 ⟨Nat.le_of_ble_eq_true rfl, Nat.le_of_ble_eq_true rfl⟩) (fun ab H locs hh => ?_)
  refine lv_iconst (v := (1 : Int32)) hx hb dX11_isGear_7 (by decide) ?_
  refine lv_isub hx hb dX11_isGear_8 ?_
  obtain ⟨r4, hk3, hF⟩ := am_bind hF
  refine am_call X hh (va_runS (As := [.int x1, .int (0 : Int32), .int (r2 - (1 : Int32))]) (rest := []) X.1 (c_X11_in l G hk3) (va_cwS 3 hts gX11_isGear_X11_in rfl rfl rfl (by decide +kernel) ⟨Nat.le_of_ble_eq_true rfl, Nat.le_of_ble_eq_true rfl⟩) (am_preS X hh) rfl rfl hl.1 rfl (lv_room (Nat.le_of_ble_eq_true rfl)) dX11_isGear_9 ⟨Nat.le_of_ble_eq_true rfl, Nat.le_of_ble_eq_true rfl⟩) (fun ab H locs hh => ?_)
  exact am_zret (v' := (vp_nar .boolean r4)) X hr (nar_z _) hh (fun t ht => am_qp (mk := oI) hF ht) (Nat.le_of_ble_eq_true rfl) (Nat.le_of_ble_eq_true rfl) dX11_isGear_12
set_option maxHeartbeats 4000000 in
set_option maxRecDepth 100000 in
theorem c_X11_areGears (l : Launch) (G : GG) {w : Wd} {x1 : Int32} {x2 : Int32} {r0 : Int32} (hF : f_X11_areGears w x1 x2 = some r0) : Met l yX11_areGears wsX11_areGears ({ frames := 2, cells := 0, slots := 0, locals := 43 } : Room) (va_Pc [.ref (gAd G 141), .int x1, .int x2] (Rel G w)) (amQ G (oI r0) w) 0 0 (gA G) := by
  refine am_met (own := RX11) (cc := cX11_areGears) (maxL := 3) (ret := (some .boolean)) (by decide +kernel) rfl rfl (Nat.le_of_ble_eq_true rfl) ?_
  intro p e s m args below meth c ab H locs ls X hr hh hl
  have hx := X.1.1; have hb := X.1.2.1; have hml := X.1.2.2.1; have hown := X.1.2.2.2.1; have hts := X.1.2.2.2.2
  have hl : lv_has ls 3 [(0, .ref (gAd G 141)), (1, .int x1), (2, .int x2)] := hl
  unfold f_X11_areGears at hF
  refine lv_aload_n hx hb dX11_areGears_0 rfl (lv_at hl 0 rfl) ?_
  refine lv_iload_n hx hb dX11_areGears_1 rfl (lv_at hl 1 rfl) ?_
  obtain ⟨r2, hk1, hF⟩ := am_bind hF
  refine am_call X hh (va_runV (As := [.int x1]) (rest := []) X.1 (c_X11_isGear l G hk1) (cwV 1 hts gX11_areGears_X11_isGear rfl rfl rfl (by decide +kernel) ⟨Nat.le_of_ble_eq_true rfl, Nat.le_of_ble_eq_true rfl⟩) (am_preV X hh 141 12 (by decide) rfl rfl) rfl rfl hl.1 rfl (lv_room (Nat.le_of_ble_eq_true rfl)) dX11_areGears_2 ⟨Nat.le_of_ble_eq_true rfl, Nat.le_of_ble_eq_true rfl⟩) (fun ab H locs hh => ?_)
  refine lv_if_eq (tgt := 20) hx hb dX11_areGears_5 (by decide) (fun hc3 => ?_) (fun hc3 => ?_)
  · have hF := am_pos hc3 hF
    refine lv_iconst (v := (0 : Int32)) hx hb dX11_areGears_20 (by decide) ?_
    exact am_zret (v' := (0 : Int32)) X hr rfl hh (fun t ht => am_qp (mk := oI) hF ht) (Nat.le_of_ble_eq_true rfl) (Nat.le_of_ble_eq_true rfl) dX11_areGears_21
  · have hF := am_neg hc3 hF
    refine lv_aload_n hx hb dX11_areGears_8 rfl (lv_at hl 0 rfl) ?_
    refine lv_iload_n hx hb dX11_areGears_9 rfl (lv_at hl 2 rfl) ?_
    obtain ⟨r5, hk4, hF⟩ := am_bind hF
    refine am_call X hh (va_runV (As := [.int x2]) (rest := []) X.1 (c_X11_isGear l G hk4) (cwV 1 hts gX11_areGears_X11_isGear rfl rfl rfl (by decide +kernel) ⟨Nat.le_of_ble_eq_true rfl, Nat.le_of_ble_eq_true rfl⟩) (am_preV X hh 141 12 (by decide) rfl rfl) rfl rfl hl.1 rfl (lv_room (Nat.le_of_ble_eq_true rfl)) dX11_areGears_10 ⟨Nat.le_of_ble_eq_true rfl, Nat.le_of_ble_eq_true rfl⟩) (fun ab H locs hh => ?_)
    refine lv_if_eq (tgt := 20) hx hb dX11_areGears_13 (by decide) (fun hc6 => ?_) (fun hc6 => ?_)
    · have hF := am_pos hc6 hF
      refine lv_iconst (v := (0 : Int32)) hx hb dX11_areGears_20 (by decide) ?_
      exact am_zret (v' := (0 : Int32)) X hr rfl hh (fun t ht => am_qp (mk := oI) hF ht) (Nat.le_of_ble_eq_true rfl) (Nat.le_of_ble_eq_true rfl) dX11_areGears_21
    · have hF := am_neg hc6 hF
      refine lv_iconst (v := (1 : Int32)) hx hb dX11_areGears_16 (by decide) ?_
      refine lv_goto (tgt := 21) hx hb dX11_areGears_17 (by decide) ?_
      exact am_zret (v' := (1 : Int32)) X hr rfl hh (fun t ht => am_qp (mk := oI) hF ht) (Nat.le_of_ble_eq_true rfl) (Nat.le_of_ble_eq_true rfl) dX11_areGears_21
set_option maxHeartbeats 4000000 in
set_option maxRecDepth 100000 in
theorem c_X11_isPlanet (l : Launch) (G : GG) {w : Wd} {x1 : Int32} {r0 : Int32} (hF : f_X11_isPlanet w x1 = some r0) : Met l yX11_isPlanet wsX11_isPlanet ({ frames := 1, cells := 0, slots := 0, locals := 22 } : Room) (va_Pc [.ref (gAd G 141), .int x1] (Rel G w)) (amQ G (oI r0) w) 0 0 (gA G) := by
  refine am_met (own := RX11) (cc := cX11_isPlanet) (maxL := 2) (ret := (some .boolean)) (by decide +kernel) rfl rfl (Nat.le_of_ble_eq_true rfl) ?_
  intro p e s m args below meth c ab H locs ls X hr hh hl
  have hx := X.1.1; have hb := X.1.2.1; have hml := X.1.2.2.1; have hown := X.1.2.2.2.1; have hts := X.1.2.2.2.2
  have hl : lv_has ls 2 [(0, .ref (gAd G 141)), (1, .int x1)] := hl
  unfold f_X11_isPlanet at hF
  refine lv_iload_n hx hb dX11_isPlanet_0 rfl (lv_at hl 1 rfl) ?_
  refine lv_iconst (v := (0 : Int32)) hx hb dX11_isPlanet_1 (by decide) ?_
  refine lv_aload_n hx hb dX11_isPlanet_2 rfl (lv_at hl 0 rfl) ?_
  refine lv_iconst (v := (1 : Int32)) hx hb dX11_isPlanet_3 (by decide) ?_
  obtain ⟨r2, hk1, hF⟩ := am_bind hF
  refine am_call X hh (va_runV (As := [.int (1 : Int32)]) (rest := [.int (0 : Int32), .int x1]) X.1 (c_X11_at l G hk1) (cwV 1 hts gX11_isPlanet_X11_at rfl rfl rfl (by decide +kernel) ⟨Nat.le_of_ble_eq_true rfl, Nat.le_of_ble_eq_true rfl⟩) (am_preV X hh 141 12 (by decide) rfl rfl) rfl rfl hl.1 rfl (lv_room (Nat.le_of_ble_eq_true rfl)) dX11_isPlanet_4 ⟨Nat.le_of_ble_eq_true rfl, Nat.le_of_ble_eq_true rfl⟩) (fun ab H locs hh => ?_)
  refine lv_iconst (v := (1 : Int32)) hx hb dX11_isPlanet_7 (by decide) ?_
  refine lv_isub hx hb dX11_isPlanet_8 ?_
  obtain ⟨r4, hk3, hF⟩ := am_bind hF
  refine am_call X hh (va_runS (As := [.int x1, .int (0 : Int32), .int (r2 - (1 : Int32))]) (rest := []) X.1 (c_X11_in l G hk3) (va_cwS 3 hts gX11_isPlanet_X11_in rfl rfl rfl (by decide +kernel) ⟨Nat.le_of_ble_eq_true rfl, Nat.le_of_ble_eq_true rfl⟩) (am_preS X hh) rfl rfl hl.1 rfl (lv_room (Nat.le_of_ble_eq_true rfl)) dX11_isPlanet_9 ⟨Nat.le_of_ble_eq_true rfl, Nat.le_of_ble_eq_true rfl⟩) (fun ab H locs hh => ?_)
  exact am_zret (v' := (vp_nar .boolean r4)) X hr (nar_z _) hh (fun t ht => am_qp (mk := oI) hF ht) (Nat.le_of_ble_eq_true rfl) (Nat.le_of_ble_eq_true rfl) dX11_isPlanet_12
set_option maxHeartbeats 4000000 in
set_option maxRecDepth 100000 in
theorem c_X11_hasSpring (l : Launch) (G : GG) {w : Wd} {x1 : Int32} {r0 : Int32} (hF : f_X11_hasSpring w x1 = some r0) : Met l yX11_hasSpring wsX11_hasSpring ({ frames := 1, cells := 0, slots := 0, locals := 21 } : Room) (va_Pc [.ref (gAd G 141), .int x1] (Rel G w)) (amQ G (oI r0) w) 0 0 (gA G) := by
  refine am_met (own := RX11) (cc := cX11_hasSpring) (maxL := 2) (ret := (some .boolean)) (by decide +kernel) rfl rfl (Nat.le_of_ble_eq_true rfl) ?_
  intro p e s m args below meth c ab H locs ls X hr hh hl
  have hx := X.1.1; have hb := X.1.2.1; have hml := X.1.2.2.1; have hown := X.1.2.2.2.1; have hts := X.1.2.2.2.2
  have hl : lv_has ls 2 [(0, .ref (gAd G 141)), (1, .int x1)] := hl
  unfold f_X11_hasSpring at hF
  refine lv_aload_n hx hb dX11_hasSpring_0 rfl (lv_at hl 0 rfl) ?_
  refine lv_bipush (v := (26 : Int32)) hx hb dX11_hasSpring_1 (by decide) ?_
  refine lv_iload_n hx hb dX11_hasSpring_3 rfl (lv_at hl 1 rfl) ?_
  refine lv_iadd hx hb dX11_hasSpring_4 ?_
  obtain ⟨r2, hk1, hF⟩ := am_bind hF
  refine am_call X hh (va_runV (As := [.int ((26 : Int32) + x1)]) (rest := []) X.1 (c_X11_at l G hk1) (cwV 1 hts gX11_hasSpring_X11_at rfl rfl rfl (by decide +kernel) ⟨Nat.le_of_ble_eq_true rfl, Nat.le_of_ble_eq_true rfl⟩) (am_preV X hh 141 12 (by decide) rfl rfl) rfl rfl hl.1 rfl (lv_room (Nat.le_of_ble_eq_true rfl)) dX11_hasSpring_5 ⟨Nat.le_of_ble_eq_true rfl, Nat.le_of_ble_eq_true rfl⟩) (fun ab H locs hh => ?_)
  refine lv_if_le (tgt := 15) hx hb dX11_hasSpring_8 (by decide) (fun hc3 => ?_) (fun hc3 => ?_)
  · have hF := am_pos hc3 hF
    refine lv_iconst (v := (0 : Int32)) hx hb dX11_hasSpring_15 (by decide) ?_
    exact am_zret (v' := (0 : Int32)) X hr rfl hh (fun t ht => am_qp (mk := oI) hF ht) (Nat.le_of_ble_eq_true rfl) (Nat.le_of_ble_eq_true rfl) dX11_hasSpring_16
  · have hF := am_neg hc3 hF
    refine lv_iconst (v := (1 : Int32)) hx hb dX11_hasSpring_11 (by decide) ?_
    refine lv_goto (tgt := 16) hx hb dX11_hasSpring_12 (by decide) ?_
    exact am_zret (v' := (1 : Int32)) X hr rfl hh (fun t ht => am_qp (mk := oI) hF ht) (Nat.le_of_ble_eq_true rfl) (Nat.le_of_ble_eq_true rfl) dX11_hasSpring_16
set_option maxHeartbeats 4000000 in
set_option maxRecDepth 100000 in
theorem c_X11_jointOf (l : Launch) (G : GG) {w : Wd} {x1 : Int32} {x2 : Int32} {r0 : Int32} (hF : f_X11_jointOf w x1 x2 = some r0) : Met l yX11_jointOf wsX11_jointOf ({ frames := 1, cells := 0, slots := 0, locals := 21 } : Room) (va_Pc [.ref (gAd G 141), .int x1, .int x2] (Rel G w)) (amQ G (oI r0) w) 0 0 (gA G) := by
  refine am_met (own := RX11) (cc := cX11_jointOf) (maxL := 3) (ret := (some .int)) (by decide +kernel) rfl rfl (Nat.le_of_ble_eq_true rfl) ?_
  intro p e s m args below meth c ab H locs ls X hr hh hl
  have hx := X.1.1; have hb := X.1.2.1; have hml := X.1.2.2.1; have hown := X.1.2.2.2.1; have hts := X.1.2.2.2.2
  have hl : lv_has ls 3 [(0, .ref (gAd G 141)), (1, .int x1), (2, .int x2)] := hl
  unfold f_X11_jointOf at hF
  refine lv_aload_n hx hb dX11_jointOf_0 rfl (lv_at hl 0 rfl) ?_
  refine lv_bipush (v := (92 : Int32)) hx hb dX11_jointOf_1 (by decide) ?_
  refine lv_bipush (v := (10 : Int32)) hx hb dX11_jointOf_3 (by decide) ?_
  refine lv_iload_n hx hb dX11_jointOf_5 rfl (lv_at hl 1 rfl) ?_
  refine lv_imul hx hb dX11_jointOf_6 ?_
  refine lv_iadd hx hb dX11_jointOf_7 ?_
  refine lv_iload_n hx hb dX11_jointOf_8 rfl (lv_at hl 2 rfl) ?_
  refine lv_iadd hx hb dX11_jointOf_9 ?_
  obtain ⟨r2, hk1, hF⟩ := am_bind hF
  refine am_call X hh (va_runV (As := [.int (((92 : Int32) + ((10 : Int32) * x1)) + x2)]) (rest := []) X.1 (c_X11_at l G hk1) (cwV 1 hts gX11_jointOf_X11_at rfl rfl rfl (by decide +kernel) ⟨Nat.le_of_ble_eq_true rfl, Nat.le_of_ble_eq_true rfl⟩) (am_preV X hh 141 12 (by decide) rfl rfl) rfl rfl hl.1 rfl (lv_room (Nat.le_of_ble_eq_true rfl)) dX11_jointOf_10 ⟨Nat.le_of_ble_eq_true rfl, Nat.le_of_ble_eq_true rfl⟩) (fun ab H locs hh => ?_)
  exact am_iret X hr hh (fun t ht => am_qp (mk := oI) hF ht) (Nat.le_of_ble_eq_true rfl) (Nat.le_of_ble_eq_true rfl) dX11_jointOf_13
set_option maxHeartbeats 4000000 in
set_option maxRecDepth 100000 in
theorem c_X11_passes (l : Launch) (G : GG) {w : Wd} {x1 : Int32} {x2 : Int32} {r0 : Int32} {w1 : Wd} (hF : f_X11_passes w x1 x2 = some (r0, w1)) : Met l yX11_passes wsX11_passes ({ frames := 2, cells := 0, slots := 0, locals := 43 } : Room) (va_Pc [.ref (gAd G 141), .int x1, .int x2] (Rel G w)) (amQ G (oI r0) w1) 0 0 (gA G) := by
  refine am_met (own := RX11) (cc := cX11_passes) (maxL := 3) (ret := (some .boolean)) (by decide +kernel) rfl rfl (Nat.le_of_ble_eq_true rfl) ?_
  intro p e s m args below meth c ab H locs ls X hr hh hl
  have hx := X.1.1; have hb := X.1.2.1; have hml := X.1.2.2.1; have hown := X.1.2.2.2.1; have hts := X.1.2.2.2.2
  have hl : lv_has ls 3 [(0, .ref (gAd G 141)), (1, .int x1), (2, .int x2)] := hl
  have hwRX11 : ∀ z ∈ u_ws RX11 TX11 18, z ∈ wsX11_passes := by decide +kernel
  unfold f_X11_passes at hF
  refine lv_aload_n hx hb dX11_passes_0 rfl (lv_at hl 0 rfl) ?_
  refine am_getR X hh 141 12 14 149 (by decide) rfl rfl (by decide) hwRX11 (show Cond.fieldLink RX11 39 "PlanetWorkshopModel" "isKnown" "[Z" ∈ wsX11_passes by decide +kernel) rfl dX11_passes_1 ?_
  refine lv_iload_n hx hb dX11_passes_4 rfl (lv_at hl 1 rfl) ?_
  obtain ⟨hq1, hF⟩ := am_ifR hF
  refine am_zald X hh 149 (by decide) rfl hq1 dX11_passes_5 ?_
  refine lv_if_eq (tgt := 27) hx hb dX11_passes_6 (by decide) (fun hc2 => ?_) (fun hc2 => ?_)
  · have hF := am_pos hc2 hF
    refine lv_iconst (v := (0 : Int32)) hx hb dX11_passes_27 (by decide) ?_
    exact am_zret (v' := (0 : Int32)) X hr rfl hh (fun t ht => am_qw (mk := oI) hF ht) (Nat.le_of_ble_eq_true rfl) (Nat.le_of_ble_eq_true rfl) dX11_passes_28
  · have hF := am_neg hc2 hF
    refine lv_aload_n hx hb dX11_passes_9 rfl (lv_at hl 0 rfl) ?_
    refine am_getR X hh 141 12 14 149 (by decide) rfl rfl (by decide) hwRX11 (show Cond.fieldLink RX11 39 "PlanetWorkshopModel" "isKnown" "[Z" ∈ wsX11_passes by decide +kernel) rfl dX11_passes_10 ?_
    refine lv_iload_n hx hb dX11_passes_13 rfl (lv_at hl 2 rfl) ?_
    obtain ⟨hq3, hF⟩ := am_ifR hF
    refine am_zald X hh 149 (by decide) rfl hq3 dX11_passes_14 ?_
    refine lv_if_ne (tgt := 27) hx hb dX11_passes_15 (by decide) (fun hc4 => ?_) (fun hc4 => ?_)
    · have hF := am_neg hc4 hF
      refine lv_iconst (v := (0 : Int32)) hx hb dX11_passes_27 (by decide) ?_
      exact am_zret (v' := (0 : Int32)) X hr rfl hh (fun t ht => am_qw (mk := oI) hF ht) (Nat.le_of_ble_eq_true rfl) (Nat.le_of_ble_eq_true rfl) dX11_passes_28
    · have hF := am_pos hc4 hF
      refine lv_aload_n hx hb dX11_passes_18 rfl (lv_at hl 0 rfl) ?_
      refine lv_iload_n hx hb dX11_passes_19 rfl (lv_at hl 1 rfl) ?_
      refine lv_iload_n hx hb dX11_passes_20 rfl (lv_at hl 2 rfl) ?_
      obtain ⟨r6, hk5, hF⟩ := am_bind hF
      refine am_call X hh (va_runV (As := [.int x1, .int x2]) (rest := []) X.1 (c_X11_jointOf l G hk5) (cwV 2 hts gX11_passes_X11_jointOf rfl rfl rfl (by decide +kernel) ⟨Nat.le_of_ble_eq_true rfl, Nat.le_of_ble_eq_true rfl⟩) (am_preV X hh 141 12 (by decide) rfl rfl) rfl rfl hl.1 rfl (lv_room (Nat.le_of_ble_eq_true rfl)) dX11_passes_21 ⟨Nat.le_of_ble_eq_true rfl, Nat.le_of_ble_eq_true rfl⟩) (fun ab H locs hh => ?_)
      refine lv_if_ne (tgt := 29) hx hb dX11_passes_24 (by decide) (fun hc7 => ?_) (fun hc7 => ?_)
      · have hF := am_neg hc7 hF
        refine lv_aload_n hx hb dX11_passes_29 rfl (lv_at hl 0 rfl) ?_
        refine am_getR X hh 141 12 13 148 (by decide) rfl rfl (by decide) hwRX11 (show Cond.fieldLink RX11 36 "PlanetWorkshopModel" "units" "[J" ∈ wsX11_passes by decide +kernel) rfl dX11_passes_30 ?_
        refine lv_iload_n hx hb dX11_passes_33 rfl (lv_at hl 2 rfl) ?_
        refine lv_aload_n hx hb dX11_passes_34 rfl (lv_at hl 0 rfl) ?_
        refine lv_iload_n hx hb dX11_passes_35 rfl (lv_at hl 1 rfl) ?_
        refine lv_iload_n hx hb dX11_passes_36 rfl (lv_at hl 2 rfl) ?_
        obtain ⟨r9, hk8, hF⟩ := am_bind hF
        refine am_call X hh (va_runV (As := [.int x1, .int x2]) (rest := [.int x2, .ref (gAd G 148)]) X.1 (c_X11_jointOf l G hk8) (cwV 2 hts gX11_passes_X11_jointOf rfl rfl rfl (by decide +kernel) ⟨Nat.le_of_ble_eq_true rfl, Nat.le_of_ble_eq_true rfl⟩) (am_preV X hh 141 12 (by decide) rfl rfl) rfl rfl hl.1 rfl (lv_room (Nat.le_of_ble_eq_true rfl)) dX11_passes_37 ⟨Nat.le_of_ble_eq_true rfl, Nat.le_of_ble_eq_true rfl⟩) (fun ab H locs hh => ?_)
        refine lv_iconst (v := (2 : Int32)) hx hb dX11_passes_40 (by decide) ?_
        refine lv_icmp_ne (tgt := 53) hx hb dX11_passes_41 (by decide) (fun hc10 => ?_) (fun hc10 => ?_)
        · have hF := am_neg hc10 hF
          refine lv_aload_n hx hb dX11_passes_53 rfl (lv_at hl 0 rfl) ?_
          refine am_getR X hh 141 12 13 148 (by decide) rfl rfl (by decide) hwRX11 (show Cond.fieldLink RX11 36 "PlanetWorkshopModel" "units" "[J" ∈ wsX11_passes by decide +kernel) rfl dX11_passes_54 ?_
          refine lv_iload_n hx hb dX11_passes_57 rfl (lv_at hl 1 rfl) ?_
          obtain ⟨hq11, hF⟩ := am_ifR hF
          refine am_lald X hh 148 (by decide) rfl hq11 dX11_passes_58 ?_
          refine lv_lneg hx hb dX11_passes_59 ?_
          refine lv_aload_n hx hb dX11_passes_60 rfl (lv_at hl 0 rfl) ?_
          refine am_getR X hh 141 12 0 142 (by decide) rfl rfl (by decide) hwRX11 (show Cond.fieldLink RX11 7 "PlanetWorkshopModel" "g" "[J" ∈ wsX11_passes by decide +kernel) rfl dX11_passes_61 ?_
          refine lv_bipush (v := (6 : Int32)) hx hb dX11_passes_64 (by decide) ?_
          refine lv_iload_n hx hb dX11_passes_66 rfl (lv_at hl 1 rfl) ?_
          refine lv_iadd hx hb dX11_passes_67 ?_
          obtain ⟨hq12, hF⟩ := am_ifR hF
          refine am_lald X hh 142 (by decide) rfl hq12 dX11_passes_68 ?_
          refine lv_lmul hx hb dX11_passes_69 ?_
          refine lv_aload_n hx hb dX11_passes_70 rfl (lv_at hl 0 rfl) ?_
          refine am_getR X hh 141 12 0 142 (by decide) rfl rfl (by decide) hwRX11 (show Cond.fieldLink RX11 7 "PlanetWorkshopModel" "g" "[J" ∈ wsX11_passes by decide +kernel) rfl dX11_passes_71 ?_
          refine lv_bipush (v := (6 : Int32)) hx hb dX11_passes_74 (by decide) ?_
          refine lv_iload_n hx hb dX11_passes_76 rfl (lv_at hl 2 rfl) ?_
          refine lv_iadd hx hb dX11_passes_77 ?_
          obtain ⟨hq13, hF⟩ := am_ifR hF
          refine am_lald X hh 142 (by decide) rfl hq13 dX11_passes_78 ?_
          obtain ⟨hq14, hF⟩ := am_if hF
          refine lv_ldiv hx hb dX11_passes_79 hq14 ?_
          obtain ⟨hq15, hF⟩ := am_ifR hF
          refine am_last X hh 148 (by decide) rfl hq15 dX11_passes_80 (fun H locs hh => ?_)
          obtain ⟨w16, hw16, hF⟩ := am_wl hF
          have hh := AH_eq hw16 hh
          refine lv_aload_n hx hb dX11_passes_81 rfl (lv_at hl 0 rfl) ?_
          refine am_getR X hh 141 12 14 149 (by decide) rfl rfl (by decide) hwRX11 (show Cond.fieldLink RX11 39 "PlanetWorkshopModel" "isKnown" "[Z" ∈ wsX11_passes by decide +kernel) rfl dX11_passes_82 ?_
          refine lv_iload_n hx hb dX11_passes_85 rfl (lv_at hl 2 rfl) ?_
          refine lv_iconst (v := (1 : Int32)) hx hb dX11_passes_86 (by decide) ?_
          obtain ⟨hq17, hF⟩ := am_ifR hF
          refine am_zast X hh 149 (by decide) rfl hq17 dX11_passes_87 (fun H locs hh => ?_)
          obtain ⟨w18, hw18, hF⟩ := am_wl hF
          have hh := AH_eq hw18 hh
          refine lv_iconst (v := (1 : Int32)) hx hb dX11_passes_88 (by decide) ?_
          exact am_zret (v' := (1 : Int32)) X hr rfl hh (fun t ht => am_qw (mk := oI) hF ht) (Nat.le_of_ble_eq_true rfl) (Nat.le_of_ble_eq_true rfl) dX11_passes_89
        · have hF := am_pos hc10 hF
          refine lv_aload_n hx hb dX11_passes_44 rfl (lv_at hl 0 rfl) ?_
          refine am_getR X hh 141 12 13 148 (by decide) rfl rfl (by decide) hwRX11 (show Cond.fieldLink RX11 36 "PlanetWorkshopModel" "units" "[J" ∈ wsX11_passes by decide +kernel) rfl dX11_passes_45 ?_
          refine lv_iload_n hx hb dX11_passes_48 rfl (lv_at hl 1 rfl) ?_
          obtain ⟨hq19, hF⟩ := am_ifR hF
          refine am_lald X hh 148 (by decide) rfl hq19 dX11_passes_49 ?_
          refine lv_goto (tgt := 80) hx hb dX11_passes_50 (by decide) ?_
          obtain ⟨hq20, hF⟩ := am_ifR hF
          refine am_last X hh 148 (by decide) rfl hq20 dX11_passes_80 (fun H locs hh => ?_)
          obtain ⟨w21, hw21, hF⟩ := am_wl hF
          have hh := AH_eq hw21 hh
          refine lv_aload_n hx hb dX11_passes_81 rfl (lv_at hl 0 rfl) ?_
          refine am_getR X hh 141 12 14 149 (by decide) rfl rfl (by decide) hwRX11 (show Cond.fieldLink RX11 39 "PlanetWorkshopModel" "isKnown" "[Z" ∈ wsX11_passes by decide +kernel) rfl dX11_passes_82 ?_
          refine lv_iload_n hx hb dX11_passes_85 rfl (lv_at hl 2 rfl) ?_
          refine lv_iconst (v := (1 : Int32)) hx hb dX11_passes_86 (by decide) ?_
          obtain ⟨hq22, hF⟩ := am_ifR hF
          refine am_zast X hh 149 (by decide) rfl hq22 dX11_passes_87 (fun H locs hh => ?_)
          obtain ⟨w23, hw23, hF⟩ := am_wl hF
          have hh := AH_eq hw23 hh
          refine lv_iconst (v := (1 : Int32)) hx hb dX11_passes_88 (by decide) ?_
          exact am_zret (v' := (1 : Int32)) X hr rfl hh (fun t ht => am_qw (mk := oI) hF ht) (Nat.le_of_ble_eq_true rfl) (Nat.le_of_ble_eq_true rfl) dX11_passes_89
      · have hF := am_pos hc7 hF
        refine lv_iconst (v := (0 : Int32)) hx hb dX11_passes_27 (by decide) ?_
        exact am_zret (v' := (0 : Int32)) X hr rfl hh (fun t ht => am_qw (mk := oI) hF ht) (Nat.le_of_ble_eq_true rfl) (Nat.le_of_ble_eq_true rfl) dX11_passes_28
set_option maxHeartbeats 4000000 in
set_option maxRecDepth 100000 in
theorem c_X11_turns (l : Launch) (G : GG) {w : Wd} {x1 : Int32} {w1 : Wd} (hF : f_X11_turns w x1 = some w1) : Met l yX11_turns wsX11_turns ({ frames := 3, cells := 0, slots := 0, locals := 65 } : Room) (va_Pc [.ref (gAd G 141), .int x1] (Rel G w)) (amQ G none w1) 0 0 (gA G) := by
  refine am_met (own := RX11) (cc := cX11_turns) (maxL := 4) (ret := none) (by decide +kernel) rfl rfl (Nat.le_of_ble_eq_true rfl) ?_
  intro p e s m args below meth c ab H locs ls X hr hh hl
  have hx := X.1.1; have hb := X.1.2.1; have hml := X.1.2.2.1; have hown := X.1.2.2.2.1; have hts := X.1.2.2.2.2
  have hl : lv_has ls 4 [(0, .ref (gAd G 141)), (1, .int x1)] := hl
  have hwRX11 : ∀ z ∈ u_ws RX11 TX11 18, z ∈ wsX11_turns := by decide +kernel
  unfold f_X11_turns at hF
  refine lv_iconst (v := (0 : Int32)) hx hb dX11_turns_0 (by decide) ?_
  refine lv_istore_n (lv' := [(2, .int (0 : Int32)), (0, .ref (gAd G 141)), (1, .int x1)]) hx hb dX11_turns_1 rfl hl (by decide) rfl (fun ls hl => ?_)
  have hlp2 : ∀ (n : Nat) (y1 : Int32) (w2 : Wd) (ab : Nat) (H : Heap) (locs : List Loc) (ls : Array Slot) (z : (Int32 × Wd) ⊕ Unit), p_X11_turns_2 x1 n y1 w2 = some z → AH G s.heap w2 ab H locs → lv_has ls 4 [(2, .int y1), (0, .ref (gAd G 141)), (1, .int x1)] → (∀ (y1 : Int32) (w2 : Wd) (ab : Nat) (H : Heap) (locs : List Loc) (ls : Array Slot), z = .inl (y1, w2) → AH G s.heap w2 ab H locs → lv_has ls 4 [(2, .int y1), (0, .ref (gAd G 141)), (1, .int x1)] → W p l e ({ frames := 3, cells := 0, slots := 0, locals := 65 } : Room) s m args below meth c H locs 0 0 (MQ below (amQ G none w1) args s 0 0 (gA G)) (F0 m 48 ls [])) → W p l e ({ frames := 3, cells := 0, slots := 0, locals := 65 } : Room) s m args below meth c H locs 0 0 (MQ below (amQ G none w1) args s 0 0 (gA G)) (F0 m 2 ls []) := by
    intro n
    induction n with
    | zero =>
      intro y1 w2 ab H locs ls z hF
      unfold p_X11_turns_2 at hF
      cases hF
    | succ n ih =>
      intro y1 w2 ab H locs ls z hF hh hl kE
      unfold p_X11_turns_2 at hF
      refine lv_iload_n hx hb dX11_turns_2 rfl (lv_at hl 0 rfl) ?_
      refine lv_bipush (v := (10 : Int32)) hx hb dX11_turns_3 (by decide) ?_
      refine lv_icmp_ge (tgt := 48) hx hb dX11_turns_5 (by decide) (fun hc4 => ?_) (fun hc4 => ?_)
      · have hF := am_pos hc4 hF
        exact kE y1 w2 ab H locs ls (Option.some.inj hF).symm hh (lv_sub hl [0, 1, 2] rfl)
      · have hF := am_neg hc4 hF
        refine lv_aload_n hx hb dX11_turns_8 rfl (lv_at hl 1 rfl) ?_
        refine am_getR X hh 141 12 14 149 (by decide) rfl rfl (by decide) hwRX11 (show Cond.fieldLink RX11 39 "PlanetWorkshopModel" "isKnown" "[Z" ∈ wsX11_turns by decide +kernel) rfl dX11_turns_9 ?_
        refine lv_iload_n hx hb dX11_turns_12 rfl (lv_at hl 0 rfl) ?_
        refine lv_iload_n hx hb dX11_turns_13 rfl (lv_at hl 0 rfl) ?_
        refine lv_iload_n hx hb dX11_turns_14 rfl (lv_at hl 2 rfl) ?_
        refine lv_icmp_ne (tgt := 22) hx hb dX11_turns_15 (by decide) (fun hc5 => ?_) (fun hc5 => ?_)
        · have hF := am_neg hc5 hF
          refine lv_iconst (v := (0 : Int32)) hx hb dX11_turns_22 (by decide) ?_
          obtain ⟨hq6, hF⟩ := am_ifR hF
          refine am_zast X hh 149 (by decide) rfl hq6 dX11_turns_23 (fun H locs hh => ?_)
          obtain ⟨w7, hw7, hF⟩ := am_wl hF
          have hh := AH_eq hw7 hh
          refine lv_aload_n hx hb dX11_turns_24 rfl (lv_at hl 1 rfl) ?_
          refine am_getR X hh 141 12 13 148 (by decide) rfl rfl (by decide) hwRX11 (show Cond.fieldLink RX11 36 "PlanetWorkshopModel" "units" "[J" ∈ wsX11_turns by decide +kernel) rfl dX11_turns_25 ?_
          refine lv_iload_n hx hb dX11_turns_28 rfl (lv_at hl 0 rfl) ?_
          refine lv_iload_n hx hb dX11_turns_29 rfl (lv_at hl 0 rfl) ?_
          refine lv_iload_n hx hb dX11_turns_30 rfl (lv_at hl 2 rfl) ?_
          refine lv_icmp_ne (tgt := 40) hx hb dX11_turns_31 (by decide) (fun hc8 => ?_) (fun hc8 => ?_)
          · have hF := am_neg hc8 hF
            refine lv_lconst (v := (0 : Int64)) hx hb dX11_turns_40 (by decide) ?_
            obtain ⟨hq9, hF⟩ := am_ifR hF
            refine am_last X hh 148 (by decide) rfl hq9 dX11_turns_41 (fun H locs hh => ?_)
            obtain ⟨w10, hw10, hF⟩ := am_wl hF
            have hh := AH_eq hw10 hh
            refine lv_iinc (v := (y1 + (1 : Int32))) (lv' := [(2, .int (y1 + (1 : Int32))), (0, .ref (gAd G 141)), (1, .int x1)]) hx hb dX11_turns_42 hl (k := 0) rfl rfl (by decide) rfl (fun ls hl => ?_)
            refine lv_goto (tgt := 2) hx hb dX11_turns_45 (by decide) ?_
            exact ih (y1 + (1 : Int32)) w10 ab H locs ls _ hF hh (lv_sub hl [0, 1, 2] rfl) kE
          · have hF := am_pos hc8 hF
            refine lv_ldc2 (v := (24883200000 : Int64)) hx hb hown (hts _ (show Cond.constantLong RX11 52 (24883200000) ∈ wsX11_turns by decide +kernel)) dX11_turns_34 ?_
            refine lv_goto (tgt := 41) hx hb dX11_turns_37 (by decide) ?_
            obtain ⟨hq11, hF⟩ := am_ifR hF
            refine am_last X hh 148 (by decide) rfl hq11 dX11_turns_41 (fun H locs hh => ?_)
            obtain ⟨w12, hw12, hF⟩ := am_wl hF
            have hh := AH_eq hw12 hh
            refine lv_iinc (v := (y1 + (1 : Int32))) (lv' := [(2, .int (y1 + (1 : Int32))), (0, .ref (gAd G 141)), (1, .int x1)]) hx hb dX11_turns_42 hl (k := 0) rfl rfl (by decide) rfl (fun ls hl => ?_)
            refine lv_goto (tgt := 2) hx hb dX11_turns_45 (by decide) ?_
            exact ih (y1 + (1 : Int32)) w12 ab H locs ls _ hF hh (lv_sub hl [0, 1, 2] rfl) kE
        · have hF := am_pos hc5 hF
          refine lv_iconst (v := (1 : Int32)) hx hb dX11_turns_18 (by decide) ?_
          refine lv_goto (tgt := 23) hx hb dX11_turns_19 (by decide) ?_
          obtain ⟨hq13, hF⟩ := am_ifR hF
          refine am_zast X hh 149 (by decide) rfl hq13 dX11_turns_23 (fun H locs hh => ?_)
          obtain ⟨w14, hw14, hF⟩ := am_wl hF
          have hh := AH_eq hw14 hh
          refine lv_aload_n hx hb dX11_turns_24 rfl (lv_at hl 1 rfl) ?_
          refine am_getR X hh 141 12 13 148 (by decide) rfl rfl (by decide) hwRX11 (show Cond.fieldLink RX11 36 "PlanetWorkshopModel" "units" "[J" ∈ wsX11_turns by decide +kernel) rfl dX11_turns_25 ?_
          refine lv_iload_n hx hb dX11_turns_28 rfl (lv_at hl 0 rfl) ?_
          refine lv_iload_n hx hb dX11_turns_29 rfl (lv_at hl 0 rfl) ?_
          refine lv_iload_n hx hb dX11_turns_30 rfl (lv_at hl 2 rfl) ?_
          refine lv_icmp_ne (tgt := 40) hx hb dX11_turns_31 (by decide) (fun hc15 => ?_) (fun hc15 => ?_)
          · have hF := am_neg hc15 hF
            refine lv_lconst (v := (0 : Int64)) hx hb dX11_turns_40 (by decide) ?_
            obtain ⟨hq16, hF⟩ := am_ifR hF
            refine am_last X hh 148 (by decide) rfl hq16 dX11_turns_41 (fun H locs hh => ?_)
            obtain ⟨w17, hw17, hF⟩ := am_wl hF
            have hh := AH_eq hw17 hh
            refine lv_iinc (v := (y1 + (1 : Int32))) (lv' := [(2, .int (y1 + (1 : Int32))), (0, .ref (gAd G 141)), (1, .int x1)]) hx hb dX11_turns_42 hl (k := 0) rfl rfl (by decide) rfl (fun ls hl => ?_)
            refine lv_goto (tgt := 2) hx hb dX11_turns_45 (by decide) ?_
            exact ih (y1 + (1 : Int32)) w17 ab H locs ls _ hF hh (lv_sub hl [0, 1, 2] rfl) kE
          · have hF := am_pos hc15 hF
            refine lv_ldc2 (v := (24883200000 : Int64)) hx hb hown (hts _ (show Cond.constantLong RX11 52 (24883200000) ∈ wsX11_turns by decide +kernel)) dX11_turns_34 ?_
            refine lv_goto (tgt := 41) hx hb dX11_turns_37 (by decide) ?_
            obtain ⟨hq18, hF⟩ := am_ifR hF
            refine am_last X hh 148 (by decide) rfl hq18 dX11_turns_41 (fun H locs hh => ?_)
            obtain ⟨w19, hw19, hF⟩ := am_wl hF
            have hh := AH_eq hw19 hh
            refine lv_iinc (v := (y1 + (1 : Int32))) (lv' := [(2, .int (y1 + (1 : Int32))), (0, .ref (gAd G 141)), (1, .int x1)]) hx hb dX11_turns_42 hl (k := 0) rfl rfl (by decide) rfl (fun ls hl => ?_)
            refine lv_goto (tgt := 2) hx hb dX11_turns_45 (by decide) ?_
            exact ih (y1 + (1 : Int32)) w19 ab H locs ls _ hF hh (lv_sub hl [0, 1, 2] rfl) kE
  obtain ⟨z20, hz21, hF⟩ := am_bind hF
  refine hlp2 2000 (0 : Int32) w ab H locs ls z20 hz21 hh (lv_sub hl [0, 1, 2] rfl) (fun y1 w2 ab H locs ls hz hh hl => ?_)
  · subst hz
    have hF := am_zl hF
    have hF := am_u2 hF
    refine lv_iconst (v := (1 : Int32)) hx hb dX11_turns_48 (by decide) ?_
    refine lv_istore_n (lv' := [(2, .int (1 : Int32)), (0, .ref (gAd G 141)), (1, .int x1)]) hx hb dX11_turns_49 rfl hl (by decide) rfl (fun ls hl => ?_)
    have hlp50 : ∀ (n : Nat) (y22 : Int32) (w23 : Wd) (ab : Nat) (H : Heap) (locs : List Loc) (ls : Array Slot) (z : (Int32 × Wd) ⊕ Unit), p_X11_turns_50 n y22 w23 = some z → AH G s.heap w23 ab H locs → lv_has ls 4 [(2, .int y22), (0, .ref (gAd G 141)), (1, .int x1)] → (∀ (y22 : Int32) (w23 : Wd) (ab : Nat) (H : Heap) (locs : List Loc) (ls : Array Slot), z = .inl (y22, w23) → AH G s.heap w23 ab H locs → lv_has ls 4 [(2, .int y22), (0, .ref (gAd G 141)), (1, .int x1)] → W p l e ({ frames := 3, cells := 0, slots := 0, locals := 65 } : Room) s m args below meth c H locs 0 0 (MQ below (amQ G none w1) args s 0 0 (gA G)) (F0 m 98 ls [])) → W p l e ({ frames := 3, cells := 0, slots := 0, locals := 65 } : Room) s m args below meth c H locs 0 0 (MQ below (amQ G none w1) args s 0 0 (gA G)) (F0 m 50 ls []) := by
      intro n
      induction n with
      | zero =>
        intro y22 w23 ab H locs ls z hF
        unfold p_X11_turns_50 at hF
        cases hF
      | succ n ih =>
        intro y22 w23 ab H locs ls z hF hh hl kE
        unfold p_X11_turns_50 at hF
        refine lv_iload_n hx hb dX11_turns_50 rfl (lv_at hl 0 rfl) ?_
        refine lv_if_eq (tgt := 98) hx hb dX11_turns_51 (by decide) (fun hc25 => ?_) (fun hc25 => ?_)
        · have hF := am_pos hc25 hF
          exact kE y22 w23 ab H locs ls (Option.some.inj hF).symm hh (lv_sub hl [0, 1, 2] rfl)
        · have hF := am_neg hc25 hF
          refine lv_iconst (v := (0 : Int32)) hx hb dX11_turns_54 (by decide) ?_
          refine lv_istore_n (lv' := [(2, .int (0 : Int32)), (0, .ref (gAd G 141)), (1, .int x1)]) hx hb dX11_turns_55 rfl hl (by decide) rfl (fun ls hl => ?_)
          refine lv_iconst (v := (0 : Int32)) hx hb dX11_turns_56 (by decide) ?_
          refine lv_istore_n (lv' := [(3, .int (0 : Int32)), (2, .int (0 : Int32)), (0, .ref (gAd G 141)), (1, .int x1)]) hx hb dX11_turns_57 rfl hl (by decide) rfl (fun ls hl => ?_)
          have hlp58 : ∀ (n : Nat) (y26 : Int32) (y27 : Int32) (w28 : Wd) (ab : Nat) (H : Heap) (locs : List Loc) (ls : Array Slot) (z : (Int32 × Int32 × Wd) ⊕ Unit), p_X11_turns_58 n y26 y27 w28 = some z → AH G s.heap w28 ab H locs → lv_has ls 4 [(2, .int y26), (3, .int y27), (0, .ref (gAd G 141)), (1, .int x1)] → (∀ (y26 : Int32) (y27 : Int32) (w28 : Wd) (ab : Nat) (H : Heap) (locs : List Loc) (ls : Array Slot), z = .inl (y26, y27, w28) → AH G s.heap w28 ab H locs → lv_has ls 4 [(2, .int y26), (3, .int y27), (0, .ref (gAd G 141)), (1, .int x1)] → W p l e ({ frames := 3, cells := 0, slots := 0, locals := 65 } : Room) s m args below meth c H locs 0 0 (MQ below (amQ G none w1) args s 0 0 (gA G)) (F0 m 95 ls [])) → W p l e ({ frames := 3, cells := 0, slots := 0, locals := 65 } : Room) s m args below meth c H locs 0 0 (MQ below (amQ G none w1) args s 0 0 (gA G)) (F0 m 58 ls []) := by
            intro n
            induction n with
            | zero =>
              intro y26 y27 w28 ab H locs ls z hF
              unfold p_X11_turns_58 at hF
              cases hF
            | succ n ih =>
              intro y26 y27 w28 ab H locs ls z hF hh hl kE
              unfold p_X11_turns_58 at hF
              refine lv_iload_n hx hb dX11_turns_58 rfl (lv_at hl 1 rfl) ?_
              refine lv_bipush (v := (100 : Int32)) hx hb dX11_turns_59 (by decide) ?_
              refine lv_icmp_ge (tgt := 95) hx hb dX11_turns_61 (by decide) (fun hc30 => ?_) (fun hc30 => ?_)
              · have hF := am_pos hc30 hF
                exact kE y26 y27 w28 ab H locs ls (Option.some.inj hF).symm hh (lv_sub hl [0, 1, 2, 3] rfl)
              · have hF := am_neg hc30 hF
                refine lv_aload_n hx hb dX11_turns_64 rfl (lv_at hl 2 rfl) ?_
                refine lv_iload_n hx hb dX11_turns_65 rfl (lv_at hl 1 rfl) ?_
                refine lv_bipush (v := (10 : Int32)) hx hb dX11_turns_66 (by decide) ?_
                obtain ⟨hq31, hF⟩ := am_if hF
                refine lv_idiv hx hb dX11_turns_68 hq31 ?_
                refine lv_iload_n hx hb dX11_turns_69 rfl (lv_at hl 1 rfl) ?_
                refine lv_bipush (v := (10 : Int32)) hx hb dX11_turns_70 (by decide) ?_
                obtain ⟨hq32, hF⟩ := am_if hF
                refine lv_irem hx hb dX11_turns_72 hq32 ?_
                obtain ⟨⟨r34, w35⟩, hk33, hF⟩ := am_bind hF
                have hF := am_u2 hF
                refine am_call X hh (va_runV (As := [.int (y27 / (10 : Int32)), .int (y27 - y27 / (10 : Int32) * (10 : Int32))]) (rest := []) X.1 (c_X11_passes l G hk33) (cwV 2 hts gX11_turns_X11_passes rfl rfl rfl (by decide +kernel) ⟨Nat.le_of_ble_eq_true rfl, Nat.le_of_ble_eq_true rfl⟩) (am_preV X hh 141 12 (by decide) rfl rfl) rfl rfl hl.1 rfl (lv_room (Nat.le_of_ble_eq_true rfl)) dX11_turns_73 ⟨Nat.le_of_ble_eq_true rfl, Nat.le_of_ble_eq_true rfl⟩) (fun ab H locs hh => ?_)
                refine lv_if_ne (tgt := 83) hx hb dX11_turns_76 (by decide) (fun hc37 => ?_) (fun hc37 => ?_)
                · have hF := am_neg hc37 hF
                  refine lv_iconst (v := (1 : Int32)) hx hb dX11_turns_83 (by decide) ?_
                  refine lv_goto (tgt := 88) hx hb dX11_turns_84 (by decide) ?_
                  refine lv_istore_n (lv' := [(2, .int (1 : Int32)), (3, .int y27), (0, .ref (gAd G 141)), (1, .int x1)]) hx hb dX11_turns_88 rfl hl (by decide) rfl (fun ls hl => ?_)
                  refine lv_iinc (v := (y27 + (1 : Int32))) (lv' := [(3, .int (y27 + (1 : Int32))), (2, .int (1 : Int32)), (0, .ref (gAd G 141)), (1, .int x1)]) hx hb dX11_turns_89 hl (k := 1) rfl rfl (by decide) rfl (fun ls hl => ?_)
                  refine lv_goto (tgt := 58) hx hb dX11_turns_92 (by decide) ?_
                  exact ih (1 : Int32) (y27 + (1 : Int32)) w35 ab H locs ls _ hF hh (lv_sub hl [1, 0, 2, 3] rfl) kE
                · have hF := am_pos hc37 hF
                  refine lv_iload_n hx hb dX11_turns_79 rfl (lv_at hl 0 rfl) ?_
                  refine lv_if_eq (tgt := 87) hx hb dX11_turns_80 (by decide) (fun hc38 => ?_) (fun hc38 => ?_)
                  · have hF := am_pos hc38 hF
                    refine lv_iconst (v := (0 : Int32)) hx hb dX11_turns_87 (by decide) ?_
                    refine lv_istore_n (lv' := [(2, .int (0 : Int32)), (3, .int y27), (0, .ref (gAd G 141)), (1, .int x1)]) hx hb dX11_turns_88 rfl hl (by decide) rfl (fun ls hl => ?_)
                    refine lv_iinc (v := (y27 + (1 : Int32))) (lv' := [(3, .int (y27 + (1 : Int32))), (2, .int (0 : Int32)), (0, .ref (gAd G 141)), (1, .int x1)]) hx hb dX11_turns_89 hl (k := 1) rfl rfl (by decide) rfl (fun ls hl => ?_)
                    refine lv_goto (tgt := 58) hx hb dX11_turns_92 (by decide) ?_
                    exact ih (0 : Int32) (y27 + (1 : Int32)) w35 ab H locs ls _ hF hh (lv_sub hl [1, 0, 2, 3] rfl) kE
                  · have hF := am_neg hc38 hF
                    refine lv_iconst (v := (1 : Int32)) hx hb dX11_turns_83 (by decide) ?_
                    refine lv_goto (tgt := 88) hx hb dX11_turns_84 (by decide) ?_
                    refine lv_istore_n (lv' := [(2, .int (1 : Int32)), (3, .int y27), (0, .ref (gAd G 141)), (1, .int x1)]) hx hb dX11_turns_88 rfl hl (by decide) rfl (fun ls hl => ?_)
                    refine lv_iinc (v := (y27 + (1 : Int32))) (lv' := [(3, .int (y27 + (1 : Int32))), (2, .int (1 : Int32)), (0, .ref (gAd G 141)), (1, .int x1)]) hx hb dX11_turns_89 hl (k := 1) rfl rfl (by decide) rfl (fun ls hl => ?_)
                    refine lv_goto (tgt := 58) hx hb dX11_turns_92 (by decide) ?_
                    exact ih (1 : Int32) (y27 + (1 : Int32)) w35 ab H locs ls _ hF hh (lv_sub hl [1, 0, 2, 3] rfl) kE
          obtain ⟨z39, hz40, hF⟩ := am_bind hF
          refine hlp58 2000 (0 : Int32) (0 : Int32) w23 ab H locs ls z39 hz40 hh (lv_sub hl [1, 0, 2, 3] rfl) (fun y26 y27 w28 ab H locs ls hz hh hl => ?_)
          · subst hz
            have hF := am_zl hF
            have hF := am_u3 hF
            refine lv_goto (tgt := 50) hx hb dX11_turns_95 (by decide) ?_
            exact ih y26 w28 ab H locs ls _ hF hh (lv_sub hl [0, 2, 3] rfl) kE
    obtain ⟨z41, hz42, hF⟩ := am_bind hF
    refine hlp50 2000 (1 : Int32) w2 ab H locs ls z41 hz42 hh (lv_sub hl [0, 1, 2] rfl) (fun y22 w23 ab H locs ls hz hh hl => ?_)
    · subst hz
      have hF := am_zl hF
      have hF := am_u2 hF
      exact am_vret X hr hh (fun t ht => am_qv hF ht) (Nat.le_of_ble_eq_true rfl) (Nat.le_of_ble_eq_true rfl) dX11_turns_98
set_option maxHeartbeats 4000000 in
set_option maxRecDepth 100000 in
theorem c_X11_members (l : Launch) (G : GG) {w : Wd} {r0 : Int32} (hF : f_X11_members w = some r0) : Met l yX11_members wsX11_members ({ frames := 0, cells := 0, slots := 0, locals := 0 } : Room) (va_Pc [.ref (gAd G 141)] (Rel G w)) (amQ G (oI r0) w) 0 0 (gA G) := by
  refine am_met (own := RX11) (cc := cX11_members) (maxL := 3) (ret := (some .int)) (by decide +kernel) rfl rfl (Nat.le_of_ble_eq_true rfl) ?_
  intro p e s m args below meth c ab H locs ls X hr hh hl
  have hx := X.1.1; have hb := X.1.2.1; have hml := X.1.2.2.1; have hown := X.1.2.2.2.1; have hts := X.1.2.2.2.2
  have hl : lv_has ls 3 [(0, .ref (gAd G 141))] := hl
  have hwRX11 : ∀ z ∈ u_ws RX11 TX11 18, z ∈ wsX11_members := by decide +kernel
  unfold f_X11_members at hF
  refine lv_iconst (v := (0 : Int32)) hx hb dX11_members_0 (by decide) ?_
  refine lv_istore_n (lv' := [(1, .int (0 : Int32)), (0, .ref (gAd G 141))]) hx hb dX11_members_1 rfl hl (by decide) rfl (fun ls hl => ?_)
  refine lv_iconst (v := (0 : Int32)) hx hb dX11_members_2 (by decide) ?_
  refine lv_istore_n (lv' := [(2, .int (0 : Int32)), (1, .int (0 : Int32)), (0, .ref (gAd G 141))]) hx hb dX11_members_3 rfl hl (by decide) rfl (fun ls hl => ?_)
  have hlp4 : ∀ (n : Nat) (y1 : Int32) (y2 : Int32) (ab : Nat) (H : Heap) (locs : List Loc) (ls : Array Slot) (z : (Int32 × Int32) ⊕ Unit), p_X11_members_4 w n y1 y2 = some z → AH G s.heap w ab H locs → lv_has ls 3 [(1, .int y1), (2, .int y2), (0, .ref (gAd G 141))] → (∀ (y1 : Int32) (y2 : Int32) (ab : Nat) (H : Heap) (locs : List Loc) (ls : Array Slot), z = .inl (y1, y2) → AH G s.heap w ab H locs → lv_has ls 3 [(1, .int y1), (2, .int y2), (0, .ref (gAd G 141))] → W p l e ({ frames := 0, cells := 0, slots := 0, locals := 0 } : Room) s m args below meth c H locs 0 0 (MQ below (amQ G (oI r0) w) args s 0 0 (gA G)) (F0 m 33 ls [])) → W p l e ({ frames := 0, cells := 0, slots := 0, locals := 0 } : Room) s m args below meth c H locs 0 0 (MQ below (amQ G (oI r0) w) args s 0 0 (gA G)) (F0 m 4 ls []) := by
    intro n
    induction n with
    | zero =>
      intro y1 y2 ab H locs ls z hF
      unfold p_X11_members_4 at hF
      cases hF
    | succ n ih =>
      intro y1 y2 ab H locs ls z hF hh hl kE
      unfold p_X11_members_4 at hF
      refine lv_iload_n hx hb dX11_members_4 rfl (lv_at hl 1 rfl) ?_
      refine lv_bipush (v := (10 : Int32)) hx hb dX11_members_5 (by decide) ?_
      refine lv_icmp_ge (tgt := 33) hx hb dX11_members_7 (by decide) (fun hc4 => ?_) (fun hc4 => ?_)
      · have hF := am_pos hc4 hF
        exact kE y1 y2 ab H locs ls (Option.some.inj hF).symm hh (lv_sub hl [0, 1, 2] rfl)
      · have hF := am_neg hc4 hF
        refine lv_iload_n hx hb dX11_members_10 rfl (lv_at hl 0 rfl) ?_
        refine lv_aload_n hx hb dX11_members_11 rfl (lv_at hl 2 rfl) ?_
        refine am_getR X hh 141 12 14 149 (by decide) rfl rfl (by decide) hwRX11 (show Cond.fieldLink RX11 39 "PlanetWorkshopModel" "isKnown" "[Z" ∈ wsX11_members by decide +kernel) rfl dX11_members_12 ?_
        refine lv_iload_n hx hb dX11_members_15 rfl (lv_at hl 1 rfl) ?_
        obtain ⟨hq5, hF⟩ := am_ifR hF
        refine am_zald X hh 149 (by decide) rfl hq5 dX11_members_16 ?_
        refine lv_if_eq (tgt := 24) hx hb dX11_members_17 (by decide) (fun hc6 => ?_) (fun hc6 => ?_)
        · have hF := am_pos hc6 hF
          refine lv_iconst (v := (0 : Int32)) hx hb dX11_members_24 (by decide) ?_
          refine lv_iadd hx hb dX11_members_25 ?_
          refine lv_istore_n (lv' := [(1, .int (y1 + (0 : Int32))), (2, .int y2), (0, .ref (gAd G 141))]) hx hb dX11_members_26 rfl hl (by decide) rfl (fun ls hl => ?_)
          refine lv_iinc (v := (y2 + (1 : Int32))) (lv' := [(2, .int (y2 + (1 : Int32))), (1, .int (y1 + (0 : Int32))), (0, .ref (gAd G 141))]) hx hb dX11_members_27 hl (k := 1) rfl rfl (by decide) rfl (fun ls hl => ?_)
          refine lv_goto (tgt := 4) hx hb dX11_members_30 (by decide) ?_
          exact ih (y1 + (0 : Int32)) (y2 + (1 : Int32)) ab H locs ls _ hF hh (lv_sub hl [1, 0, 2] rfl) kE
        · have hF := am_neg hc6 hF
          refine lv_iconst (v := (1 : Int32)) hx hb dX11_members_20 (by decide) ?_
          refine lv_goto (tgt := 25) hx hb dX11_members_21 (by decide) ?_
          refine lv_iadd hx hb dX11_members_25 ?_
          refine lv_istore_n (lv' := [(1, .int (y1 + (1 : Int32))), (2, .int y2), (0, .ref (gAd G 141))]) hx hb dX11_members_26 rfl hl (by decide) rfl (fun ls hl => ?_)
          refine lv_iinc (v := (y2 + (1 : Int32))) (lv' := [(2, .int (y2 + (1 : Int32))), (1, .int (y1 + (1 : Int32))), (0, .ref (gAd G 141))]) hx hb dX11_members_27 hl (k := 1) rfl rfl (by decide) rfl (fun ls hl => ?_)
          refine lv_goto (tgt := 4) hx hb dX11_members_30 (by decide) ?_
          exact ih (y1 + (1 : Int32)) (y2 + (1 : Int32)) ab H locs ls _ hF hh (lv_sub hl [1, 0, 2] rfl) kE
  obtain ⟨z7, hz8, hF⟩ := am_bind hF
  refine hlp4 2000 (0 : Int32) (0 : Int32) ab H locs ls z7 hz8 hh (lv_sub hl [1, 0, 2] rfl) (fun y1 y2 ab H locs ls hz hh hl => ?_)
  · subst hz
    have hF := am_zl hF
    have hF := am_u2 hF
    refine lv_iload_n hx hb dX11_members_33 rfl (lv_at hl 0 rfl) ?_
    exact am_iret X hr hh (fun t ht => am_qp (mk := oI) hF ht) (Nat.le_of_ble_eq_true rfl) (Nat.le_of_ble_eq_true rfl) dX11_members_34
set_option maxHeartbeats 4000000 in
set_option maxRecDepth 100000 in
theorem c_X11_joints (l : Launch) (G : GG) {w : Wd} {r0 : Int32} (hF : f_X11_joints w = some r0) : Met l yX11_joints wsX11_joints ({ frames := 0, cells := 0, slots := 0, locals := 0 } : Room) (va_Pc [.ref (gAd G 141)] (Rel G w)) (amQ G (oI r0) w) 0 0 (gA G) := by
  refine am_met (own := RX11) (cc := cX11_joints) (maxL := 3) (ret := (some .int)) (by decide +kernel) rfl rfl (Nat.le_of_ble_eq_true rfl) ?_
  intro p e s m args below meth c ab H locs ls X hr hh hl
  have hx := X.1.1; have hb := X.1.2.1; have hml := X.1.2.2.1; have hown := X.1.2.2.2.1; have hts := X.1.2.2.2.2
  have hl : lv_has ls 3 [(0, .ref (gAd G 141))] := hl
  have hwRX11 : ∀ z ∈ u_ws RX11 TX11 18, z ∈ wsX11_joints := by decide +kernel
  unfold f_X11_joints at hF
  refine lv_iconst (v := (0 : Int32)) hx hb dX11_joints_0 (by decide) ?_
  refine lv_istore_n (lv' := [(1, .int (0 : Int32)), (0, .ref (gAd G 141))]) hx hb dX11_joints_1 rfl hl (by decide) rfl (fun ls hl => ?_)
  refine lv_iconst (v := (0 : Int32)) hx hb dX11_joints_2 (by decide) ?_
  refine lv_istore_n (lv' := [(2, .int (0 : Int32)), (1, .int (0 : Int32)), (0, .ref (gAd G 141))]) hx hb dX11_joints_3 rfl hl (by decide) rfl (fun ls hl => ?_)
  have hlp4 : ∀ (n : Nat) (y1 : Int32) (y2 : Int32) (ab : Nat) (H : Heap) (locs : List Loc) (ls : Array Slot) (z : (Int32 × Int32) ⊕ Unit), p_X11_joints_4 w n y1 y2 = some z → AH G s.heap w ab H locs → lv_has ls 3 [(1, .int y1), (2, .int y2), (0, .ref (gAd G 141))] → (∀ (y1 : Int32) (y2 : Int32) (ab : Nat) (H : Heap) (locs : List Loc) (ls : Array Slot), z = .inl (y1, y2) → AH G s.heap w ab H locs → lv_has ls 3 [(1, .int y1), (2, .int y2), (0, .ref (gAd G 141))] → W p l e ({ frames := 0, cells := 0, slots := 0, locals := 0 } : Room) s m args below meth c H locs 0 0 (MQ below (amQ G (oI r0) w) args s 0 0 (gA G)) (F0 m 38 ls [])) → W p l e ({ frames := 0, cells := 0, slots := 0, locals := 0 } : Room) s m args below meth c H locs 0 0 (MQ below (amQ G (oI r0) w) args s 0 0 (gA G)) (F0 m 4 ls []) := by
    intro n
    induction n with
    | zero =>
      intro y1 y2 ab H locs ls z hF
      unfold p_X11_joints_4 at hF
      cases hF
    | succ n ih =>
      intro y1 y2 ab H locs ls z hF hh hl kE
      unfold p_X11_joints_4 at hF
      refine lv_iload_n hx hb dX11_joints_4 rfl (lv_at hl 1 rfl) ?_
      refine lv_bipush (v := (100 : Int32)) hx hb dX11_joints_5 (by decide) ?_
      refine lv_icmp_ge (tgt := 38) hx hb dX11_joints_7 (by decide) (fun hc4 => ?_) (fun hc4 => ?_)
      · have hF := am_pos hc4 hF
        exact kE y1 y2 ab H locs ls (Option.some.inj hF).symm hh (lv_sub hl [0, 1, 2] rfl)
      · have hF := am_neg hc4 hF
        refine lv_iload_n hx hb dX11_joints_10 rfl (lv_at hl 0 rfl) ?_
        refine lv_aload_n hx hb dX11_joints_11 rfl (lv_at hl 2 rfl) ?_
        refine am_getR X hh 141 12 0 142 (by decide) rfl rfl (by decide) hwRX11 (show Cond.fieldLink RX11 7 "PlanetWorkshopModel" "g" "[J" ∈ wsX11_joints by decide +kernel) rfl dX11_joints_12 ?_
        refine lv_bipush (v := (92 : Int32)) hx hb dX11_joints_15 (by decide) ?_
        refine lv_iload_n hx hb dX11_joints_17 rfl (lv_at hl 1 rfl) ?_
        refine lv_iadd hx hb dX11_joints_18 ?_
        obtain ⟨hq5, hF⟩ := am_ifR hF
        refine am_lald X hh 142 (by decide) rfl hq5 dX11_joints_19 ?_
        refine lv_lconst (v := (0 : Int64)) hx hb dX11_joints_20 (by decide) ?_
        refine am_lcmp_eq (tgt := 29) hx hb dX11_joints_21 dX11_joints_22 (by decide) (fun hc6 => ?_) (fun hc6 => ?_)
        · have hF := am_pos hc6 hF
          refine lv_iconst (v := (0 : Int32)) hx hb dX11_joints_29 (by decide) ?_
          refine lv_iadd hx hb dX11_joints_30 ?_
          refine lv_istore_n (lv' := [(1, .int (y1 + (0 : Int32))), (2, .int y2), (0, .ref (gAd G 141))]) hx hb dX11_joints_31 rfl hl (by decide) rfl (fun ls hl => ?_)
          refine lv_iinc (v := (y2 + (1 : Int32))) (lv' := [(2, .int (y2 + (1 : Int32))), (1, .int (y1 + (0 : Int32))), (0, .ref (gAd G 141))]) hx hb dX11_joints_32 hl (k := 1) rfl rfl (by decide) rfl (fun ls hl => ?_)
          refine lv_goto (tgt := 4) hx hb dX11_joints_35 (by decide) ?_
          exact ih (y1 + (0 : Int32)) (y2 + (1 : Int32)) ab H locs ls _ hF hh (lv_sub hl [1, 0, 2] rfl) kE
        · have hF := am_neg hc6 hF
          refine lv_iconst (v := (1 : Int32)) hx hb dX11_joints_25 (by decide) ?_
          refine lv_goto (tgt := 30) hx hb dX11_joints_26 (by decide) ?_
          refine lv_iadd hx hb dX11_joints_30 ?_
          refine lv_istore_n (lv' := [(1, .int (y1 + (1 : Int32))), (2, .int y2), (0, .ref (gAd G 141))]) hx hb dX11_joints_31 rfl hl (by decide) rfl (fun ls hl => ?_)
          refine lv_iinc (v := (y2 + (1 : Int32))) (lv' := [(2, .int (y2 + (1 : Int32))), (1, .int (y1 + (1 : Int32))), (0, .ref (gAd G 141))]) hx hb dX11_joints_32 hl (k := 1) rfl rfl (by decide) rfl (fun ls hl => ?_)
          refine lv_goto (tgt := 4) hx hb dX11_joints_35 (by decide) ?_
          exact ih (y1 + (1 : Int32)) (y2 + (1 : Int32)) ab H locs ls _ hF hh (lv_sub hl [1, 0, 2] rfl) kE
  obtain ⟨z7, hz8, hF⟩ := am_bind hF
  refine hlp4 2000 (0 : Int32) (0 : Int32) ab H locs ls z7 hz8 hh (lv_sub hl [1, 0, 2] rfl) (fun y1 y2 ab H locs ls hz hh hl => ?_)
  · subst hz
    have hF := am_zl hF
    have hF := am_u2 hF
    refine lv_iload_n hx hb dX11_joints_38 rfl (lv_at hl 0 rfl) ?_
    refine lv_iconst (v := (2 : Int32)) hx hb dX11_joints_39 (by decide) ?_
    obtain ⟨hq9, hF⟩ := am_if hF
    refine lv_idiv hx hb dX11_joints_40 hq9 ?_
    exact am_iret X hr hh (fun t ht => am_qp (mk := oI) hF ht) (Nat.le_of_ble_eq_true rfl) (Nat.le_of_ble_eq_true rfl) dX11_joints_41
set_option maxHeartbeats 4000000 in
set_option maxRecDepth 100000 in
theorem c_X11_springIn (l : Launch) (G : GG) {w : Wd} {r0 : Int32} (hF : f_X11_springIn w = some r0) : Met l yX11_springIn wsX11_springIn ({ frames := 2, cells := 0, slots := 0, locals := 42 } : Room) (va_Pc [.ref (gAd G 141)] (Rel G w)) (amQ G (oI r0) w) 0 0 (gA G) := by
  refine am_met (own := RX11) (cc := cX11_springIn) (maxL := 2) (ret := (some .int)) (by decide +kernel) rfl rfl (Nat.le_of_ble_eq_true rfl) ?_
  intro p e s m args below meth c ab H locs ls X hr hh hl
  have hx := X.1.1; have hb := X.1.2.1; have hml := X.1.2.2.1; have hown := X.1.2.2.2.1; have hts := X.1.2.2.2.2
  have hl : lv_has ls 2 [(0, .ref (gAd G 141))] := hl
  have hwRX11 : ∀ z ∈ u_ws RX11 TX11 18, z ∈ wsX11_springIn := by decide +kernel
  unfold f_X11_springIn at hF
  refine lv_iconst (v := (0 : Int32)) hx hb dX11_springIn_0 (by decide) ?_
  refine lv_istore_n (lv' := [(1, .int (0 : Int32)), (0, .ref (gAd G 141))]) hx hb dX11_springIn_1 rfl hl (by decide) rfl (fun ls hl => ?_)
  have hlp2 : ∀ (n : Nat) (y1 : Int32) (ab : Nat) (H : Heap) (locs : List Loc) (ls : Array Slot) (z : (Int32) ⊕ Int32), p_X11_springIn_2 w n y1 = some z → AH G s.heap w ab H locs → lv_has ls 2 [(1, .int y1), (0, .ref (gAd G 141))] → (∀ (y1 : Int32) (ab : Nat) (H : Heap) (locs : List Loc) (ls : Array Slot), z = .inl y1 → AH G s.heap w ab H locs → lv_has ls 2 [(1, .int y1), (0, .ref (gAd G 141))] → W p l e ({ frames := 2, cells := 0, slots := 0, locals := 42 } : Room) s m args below meth c H locs 0 0 (MQ below (amQ G (oI r0) w) args s 0 0 (gA G)) (F0 m 33 ls [])) → (∀ r, z = .inr r → some r = some r0) → W p l e ({ frames := 2, cells := 0, slots := 0, locals := 42 } : Room) s m args below meth c H locs 0 0 (MQ below (amQ G (oI r0) w) args s 0 0 (gA G)) (F0 m 2 ls []) := by
    intro n
    induction n with
    | zero =>
      intro y1 ab H locs ls z hF
      unfold p_X11_springIn_2 at hF
      cases hF
    | succ n ih =>
      intro y1 ab H locs ls z hF hh hl kE kR
      unfold p_X11_springIn_2 at hF
      refine lv_iload_n hx hb dX11_springIn_2 rfl (lv_at hl 0 rfl) ?_
      refine lv_bipush (v := (10 : Int32)) hx hb dX11_springIn_3 (by decide) ?_
      refine lv_icmp_ge (tgt := 33) hx hb dX11_springIn_5 (by decide) (fun hc3 => ?_) (fun hc3 => ?_)
      · have hF := am_pos hc3 hF
        exact kE y1 ab H locs ls (Option.some.inj hF).symm hh (lv_sub hl [0, 1] rfl)
      · have hF := am_neg hc3 hF
        refine lv_aload_n hx hb dX11_springIn_8 rfl (lv_at hl 1 rfl) ?_
        refine am_getR X hh 141 12 14 149 (by decide) rfl rfl (by decide) hwRX11 (show Cond.fieldLink RX11 39 "PlanetWorkshopModel" "isKnown" "[Z" ∈ wsX11_springIn by decide +kernel) rfl dX11_springIn_9 ?_
        refine lv_iload_n hx hb dX11_springIn_12 rfl (lv_at hl 0 rfl) ?_
        obtain ⟨hq4, hF⟩ := am_ifR hF
        refine am_zald X hh 149 (by decide) rfl hq4 dX11_springIn_13 ?_
        refine lv_if_eq (tgt := 27) hx hb dX11_springIn_14 (by decide) (fun hc5 => ?_) (fun hc5 => ?_)
        · have hF := am_pos hc5 hF
          refine lv_iinc (v := (y1 + (1 : Int32))) (lv' := [(1, .int (y1 + (1 : Int32))), (0, .ref (gAd G 141))]) hx hb dX11_springIn_27 hl (k := 0) rfl rfl (by decide) rfl (fun ls hl => ?_)
          refine lv_goto (tgt := 2) hx hb dX11_springIn_30 (by decide) ?_
          exact ih (y1 + (1 : Int32)) ab H locs ls _ hF hh (lv_sub hl [0, 1] rfl) kE kR
        · have hF := am_neg hc5 hF
          refine lv_aload_n hx hb dX11_springIn_17 rfl (lv_at hl 1 rfl) ?_
          refine lv_iload_n hx hb dX11_springIn_18 rfl (lv_at hl 0 rfl) ?_
          obtain ⟨r7, hk6, hF⟩ := am_bind hF
          refine am_call X hh (va_runV (As := [.int y1]) (rest := []) X.1 (c_X11_hasSpring l G hk6) (cwV 1 hts gX11_springIn_X11_hasSpring rfl rfl rfl (by decide +kernel) ⟨Nat.le_of_ble_eq_true rfl, Nat.le_of_ble_eq_true rfl⟩) (am_preV X hh 141 12 (by decide) rfl rfl) rfl rfl hl.1 rfl (lv_room (Nat.le_of_ble_eq_true rfl)) dX11_springIn_19 ⟨Nat.le_of_ble_eq_true rfl, Nat.le_of_ble_eq_true rfl⟩) (fun ab H locs hh => ?_)
          refine lv_if_eq (tgt := 27) hx hb dX11_springIn_22 (by decide) (fun hc8 => ?_) (fun hc8 => ?_)
          · have hF := am_pos hc8 hF
            refine lv_iinc (v := (y1 + (1 : Int32))) (lv' := [(1, .int (y1 + (1 : Int32))), (0, .ref (gAd G 141))]) hx hb dX11_springIn_27 hl (k := 0) rfl rfl (by decide) rfl (fun ls hl => ?_)
            refine lv_goto (tgt := 2) hx hb dX11_springIn_30 (by decide) ?_
            exact ih (y1 + (1 : Int32)) ab H locs ls _ hF hh (lv_sub hl [0, 1] rfl) kE kR
          · have hF := am_neg hc8 hF
            refine lv_iload_n hx hb dX11_springIn_25 rfl (lv_at hl 0 rfl) ?_
            have hF := kR _ (Option.some.inj hF).symm
            exact am_iret X hr hh (fun t ht => am_qp (mk := oI) hF ht) (Nat.le_of_ble_eq_true rfl) (Nat.le_of_ble_eq_true rfl) dX11_springIn_26
  obtain ⟨z9, hz10, hF⟩ := am_bind hF
  refine hlp2 2000 (0 : Int32) ab H locs ls z9 hz10 hh (lv_sub hl [0, 1] rfl) (fun y1 ab H locs ls hz hh hl => ?_) (fun r hz => ?_)
  · subst hz
    have hF := am_zl hF
    refine lv_iconst (v := (-1 : Int32)) hx hb dX11_springIn_33 (by decide) ?_
    exact am_iret X hr hh (fun t ht => am_qp (mk := oI) hF ht) (Nat.le_of_ble_eq_true rfl) (Nat.le_of_ble_eq_true rfl) dX11_springIn_34
  · subst hz
    have hF := am_zr hF
    exact hF
